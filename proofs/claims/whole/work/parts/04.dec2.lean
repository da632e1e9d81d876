theorem d_DotBook_init_0 : decode b_DotBook_init 0 = .ok (.aload_n 0, 1) := by decide +kernel
theorem d_DotBook_init_1 : decode b_DotBook_init 1 = .ok (.invokespecial 3, 3) := by decide +kernel
theorem d_DotBook_init_4 : decode b_DotBook_init 4 = .ok (.aload_n 0, 1) := by decide +kernel
theorem d_DotBook_init_5 : decode b_DotBook_init 5 = .ok (.new 9, 3) := by decide +kernel
theorem d_DotBook_init_8 : decode b_DotBook_init 8 = .ok (.dup, 1) := by decide +kernel
theorem d_DotBook_init_9 : decode b_DotBook_init 9 = .ok (.invokespecial 11, 3) := by decide +kernel
theorem d_DotBook_init_12 : decode b_DotBook_init 12 = .ok (.putfield 12, 3) := by decide +kernel
theorem d_DotBook_init_15 : decode b_DotBook_init 15 = .ok (.aload_n 0, 1) := by decide +kernel
theorem d_DotBook_init_16 : decode b_DotBook_init 16 = .ok (.new 16, 3) := by decide +kernel
theorem d_DotBook_init_19 : decode b_DotBook_init 19 = .ok (.dup, 1) := by decide +kernel
theorem d_DotBook_init_20 : decode b_DotBook_init 20 = .ok (.invokespecial 18, 3) := by decide +kernel
theorem d_DotBook_init_23 : decode b_DotBook_init 23 = .ok (.putfield 19, 3) := by decide +kernel
theorem d_DotBook_init_26 : decode b_DotBook_init 26 = .ok (.aload_n 0, 1) := by decide +kernel
theorem d_DotBook_init_27 : decode b_DotBook_init 27 = .ok (.new 23, 3) := by decide +kernel
theorem d_DotBook_init_30 : decode b_DotBook_init 30 = .ok (.dup, 1) := by decide +kernel
theorem d_DotBook_init_31 : decode b_DotBook_init 31 = .ok (.aload_n 0, 1) := by decide +kernel
theorem d_DotBook_init_32 : decode b_DotBook_init 32 = .ok (.getfield 12, 3) := by decide +kernel
theorem d_DotBook_init_35 : decode b_DotBook_init 35 = .ok (.aload_n 0, 1) := by decide +kernel
theorem d_DotBook_init_36 : decode b_DotBook_init 36 = .ok (.getfield 19, 3) := by decide +kernel
theorem d_DotBook_init_39 : decode b_DotBook_init 39 = .ok (.invokespecial 25, 3) := by decide +kernel
theorem d_DotBook_init_42 : decode b_DotBook_init 42 = .ok (.putfield 28, 3) := by decide +kernel
theorem d_DotBook_init_45 : decode b_DotBook_init 45 = .ok (.aload_n 0, 1) := by decide +kernel
theorem d_DotBook_init_46 : decode b_DotBook_init 46 = .ok (.new 32, 3) := by decide +kernel
theorem d_DotBook_init_49 : decode b_DotBook_init 49 = .ok (.dup, 1) := by decide +kernel
theorem d_DotBook_init_50 : decode b_DotBook_init 50 = .ok (.aload_n 0, 1) := by decide +kernel
theorem d_DotBook_init_51 : decode b_DotBook_init 51 = .ok (.getfield 19, 3) := by decide +kernel
theorem d_DotBook_init_54 : decode b_DotBook_init 54 = .ok (.invokespecial 34, 3) := by decide +kernel
theorem d_DotBook_init_57 : decode b_DotBook_init 57 = .ok (.putfield 37, 3) := by decide +kernel
theorem d_DotBook_init_60 : decode b_DotBook_init 60 = .ok (.aload_n 0, 1) := by decide +kernel
theorem d_DotBook_init_61 : decode b_DotBook_init 61 = .ok (.new 41, 3) := by decide +kernel
theorem d_DotBook_init_64 : decode b_DotBook_init 64 = .ok (.dup, 1) := by decide +kernel
theorem d_DotBook_init_65 : decode b_DotBook_init 65 = .ok (.bipush 10, 2) := by decide +kernel
theorem d_DotBook_init_67 : decode b_DotBook_init 67 = .ok (.bipush 40, 2) := by decide +kernel
theorem d_DotBook_init_69 : decode b_DotBook_init 69 = .ok (.iload_n 1, 1) := by decide +kernel
theorem d_DotBook_init_70 : decode b_DotBook_init 70 = .ok (.invokestatic 43, 3) := by decide +kernel
theorem d_DotBook_init_73 : decode b_DotBook_init 73 = .ok (.invokestatic 49, 3) := by decide +kernel
theorem d_DotBook_init_76 : decode b_DotBook_init 76 = .ok (.iconst 4, 1) := by decide +kernel
theorem d_DotBook_init_77 : decode b_DotBook_init 77 = .ok (.bipush 20, 2) := by decide +kernel
theorem d_DotBook_init_79 : decode b_DotBook_init 79 = .ok (.iload_n 2, 1) := by decide +kernel
theorem d_DotBook_init_80 : decode b_DotBook_init 80 = .ok (.invokestatic 43, 3) := by decide +kernel
theorem d_DotBook_init_83 : decode b_DotBook_init 83 = .ok (.invokestatic 49, 3) := by decide +kernel
theorem d_DotBook_init_86 : decode b_DotBook_init 86 = .ok (.invokespecial 52, 3) := by decide +kernel
theorem d_DotBook_init_89 : decode b_DotBook_init 89 = .ok (.putfield 55, 3) := by decide +kernel
theorem d_DotBook_init_92 : decode b_DotBook_init 92 = .ok (.return_, 1) := by decide +kernel
theorem d_DotBook_type_0 : decode b_DotBook_type 0 = .ok (.iload_n 1, 1) := by decide +kernel
theorem d_DotBook_type_1 : decode b_DotBook_type 1 = .ok (.bipush 32, 2) := by decide +kernel
theorem d_DotBook_type_3 : decode b_DotBook_type 3 = .ok (.if_icmp .lt 9, 3) := by decide +kernel
theorem d_DotBook_type_6 : decode b_DotBook_type 6 = .ok (.iload_n 1, 1) := by decide +kernel
theorem d_DotBook_type_7 : decode b_DotBook_type 7 = .ok (.bipush 126, 2) := by decide +kernel
theorem d_DotBook_type_9 : decode b_DotBook_type 9 = .ok (.if_icmp .le 11, 3) := by decide +kernel
theorem d_DotBook_type_12 : decode b_DotBook_type 12 = .ok (.new 59, 3) := by decide +kernel
theorem d_DotBook_type_15 : decode b_DotBook_type 15 = .ok (.dup, 1) := by decide +kernel
theorem d_DotBook_type_16 : decode b_DotBook_type 16 = .ok (.invokespecial 61, 3) := by decide +kernel
theorem d_DotBook_type_19 : decode b_DotBook_type 19 = .ok (.athrow, 1) := by decide +kernel
theorem d_DotBook_type_20 : decode b_DotBook_type 20 = .ok (.aload_n 0, 1) := by decide +kernel
theorem d_DotBook_type_21 : decode b_DotBook_type 21 = .ok (.getfield 12, 3) := by decide +kernel
theorem d_DotBook_type_24 : decode b_DotBook_type 24 = .ok (.getfield 62, 3) := by decide +kernel
theorem d_DotBook_type_27 : decode b_DotBook_type 27 = .ok (.bipush 80, 2) := by decide +kernel
theorem d_DotBook_type_29 : decode b_DotBook_type 29 = .ok (.if_icmp .lt 11, 3) := by decide +kernel
theorem d_DotBook_type_32 : decode b_DotBook_type 32 = .ok (.new 66, 3) := by decide +kernel
theorem d_DotBook_type_35 : decode b_DotBook_type 35 = .ok (.dup, 1) := by decide +kernel
theorem d_DotBook_type_36 : decode b_DotBook_type 36 = .ok (.invokespecial 68, 3) := by decide +kernel
theorem d_DotBook_type_39 : decode b_DotBook_type 39 = .ok (.athrow, 1) := by decide +kernel
theorem d_DotBook_type_40 : decode b_DotBook_type 40 = .ok (.aload_n 0, 1) := by decide +kernel
theorem d_DotBook_type_41 : decode b_DotBook_type 41 = .ok (.getfield 12, 3) := by decide +kernel
theorem d_DotBook_type_44 : decode b_DotBook_type 44 = .ok (.iload_n 1, 1) := by decide +kernel
theorem d_DotBook_type_45 : decode b_DotBook_type 45 = .ok (.invokevirtual 69, 3) := by decide +kernel
theorem d_DotBook_type_48 : decode b_DotBook_type 48 = .ok (.aload_n 0, 1) := by decide +kernel
theorem d_DotBook_type_49 : decode b_DotBook_type 49 = .ok (.getfield 12, 3) := by decide +kernel
theorem d_DotBook_type_52 : decode b_DotBook_type 52 = .ok (.getfield 62, 3) := by decide +kernel
theorem d_DotBook_type_55 : decode b_DotBook_type 55 = .ok (.ireturn, 1) := by decide +kernel
theorem d_DotBook_wipe_0 : decode b_DotBook_wipe 0 = .ok (.aload_n 0, 1) := by decide +kernel
theorem d_DotBook_wipe_1 : decode b_DotBook_wipe 1 = .ok (.getfield 12, 3) := by decide +kernel
theorem d_DotBook_wipe_4 : decode b_DotBook_wipe 4 = .ok (.iconst 0, 1) := by decide +kernel
theorem d_DotBook_wipe_5 : decode b_DotBook_wipe 5 = .ok (.putfield 62, 3) := by decide +kernel
theorem d_DotBook_wipe_8 : decode b_DotBook_wipe 8 = .ok (.return_, 1) := by decide +kernel
theorem d_DotBook_rules_0 : decode b_DotBook_rules 0 = .ok (.aload_n 0, 1) := by decide +kernel
theorem d_DotBook_rules_1 : decode b_DotBook_rules 1 = .ok (.getfield 19, 3) := by decide +kernel
theorem d_DotBook_rules_4 : decode b_DotBook_rules 4 = .ok (.aload_n 0, 1) := by decide +kernel
theorem d_DotBook_rules_5 : decode b_DotBook_rules 5 = .ok (.getfield 12, 3) := by decide +kernel
theorem d_DotBook_rules_8 : decode b_DotBook_rules 8 = .ok (.iload_n 1, 1) := by decide +kernel
theorem d_DotBook_rules_9 : decode b_DotBook_rules 9 = .ok (.invokevirtual 73, 3) := by decide +kernel
theorem d_DotBook_rules_12 : decode b_DotBook_rules 12 = .ok (.ifCond .ne 11, 3) := by decide +kernel
theorem d_DotBook_rules_15 : decode b_DotBook_rules 15 = .ok (.new 59, 3) := by decide +kernel
theorem d_DotBook_rules_18 : decode b_DotBook_rules 18 = .ok (.dup, 1) := by decide +kernel
theorem d_DotBook_rules_19 : decode b_DotBook_rules 19 = .ok (.invokespecial 61, 3) := by decide +kernel
theorem d_DotBook_rules_22 : decode b_DotBook_rules 22 = .ok (.athrow, 1) := by decide +kernel
theorem d_DotBook_rules_23 : decode b_DotBook_rules 23 = .ok (.aload_n 0, 1) := by decide +kernel
theorem d_DotBook_rules_24 : decode b_DotBook_rules 24 = .ok (.getfield 12, 3) := by decide +kernel
theorem d_DotBook_rules_27 : decode b_DotBook_rules 27 = .ok (.iconst 0, 1) := by decide +kernel
theorem d_DotBook_rules_28 : decode b_DotBook_rules 28 = .ok (.putfield 62, 3) := by decide +kernel
theorem d_DotBook_rules_31 : decode b_DotBook_rules 31 = .ok (.aload_n 0, 1) := by decide +kernel
theorem d_DotBook_rules_32 : decode b_DotBook_rules 32 = .ok (.getfield 19, 3) := by decide +kernel
theorem d_DotBook_rules_35 : decode b_DotBook_rules 35 = .ok (.getfield 77, 3) := by decide +kernel
theorem d_DotBook_rules_38 : decode b_DotBook_rules 38 = .ok (.ireturn, 1) := by decide +kernel
theorem d_DotBook_wrong_0 : decode b_DotBook_wrong 0 = .ok (.aload_n 0, 1) := by decide +kernel
theorem d_DotBook_wrong_1 : decode b_DotBook_wrong 1 = .ok (.getfield 19, 3) := by decide +kernel
theorem d_DotBook_wrong_4 : decode b_DotBook_wrong 4 = .ok (.getfield 78, 3) := by decide +kernel
theorem d_DotBook_wrong_7 : decode b_DotBook_wrong 7 = .ok (.ireturn, 1) := by decide +kernel
theorem d_DotBook_block_0 : decode b_DotBook_block 0 = .ok (.iload_n 1, 1) := by decide +kernel
theorem d_DotBook_block_1 : decode b_DotBook_block 1 = .ok (.ifCond .lt 18, 3) := by decide +kernel
theorem d_DotBook_block_4 : decode b_DotBook_block 4 = .ok (.iload_n 1, 1) := by decide +kernel
theorem d_DotBook_block_5 : decode b_DotBook_block 5 = .ok (.iconst 3, 1) := by decide +kernel
theorem d_DotBook_block_6 : decode b_DotBook_block 6 = .ok (.if_icmp .gt 13, 3) := by decide +kernel
theorem d_DotBook_block_9 : decode b_DotBook_block 9 = .ok (.aload_n 0, 1) := by decide +kernel
theorem d_DotBook_block_10 : decode b_DotBook_block 10 = .ok (.getfield 12, 3) := by decide +kernel
theorem d_DotBook_block_13 : decode b_DotBook_block 13 = .ok (.invokevirtual 81, 3) := by decide +kernel
theorem d_DotBook_block_16 : decode b_DotBook_block 16 = .ok (.ifCond .ne 11, 3) := by decide +kernel
theorem d_DotBook_block_19 : decode b_DotBook_block 19 = .ok (.new 59, 3) := by decide +kernel
theorem d_DotBook_block_22 : decode b_DotBook_block 22 = .ok (.dup, 1) := by decide +kernel
theorem d_DotBook_block_23 : decode b_DotBook_block 23 = .ok (.invokespecial 61, 3) := by decide +kernel
theorem d_DotBook_block_26 : decode b_DotBook_block 26 = .ok (.athrow, 1) := by decide +kernel
theorem d_DotBook_block_27 : decode b_DotBook_block 27 = .ok (.aload_n 0, 1) := by decide +kernel
theorem d_DotBook_block_28 : decode b_DotBook_block 28 = .ok (.getfield 55, 3) := by decide +kernel
theorem d_DotBook_block_31 : decode b_DotBook_block 31 = .ok (.getfield 85, 3) := by decide +kernel
theorem d_DotBook_block_34 : decode b_DotBook_block 34 = .ok (.bipush 12, 2) := by decide +kernel
theorem d_DotBook_block_36 : decode b_DotBook_block 36 = .ok (.if_icmp .lt 11, 3) := by decide +kernel
theorem d_DotBook_block_39 : decode b_DotBook_block 39 = .ok (.new 66, 3) := by decide +kernel
theorem d_DotBook_block_42 : decode b_DotBook_block 42 = .ok (.dup, 1) := by decide +kernel
theorem d_DotBook_block_43 : decode b_DotBook_block 43 = .ok (.invokespecial 68, 3) := by decide +kernel
theorem d_DotBook_block_46 : decode b_DotBook_block 46 = .ok (.athrow, 1) := by decide +kernel
theorem d_DotBook_block_47 : decode b_DotBook_block 47 = .ok (.aload_n 0, 1) := by decide +kernel
theorem d_DotBook_block_48 : decode b_DotBook_block 48 = .ok (.getfield 55, 3) := by decide +kernel
theorem d_DotBook_block_51 : decode b_DotBook_block 51 = .ok (.getfield 86, 3) := by decide +kernel
theorem d_DotBook_block_54 : decode b_DotBook_block 54 = .ok (.aload_n 0, 1) := by decide +kernel
theorem d_DotBook_block_55 : decode b_DotBook_block 55 = .ok (.getfield 55, 3) := by decide +kernel
theorem d_DotBook_block_58 : decode b_DotBook_block 58 = .ok (.getfield 85, 3) := by decide +kernel
theorem d_DotBook_block_61 : decode b_DotBook_block 61 = .ok (.aaload, 1) := by decide +kernel
theorem d_DotBook_block_62 : decode b_DotBook_block 62 = .ok (.astore_n 2, 1) := by decide +kernel
theorem d_DotBook_block_63 : decode b_DotBook_block 63 = .ok (.aload_n 2, 1) := by decide +kernel
theorem d_DotBook_block_64 : decode b_DotBook_block 64 = .ok (.iload_n 1, 1) := by decide +kernel
theorem d_DotBook_block_65 : decode b_DotBook_block 65 = .ok (.invokevirtual 90, 3) := by decide +kernel
theorem d_DotBook_block_68 : decode b_DotBook_block 68 = .ok (.iload_n 1, 1) := by decide +kernel
theorem d_DotBook_block_69 : decode b_DotBook_block 69 = .ok (.iconst 3, 1) := by decide +kernel
theorem d_DotBook_block_70 : decode b_DotBook_block 70 = .ok (.if_icmp .eq 11, 3) := by decide +kernel
theorem d_DotBook_block_73 : decode b_DotBook_block 73 = .ok (.aload_n 0, 1) := by decide +kernel
theorem d_DotBook_block_74 : decode b_DotBook_block 74 = .ok (.getfield 28, 3) := by decide +kernel
theorem d_DotBook_block_77 : decode b_DotBook_block 77 = .ok (.aload_n 2, 1) := by decide +kernel
theorem d_DotBook_block_78 : decode b_DotBook_block 78 = .ok (.invokevirtual 96, 3) := by decide +kernel
theorem d_DotBook_block_81 : decode b_DotBook_block 81 = .ok (.aload_n 0, 1) := by decide +kernel
theorem d_DotBook_block_82 : decode b_DotBook_block 82 = .ok (.getfield 55, 3) := by decide +kernel
theorem d_DotBook_block_85 : decode b_DotBook_block 85 = .ok (.aload_n 2, 1) := by decide +kernel
theorem d_DotBook_block_86 : decode b_DotBook_block 86 = .ok (.invokevirtual 100, 3) := by decide +kernel
theorem d_DotBook_block_89 : decode b_DotBook_block 89 = .ok (.aload_n 0, 1) := by decide +kernel
theorem d_DotBook_block_90 : decode b_DotBook_block 90 = .ok (.getfield 55, 3) := by decide +kernel
theorem d_DotBook_block_93 : decode b_DotBook_block 93 = .ok (.dup, 1) := by decide +kernel
theorem d_DotBook_block_94 : decode b_DotBook_block 94 = .ok (.getfield 85, 3) := by decide +kernel
theorem d_DotBook_block_97 : decode b_DotBook_block 97 = .ok (.iconst 1, 1) := by decide +kernel
theorem d_DotBook_block_98 : decode b_DotBook_block 98 = .ok (.iadd, 1) := by decide +kernel
theorem d_DotBook_block_99 : decode b_DotBook_block 99 = .ok (.putfield 85, 3) := by decide +kernel
theorem d_DotBook_block_102 : decode b_DotBook_block 102 = .ok (.aload_n 0, 1) := by decide +kernel
theorem d_DotBook_block_103 : decode b_DotBook_block 103 = .ok (.getfield 12, 3) := by decide +kernel
theorem d_DotBook_block_106 : decode b_DotBook_block 106 = .ok (.iconst 0, 1) := by decide +kernel
theorem d_DotBook_block_107 : decode b_DotBook_block 107 = .ok (.putfield 62, 3) := by decide +kernel
theorem d_DotBook_block_110 : decode b_DotBook_block 110 = .ok (.aload_n 0, 1) := by decide +kernel
theorem d_DotBook_block_111 : decode b_DotBook_block 111 = .ok (.getfield 55, 3) := by decide +kernel
theorem d_DotBook_block_114 : decode b_DotBook_block 114 = .ok (.getfield 85, 3) := by decide +kernel
theorem d_DotBook_block_117 : decode b_DotBook_block 117 = .ok (.ireturn, 1) := by decide +kernel
theorem d_DotBook_size_0 : decode b_DotBook_size 0 = .ok (.iload_n 1, 1) := by decide +kernel
theorem d_DotBook_size_1 : decode b_DotBook_size 1 = .ok (.ifCond .lt 14, 3) := by decide +kernel
theorem d_DotBook_size_4 : decode b_DotBook_size 4 = .ok (.iload_n 1, 1) := by decide +kernel
theorem d_DotBook_size_5 : decode b_DotBook_size 5 = .ok (.aload_n 0, 1) := by decide +kernel
theorem d_DotBook_size_6 : decode b_DotBook_size 6 = .ok (.getfield 55, 3) := by decide +kernel
theorem d_DotBook_size_9 : decode b_DotBook_size 9 = .ok (.getfield 85, 3) := by decide +kernel
theorem d_DotBook_size_12 : decode b_DotBook_size 12 = .ok (.if_icmp .lt 11, 3) := by decide +kernel
theorem d_DotBook_size_15 : decode b_DotBook_size 15 = .ok (.new 103, 3) := by decide +kernel
theorem d_DotBook_size_18 : decode b_DotBook_size 18 = .ok (.dup, 1) := by decide +kernel
theorem d_DotBook_size_19 : decode b_DotBook_size 19 = .ok (.invokespecial 105, 3) := by decide +kernel
theorem d_DotBook_size_22 : decode b_DotBook_size 22 = .ok (.athrow, 1) := by decide +kernel
theorem d_DotBook_size_23 : decode b_DotBook_size 23 = .ok (.aload_n 0, 1) := by decide +kernel
theorem d_DotBook_size_24 : decode b_DotBook_size 24 = .ok (.getfield 55, 3) := by decide +kernel
theorem d_DotBook_size_27 : decode b_DotBook_size 27 = .ok (.getfield 86, 3) := by decide +kernel
theorem d_DotBook_size_30 : decode b_DotBook_size 30 = .ok (.iload_n 1, 1) := by decide +kernel
theorem d_DotBook_size_31 : decode b_DotBook_size 31 = .ok (.aaload, 1) := by decide +kernel
theorem d_DotBook_size_32 : decode b_DotBook_size 32 = .ok (.getfield 106, 3) := by decide +kernel
theorem d_DotBook_size_35 : decode b_DotBook_size 35 = .ok (.ireturn, 1) := by decide +kernel
theorem d_DotBook_cell_0 : decode b_DotBook_cell 0 = .ok (.iload_n 1, 1) := by decide +kernel
theorem d_DotBook_cell_1 : decode b_DotBook_cell 1 = .ok (.ifCond .lt 34, 3) := by decide +kernel
theorem d_DotBook_cell_4 : decode b_DotBook_cell 4 = .ok (.iload_n 1, 1) := by decide +kernel
theorem d_DotBook_cell_5 : decode b_DotBook_cell 5 = .ok (.aload_n 0, 1) := by decide +kernel
theorem d_DotBook_cell_6 : decode b_DotBook_cell 6 = .ok (.getfield 55, 3) := by decide +kernel
theorem d_DotBook_cell_9 : decode b_DotBook_cell 9 = .ok (.getfield 85, 3) := by decide +kernel
theorem d_DotBook_cell_12 : decode b_DotBook_cell 12 = .ok (.if_icmp .ge 23, 3) := by decide +kernel
theorem d_DotBook_cell_15 : decode b_DotBook_cell 15 = .ok (.iload_n 2, 1) := by decide +kernel
theorem d_DotBook_cell_16 : decode b_DotBook_cell 16 = .ok (.ifCond .lt 19, 3) := by decide +kernel
theorem d_DotBook_cell_19 : decode b_DotBook_cell 19 = .ok (.iload_n 2, 1) := by decide +kernel
theorem d_DotBook_cell_20 : decode b_DotBook_cell 20 = .ok (.aload_n 0, 1) := by decide +kernel
theorem d_DotBook_cell_21 : decode b_DotBook_cell 21 = .ok (.getfield 55, 3) := by decide +kernel
theorem d_DotBook_cell_24 : decode b_DotBook_cell 24 = .ok (.getfield 86, 3) := by decide +kernel
theorem d_DotBook_cell_27 : decode b_DotBook_cell 27 = .ok (.iload_n 1, 1) := by decide +kernel
theorem d_DotBook_cell_28 : decode b_DotBook_cell 28 = .ok (.aaload, 1) := by decide +kernel
theorem d_DotBook_cell_29 : decode b_DotBook_cell 29 = .ok (.getfield 106, 3) := by decide +kernel
theorem d_DotBook_cell_32 : decode b_DotBook_cell 32 = .ok (.if_icmp .lt 11, 3) := by decide +kernel
theorem d_DotBook_cell_35 : decode b_DotBook_cell 35 = .ok (.new 103, 3) := by decide +kernel
theorem d_DotBook_cell_38 : decode b_DotBook_cell 38 = .ok (.dup, 1) := by decide +kernel
theorem d_DotBook_cell_39 : decode b_DotBook_cell 39 = .ok (.invokespecial 105, 3) := by decide +kernel
theorem d_DotBook_cell_42 : decode b_DotBook_cell 42 = .ok (.athrow, 1) := by decide +kernel
theorem d_DotBook_cell_43 : decode b_DotBook_cell 43 = .ok (.aload_n 0, 1) := by decide +kernel
theorem d_DotBook_cell_44 : decode b_DotBook_cell 44 = .ok (.getfield 55, 3) := by decide +kernel
theorem d_DotBook_cell_47 : decode b_DotBook_cell 47 = .ok (.getfield 86, 3) := by decide +kernel
theorem d_DotBook_cell_50 : decode b_DotBook_cell 50 = .ok (.iload_n 1, 1) := by decide +kernel
theorem d_DotBook_cell_51 : decode b_DotBook_cell 51 = .ok (.aaload, 1) := by decide +kernel
theorem d_DotBook_cell_52 : decode b_DotBook_cell 52 = .ok (.getfield 107, 3) := by decide +kernel
theorem d_DotBook_cell_55 : decode b_DotBook_cell 55 = .ok (.iload_n 2, 1) := by decide +kernel
theorem d_DotBook_cell_56 : decode b_DotBook_cell 56 = .ok (.iaload, 1) := by decide +kernel
theorem d_DotBook_cell_57 : decode b_DotBook_cell 57 = .ok (.ireturn, 1) := by decide +kernel
theorem d_DotBook_back_0 : decode b_DotBook_back 0 = .ok (.iload_n 1, 1) := by decide +kernel
theorem d_DotBook_back_1 : decode b_DotBook_back 1 = .ok (.ifCond .lt 14, 3) := by decide +kernel
theorem d_DotBook_back_4 : decode b_DotBook_back 4 = .ok (.iload_n 1, 1) := by decide +kernel
theorem d_DotBook_back_5 : decode b_DotBook_back 5 = .ok (.aload_n 0, 1) := by decide +kernel
theorem d_DotBook_back_6 : decode b_DotBook_back 6 = .ok (.getfield 55, 3) := by decide +kernel
theorem d_DotBook_back_9 : decode b_DotBook_back 9 = .ok (.getfield 85, 3) := by decide +kernel
theorem d_DotBook_back_12 : decode b_DotBook_back 12 = .ok (.if_icmp .lt 11, 3) := by decide +kernel
theorem d_DotBook_back_15 : decode b_DotBook_back 15 = .ok (.new 103, 3) := by decide +kernel
theorem d_DotBook_back_18 : decode b_DotBook_back 18 = .ok (.dup, 1) := by decide +kernel
theorem d_DotBook_back_19 : decode b_DotBook_back 19 = .ok (.invokespecial 105, 3) := by decide +kernel
theorem d_DotBook_back_22 : decode b_DotBook_back 22 = .ok (.athrow, 1) := by decide +kernel
theorem d_DotBook_back_23 : decode b_DotBook_back 23 = .ok (.aload_n 0, 1) := by decide +kernel
theorem d_DotBook_back_24 : decode b_DotBook_back 24 = .ok (.getfield 37, 3) := by decide +kernel
theorem d_DotBook_back_27 : decode b_DotBook_back 27 = .ok (.aload_n 0, 1) := by decide +kernel
theorem d_DotBook_back_28 : decode b_DotBook_back 28 = .ok (.getfield 55, 3) := by decide +kernel
theorem d_DotBook_back_31 : decode b_DotBook_back 31 = .ok (.getfield 86, 3) := by decide +kernel
theorem d_DotBook_back_34 : decode b_DotBook_back 34 = .ok (.iload_n 1, 1) := by decide +kernel
theorem d_DotBook_back_35 : decode b_DotBook_back 35 = .ok (.aaload, 1) := by decide +kernel
theorem d_DotBook_back_36 : decode b_DotBook_back 36 = .ok (.invokevirtual 111, 3) := by decide +kernel
theorem d_DotBook_back_39 : decode b_DotBook_back 39 = .ok (.aload_n 0, 1) := by decide +kernel
theorem d_DotBook_back_40 : decode b_DotBook_back 40 = .ok (.getfield 37, 3) := by decide +kernel
theorem d_DotBook_back_43 : decode b_DotBook_back 43 = .ok (.getfield 114, 3) := by decide +kernel
theorem d_DotBook_back_46 : decode b_DotBook_back 46 = .ok (.ireturn, 1) := by decide +kernel
theorem d_DotBook_heard_0 : decode b_DotBook_heard 0 = .ok (.iload_n 1, 1) := by decide +kernel
theorem d_DotBook_heard_1 : decode b_DotBook_heard 1 = .ok (.ifCond .lt 26, 3) := by decide +kernel
theorem d_DotBook_heard_4 : decode b_DotBook_heard 4 = .ok (.iload_n 1, 1) := by decide +kernel
theorem d_DotBook_heard_5 : decode b_DotBook_heard 5 = .ok (.aload_n 0, 1) := by decide +kernel
theorem d_DotBook_heard_6 : decode b_DotBook_heard 6 = .ok (.getfield 37, 3) := by decide +kernel
theorem d_DotBook_heard_9 : decode b_DotBook_heard 9 = .ok (.getfield 114, 3) := by decide +kernel
theorem d_DotBook_heard_12 : decode b_DotBook_heard 12 = .ok (.if_icmp .ge 15, 3) := by decide +kernel
theorem d_DotBook_heard_15 : decode b_DotBook_heard 15 = .ok (.aload_n 0, 1) := by decide +kernel
theorem d_DotBook_heard_16 : decode b_DotBook_heard 16 = .ok (.getfield 37, 3) := by decide +kernel
theorem d_DotBook_heard_19 : decode b_DotBook_heard 19 = .ok (.getfield 115, 3) := by decide +kernel
theorem d_DotBook_heard_22 : decode b_DotBook_heard 22 = .ok (.iload_n 1, 1) := by decide +kernel
theorem d_DotBook_heard_23 : decode b_DotBook_heard 23 = .ok (.caload, 1) := by decide +kernel
theorem d_DotBook_heard_24 : decode b_DotBook_heard 24 = .ok (.goto 5, 3) := by decide +kernel
theorem d_DotBook_heard_27 : decode b_DotBook_heard 27 = .ok (.bipush 32, 2) := by decide +kernel
theorem d_DotBook_heard_29 : decode b_DotBook_heard 29 = .ok (.ireturn, 1) := by decide +kernel
theorem d_DotBook_pages_0 : decode b_DotBook_pages 0 = .ok (.aload_n 0, 1) := by decide +kernel
theorem d_DotBook_pages_1 : decode b_DotBook_pages 1 = .ok (.getfield 55, 3) := by decide +kernel
theorem d_DotBook_pages_4 : decode b_DotBook_pages 4 = .ok (.getfield 119, 3) := by decide +kernel
theorem d_DotBook_pages_7 : decode b_DotBook_pages 7 = .ok (.ireturn, 1) := by decide +kernel
theorem d_DotBook_at_0 : decode b_DotBook_at 0 = .ok (.iload_n 1, 1) := by decide +kernel
theorem d_DotBook_at_1 : decode b_DotBook_at 1 = .ok (.iconst 1, 1) := by decide +kernel
theorem d_DotBook_at_2 : decode b_DotBook_at 2 = .ok (.if_icmp .lt 44, 3) := by decide +kernel
theorem d_DotBook_at_5 : decode b_DotBook_at 5 = .ok (.iload_n 1, 1) := by decide +kernel
theorem d_DotBook_at_6 : decode b_DotBook_at 6 = .ok (.aload_n 0, 1) := by decide +kernel
theorem d_DotBook_at_7 : decode b_DotBook_at 7 = .ok (.getfield 55, 3) := by decide +kernel
theorem d_DotBook_at_10 : decode b_DotBook_at 10 = .ok (.getfield 119, 3) := by decide +kernel
theorem d_DotBook_at_13 : decode b_DotBook_at 13 = .ok (.if_icmp .gt 33, 3) := by decide +kernel
theorem d_DotBook_at_16 : decode b_DotBook_at 16 = .ok (.iload_n 2, 1) := by decide +kernel
theorem d_DotBook_at_17 : decode b_DotBook_at 17 = .ok (.ifCond .lt 29, 3) := by decide +kernel
theorem d_DotBook_at_20 : decode b_DotBook_at 20 = .ok (.iload_n 2, 1) := by decide +kernel
theorem d_DotBook_at_21 : decode b_DotBook_at 21 = .ok (.aload_n 0, 1) := by decide +kernel
theorem d_DotBook_at_22 : decode b_DotBook_at 22 = .ok (.getfield 55, 3) := by decide +kernel
theorem d_DotBook_at_25 : decode b_DotBook_at 25 = .ok (.getfield 122, 3) := by decide +kernel
theorem d_DotBook_at_28 : decode b_DotBook_at 28 = .ok (.if_icmp .ge 18, 3) := by decide +kernel
theorem d_DotBook_at_31 : decode b_DotBook_at 31 = .ok (.iload_n 3, 1) := by decide +kernel
theorem d_DotBook_at_32 : decode b_DotBook_at 32 = .ok (.ifCond .lt 14, 3) := by decide +kernel
theorem d_DotBook_at_35 : decode b_DotBook_at 35 = .ok (.iload_n 3, 1) := by decide +kernel
theorem d_DotBook_at_36 : decode b_DotBook_at 36 = .ok (.aload_n 0, 1) := by decide +kernel
theorem d_DotBook_at_37 : decode b_DotBook_at 37 = .ok (.getfield 55, 3) := by decide +kernel
theorem d_DotBook_at_40 : decode b_DotBook_at 40 = .ok (.getfield 125, 3) := by decide +kernel
theorem d_DotBook_at_43 : decode b_DotBook_at 43 = .ok (.if_icmp .lt 11, 3) := by decide +kernel
theorem d_DotBook_at_46 : decode b_DotBook_at 46 = .ok (.new 103, 3) := by decide +kernel
theorem d_DotBook_at_49 : decode b_DotBook_at 49 = .ok (.dup, 1) := by decide +kernel
theorem d_DotBook_at_50 : decode b_DotBook_at 50 = .ok (.invokespecial 105, 3) := by decide +kernel
theorem d_DotBook_at_53 : decode b_DotBook_at 53 = .ok (.athrow, 1) := by decide +kernel
theorem d_DotBook_at_54 : decode b_DotBook_at 54 = .ok (.iload_n 2, 1) := by decide +kernel
theorem d_DotBook_at_55 : decode b_DotBook_at 55 = .ok (.aload_n 0, 1) := by decide +kernel
theorem d_DotBook_at_56 : decode b_DotBook_at 56 = .ok (.getfield 55, 3) := by decide +kernel
theorem d_DotBook_at_59 : decode b_DotBook_at 59 = .ok (.getfield 128, 3) := by decide +kernel
theorem d_DotBook_at_62 : decode b_DotBook_at 62 = .ok (.if_icmp .ne 15, 3) := by decide +kernel
theorem d_DotBook_at_65 : decode b_DotBook_at 65 = .ok (.aload_n 0, 1) := by decide +kernel
theorem d_DotBook_at_66 : decode b_DotBook_at 66 = .ok (.getfield 55, 3) := by decide +kernel
theorem d_DotBook_at_69 : decode b_DotBook_at 69 = .ok (.iload_n 1, 1) := by decide +kernel
theorem d_DotBook_at_70 : decode b_DotBook_at 70 = .ok (.iload_n 3, 1) := by decide +kernel
theorem d_DotBook_at_71 : decode b_DotBook_at 71 = .ok (.invokevirtual 131, 3) := by decide +kernel
theorem d_DotBook_at_74 : decode b_DotBook_at 74 = .ok (.goto 13, 3) := by decide +kernel
theorem d_DotBook_at_77 : decode b_DotBook_at 77 = .ok (.aload_n 0, 1) := by decide +kernel
theorem d_DotBook_at_78 : decode b_DotBook_at 78 = .ok (.getfield 55, 3) := by decide +kernel
theorem d_DotBook_at_81 : decode b_DotBook_at 81 = .ok (.iload_n 1, 1) := by decide +kernel
theorem d_DotBook_at_82 : decode b_DotBook_at 82 = .ok (.iload_n 2, 1) := by decide +kernel
theorem d_DotBook_at_83 : decode b_DotBook_at 83 = .ok (.iload_n 3, 1) := by decide +kernel
theorem d_DotBook_at_84 : decode b_DotBook_at 84 = .ok (.invokevirtual 134, 3) := by decide +kernel
theorem d_DotBook_at_87 : decode b_DotBook_at 87 = .ok (.ireturn, 1) := by decide +kernel
theorem d_DotBook_where_0 : decode b_DotBook_where 0 = .ok (.iload_n 1, 1) := by decide +kernel
theorem d_DotBook_where_1 : decode b_DotBook_where 1 = .ok (.ifCond .lt 14, 3) := by decide +kernel
theorem d_DotBook_where_4 : decode b_DotBook_where 4 = .ok (.iload_n 1, 1) := by decide +kernel
theorem d_DotBook_where_5 : decode b_DotBook_where 5 = .ok (.aload_n 0, 1) := by decide +kernel
theorem d_DotBook_where_6 : decode b_DotBook_where 6 = .ok (.getfield 55, 3) := by decide +kernel
theorem d_DotBook_where_9 : decode b_DotBook_where 9 = .ok (.getfield 85, 3) := by decide +kernel
theorem d_DotBook_where_12 : decode b_DotBook_where 12 = .ok (.if_icmp .lt 11, 3) := by decide +kernel
theorem d_DotBook_where_15 : decode b_DotBook_where 15 = .ok (.new 103, 3) := by decide +kernel
theorem d_DotBook_where_18 : decode b_DotBook_where 18 = .ok (.dup, 1) := by decide +kernel
theorem d_DotBook_where_19 : decode b_DotBook_where 19 = .ok (.invokespecial 105, 3) := by decide +kernel
theorem d_DotBook_where_22 : decode b_DotBook_where 22 = .ok (.athrow, 1) := by decide +kernel
theorem d_DotBook_where_23 : decode b_DotBook_where 23 = .ok (.aload_n 0, 1) := by decide +kernel
theorem d_DotBook_where_24 : decode b_DotBook_where 24 = .ok (.getfield 55, 3) := by decide +kernel
theorem d_DotBook_where_27 : decode b_DotBook_where 27 = .ok (.getfield 86, 3) := by decide +kernel
theorem d_DotBook_where_30 : decode b_DotBook_where 30 = .ok (.iload_n 1, 1) := by decide +kernel
theorem d_DotBook_where_31 : decode b_DotBook_where 31 = .ok (.aaload, 1) := by decide +kernel
theorem d_DotBook_where_32 : decode b_DotBook_where 32 = .ok (.astore_n 2, 1) := by decide +kernel
theorem d_DotBook_where_33 : decode b_DotBook_where 33 = .ok (.aload_n 2, 1) := by decide +kernel
theorem d_DotBook_where_34 : decode b_DotBook_where 34 = .ok (.getfield 138, 3) := by decide +kernel
theorem d_DotBook_where_37 : decode b_DotBook_where 37 = .ok (.ifCond .le 18, 3) := by decide +kernel
theorem d_DotBook_where_40 : decode b_DotBook_where 40 = .ok (.aload_n 2, 1) := by decide +kernel
theorem d_DotBook_where_41 : decode b_DotBook_where 41 = .ok (.getfield 141, 3) := by decide +kernel
theorem d_DotBook_where_44 : decode b_DotBook_where 44 = .ok (.bipush 32, 2) := by decide +kernel
theorem d_DotBook_where_46 : decode b_DotBook_where 46 = .ok (.imul, 1) := by decide +kernel
theorem d_DotBook_where_47 : decode b_DotBook_where 47 = .ok (.aload_n 2, 1) := by decide +kernel
theorem d_DotBook_where_48 : decode b_DotBook_where 48 = .ok (.getfield 144, 3) := by decide +kernel
theorem d_DotBook_where_51 : decode b_DotBook_where 51 = .ok (.iadd, 1) := by decide +kernel
theorem d_DotBook_where_52 : decode b_DotBook_where 52 = .ok (.goto 4, 3) := by decide +kernel
theorem d_DotBook_where_55 : decode b_DotBook_where 55 = .ok (.iconst (-1), 1) := by decide +kernel
theorem d_DotBook_where_56 : decode b_DotBook_where 56 = .ok (.ireturn, 1) := by decide +kernel
theorem d_DotBook_heading_0 : decode b_DotBook_heading 0 = .ok (.iconst 0, 1) := by decide +kernel
theorem d_DotBook_heading_1 : decode b_DotBook_heading 1 = .ok (.istore_n 2, 1) := by decide +kernel
theorem d_DotBook_heading_2 : decode b_DotBook_heading 2 = .ok (.iconst 0, 1) := by decide +kernel
theorem d_DotBook_heading_3 : decode b_DotBook_heading 3 = .ok (.istore_n 3, 1) := by decide +kernel
theorem d_DotBook_heading_4 : decode b_DotBook_heading 4 = .ok (.iload_n 3, 1) := by decide +kernel
theorem d_DotBook_heading_5 : decode b_DotBook_heading 5 = .ok (.aload_n 0, 1) := by decide +kernel
theorem d_DotBook_heading_6 : decode b_DotBook_heading 6 = .ok (.getfield 55, 3) := by decide +kernel
theorem d_DotBook_heading_9 : decode b_DotBook_heading 9 = .ok (.getfield 85, 3) := by decide +kernel
theorem d_DotBook_heading_12 : decode b_DotBook_heading 12 = .ok (.if_icmp .ge 50, 3) := by decide +kernel
theorem d_DotBook_heading_15 : decode b_DotBook_heading 15 = .ok (.aload_n 0, 1) := by decide +kernel
theorem d_DotBook_heading_16 : decode b_DotBook_heading 16 = .ok (.getfield 55, 3) := by decide +kernel
theorem d_DotBook_heading_19 : decode b_DotBook_heading 19 = .ok (.getfield 86, 3) := by decide +kernel
theorem d_DotBook_heading_22 : decode b_DotBook_heading 22 = .ok (.iload_n 3, 1) := by decide +kernel
theorem d_DotBook_heading_23 : decode b_DotBook_heading 23 = .ok (.aaload, 1) := by decide +kernel
theorem d_DotBook_heading_24 : decode b_DotBook_heading 24 = .ok (.getfield 147, 3) := by decide +kernel
theorem d_DotBook_heading_27 : decode b_DotBook_heading 27 = .ok (.iconst 1, 1) := by decide +kernel
theorem d_DotBook_heading_28 : decode b_DotBook_heading 28 = .ok (.if_icmp .ne 28, 3) := by decide +kernel
theorem d_DotBook_heading_31 : decode b_DotBook_heading 31 = .ok (.aload_n 0, 1) := by decide +kernel
theorem d_DotBook_heading_32 : decode b_DotBook_heading 32 = .ok (.getfield 55, 3) := by decide +kernel
theorem d_DotBook_heading_35 : decode b_DotBook_heading 35 = .ok (.getfield 86, 3) := by decide +kernel
theorem d_DotBook_heading_38 : decode b_DotBook_heading 38 = .ok (.iload_n 3, 1) := by decide +kernel
theorem d_DotBook_heading_39 : decode b_DotBook_heading 39 = .ok (.aaload, 1) := by decide +kernel
theorem d_DotBook_heading_40 : decode b_DotBook_heading 40 = .ok (.getfield 138, 3) := by decide +kernel
theorem d_DotBook_heading_43 : decode b_DotBook_heading 43 = .ok (.ifCond .le 13, 3) := by decide +kernel
theorem d_DotBook_heading_46 : decode b_DotBook_heading 46 = .ok (.iload_n 2, 1) := by decide +kernel
theorem d_DotBook_heading_47 : decode b_DotBook_heading 47 = .ok (.iload_n 1, 1) := by decide +kernel
theorem d_DotBook_heading_48 : decode b_DotBook_heading 48 = .ok (.if_icmp .ne 5, 3) := by decide +kernel
theorem d_DotBook_heading_51 : decode b_DotBook_heading 51 = .ok (.iload_n 3, 1) := by decide +kernel
theorem d_DotBook_heading_52 : decode b_DotBook_heading 52 = .ok (.ireturn, 1) := by decide +kernel
theorem d_DotBook_heading_53 : decode b_DotBook_heading 53 = .ok (.iinc 2 1, 3) := by decide +kernel
theorem d_DotBook_heading_56 : decode b_DotBook_heading 56 = .ok (.iinc 3 1, 3) := by decide +kernel
theorem d_DotBook_heading_59 : decode b_DotBook_heading 59 = .ok (.goto (-55), 3) := by decide +kernel
theorem d_DotBook_heading_62 : decode b_DotBook_heading 62 = .ok (.iconst (-1), 1) := by decide +kernel
theorem d_DotBook_heading_63 : decode b_DotBook_heading 63 = .ok (.ireturn, 1) := by decide +kernel
theorem d_DotBook_clear_0 : decode b_DotBook_clear 0 = .ok (.aload_n 0, 1) := by decide +kernel
theorem d_DotBook_clear_1 : decode b_DotBook_clear 1 = .ok (.getfield 55, 3) := by decide +kernel
theorem d_DotBook_clear_4 : decode b_DotBook_clear 4 = .ok (.invokevirtual 150, 3) := by decide +kernel
theorem d_DotBook_clear_7 : decode b_DotBook_clear 7 = .ok (.return_, 1) := by decide +kernel
theorem d_Block_init_0 : decode b_Block_init 0 = .ok (.aload_n 0, 1) := by decide +kernel
theorem d_Block_init_1 : decode b_Block_init 1 = .ok (.invokespecial 3, 3) := by decide +kernel
theorem d_Block_init_4 : decode b_Block_init 4 = .ok (.aload_n 0, 1) := by decide +kernel
theorem d_Block_init_5 : decode b_Block_init 5 = .ok (.sipush 200, 3) := by decide +kernel
theorem d_Block_init_8 : decode b_Block_init 8 = .ok (.newarray .int, 2) := by decide +kernel
theorem d_Block_init_10 : decode b_Block_init 10 = .ok (.putfield 9, 3) := by decide +kernel
theorem d_Block_init_13 : decode b_Block_init 13 = .ok (.aload_n 0, 1) := by decide +kernel
theorem d_Block_init_14 : decode b_Block_init 14 = .ok (.sipush 200, 3) := by decide +kernel
theorem d_Block_init_17 : decode b_Block_init 17 = .ok (.newarray .int, 2) := by decide +kernel
theorem d_Block_init_19 : decode b_Block_init 19 = .ok (.putfield 15, 3) := by decide +kernel
theorem d_Block_init_22 : decode b_Block_init 22 = .ok (.aload_n 0, 1) := by decide +kernel
theorem d_Block_init_23 : decode b_Block_init 23 = .ok (.sipush 200, 3) := by decide +kernel
theorem d_Block_init_26 : decode b_Block_init 26 = .ok (.newarray .int, 2) := by decide +kernel
theorem d_Block_init_28 : decode b_Block_init 28 = .ok (.putfield 18, 3) := by decide +kernel
theorem d_Block_init_31 : decode b_Block_init 31 = .ok (.return_, 1) := by decide +kernel
theorem d_Block_begin_0 : decode b_Block_begin 0 = .ok (.aload_n 0, 1) := by decide +kernel
theorem d_Block_begin_1 : decode b_Block_begin 1 = .ok (.iload_n 1, 1) := by decide +kernel
theorem d_Block_begin_2 : decode b_Block_begin 2 = .ok (.putfield 21, 3) := by decide +kernel
theorem d_Block_begin_5 : decode b_Block_begin 5 = .ok (.aload_n 0, 1) := by decide +kernel
theorem d_Block_begin_6 : decode b_Block_begin 6 = .ok (.iconst 0, 1) := by decide +kernel
theorem d_Block_begin_7 : decode b_Block_begin 7 = .ok (.putfield 25, 3) := by decide +kernel
theorem d_Block_begin_10 : decode b_Block_begin 10 = .ok (.return_, 1) := by decide +kernel
theorem d_Block_put_0 : decode b_Block_put 0 = .ok (.aload_n 0, 1) := by decide +kernel
theorem d_Block_put_1 : decode b_Block_put 1 = .ok (.getfield 25, 3) := by decide +kernel
theorem d_Block_put_4 : decode b_Block_put 4 = .ok (.aload_n 0, 1) := by decide +kernel
theorem d_Block_put_5 : decode b_Block_put 5 = .ok (.getfield 9, 3) := by decide +kernel
theorem d_Block_put_8 : decode b_Block_put 8 = .ok (.arraylength, 1) := by decide +kernel
theorem d_Block_put_9 : decode b_Block_put 9 = .ok (.if_icmp .ge 28, 3) := by decide +kernel
theorem d_Block_put_12 : decode b_Block_put 12 = .ok (.aload_n 0, 1) := by decide +kernel
theorem d_Block_put_13 : decode b_Block_put 13 = .ok (.getfield 9, 3) := by decide +kernel
theorem d_Block_put_16 : decode b_Block_put 16 = .ok (.aload_n 0, 1) := by decide +kernel
theorem d_Block_put_17 : decode b_Block_put 17 = .ok (.getfield 25, 3) := by decide +kernel
theorem d_Block_put_20 : decode b_Block_put 20 = .ok (.iload_n 1, 1) := by decide +kernel
theorem d_Block_put_21 : decode b_Block_put 21 = .ok (.bipush 64, 2) := by decide +kernel
theorem d_Block_put_23 : decode b_Block_put 23 = .ok (.iload_n 2, 1) := by decide +kernel
theorem d_Block_put_24 : decode b_Block_put 24 = .ok (.imul, 1) := by decide +kernel
theorem d_Block_put_25 : decode b_Block_put 25 = .ok (.iadd, 1) := by decide +kernel
theorem d_Block_put_26 : decode b_Block_put 26 = .ok (.iastore, 1) := by decide +kernel
theorem d_Block_put_27 : decode b_Block_put 27 = .ok (.aload_n 0, 1) := by decide +kernel
theorem d_Block_put_28 : decode b_Block_put 28 = .ok (.dup, 1) := by decide +kernel
theorem d_Block_put_29 : decode b_Block_put 29 = .ok (.getfield 25, 3) := by decide +kernel
theorem d_Block_put_32 : decode b_Block_put 32 = .ok (.iconst 1, 1) := by decide +kernel
theorem d_Block_put_33 : decode b_Block_put 33 = .ok (.iadd, 1) := by decide +kernel
theorem d_Block_put_34 : decode b_Block_put 34 = .ok (.putfield 25, 3) := by decide +kernel
theorem d_Block_put_37 : decode b_Block_put 37 = .ok (.return_, 1) := by decide +kernel
theorem d_Block_cellAt_0 : decode b_Block_cellAt 0 = .ok (.iload_n 1, 1) := by decide +kernel
theorem d_Block_cellAt_1 : decode b_Block_cellAt 1 = .ok (.ifCond .lt 23, 3) := by decide +kernel
theorem d_Block_cellAt_4 : decode b_Block_cellAt 4 = .ok (.iload_n 1, 1) := by decide +kernel
theorem d_Block_cellAt_5 : decode b_Block_cellAt 5 = .ok (.aload_n 0, 1) := by decide +kernel
theorem d_Block_cellAt_6 : decode b_Block_cellAt 6 = .ok (.getfield 25, 3) := by decide +kernel
theorem d_Block_cellAt_9 : decode b_Block_cellAt 9 = .ok (.if_icmp .ge 15, 3) := by decide +kernel
theorem d_Block_cellAt_12 : decode b_Block_cellAt 12 = .ok (.aload_n 0, 1) := by decide +kernel
theorem d_Block_cellAt_13 : decode b_Block_cellAt 13 = .ok (.getfield 9, 3) := by decide +kernel
theorem d_Block_cellAt_16 : decode b_Block_cellAt 16 = .ok (.iload_n 1, 1) := by decide +kernel
theorem d_Block_cellAt_17 : decode b_Block_cellAt 17 = .ok (.iaload, 1) := by decide +kernel
theorem d_Block_cellAt_18 : decode b_Block_cellAt 18 = .ok (.bipush 64, 2) := by decide +kernel
theorem d_Block_cellAt_20 : decode b_Block_cellAt 20 = .ok (.irem, 1) := by decide +kernel
theorem d_Block_cellAt_21 : decode b_Block_cellAt 21 = .ok (.goto 4, 3) := by decide +kernel
theorem d_Block_cellAt_24 : decode b_Block_cellAt 24 = .ok (.iconst 0, 1) := by decide +kernel
theorem d_Block_cellAt_25 : decode b_Block_cellAt 25 = .ok (.ireturn, 1) := by decide +kernel
theorem d_Block_endOfPiece_0 : decode b_Block_endOfPiece 0 = .ok (.iload_n 1, 1) := by decide +kernel
theorem d_Block_endOfPiece_1 : decode b_Block_endOfPiece 1 = .ok (.istore_n 2, 1) := by decide +kernel
theorem d_Block_endOfPiece_2 : decode b_Block_endOfPiece 2 = .ok (.iload_n 1, 1) := by decide +kernel
theorem d_Block_endOfPiece_3 : decode b_Block_endOfPiece 3 = .ok (.istore_n 3, 1) := by decide +kernel
theorem d_Block_endOfPiece_4 : decode b_Block_endOfPiece 4 = .ok (.iload_n 3, 1) := by decide +kernel
theorem d_Block_endOfPiece_5 : decode b_Block_endOfPiece 5 = .ok (.aload_n 0, 1) := by decide +kernel
theorem d_Block_endOfPiece_6 : decode b_Block_endOfPiece 6 = .ok (.getfield 25, 3) := by decide +kernel
theorem d_Block_endOfPiece_9 : decode b_Block_endOfPiece 9 = .ok (.if_icmp .ge 21, 3) := by decide +kernel
theorem d_Block_endOfPiece_12 : decode b_Block_endOfPiece 12 = .ok (.aload_n 0, 1) := by decide +kernel
theorem d_Block_endOfPiece_13 : decode b_Block_endOfPiece 13 = .ok (.iload_n 3, 1) := by decide +kernel
theorem d_Block_endOfPiece_14 : decode b_Block_endOfPiece 14 = .ok (.invokevirtual 28, 3) := by decide +kernel
theorem d_Block_endOfPiece_17 : decode b_Block_endOfPiece 17 = .ok (.ifCond .eq 13, 3) := by decide +kernel
theorem d_Block_endOfPiece_20 : decode b_Block_endOfPiece 20 = .ok (.iload_n 3, 1) := by decide +kernel
theorem d_Block_endOfPiece_21 : decode b_Block_endOfPiece 21 = .ok (.iconst 1, 1) := by decide +kernel
theorem d_Block_endOfPiece_22 : decode b_Block_endOfPiece 22 = .ok (.iadd, 1) := by decide +kernel
theorem d_Block_endOfPiece_23 : decode b_Block_endOfPiece 23 = .ok (.istore_n 2, 1) := by decide +kernel
theorem d_Block_endOfPiece_24 : decode b_Block_endOfPiece 24 = .ok (.iinc 3 1, 3) := by decide +kernel
theorem d_Block_endOfPiece_27 : decode b_Block_endOfPiece 27 = .ok (.goto (-23), 3) := by decide +kernel
theorem d_Block_endOfPiece_30 : decode b_Block_endOfPiece 30 = .ok (.iload_n 2, 1) := by decide +kernel
theorem d_Block_endOfPiece_31 : decode b_Block_endOfPiece 31 = .ok (.ireturn, 1) := by decide +kernel
theorem d_Block_cutIntoLines_0 : decode b_Block_cutIntoLines 0 = .ok (.aload_n 0, 1) := by decide +kernel
theorem d_Block_cutIntoLines_1 : decode b_Block_cutIntoLines 1 = .ok (.iconst 0, 1) := by decide +kernel
theorem d_Block_cutIntoLines_2 : decode b_Block_cutIntoLines 2 = .ok (.putfield 32, 3) := by decide +kernel
theorem d_Block_cutIntoLines_5 : decode b_Block_cutIntoLines 5 = .ok (.aload_n 0, 1) := by decide +kernel
theorem d_Block_cutIntoLines_6 : decode b_Block_cutIntoLines 6 = .ok (.iconst 0, 1) := by decide +kernel
theorem d_Block_cutIntoLines_7 : decode b_Block_cutIntoLines 7 = .ok (.putfield 35, 3) := by decide +kernel
theorem d_Block_cutIntoLines_10 : decode b_Block_cutIntoLines 10 = .ok (.iconst 0, 1) := by decide +kernel
theorem d_Block_cutIntoLines_11 : decode b_Block_cutIntoLines 11 = .ok (.istore_n 2, 1) := by decide +kernel
theorem d_Block_cutIntoLines_12 : decode b_Block_cutIntoLines 12 = .ok (.iload_n 2, 1) := by decide +kernel
theorem d_Block_cutIntoLines_13 : decode b_Block_cutIntoLines 13 = .ok (.aload_n 0, 1) := by decide +kernel
theorem d_Block_cutIntoLines_14 : decode b_Block_cutIntoLines 14 = .ok (.getfield 25, 3) := by decide +kernel
theorem d_Block_cutIntoLines_17 : decode b_Block_cutIntoLines 17 = .ok (.if_icmp .ge 38, 3) := by decide +kernel
theorem d_Block_cutIntoLines_20 : decode b_Block_cutIntoLines 20 = .ok (.aload_n 0, 1) := by decide +kernel
theorem d_Block_cutIntoLines_21 : decode b_Block_cutIntoLines 21 = .ok (.iload_n 2, 1) := by decide +kernel
theorem d_Block_cutIntoLines_22 : decode b_Block_cutIntoLines 22 = .ok (.invokevirtual 28, 3) := by decide +kernel
theorem d_Block_cutIntoLines_25 : decode b_Block_cutIntoLines 25 = .ok (.ifCond .eq 24, 3) := by decide +kernel
theorem d_Block_cutIntoLines_28 : decode b_Block_cutIntoLines 28 = .ok (.aload_n 0, 1) := by decide +kernel
theorem d_Block_cutIntoLines_29 : decode b_Block_cutIntoLines 29 = .ok (.iload_n 2, 1) := by decide +kernel
theorem d_Block_cutIntoLines_30 : decode b_Block_cutIntoLines 30 = .ok (.iconst 1, 1) := by decide +kernel
theorem d_Block_cutIntoLines_31 : decode b_Block_cutIntoLines 31 = .ok (.isub, 1) := by decide +kernel
theorem d_Block_cutIntoLines_32 : decode b_Block_cutIntoLines 32 = .ok (.invokevirtual 28, 3) := by decide +kernel
theorem d_Block_cutIntoLines_35 : decode b_Block_cutIntoLines 35 = .ok (.ifCond .ne 14, 3) := by decide +kernel
theorem d_Block_cutIntoLines_38 : decode b_Block_cutIntoLines 38 = .ok (.aload_n 0, 1) := by decide +kernel
theorem d_Block_cutIntoLines_39 : decode b_Block_cutIntoLines 39 = .ok (.iload_n 2, 1) := by decide +kernel
theorem d_Block_cutIntoLines_40 : decode b_Block_cutIntoLines 40 = .ok (.aload_n 0, 1) := by decide +kernel
theorem d_Block_cutIntoLines_41 : decode b_Block_cutIntoLines 41 = .ok (.iload_n 2, 1) := by decide +kernel
theorem d_Block_cutIntoLines_42 : decode b_Block_cutIntoLines 42 = .ok (.invokevirtual 38, 3) := by decide +kernel
theorem d_Block_cutIntoLines_45 : decode b_Block_cutIntoLines 45 = .ok (.iload_n 1, 1) := by decide +kernel
theorem d_Block_cutIntoLines_46 : decode b_Block_cutIntoLines 46 = .ok (.invokevirtual 41, 3) := by decide +kernel
theorem d_Block_cutIntoLines_49 : decode b_Block_cutIntoLines 49 = .ok (.iinc 2 1, 3) := by decide +kernel
theorem d_Block_cutIntoLines_52 : decode b_Block_cutIntoLines 52 = .ok (.goto (-40), 3) := by decide +kernel
theorem d_Block_cutIntoLines_55 : decode b_Block_cutIntoLines 55 = .ok (.return_, 1) := by decide +kernel
theorem d_Block_layPiece_0 : decode b_Block_layPiece 0 = .ok (.aload_n 0, 1) := by decide +kernel
theorem d_Block_layPiece_1 : decode b_Block_layPiece 1 = .ok (.getfield 35, 3) := by decide +kernel
theorem d_Block_layPiece_4 : decode b_Block_layPiece 4 = .ok (.ifCond .le 20, 3) := by decide +kernel
theorem d_Block_layPiece_7 : decode b_Block_layPiece 7 = .ok (.aload_n 0, 1) := by decide +kernel
theorem d_Block_layPiece_8 : decode b_Block_layPiece 8 = .ok (.iload_n 3, 1) := by decide +kernel
theorem d_Block_layPiece_9 : decode b_Block_layPiece 9 = .ok (.invokevirtual 45, 3) := by decide +kernel
theorem d_Block_layPiece_12 : decode b_Block_layPiece 12 = .ok (.iconst 1, 1) := by decide +kernel
theorem d_Block_layPiece_13 : decode b_Block_layPiece 13 = .ok (.iload_n 2, 1) := by decide +kernel
theorem d_Block_layPiece_14 : decode b_Block_layPiece 14 = .ok (.iadd, 1) := by decide +kernel
theorem d_Block_layPiece_15 : decode b_Block_layPiece 15 = .ok (.iload_n 1, 1) := by decide +kernel
theorem d_Block_layPiece_16 : decode b_Block_layPiece 16 = .ok (.isub, 1) := by decide +kernel
theorem d_Block_layPiece_17 : decode b_Block_layPiece 17 = .ok (.if_icmp .lt 7, 3) := by decide +kernel
theorem d_Block_layPiece_20 : decode b_Block_layPiece 20 = .ok (.iconst 1, 1) := by decide +kernel
theorem d_Block_layPiece_21 : decode b_Block_layPiece 21 = .ok (.goto 4, 3) := by decide +kernel
theorem d_Block_layPiece_24 : decode b_Block_layPiece 24 = .ok (.iconst 0, 1) := by decide +kernel
theorem d_Block_layPiece_25 : decode b_Block_layPiece 25 = .ok (.istore 4, 2) := by decide +kernel
theorem d_Block_layPiece_27 : decode b_Block_layPiece 27 = .ok (.iload 4, 2) := by decide +kernel
theorem d_Block_layPiece_29 : decode b_Block_layPiece 29 = .ok (.ifCond .eq 11, 3) := by decide +kernel
theorem d_Block_layPiece_32 : decode b_Block_layPiece 32 = .ok (.aload_n 0, 1) := by decide +kernel
theorem d_Block_layPiece_33 : decode b_Block_layPiece 33 = .ok (.iconst 0, 1) := by decide +kernel
theorem d_Block_layPiece_34 : decode b_Block_layPiece 34 = .ok (.invokevirtual 48, 3) := by decide +kernel
theorem d_Block_layPiece_37 : decode b_Block_layPiece 37 = .ok (.goto 7, 3) := by decide +kernel
theorem d_Block_layPiece_40 : decode b_Block_layPiece 40 = .ok (.aload_n 0, 1) := by decide +kernel
theorem d_Block_layPiece_41 : decode b_Block_layPiece 41 = .ok (.invokevirtual 52, 3) := by decide +kernel
theorem d_Block_layPiece_44 : decode b_Block_layPiece 44 = .ok (.iload_n 1, 1) := by decide +kernel
theorem d_Block_layPiece_45 : decode b_Block_layPiece 45 = .ok (.istore 5, 2) := by decide +kernel
theorem d_Block_layPiece_47 : decode b_Block_layPiece 47 = .ok (.iload 5, 2) := by decide +kernel
theorem d_Block_layPiece_49 : decode b_Block_layPiece 49 = .ok (.iload_n 2, 1) := by decide +kernel
theorem d_Block_layPiece_50 : decode b_Block_layPiece 50 = .ok (.if_icmp .ge 31, 3) := by decide +kernel
theorem d_Block_layPiece_53 : decode b_Block_layPiece 53 = .ok (.aload_n 0, 1) := by decide +kernel
theorem d_Block_layPiece_54 : decode b_Block_layPiece 54 = .ok (.iload_n 3, 1) := by decide +kernel
theorem d_Block_layPiece_55 : decode b_Block_layPiece 55 = .ok (.invokevirtual 45, 3) := by decide +kernel
theorem d_Block_layPiece_58 : decode b_Block_layPiece 58 = .ok (.ifCond .gt 7, 3) := by decide +kernel
theorem d_Block_layPiece_61 : decode b_Block_layPiece 61 = .ok (.aload_n 0, 1) := by decide +kernel
theorem d_Block_layPiece_62 : decode b_Block_layPiece 62 = .ok (.invokevirtual 52, 3) := by decide +kernel
theorem d_Block_layPiece_65 : decode b_Block_layPiece 65 = .ok (.aload_n 0, 1) := by decide +kernel
theorem d_Block_layPiece_66 : decode b_Block_layPiece 66 = .ok (.aload_n 0, 1) := by decide +kernel
theorem d_Block_layPiece_67 : decode b_Block_layPiece 67 = .ok (.iload 5, 2) := by decide +kernel
theorem d_Block_layPiece_69 : decode b_Block_layPiece 69 = .ok (.invokevirtual 28, 3) := by decide +kernel
theorem d_Block_layPiece_72 : decode b_Block_layPiece 72 = .ok (.invokevirtual 48, 3) := by decide +kernel
theorem d_Block_layPiece_75 : decode b_Block_layPiece 75 = .ok (.iinc 5 1, 3) := by decide +kernel
theorem d_Block_layPiece_78 : decode b_Block_layPiece 78 = .ok (.goto (-31), 3) := by decide +kernel
theorem d_Block_layPiece_81 : decode b_Block_layPiece 81 = .ok (.return_, 1) := by decide +kernel
theorem d_Block_roomLeft_0 : decode b_Block_roomLeft 0 = .ok (.aload_n 0, 1) := by decide +kernel
theorem d_Block_roomLeft_1 : decode b_Block_roomLeft 1 = .ok (.getfield 35, 3) := by decide +kernel
theorem d_Block_roomLeft_4 : decode b_Block_roomLeft 4 = .ok (.iconst 1, 1) := by decide +kernel
theorem d_Block_roomLeft_5 : decode b_Block_roomLeft 5 = .ok (.isub, 1) := by decide +kernel
theorem d_Block_roomLeft_6 : decode b_Block_roomLeft 6 = .ok (.istore_n 2, 1) := by decide +kernel
theorem d_Block_roomLeft_7 : decode b_Block_roomLeft 7 = .ok (.iload_n 1, 1) := by decide +kernel
theorem d_Block_roomLeft_8 : decode b_Block_roomLeft 8 = .ok (.aload_n 0, 1) := by decide +kernel
theorem d_Block_roomLeft_9 : decode b_Block_roomLeft 9 = .ok (.iload_n 2, 1) := by decide +kernel
theorem d_Block_roomLeft_10 : decode b_Block_roomLeft 10 = .ok (.invokevirtual 55, 3) := by decide +kernel
theorem d_Block_roomLeft_13 : decode b_Block_roomLeft 13 = .ok (.isub, 1) := by decide +kernel
theorem d_Block_roomLeft_14 : decode b_Block_roomLeft 14 = .ok (.aload_n 0, 1) := by decide +kernel
theorem d_Block_roomLeft_15 : decode b_Block_roomLeft 15 = .ok (.iload_n 2, 1) := by decide +kernel
theorem d_Block_roomLeft_16 : decode b_Block_roomLeft 16 = .ok (.invokevirtual 58, 3) := by decide +kernel
theorem d_Block_roomLeft_19 : decode b_Block_roomLeft 19 = .ok (.isub, 1) := by decide +kernel
theorem d_Block_roomLeft_20 : decode b_Block_roomLeft 20 = .ok (.ireturn, 1) := by decide +kernel
theorem d_Block_beginLine_0 : decode b_Block_beginLine 0 = .ok (.aload_n 0, 1) := by decide +kernel
theorem d_Block_beginLine_1 : decode b_Block_beginLine 1 = .ok (.getfield 35, 3) := by decide +kernel
theorem d_Block_beginLine_4 : decode b_Block_beginLine 4 = .ok (.aload_n 0, 1) := by decide +kernel
theorem d_Block_beginLine_5 : decode b_Block_beginLine 5 = .ok (.getfield 18, 3) := by decide +kernel
theorem d_Block_beginLine_8 : decode b_Block_beginLine 8 = .ok (.arraylength, 1) := by decide +kernel
theorem d_Block_beginLine_9 : decode b_Block_beginLine 9 = .ok (.if_icmp .ge 26, 3) := by decide +kernel
theorem d_Block_beginLine_12 : decode b_Block_beginLine 12 = .ok (.aload_n 0, 1) := by decide +kernel
theorem d_Block_beginLine_13 : decode b_Block_beginLine 13 = .ok (.getfield 18, 3) := by decide +kernel
theorem d_Block_beginLine_16 : decode b_Block_beginLine 16 = .ok (.aload_n 0, 1) := by decide +kernel
theorem d_Block_beginLine_17 : decode b_Block_beginLine 17 = .ok (.getfield 35, 3) := by decide +kernel
theorem d_Block_beginLine_20 : decode b_Block_beginLine 20 = .ok (.aload_n 0, 1) := by decide +kernel
theorem d_Block_beginLine_21 : decode b_Block_beginLine 21 = .ok (.getfield 32, 3) := by decide +kernel
theorem d_Block_beginLine_24 : decode b_Block_beginLine 24 = .ok (.iastore, 1) := by decide +kernel
theorem d_Block_beginLine_25 : decode b_Block_beginLine 25 = .ok (.aload_n 0, 1) := by decide +kernel
theorem d_Block_beginLine_26 : decode b_Block_beginLine 26 = .ok (.dup, 1) := by decide +kernel
theorem d_Block_beginLine_27 : decode b_Block_beginLine 27 = .ok (.getfield 35, 3) := by decide +kernel
theorem d_Block_beginLine_30 : decode b_Block_beginLine 30 = .ok (.iconst 1, 1) := by decide +kernel
theorem d_Block_beginLine_31 : decode b_Block_beginLine 31 = .ok (.iadd, 1) := by decide +kernel
theorem d_Block_beginLine_32 : decode b_Block_beginLine 32 = .ok (.putfield 35, 3) := by decide +kernel
theorem d_Block_beginLine_35 : decode b_Block_beginLine 35 = .ok (.return_, 1) := by decide +kernel
theorem d_Block_layCell_0 : decode b_Block_layCell 0 = .ok (.aload_n 0, 1) := by decide +kernel
theorem d_Block_layCell_1 : decode b_Block_layCell 1 = .ok (.getfield 32, 3) := by decide +kernel
theorem d_Block_layCell_4 : decode b_Block_layCell 4 = .ok (.aload_n 0, 1) := by decide +kernel
theorem d_Block_layCell_5 : decode b_Block_layCell 5 = .ok (.getfield 15, 3) := by decide +kernel
theorem d_Block_layCell_8 : decode b_Block_layCell 8 = .ok (.arraylength, 1) := by decide +kernel
theorem d_Block_layCell_9 : decode b_Block_layCell 9 = .ok (.if_icmp .ge 23, 3) := by decide +kernel
theorem d_Block_layCell_12 : decode b_Block_layCell 12 = .ok (.aload_n 0, 1) := by decide +kernel
theorem d_Block_layCell_13 : decode b_Block_layCell 13 = .ok (.getfield 15, 3) := by decide +kernel
theorem d_Block_layCell_16 : decode b_Block_layCell 16 = .ok (.aload_n 0, 1) := by decide +kernel
theorem d_Block_layCell_17 : decode b_Block_layCell 17 = .ok (.getfield 32, 3) := by decide +kernel
theorem d_Block_layCell_20 : decode b_Block_layCell 20 = .ok (.iload_n 1, 1) := by decide +kernel
theorem d_Block_layCell_21 : decode b_Block_layCell 21 = .ok (.iastore, 1) := by decide +kernel
theorem d_Block_layCell_22 : decode b_Block_layCell 22 = .ok (.aload_n 0, 1) := by decide +kernel
theorem d_Block_layCell_23 : decode b_Block_layCell 23 = .ok (.dup, 1) := by decide +kernel
theorem d_Block_layCell_24 : decode b_Block_layCell 24 = .ok (.getfield 32, 3) := by decide +kernel
theorem d_Block_layCell_27 : decode b_Block_layCell 27 = .ok (.iconst 1, 1) := by decide +kernel
theorem d_Block_layCell_28 : decode b_Block_layCell 28 = .ok (.iadd, 1) := by decide +kernel
theorem d_Block_layCell_29 : decode b_Block_layCell 29 = .ok (.putfield 32, 3) := by decide +kernel
theorem d_Block_layCell_32 : decode b_Block_layCell 32 = .ok (.return_, 1) := by decide +kernel
theorem d_Block_indentOf_0 : decode b_Block_indentOf 0 = .ok (.aload_n 0, 1) := by decide +kernel
theorem d_Block_indentOf_1 : decode b_Block_indentOf 1 = .ok (.getfield 21, 3) := by decide +kernel
theorem d_Block_indentOf_4 : decode b_Block_indentOf 4 = .ok (.ifCond .ne 13, 3) := by decide +kernel
theorem d_Block_indentOf_7 : decode b_Block_indentOf 7 = .ok (.iload_n 1, 1) := by decide +kernel
theorem d_Block_indentOf_8 : decode b_Block_indentOf 8 = .ok (.ifCond .ne 7, 3) := by decide +kernel
theorem d_Block_indentOf_11 : decode b_Block_indentOf 11 = .ok (.iconst 2, 1) := by decide +kernel
theorem d_Block_indentOf_12 : decode b_Block_indentOf 12 = .ok (.goto 4, 3) := by decide +kernel
theorem d_Block_indentOf_15 : decode b_Block_indentOf 15 = .ok (.iconst 0, 1) := by decide +kernel
theorem d_Block_indentOf_16 : decode b_Block_indentOf 16 = .ok (.ireturn, 1) := by decide +kernel
theorem d_Block_indentOf_17 : decode b_Block_indentOf 17 = .ok (.aload_n 0, 1) := by decide +kernel
theorem d_Block_indentOf_18 : decode b_Block_indentOf 18 = .ok (.getfield 21, 3) := by decide +kernel
theorem d_Block_indentOf_21 : decode b_Block_indentOf 21 = .ok (.iconst 2, 1) := by decide +kernel
theorem d_Block_indentOf_22 : decode b_Block_indentOf 22 = .ok (.if_icmp .ne 11, 3) := by decide +kernel
theorem d_Block_indentOf_25 : decode b_Block_indentOf 25 = .ok (.iload_n 1, 1) := by decide +kernel
theorem d_Block_indentOf_26 : decode b_Block_indentOf 26 = .ok (.ifCond .le 7, 3) := by decide +kernel
theorem d_Block_indentOf_29 : decode b_Block_indentOf 29 = .ok (.iconst 4, 1) := by decide +kernel
theorem d_Block_indentOf_30 : decode b_Block_indentOf 30 = .ok (.goto 4, 3) := by decide +kernel
theorem d_Block_indentOf_33 : decode b_Block_indentOf 33 = .ok (.iconst 0, 1) := by decide +kernel
theorem d_Block_indentOf_34 : decode b_Block_indentOf 34 = .ok (.ireturn, 1) := by decide +kernel
theorem d_Block_lengthOf_0 : decode b_Block_lengthOf 0 = .ok (.iload_n 1, 1) := by decide +kernel
theorem d_Block_lengthOf_1 : decode b_Block_lengthOf 1 = .ok (.ifCond .lt 11, 3) := by decide +kernel
theorem d_Block_lengthOf_4 : decode b_Block_lengthOf 4 = .ok (.iload_n 1, 1) := by decide +kernel
theorem d_Block_lengthOf_5 : decode b_Block_lengthOf 5 = .ok (.aload_n 0, 1) := by decide +kernel
theorem d_Block_lengthOf_6 : decode b_Block_lengthOf 6 = .ok (.getfield 35, 3) := by decide +kernel
theorem d_Block_lengthOf_9 : decode b_Block_lengthOf 9 = .ok (.if_icmp .lt 5, 3) := by decide +kernel
theorem d_Block_lengthOf_12 : decode b_Block_lengthOf 12 = .ok (.iconst 0, 1) := by decide +kernel
theorem d_Block_lengthOf_13 : decode b_Block_lengthOf 13 = .ok (.ireturn, 1) := by decide +kernel
theorem d_Block_lengthOf_14 : decode b_Block_lengthOf 14 = .ok (.iload_n 1, 1) := by decide +kernel
theorem d_Block_lengthOf_15 : decode b_Block_lengthOf 15 = .ok (.iconst 1, 1) := by decide +kernel
theorem d_Block_lengthOf_16 : decode b_Block_lengthOf 16 = .ok (.iadd, 1) := by decide +kernel
theorem d_Block_lengthOf_17 : decode b_Block_lengthOf 17 = .ok (.aload_n 0, 1) := by decide +kernel
theorem d_Block_lengthOf_18 : decode b_Block_lengthOf 18 = .ok (.getfield 35, 3) := by decide +kernel
theorem d_Block_lengthOf_21 : decode b_Block_lengthOf 21 = .ok (.if_icmp .ge 14, 3) := by decide +kernel
theorem d_Block_lengthOf_24 : decode b_Block_lengthOf 24 = .ok (.aload_n 0, 1) := by decide +kernel
theorem d_Block_lengthOf_25 : decode b_Block_lengthOf 25 = .ok (.getfield 18, 3) := by decide +kernel
theorem d_Block_lengthOf_28 : decode b_Block_lengthOf 28 = .ok (.iload_n 1, 1) := by decide +kernel
theorem d_Block_lengthOf_29 : decode b_Block_lengthOf 29 = .ok (.iconst 1, 1) := by decide +kernel
theorem d_Block_lengthOf_30 : decode b_Block_lengthOf 30 = .ok (.iadd, 1) := by decide +kernel
theorem d_Block_lengthOf_31 : decode b_Block_lengthOf 31 = .ok (.iaload, 1) := by decide +kernel
theorem d_Block_lengthOf_32 : decode b_Block_lengthOf 32 = .ok (.goto 7, 3) := by decide +kernel
theorem d_Block_lengthOf_35 : decode b_Block_lengthOf 35 = .ok (.aload_n 0, 1) := by decide +kernel
theorem d_Block_lengthOf_36 : decode b_Block_lengthOf 36 = .ok (.getfield 32, 3) := by decide +kernel
theorem d_Block_lengthOf_39 : decode b_Block_lengthOf 39 = .ok (.istore_n 2, 1) := by decide +kernel
theorem d_Block_lengthOf_40 : decode b_Block_lengthOf 40 = .ok (.iload_n 2, 1) := by decide +kernel
theorem d_Block_lengthOf_41 : decode b_Block_lengthOf 41 = .ok (.aload_n 0, 1) := by decide +kernel
theorem d_Block_lengthOf_42 : decode b_Block_lengthOf 42 = .ok (.getfield 18, 3) := by decide +kernel
theorem d_Block_lengthOf_45 : decode b_Block_lengthOf 45 = .ok (.iload_n 1, 1) := by decide +kernel
theorem d_Block_lengthOf_46 : decode b_Block_lengthOf 46 = .ok (.iaload, 1) := by decide +kernel
theorem d_Block_lengthOf_47 : decode b_Block_lengthOf 47 = .ok (.isub, 1) := by decide +kernel
theorem d_Block_lengthOf_48 : decode b_Block_lengthOf 48 = .ok (.ireturn, 1) := by decide +kernel
theorem d_Block_cellOfLine_0 : decode b_Block_cellOfLine 0 = .ok (.aload_n 0, 1) := by decide +kernel
theorem d_Block_cellOfLine_1 : decode b_Block_cellOfLine 1 = .ok (.iload_n 1, 1) := by decide +kernel
theorem d_Block_cellOfLine_2 : decode b_Block_cellOfLine 2 = .ok (.invokevirtual 58, 3) := by decide +kernel
theorem d_Block_cellOfLine_5 : decode b_Block_cellOfLine 5 = .ok (.istore 4, 2) := by decide +kernel
theorem d_Block_cellOfLine_7 : decode b_Block_cellOfLine 7 = .ok (.iload_n 2, 1) := by decide +kernel
theorem d_Block_cellOfLine_8 : decode b_Block_cellOfLine 8 = .ok (.aload_n 0, 1) := by decide +kernel
theorem d_Block_cellOfLine_9 : decode b_Block_cellOfLine 9 = .ok (.getfield 21, 3) := by decide +kernel
theorem d_Block_cellOfLine_12 : decode b_Block_cellOfLine 12 = .ok (.iconst 1, 1) := by decide +kernel
theorem d_Block_cellOfLine_13 : decode b_Block_cellOfLine 13 = .ok (.if_icmp .ne 12, 3) := by decide +kernel
theorem d_Block_cellOfLine_16 : decode b_Block_cellOfLine 16 = .ok (.iload_n 3, 1) := by decide +kernel
theorem d_Block_cellOfLine_17 : decode b_Block_cellOfLine 17 = .ok (.iload 4, 2) := by decide +kernel
theorem d_Block_cellOfLine_19 : decode b_Block_cellOfLine 19 = .ok (.isub, 1) := by decide +kernel
theorem d_Block_cellOfLine_20 : decode b_Block_cellOfLine 20 = .ok (.iconst 2, 1) := by decide +kernel
theorem d_Block_cellOfLine_21 : decode b_Block_cellOfLine 21 = .ok (.idiv, 1) := by decide +kernel
theorem d_Block_cellOfLine_22 : decode b_Block_cellOfLine 22 = .ok (.goto 8, 3) := by decide +kernel
theorem d_Block_cellOfLine_25 : decode b_Block_cellOfLine 25 = .ok (.aload_n 0, 1) := by decide +kernel
theorem d_Block_cellOfLine_26 : decode b_Block_cellOfLine 26 = .ok (.iload_n 1, 1) := by decide +kernel
theorem d_Block_cellOfLine_27 : decode b_Block_cellOfLine 27 = .ok (.invokevirtual 55, 3) := by decide +kernel
theorem d_Block_cellOfLine_30 : decode b_Block_cellOfLine 30 = .ok (.isub, 1) := by decide +kernel
theorem d_Block_cellOfLine_31 : decode b_Block_cellOfLine 31 = .ok (.istore 5, 2) := by decide +kernel
theorem d_Block_cellOfLine_33 : decode b_Block_cellOfLine 33 = .ok (.iload 5, 2) := by decide +kernel
theorem d_Block_cellOfLine_35 : decode b_Block_cellOfLine 35 = .ok (.ifCond .lt 27, 3) := by decide +kernel
theorem d_Block_cellOfLine_38 : decode b_Block_cellOfLine 38 = .ok (.iload 5, 2) := by decide +kernel
theorem d_Block_cellOfLine_40 : decode b_Block_cellOfLine 40 = .ok (.iload 4, 2) := by decide +kernel
theorem d_Block_cellOfLine_42 : decode b_Block_cellOfLine 42 = .ok (.if_icmp .ge 20, 3) := by decide +kernel
theorem d_Block_cellOfLine_45 : decode b_Block_cellOfLine 45 = .ok (.aload_n 0, 1) := by decide +kernel
theorem d_Block_cellOfLine_46 : decode b_Block_cellOfLine 46 = .ok (.getfield 15, 3) := by decide +kernel
theorem d_Block_cellOfLine_49 : decode b_Block_cellOfLine 49 = .ok (.aload_n 0, 1) := by decide +kernel
theorem d_Block_cellOfLine_50 : decode b_Block_cellOfLine 50 = .ok (.getfield 18, 3) := by decide +kernel
theorem d_Block_cellOfLine_53 : decode b_Block_cellOfLine 53 = .ok (.iload_n 1, 1) := by decide +kernel
theorem d_Block_cellOfLine_54 : decode b_Block_cellOfLine 54 = .ok (.iaload, 1) := by decide +kernel
theorem d_Block_cellOfLine_55 : decode b_Block_cellOfLine 55 = .ok (.iload 5, 2) := by decide +kernel
theorem d_Block_cellOfLine_57 : decode b_Block_cellOfLine 57 = .ok (.iadd, 1) := by decide +kernel
theorem d_Block_cellOfLine_58 : decode b_Block_cellOfLine 58 = .ok (.iaload, 1) := by decide +kernel
theorem d_Block_cellOfLine_59 : decode b_Block_cellOfLine 59 = .ok (.goto 4, 3) := by decide +kernel
theorem d_Block_cellOfLine_62 : decode b_Block_cellOfLine 62 = .ok (.iconst 0, 1) := by decide +kernel
theorem d_Block_cellOfLine_63 : decode b_Block_cellOfLine 63 = .ok (.ireturn, 1) := by decide +kernel
theorem d_Book_init_0 : decode b_Book_init 0 = .ok (.aload_n 0, 1) := by decide +kernel
theorem d_Book_init_1 : decode b_Book_init 1 = .ok (.invokespecial 3, 3) := by decide +kernel
theorem d_Book_init_4 : decode b_Book_init 4 = .ok (.aload_n 0, 1) := by decide +kernel
theorem d_Book_init_5 : decode b_Book_init 5 = .ok (.bipush 12, 2) := by decide +kernel
theorem d_Book_init_7 : decode b_Book_init 7 = .ok (.anewarray 9, 3) := by decide +kernel
theorem d_Book_init_10 : decode b_Book_init 10 = .ok (.putfield 11, 3) := by decide +kernel
theorem d_Book_init_13 : decode b_Book_init 13 = .ok (.aload_n 0, 1) := by decide +kernel
theorem d_Book_init_14 : decode b_Book_init 14 = .ok (.iconst 1, 1) := by decide +kernel
theorem d_Book_init_15 : decode b_Book_init 15 = .ok (.putfield 17, 3) := by decide +kernel
theorem d_Book_init_18 : decode b_Book_init 18 = .ok (.aload_n 0, 1) := by decide +kernel
theorem d_Book_init_19 : decode b_Book_init 19 = .ok (.iconst 1, 1) := by decide +kernel
theorem d_Book_init_20 : decode b_Book_init 20 = .ok (.putfield 21, 3) := by decide +kernel
theorem d_Book_init_23 : decode b_Book_init 23 = .ok (.aload_n 0, 1) := by decide +kernel
theorem d_Book_init_24 : decode b_Book_init 24 = .ok (.iload_n 1, 1) := by decide +kernel
theorem d_Book_init_25 : decode b_Book_init 25 = .ok (.putfield 24, 3) := by decide +kernel
theorem d_Book_init_28 : decode b_Book_init 28 = .ok (.aload_n 0, 1) := by decide +kernel
theorem d_Book_init_29 : decode b_Book_init 29 = .ok (.iload_n 2, 1) := by decide +kernel
theorem d_Book_init_30 : decode b_Book_init 30 = .ok (.putfield 27, 3) := by decide +kernel
theorem d_Book_init_33 : decode b_Book_init 33 = .ok (.aload_n 0, 1) := by decide +kernel
theorem d_Book_init_34 : decode b_Book_init 34 = .ok (.iload_n 2, 1) := by decide +kernel
theorem d_Book_init_35 : decode b_Book_init 35 = .ok (.iconst 1, 1) := by decide +kernel
theorem d_Book_init_36 : decode b_Book_init 36 = .ok (.isub, 1) := by decide +kernel
theorem d_Book_init_37 : decode b_Book_init 37 = .ok (.putfield 30, 3) := by decide +kernel
theorem d_Book_init_40 : decode b_Book_init 40 = .ok (.iconst 0, 1) := by decide +kernel
theorem d_Book_init_41 : decode b_Book_init 41 = .ok (.istore_n 3, 1) := by decide +kernel
theorem d_Book_init_42 : decode b_Book_init 42 = .ok (.iload_n 3, 1) := by decide +kernel
theorem d_Book_init_43 : decode b_Book_init 43 = .ok (.aload_n 0, 1) := by decide +kernel
theorem d_Book_init_44 : decode b_Book_init 44 = .ok (.getfield 11, 3) := by decide +kernel
theorem d_Book_init_47 : decode b_Book_init 47 = .ok (.arraylength, 1) := by decide +kernel
theorem d_Book_init_48 : decode b_Book_init 48 = .ok (.if_icmp .ge 22, 3) := by decide +kernel
theorem d_Book_init_51 : decode b_Book_init 51 = .ok (.aload_n 0, 1) := by decide +kernel
theorem d_Book_init_52 : decode b_Book_init 52 = .ok (.getfield 11, 3) := by decide +kernel
theorem d_Book_init_55 : decode b_Book_init 55 = .ok (.iload_n 3, 1) := by decide +kernel
theorem d_Book_init_56 : decode b_Book_init 56 = .ok (.new 9, 3) := by decide +kernel
theorem d_Book_init_59 : decode b_Book_init 59 = .ok (.dup, 1) := by decide +kernel
theorem d_Book_init_60 : decode b_Book_init 60 = .ok (.invokespecial 33, 3) := by decide +kernel
theorem d_Book_init_63 : decode b_Book_init 63 = .ok (.aastore, 1) := by decide +kernel
theorem d_Book_init_64 : decode b_Book_init 64 = .ok (.iinc 3 1, 3) := by decide +kernel
theorem d_Book_init_67 : decode b_Book_init 67 = .ok (.goto (-25), 3) := by decide +kernel
theorem d_Book_init_70 : decode b_Book_init 70 = .ok (.return_, 1) := by decide +kernel
theorem d_Book_empty_0 : decode b_Book_empty 0 = .ok (.aload_n 0, 1) := by decide +kernel
theorem d_Book_empty_1 : decode b_Book_empty 1 = .ok (.iconst 0, 1) := by decide +kernel
theorem d_Book_empty_2 : decode b_Book_empty 2 = .ok (.putfield 34, 3) := by decide +kernel
theorem d_Book_empty_5 : decode b_Book_empty 5 = .ok (.aload_n 0, 1) := by decide +kernel
theorem d_Book_empty_6 : decode b_Book_empty 6 = .ok (.iconst 1, 1) := by decide +kernel
theorem d_Book_empty_7 : decode b_Book_empty 7 = .ok (.putfield 17, 3) := by decide +kernel
theorem d_Book_empty_10 : decode b_Book_empty 10 = .ok (.aload_n 0, 1) := by decide +kernel
theorem d_Book_empty_11 : decode b_Book_empty 11 = .ok (.iconst 0, 1) := by decide +kernel
theorem d_Book_empty_12 : decode b_Book_empty 12 = .ok (.putfield 37, 3) := by decide +kernel
theorem d_Book_empty_15 : decode b_Book_empty 15 = .ok (.aload_n 0, 1) := by decide +kernel
theorem d_Book_empty_16 : decode b_Book_empty 16 = .ok (.iconst 1, 1) := by decide +kernel
theorem d_Book_empty_17 : decode b_Book_empty 17 = .ok (.putfield 21, 3) := by decide +kernel
theorem d_Book_empty_20 : decode b_Book_empty 20 = .ok (.return_, 1) := by decide +kernel
theorem d_Book_layOut_0 : decode b_Book_layOut 0 = .ok (.aload_n 1, 1) := by decide +kernel
theorem d_Book_layOut_1 : decode b_Book_layOut 1 = .ok (.aload_n 0, 1) := by decide +kernel
theorem d_Book_layOut_2 : decode b_Book_layOut 2 = .ok (.getfield 24, 3) := by decide +kernel
theorem d_Book_layOut_5 : decode b_Book_layOut 5 = .ok (.invokevirtual 40, 3) := by decide +kernel
theorem d_Book_layOut_8 : decode b_Book_layOut 8 = .ok (.aload_n 1, 1) := by decide +kernel
theorem d_Book_layOut_9 : decode b_Book_layOut 9 = .ok (.getfield 44, 3) := by decide +kernel
theorem d_Book_layOut_12 : decode b_Book_layOut 12 = .ok (.iconst 3, 1) := by decide +kernel
theorem d_Book_layOut_13 : decode b_Book_layOut 13 = .ok (.if_icmp .ne 14, 3) := by decide +kernel
theorem d_Book_layOut_16 : decode b_Book_layOut 16 = .ok (.aload_n 0, 1) := by decide +kernel
theorem d_Book_layOut_17 : decode b_Book_layOut 17 = .ok (.getfield 37, 3) := by decide +kernel
theorem d_Book_layOut_20 : decode b_Book_layOut 20 = .ok (.ifCond .le 7, 3) := by decide +kernel
theorem d_Book_layOut_23 : decode b_Book_layOut 23 = .ok (.aload_n 0, 1) := by decide +kernel
theorem d_Book_layOut_24 : decode b_Book_layOut 24 = .ok (.invokevirtual 47, 3) := by decide +kernel
theorem d_Book_layOut_27 : decode b_Book_layOut 27 = .ok (.aload_n 1, 1) := by decide +kernel
theorem d_Book_layOut_28 : decode b_Book_layOut 28 = .ok (.getfield 44, 3) := by decide +kernel
theorem d_Book_layOut_31 : decode b_Book_layOut 31 = .ok (.iconst 1, 1) := by decide +kernel
theorem d_Book_layOut_32 : decode b_Book_layOut 32 = .ok (.if_icmp .ne 18, 3) := by decide +kernel
theorem d_Book_layOut_35 : decode b_Book_layOut 35 = .ok (.aload_n 1, 1) := by decide +kernel
theorem d_Book_layOut_36 : decode b_Book_layOut 36 = .ok (.getfield 50, 3) := by decide +kernel
theorem d_Book_layOut_39 : decode b_Book_layOut 39 = .ok (.ifCond .le 11, 3) := by decide +kernel
theorem d_Book_layOut_42 : decode b_Book_layOut 42 = .ok (.aload_n 0, 1) := by decide +kernel
theorem d_Book_layOut_43 : decode b_Book_layOut 43 = .ok (.aload_n 1, 1) := by decide +kernel
theorem d_Book_layOut_44 : decode b_Book_layOut 44 = .ok (.getfield 50, 3) := by decide +kernel
theorem d_Book_layOut_47 : decode b_Book_layOut 47 = .ok (.invokevirtual 53, 3) := by decide +kernel
theorem d_Book_layOut_50 : decode b_Book_layOut 50 = .ok (.iconst 0, 1) := by decide +kernel
theorem d_Book_layOut_51 : decode b_Book_layOut 51 = .ok (.istore_n 2, 1) := by decide +kernel
theorem d_Book_layOut_52 : decode b_Book_layOut 52 = .ok (.iload_n 2, 1) := by decide +kernel
theorem d_Book_layOut_53 : decode b_Book_layOut 53 = .ok (.aload_n 1, 1) := by decide +kernel
theorem d_Book_layOut_54 : decode b_Book_layOut 54 = .ok (.getfield 50, 3) := by decide +kernel
theorem d_Book_layOut_57 : decode b_Book_layOut 57 = .ok (.if_icmp .ge 62, 3) := by decide +kernel
theorem d_Book_layOut_60 : decode b_Book_layOut 60 = .ok (.aload_n 0, 1) := by decide +kernel
theorem d_Book_layOut_61 : decode b_Book_layOut 61 = .ok (.getfield 37, 3) := by decide +kernel
theorem d_Book_layOut_64 : decode b_Book_layOut 64 = .ok (.aload_n 0, 1) := by decide +kernel
theorem d_Book_layOut_65 : decode b_Book_layOut 65 = .ok (.getfield 30, 3) := by decide +kernel
theorem d_Book_layOut_68 : decode b_Book_layOut 68 = .ok (.if_icmp .lt 7, 3) := by decide +kernel
theorem d_Book_layOut_71 : decode b_Book_layOut 71 = .ok (.aload_n 0, 1) := by decide +kernel
theorem d_Book_layOut_72 : decode b_Book_layOut 72 = .ok (.invokevirtual 47, 3) := by decide +kernel
theorem d_Book_layOut_75 : decode b_Book_layOut 75 = .ok (.iload_n 2, 1) := by decide +kernel
theorem d_Book_layOut_76 : decode b_Book_layOut 76 = .ok (.ifCond .ne 19, 3) := by decide +kernel
theorem d_Book_layOut_79 : decode b_Book_layOut 79 = .ok (.aload_n 1, 1) := by decide +kernel
theorem d_Book_layOut_80 : decode b_Book_layOut 80 = .ok (.aload_n 0, 1) := by decide +kernel
theorem d_Book_layOut_81 : decode b_Book_layOut 81 = .ok (.getfield 17, 3) := by decide +kernel
theorem d_Book_layOut_84 : decode b_Book_layOut 84 = .ok (.putfield 56, 3) := by decide +kernel
theorem d_Book_layOut_87 : decode b_Book_layOut 87 = .ok (.aload_n 1, 1) := by decide +kernel
theorem d_Book_layOut_88 : decode b_Book_layOut 88 = .ok (.aload_n 0, 1) := by decide +kernel
theorem d_Book_layOut_89 : decode b_Book_layOut 89 = .ok (.getfield 37, 3) := by decide +kernel
theorem d_Book_layOut_92 : decode b_Book_layOut 92 = .ok (.putfield 57, 3) := by decide +kernel
theorem d_Book_layOut_95 : decode b_Book_layOut 95 = .ok (.aload_n 0, 1) := by decide +kernel
theorem d_Book_layOut_96 : decode b_Book_layOut 96 = .ok (.dup, 1) := by decide +kernel
theorem d_Book_layOut_97 : decode b_Book_layOut 97 = .ok (.getfield 37, 3) := by decide +kernel
theorem d_Book_layOut_100 : decode b_Book_layOut 100 = .ok (.iconst 1, 1) := by decide +kernel
theorem d_Book_layOut_101 : decode b_Book_layOut 101 = .ok (.iadd, 1) := by decide +kernel
theorem d_Book_layOut_102 : decode b_Book_layOut 102 = .ok (.putfield 37, 3) := by decide +kernel
theorem d_Book_layOut_105 : decode b_Book_layOut 105 = .ok (.aload_n 0, 1) := by decide +kernel
theorem d_Book_layOut_106 : decode b_Book_layOut 106 = .ok (.aload_n 0, 1) := by decide +kernel
theorem d_Book_layOut_107 : decode b_Book_layOut 107 = .ok (.getfield 17, 3) := by decide +kernel
theorem d_Book_layOut_110 : decode b_Book_layOut 110 = .ok (.putfield 21, 3) := by decide +kernel
theorem d_Book_layOut_113 : decode b_Book_layOut 113 = .ok (.iinc 2 1, 3) := by decide +kernel
theorem d_Book_layOut_116 : decode b_Book_layOut 116 = .ok (.goto (-64), 3) := by decide +kernel
theorem d_Book_layOut_119 : decode b_Book_layOut 119 = .ok (.return_, 1) := by decide +kernel
theorem d_Book_makeWayForHeading_0 : decode b_Book_makeWayForHeading 0 = .ok (.aload_n 0, 1) := by decide +kernel
theorem d_Book_makeWayForHeading_1 : decode b_Book_makeWayForHeading 1 = .ok (.getfield 37, 3) := by decide +kernel
theorem d_Book_makeWayForHeading_4 : decode b_Book_makeWayForHeading 4 = .ok (.ifCond .ne 4, 3) := by decide +kernel
theorem d_Book_makeWayForHeading_7 : decode b_Book_makeWayForHeading 7 = .ok (.return_, 1) := by decide +kernel
theorem d_Book_makeWayForHeading_8 : decode b_Book_makeWayForHeading 8 = .ok (.aload_n 0, 1) := by decide +kernel
theorem d_Book_makeWayForHeading_9 : decode b_Book_makeWayForHeading 9 = .ok (.getfield 30, 3) := by decide +kernel
theorem d_Book_makeWayForHeading_12 : decode b_Book_makeWayForHeading 12 = .ok (.aload_n 0, 1) := by decide +kernel
theorem d_Book_makeWayForHeading_13 : decode b_Book_makeWayForHeading 13 = .ok (.getfield 37, 3) := by decide +kernel
theorem d_Book_makeWayForHeading_16 : decode b_Book_makeWayForHeading 16 = .ok (.isub, 1) := by decide +kernel
theorem d_Book_makeWayForHeading_17 : decode b_Book_makeWayForHeading 17 = .ok (.iconst 1, 1) := by decide +kernel
theorem d_Book_makeWayForHeading_18 : decode b_Book_makeWayForHeading 18 = .ok (.isub, 1) := by decide +kernel
theorem d_Book_makeWayForHeading_19 : decode b_Book_makeWayForHeading 19 = .ok (.istore_n 2, 1) := by decide +kernel
theorem d_Book_makeWayForHeading_20 : decode b_Book_makeWayForHeading 20 = .ok (.iload_n 2, 1) := by decide +kernel
theorem d_Book_makeWayForHeading_21 : decode b_Book_makeWayForHeading 21 = .ok (.iload_n 1, 1) := by decide +kernel
theorem d_Book_makeWayForHeading_22 : decode b_Book_makeWayForHeading 22 = .ok (.iconst 1, 1) := by decide +kernel
theorem d_Book_makeWayForHeading_23 : decode b_Book_makeWayForHeading 23 = .ok (.iadd, 1) := by decide +kernel
theorem d_Book_makeWayForHeading_24 : decode b_Book_makeWayForHeading 24 = .ok (.if_icmp .ge 10, 3) := by decide +kernel
theorem d_Book_makeWayForHeading_27 : decode b_Book_makeWayForHeading 27 = .ok (.aload_n 0, 1) := by decide +kernel
theorem d_Book_makeWayForHeading_28 : decode b_Book_makeWayForHeading 28 = .ok (.invokevirtual 47, 3) := by decide +kernel
theorem d_Book_makeWayForHeading_31 : decode b_Book_makeWayForHeading 31 = .ok (.goto 13, 3) := by decide +kernel
theorem d_Book_makeWayForHeading_34 : decode b_Book_makeWayForHeading 34 = .ok (.aload_n 0, 1) := by decide +kernel
theorem d_Book_makeWayForHeading_35 : decode b_Book_makeWayForHeading 35 = .ok (.dup, 1) := by decide +kernel
theorem d_Book_makeWayForHeading_36 : decode b_Book_makeWayForHeading 36 = .ok (.getfield 37, 3) := by decide +kernel
theorem d_Book_makeWayForHeading_39 : decode b_Book_makeWayForHeading 39 = .ok (.iconst 1, 1) := by decide +kernel
theorem d_Book_makeWayForHeading_40 : decode b_Book_makeWayForHeading 40 = .ok (.iadd, 1) := by decide +kernel
theorem d_Book_makeWayForHeading_41 : decode b_Book_makeWayForHeading 41 = .ok (.putfield 37, 3) := by decide +kernel
theorem d_Book_makeWayForHeading_44 : decode b_Book_makeWayForHeading 44 = .ok (.return_, 1) := by decide +kernel
theorem d_Book_turnPage_0 : decode b_Book_turnPage 0 = .ok (.aload_n 0, 1) := by decide +kernel
theorem d_Book_turnPage_1 : decode b_Book_turnPage 1 = .ok (.dup, 1) := by decide +kernel
theorem d_Book_turnPage_2 : decode b_Book_turnPage 2 = .ok (.getfield 17, 3) := by decide +kernel
theorem d_Book_turnPage_5 : decode b_Book_turnPage 5 = .ok (.iconst 1, 1) := by decide +kernel
theorem d_Book_turnPage_6 : decode b_Book_turnPage 6 = .ok (.iadd, 1) := by decide +kernel
theorem d_Book_turnPage_7 : decode b_Book_turnPage 7 = .ok (.putfield 17, 3) := by decide +kernel
theorem d_Book_turnPage_10 : decode b_Book_turnPage 10 = .ok (.aload_n 0, 1) := by decide +kernel
theorem d_Book_turnPage_11 : decode b_Book_turnPage 11 = .ok (.iconst 0, 1) := by decide +kernel
theorem d_Book_turnPage_12 : decode b_Book_turnPage 12 = .ok (.putfield 37, 3) := by decide +kernel
theorem d_Book_turnPage_15 : decode b_Book_turnPage 15 = .ok (.return_, 1) := by decide +kernel
theorem d_Book_cellOfText_0 : decode b_Book_cellOfText 0 = .ok (.iconst 0, 1) := by decide +kernel
theorem d_Book_cellOfText_1 : decode b_Book_cellOfText 1 = .ok (.istore 4, 2) := by decide +kernel
theorem d_Book_cellOfText_3 : decode b_Book_cellOfText 3 = .ok (.iload 4, 2) := by decide +kernel
theorem d_Book_cellOfText_5 : decode b_Book_cellOfText 5 = .ok (.aload_n 0, 1) := by decide +kernel
theorem d_Book_cellOfText_6 : decode b_Book_cellOfText 6 = .ok (.getfield 34, 3) := by decide +kernel
theorem d_Book_cellOfText_9 : decode b_Book_cellOfText 9 = .ok (.if_icmp .ge 68, 3) := by decide +kernel
theorem d_Book_cellOfText_12 : decode b_Book_cellOfText 12 = .ok (.aload_n 0, 1) := by decide +kernel
theorem d_Book_cellOfText_13 : decode b_Book_cellOfText 13 = .ok (.getfield 11, 3) := by decide +kernel
theorem d_Book_cellOfText_16 : decode b_Book_cellOfText 16 = .ok (.iload 4, 2) := by decide +kernel
theorem d_Book_cellOfText_18 : decode b_Book_cellOfText 18 = .ok (.aaload, 1) := by decide +kernel
theorem d_Book_cellOfText_19 : decode b_Book_cellOfText 19 = .ok (.astore 5, 2) := by decide +kernel
theorem d_Book_cellOfText_21 : decode b_Book_cellOfText 21 = .ok (.iload_n 1, 1) := by decide +kernel
theorem d_Book_cellOfText_22 : decode b_Book_cellOfText 22 = .ok (.aload 5, 2) := by decide +kernel
theorem d_Book_cellOfText_24 : decode b_Book_cellOfText 24 = .ok (.getfield 56, 3) := by decide +kernel
theorem d_Book_cellOfText_27 : decode b_Book_cellOfText 27 = .ok (.isub, 1) := by decide +kernel
theorem d_Book_cellOfText_28 : decode b_Book_cellOfText 28 = .ok (.aload_n 0, 1) := by decide +kernel
theorem d_Book_cellOfText_29 : decode b_Book_cellOfText 29 = .ok (.getfield 30, 3) := by decide +kernel
theorem d_Book_cellOfText_32 : decode b_Book_cellOfText 32 = .ok (.imul, 1) := by decide +kernel
theorem d_Book_cellOfText_33 : decode b_Book_cellOfText 33 = .ok (.iload_n 2, 1) := by decide +kernel
theorem d_Book_cellOfText_34 : decode b_Book_cellOfText 34 = .ok (.iadd, 1) := by decide +kernel
theorem d_Book_cellOfText_35 : decode b_Book_cellOfText 35 = .ok (.aload 5, 2) := by decide +kernel
theorem d_Book_cellOfText_37 : decode b_Book_cellOfText 37 = .ok (.getfield 57, 3) := by decide +kernel
theorem d_Book_cellOfText_40 : decode b_Book_cellOfText 40 = .ok (.isub, 1) := by decide +kernel
theorem d_Book_cellOfText_41 : decode b_Book_cellOfText 41 = .ok (.istore 6, 2) := by decide +kernel
theorem d_Book_cellOfText_43 : decode b_Book_cellOfText 43 = .ok (.iload 6, 2) := by decide +kernel
theorem d_Book_cellOfText_45 : decode b_Book_cellOfText 45 = .ok (.ifCond .lt 26, 3) := by decide +kernel
theorem d_Book_cellOfText_48 : decode b_Book_cellOfText 48 = .ok (.iload 6, 2) := by decide +kernel
theorem d_Book_cellOfText_50 : decode b_Book_cellOfText 50 = .ok (.aload 5, 2) := by decide +kernel
theorem d_Book_cellOfText_52 : decode b_Book_cellOfText 52 = .ok (.getfield 50, 3) := by decide +kernel
theorem d_Book_cellOfText_55 : decode b_Book_cellOfText 55 = .ok (.if_icmp .ge 16, 3) := by decide +kernel
theorem d_Book_cellOfText_58 : decode b_Book_cellOfText 58 = .ok (.aload 5, 2) := by decide +kernel
theorem d_Book_cellOfText_60 : decode b_Book_cellOfText 60 = .ok (.iload 6, 2) := by decide +kernel
theorem d_Book_cellOfText_62 : decode b_Book_cellOfText 62 = .ok (.iload_n 3, 1) := by decide +kernel
theorem d_Book_cellOfText_63 : decode b_Book_cellOfText 63 = .ok (.aload_n 0, 1) := by decide +kernel
theorem d_Book_cellOfText_64 : decode b_Book_cellOfText 64 = .ok (.getfield 24, 3) := by decide +kernel
theorem d_Book_cellOfText_67 : decode b_Book_cellOfText 67 = .ok (.invokevirtual 60, 3) := by decide +kernel
theorem d_Book_cellOfText_70 : decode b_Book_cellOfText 70 = .ok (.ireturn, 1) := by decide +kernel
theorem d_Book_cellOfText_71 : decode b_Book_cellOfText 71 = .ok (.iinc 4 1, 3) := by decide +kernel
theorem d_Book_cellOfText_74 : decode b_Book_cellOfText 74 = .ok (.goto (-71), 3) := by decide +kernel
theorem d_Book_cellOfText_77 : decode b_Book_cellOfText 77 = .ok (.iconst 0, 1) := by decide +kernel
theorem d_Book_cellOfText_78 : decode b_Book_cellOfText 78 = .ok (.ireturn, 1) := by decide +kernel
theorem d_Book_cellOfNumber_0 : decode b_Book_cellOfNumber 0 = .ok (.iload_n 1, 1) := by decide +kernel
theorem d_Book_cellOfNumber_1 : decode b_Book_cellOfNumber 1 = .ok (.istore_n 3, 1) := by decide +kernel
theorem d_Book_cellOfNumber_2 : decode b_Book_cellOfNumber 2 = .ok (.iload_n 1, 1) := by decide +kernel
theorem d_Book_cellOfNumber_3 : decode b_Book_cellOfNumber 3 = .ok (.istore 4, 2) := by decide +kernel
theorem d_Book_cellOfNumber_5 : decode b_Book_cellOfNumber 5 = .ok (.aload_n 0, 1) := by decide +kernel
theorem d_Book_cellOfNumber_6 : decode b_Book_cellOfNumber 6 = .ok (.getfield 24, 3) := by decide +kernel
theorem d_Book_cellOfNumber_9 : decode b_Book_cellOfNumber 9 = .ok (.iconst 1, 1) := by decide +kernel
theorem d_Book_cellOfNumber_10 : decode b_Book_cellOfNumber 10 = .ok (.isub, 1) := by decide +kernel
theorem d_Book_cellOfNumber_11 : decode b_Book_cellOfNumber 11 = .ok (.istore 5, 2) := by decide +kernel
theorem d_Book_cellOfNumber_13 : decode b_Book_cellOfNumber 13 = .ok (.iload 5, 2) := by decide +kernel
theorem d_Book_cellOfNumber_15 : decode b_Book_cellOfNumber 15 = .ok (.iload_n 2, 1) := by decide +kernel
theorem d_Book_cellOfNumber_16 : decode b_Book_cellOfNumber 16 = .ok (.if_icmp .le 17, 3) := by decide +kernel
theorem d_Book_cellOfNumber_19 : decode b_Book_cellOfNumber 19 = .ok (.iload_n 3, 1) := by decide +kernel
theorem d_Book_cellOfNumber_20 : decode b_Book_cellOfNumber 20 = .ok (.istore 4, 2) := by decide +kernel
theorem d_Book_cellOfNumber_22 : decode b_Book_cellOfNumber 22 = .ok (.iload_n 3, 1) := by decide +kernel
theorem d_Book_cellOfNumber_23 : decode b_Book_cellOfNumber 23 = .ok (.bipush 10, 2) := by decide +kernel
theorem d_Book_cellOfNumber_25 : decode b_Book_cellOfNumber 25 = .ok (.idiv, 1) := by decide +kernel
theorem d_Book_cellOfNumber_26 : decode b_Book_cellOfNumber 26 = .ok (.istore_n 3, 1) := by decide +kernel
theorem d_Book_cellOfNumber_27 : decode b_Book_cellOfNumber 27 = .ok (.iinc 5 (-1), 3) := by decide +kernel
theorem d_Book_cellOfNumber_30 : decode b_Book_cellOfNumber 30 = .ok (.goto (-17), 3) := by decide +kernel
theorem d_Book_cellOfNumber_33 : decode b_Book_cellOfNumber 33 = .ok (.iload_n 3, 1) := by decide +kernel
theorem d_Book_cellOfNumber_34 : decode b_Book_cellOfNumber 34 = .ok (.ifCond .le 15, 3) := by decide +kernel
theorem d_Book_cellOfNumber_37 : decode b_Book_cellOfNumber 37 = .ok (.bipush 48, 2) := by decide +kernel
theorem d_Book_cellOfNumber_39 : decode b_Book_cellOfNumber 39 = .ok (.iload_n 3, 1) := by decide +kernel
theorem d_Book_cellOfNumber_40 : decode b_Book_cellOfNumber 40 = .ok (.bipush 10, 2) := by decide +kernel
theorem d_Book_cellOfNumber_42 : decode b_Book_cellOfNumber 42 = .ok (.irem, 1) := by decide +kernel
theorem d_Book_cellOfNumber_43 : decode b_Book_cellOfNumber 43 = .ok (.iadd, 1) := by decide +kernel
theorem d_Book_cellOfNumber_44 : decode b_Book_cellOfNumber 44 = .ok (.i2c, 1) := by decide +kernel
theorem d_Book_cellOfNumber_45 : decode b_Book_cellOfNumber 45 = .ok (.invokestatic 64, 3) := by decide +kernel
theorem d_Book_cellOfNumber_48 : decode b_Book_cellOfNumber 48 = .ok (.ireturn, 1) := by decide +kernel
theorem d_Book_cellOfNumber_49 : decode b_Book_cellOfNumber 49 = .ok (.iload 4, 2) := by decide +kernel
theorem d_Book_cellOfNumber_51 : decode b_Book_cellOfNumber 51 = .ok (.ifCond .le 8, 3) := by decide +kernel
theorem d_Book_cellOfNumber_54 : decode b_Book_cellOfNumber 54 = .ok (.bipush 60, 2) := by decide +kernel
theorem d_Book_cellOfNumber_56 : decode b_Book_cellOfNumber 56 = .ok (.goto 4, 3) := by decide +kernel
theorem d_Book_cellOfNumber_59 : decode b_Book_cellOfNumber 59 = .ok (.iconst 0, 1) := by decide +kernel
theorem d_Book_cellOfNumber_60 : decode b_Book_cellOfNumber 60 = .ok (.ireturn, 1) := by decide +kernel
theorem d_Law_cell_0_0 : decode b_Law_cell_0 0 = .ok (.iload_n 1, 1) := by decide +kernel
theorem d_Law_cell_0_1 : decode b_Law_cell_0 1 = .ok (.aload_n 0, 1) := by decide +kernel
theorem d_Law_cell_0_2 : decode b_Law_cell_0 2 = .ok (.arraylength, 1) := by decide +kernel
theorem d_Law_cell_0_3 : decode b_Law_cell_0 3 = .ok (.if_icmp .ge 9, 3) := by decide +kernel
theorem d_Law_cell_0_6 : decode b_Law_cell_0 6 = .ok (.aload_n 0, 1) := by decide +kernel
theorem d_Law_cell_0_7 : decode b_Law_cell_0 7 = .ok (.iload_n 1, 1) := by decide +kernel
theorem d_Law_cell_0_8 : decode b_Law_cell_0 8 = .ok (.iaload, 1) := by decide +kernel
theorem d_Law_cell_0_9 : decode b_Law_cell_0 9 = .ok (.goto 4, 3) := by decide +kernel
theorem d_Law_cell_0_12 : decode b_Law_cell_0 12 = .ok (.iconst 0, 1) := by decide +kernel
theorem d_Law_cell_0_13 : decode b_Law_cell_0 13 = .ok (.ireturn, 1) := by decide +kernel
theorem d_Law_type_0 : decode b_Law_type 0 = .ok (.aload_n 2, 1) := by decide +kernel
theorem d_Law_type_1 : decode b_Law_type 1 = .ok (.iconst 0, 1) := by decide +kernel
theorem d_Law_type_2 : decode b_Law_type 2 = .ok (.aload_n 0, 1) := by decide +kernel
theorem d_Law_type_3 : decode b_Law_type 3 = .ok (.iload_n 1, 1) := by decide +kernel
theorem d_Law_type_4 : decode b_Law_type 4 = .ok (.invokevirtual 7, 3) := by decide +kernel
theorem d_Law_type_7 : decode b_Law_type 7 = .ok (.i2l, 1) := by decide +kernel
theorem d_Law_type_8 : decode b_Law_type 8 = .ok (.lastore, 1) := by decide +kernel
theorem d_Law_type_9 : decode b_Law_type 9 = .ok (.goto 9, 3) := by decide +kernel
theorem d_Law_type_12 : decode b_Law_type 12 = .ok (.astore_n 3, 1) := by decide +kernel
theorem d_Law_type_13 : decode b_Law_type 13 = .ok (.iconst 1, 1) := by decide +kernel
theorem d_Law_type_14 : decode b_Law_type 14 = .ok (.ireturn, 1) := by decide +kernel
theorem d_Law_type_15 : decode b_Law_type 15 = .ok (.astore_n 3, 1) := by decide +kernel
theorem d_Law_type_16 : decode b_Law_type 16 = .ok (.iconst 2, 1) := by decide +kernel
theorem d_Law_type_17 : decode b_Law_type 17 = .ok (.ireturn, 1) := by decide +kernel
theorem d_Law_type_18 : decode b_Law_type 18 = .ok (.iconst 0, 1) := by decide +kernel
theorem d_Law_type_19 : decode b_Law_type 19 = .ok (.ireturn, 1) := by decide +kernel
theorem d_Law_rules_0 : decode b_Law_rules 0 = .ok (.aload_n 2, 1) := by decide +kernel
theorem d_Law_rules_1 : decode b_Law_rules 1 = .ok (.iconst 0, 1) := by decide +kernel
theorem d_Law_rules_2 : decode b_Law_rules 2 = .ok (.aload_n 0, 1) := by decide +kernel
theorem d_Law_rules_3 : decode b_Law_rules 3 = .ok (.iload_n 1, 1) := by decide +kernel
theorem d_Law_rules_4 : decode b_Law_rules 4 = .ok (.invokevirtual 17, 3) := by decide +kernel
theorem d_Law_rules_7 : decode b_Law_rules 7 = .ok (.i2l, 1) := by decide +kernel
theorem d_Law_rules_8 : decode b_Law_rules 8 = .ok (.lastore, 1) := by decide +kernel
theorem d_Law_rules_9 : decode b_Law_rules 9 = .ok (.goto 6, 3) := by decide +kernel
theorem d_Law_rules_12 : decode b_Law_rules 12 = .ok (.astore_n 3, 1) := by decide +kernel
theorem d_Law_rules_13 : decode b_Law_rules 13 = .ok (.iconst 1, 1) := by decide +kernel
theorem d_Law_rules_14 : decode b_Law_rules 14 = .ok (.ireturn, 1) := by decide +kernel
theorem d_Law_rules_15 : decode b_Law_rules 15 = .ok (.iconst 0, 1) := by decide +kernel
theorem d_Law_rules_16 : decode b_Law_rules 16 = .ok (.ireturn, 1) := by decide +kernel
theorem d_Law_block_0 : decode b_Law_block 0 = .ok (.aload_n 2, 1) := by decide +kernel
theorem d_Law_block_1 : decode b_Law_block 1 = .ok (.iconst 0, 1) := by decide +kernel
theorem d_Law_block_2 : decode b_Law_block 2 = .ok (.aload_n 0, 1) := by decide +kernel
theorem d_Law_block_3 : decode b_Law_block 3 = .ok (.iload_n 1, 1) := by decide +kernel
theorem d_Law_block_4 : decode b_Law_block 4 = .ok (.invokevirtual 21, 3) := by decide +kernel
theorem d_Law_block_7 : decode b_Law_block 7 = .ok (.i2l, 1) := by decide +kernel
theorem d_Law_block_8 : decode b_Law_block 8 = .ok (.lastore, 1) := by decide +kernel
theorem d_Law_block_9 : decode b_Law_block 9 = .ok (.goto 9, 3) := by decide +kernel
theorem d_Law_block_12 : decode b_Law_block 12 = .ok (.astore_n 3, 1) := by decide +kernel
theorem d_Law_block_13 : decode b_Law_block 13 = .ok (.iconst 1, 1) := by decide +kernel
theorem d_Law_block_14 : decode b_Law_block 14 = .ok (.ireturn, 1) := by decide +kernel
theorem d_Law_block_15 : decode b_Law_block 15 = .ok (.astore_n 3, 1) := by decide +kernel
theorem d_Law_block_16 : decode b_Law_block 16 = .ok (.iconst 2, 1) := by decide +kernel
theorem d_Law_block_17 : decode b_Law_block 17 = .ok (.ireturn, 1) := by decide +kernel
theorem d_Law_block_18 : decode b_Law_block 18 = .ok (.iconst 0, 1) := by decide +kernel
theorem d_Law_block_19 : decode b_Law_block 19 = .ok (.ireturn, 1) := by decide +kernel
theorem d_Law_size_0 : decode b_Law_size 0 = .ok (.aload_n 2, 1) := by decide +kernel
theorem d_Law_size_1 : decode b_Law_size 1 = .ok (.iconst 0, 1) := by decide +kernel
theorem d_Law_size_2 : decode b_Law_size 2 = .ok (.aload_n 0, 1) := by decide +kernel
theorem d_Law_size_3 : decode b_Law_size 3 = .ok (.iload_n 1, 1) := by decide +kernel
theorem d_Law_size_4 : decode b_Law_size 4 = .ok (.invokevirtual 25, 3) := by decide +kernel
theorem d_Law_size_7 : decode b_Law_size 7 = .ok (.i2l, 1) := by decide +kernel
theorem d_Law_size_8 : decode b_Law_size 8 = .ok (.lastore, 1) := by decide +kernel
theorem d_Law_size_9 : decode b_Law_size 9 = .ok (.goto 6, 3) := by decide +kernel
theorem d_Law_size_12 : decode b_Law_size 12 = .ok (.astore_n 3, 1) := by decide +kernel
theorem d_Law_size_13 : decode b_Law_size 13 = .ok (.iconst 1, 1) := by decide +kernel
theorem d_Law_size_14 : decode b_Law_size 14 = .ok (.ireturn, 1) := by decide +kernel
theorem d_Law_size_15 : decode b_Law_size 15 = .ok (.iconst 0, 1) := by decide +kernel
theorem d_Law_size_16 : decode b_Law_size 16 = .ok (.ireturn, 1) := by decide +kernel
theorem d_Law_cell_1_0 : decode b_Law_cell_1 0 = .ok (.aload_n 3, 1) := by decide +kernel
theorem d_Law_cell_1_1 : decode b_Law_cell_1 1 = .ok (.iconst 0, 1) := by decide +kernel
theorem d_Law_cell_1_2 : decode b_Law_cell_1 2 = .ok (.aload_n 0, 1) := by decide +kernel
theorem d_Law_cell_1_3 : decode b_Law_cell_1 3 = .ok (.iload_n 1, 1) := by decide +kernel
theorem d_Law_cell_1_4 : decode b_Law_cell_1 4 = .ok (.iload_n 2, 1) := by decide +kernel
theorem d_Law_cell_1_5 : decode b_Law_cell_1 5 = .ok (.invokevirtual 30, 3) := by decide +kernel
theorem d_Law_cell_1_8 : decode b_Law_cell_1 8 = .ok (.i2l, 1) := by decide +kernel
theorem d_Law_cell_1_9 : decode b_Law_cell_1 9 = .ok (.lastore, 1) := by decide +kernel
theorem d_Law_cell_1_10 : decode b_Law_cell_1 10 = .ok (.goto 7, 3) := by decide +kernel
theorem d_Law_cell_1_13 : decode b_Law_cell_1 13 = .ok (.astore 4, 2) := by decide +kernel
theorem d_Law_cell_1_15 : decode b_Law_cell_1 15 = .ok (.iconst 1, 1) := by decide +kernel
theorem d_Law_cell_1_16 : decode b_Law_cell_1 16 = .ok (.ireturn, 1) := by decide +kernel
theorem d_Law_cell_1_17 : decode b_Law_cell_1 17 = .ok (.iconst 0, 1) := by decide +kernel
theorem d_Law_cell_1_18 : decode b_Law_cell_1 18 = .ok (.ireturn, 1) := by decide +kernel
theorem d_Law_back_0 : decode b_Law_back 0 = .ok (.aload_n 2, 1) := by decide +kernel
theorem d_Law_back_1 : decode b_Law_back 1 = .ok (.iconst 0, 1) := by decide +kernel
theorem d_Law_back_2 : decode b_Law_back 2 = .ok (.aload_n 0, 1) := by decide +kernel
theorem d_Law_back_3 : decode b_Law_back 3 = .ok (.iload_n 1, 1) := by decide +kernel
theorem d_Law_back_4 : decode b_Law_back 4 = .ok (.invokevirtual 34, 3) := by decide +kernel
theorem d_Law_back_7 : decode b_Law_back 7 = .ok (.i2l, 1) := by decide +kernel
theorem d_Law_back_8 : decode b_Law_back 8 = .ok (.lastore, 1) := by decide +kernel
theorem d_Law_back_9 : decode b_Law_back 9 = .ok (.goto 6, 3) := by decide +kernel
theorem d_Law_back_12 : decode b_Law_back 12 = .ok (.astore_n 3, 1) := by decide +kernel
theorem d_Law_back_13 : decode b_Law_back 13 = .ok (.iconst 1, 1) := by decide +kernel
theorem d_Law_back_14 : decode b_Law_back 14 = .ok (.ireturn, 1) := by decide +kernel
theorem d_Law_back_15 : decode b_Law_back 15 = .ok (.iconst 0, 1) := by decide +kernel
theorem d_Law_back_16 : decode b_Law_back 16 = .ok (.ireturn, 1) := by decide +kernel
theorem d_Law_at_0 : decode b_Law_at 0 = .ok (.aload 4, 2) := by decide +kernel
theorem d_Law_at_2 : decode b_Law_at 2 = .ok (.iconst 0, 1) := by decide +kernel
theorem d_Law_at_3 : decode b_Law_at 3 = .ok (.aload_n 0, 1) := by decide +kernel
theorem d_Law_at_4 : decode b_Law_at 4 = .ok (.iload_n 1, 1) := by decide +kernel
theorem d_Law_at_5 : decode b_Law_at 5 = .ok (.iload_n 2, 1) := by decide +kernel
theorem d_Law_at_6 : decode b_Law_at 6 = .ok (.iload_n 3, 1) := by decide +kernel
theorem d_Law_at_7 : decode b_Law_at 7 = .ok (.invokevirtual 37, 3) := by decide +kernel
theorem d_Law_at_10 : decode b_Law_at 10 = .ok (.i2l, 1) := by decide +kernel
theorem d_Law_at_11 : decode b_Law_at 11 = .ok (.lastore, 1) := by decide +kernel
theorem d_Law_at_12 : decode b_Law_at 12 = .ok (.goto 7, 3) := by decide +kernel
theorem d_Law_at_15 : decode b_Law_at 15 = .ok (.astore 5, 2) := by decide +kernel
theorem d_Law_at_17 : decode b_Law_at 17 = .ok (.iconst 1, 1) := by decide +kernel
theorem d_Law_at_18 : decode b_Law_at 18 = .ok (.ireturn, 1) := by decide +kernel
theorem d_Law_at_19 : decode b_Law_at 19 = .ok (.iconst 0, 1) := by decide +kernel
theorem d_Law_at_20 : decode b_Law_at 20 = .ok (.ireturn, 1) := by decide +kernel
theorem d_Law_where_0 : decode b_Law_where 0 = .ok (.aload_n 2, 1) := by decide +kernel
theorem d_Law_where_1 : decode b_Law_where 1 = .ok (.iconst 0, 1) := by decide +kernel
theorem d_Law_where_2 : decode b_Law_where 2 = .ok (.aload_n 0, 1) := by decide +kernel
theorem d_Law_where_3 : decode b_Law_where 3 = .ok (.iload_n 1, 1) := by decide +kernel
theorem d_Law_where_4 : decode b_Law_where 4 = .ok (.invokevirtual 41, 3) := by decide +kernel
theorem d_Law_where_7 : decode b_Law_where 7 = .ok (.i2l, 1) := by decide +kernel
theorem d_Law_where_8 : decode b_Law_where 8 = .ok (.lastore, 1) := by decide +kernel
theorem d_Law_where_9 : decode b_Law_where 9 = .ok (.goto 6, 3) := by decide +kernel
theorem d_Law_where_12 : decode b_Law_where 12 = .ok (.astore_n 3, 1) := by decide +kernel
theorem d_Law_where_13 : decode b_Law_where 13 = .ok (.iconst 1, 1) := by decide +kernel
theorem d_Law_where_14 : decode b_Law_where 14 = .ok (.ireturn, 1) := by decide +kernel
theorem d_Law_where_15 : decode b_Law_where 15 = .ok (.iconst 0, 1) := by decide +kernel
theorem d_Law_where_16 : decode b_Law_where 16 = .ok (.ireturn, 1) := by decide +kernel
theorem d_Law_law_0 : decode b_Law_law 0 = .ok (.new 8, 3) := by decide +kernel
theorem d_Law_law_3 : decode b_Law_law 3 = .ok (.dup, 1) := by decide +kernel
theorem d_Law_law_4 : decode b_Law_law 4 = .ok (.aload_n 0, 1) := by decide +kernel
theorem d_Law_law_5 : decode b_Law_law 5 = .ok (.iconst 0, 1) := by decide +kernel
theorem d_Law_law_6 : decode b_Law_law 6 = .ok (.invokestatic 44, 3) := by decide +kernel
theorem d_Law_law_9 : decode b_Law_law 9 = .ok (.aload_n 0, 1) := by decide +kernel
theorem d_Law_law_10 : decode b_Law_law 10 = .ok (.iconst 1, 1) := by decide +kernel
theorem d_Law_law_11 : decode b_Law_law 11 = .ok (.invokestatic 44, 3) := by decide +kernel
theorem d_Law_law_14 : decode b_Law_law 14 = .ok (.invokespecial 49, 3) := by decide +kernel
theorem d_Law_law_17 : decode b_Law_law 17 = .ok (.astore_n 1, 1) := by decide +kernel
theorem d_Law_law_18 : decode b_Law_law 18 = .ok (.new 52, 3) := by decide +kernel
theorem d_Law_law_21 : decode b_Law_law 21 = .ok (.dup, 1) := by decide +kernel
theorem d_Law_law_22 : decode b_Law_law 22 = .ok (.aload_n 0, 1) := by decide +kernel
theorem d_Law_law_23 : decode b_Law_law 23 = .ok (.iconst 0, 1) := by decide +kernel
theorem d_Law_law_24 : decode b_Law_law 24 = .ok (.invokestatic 44, 3) := by decide +kernel
theorem d_Law_law_27 : decode b_Law_law 27 = .ok (.aload_n 0, 1) := by decide +kernel
theorem d_Law_law_28 : decode b_Law_law 28 = .ok (.iconst 1, 1) := by decide +kernel
theorem d_Law_law_29 : decode b_Law_law 29 = .ok (.invokestatic 44, 3) := by decide +kernel
theorem d_Law_law_32 : decode b_Law_law 32 = .ok (.invokespecial 54, 3) := by decide +kernel
theorem d_Law_law_35 : decode b_Law_law 35 = .ok (.astore_n 2, 1) := by decide +kernel
theorem d_Law_law_36 : decode b_Law_law 36 = .ok (.iconst 1, 1) := by decide +kernel
theorem d_Law_law_37 : decode b_Law_law 37 = .ok (.newarray .long, 2) := by decide +kernel
theorem d_Law_law_39 : decode b_Law_law 39 = .ok (.astore_n 3, 1) := by decide +kernel
theorem d_Law_law_40 : decode b_Law_law 40 = .ok (.iconst 2, 1) := by decide +kernel
theorem d_Law_law_41 : decode b_Law_law 41 = .ok (.istore 4, 2) := by decide +kernel
theorem d_Law_law_43 : decode b_Law_law 43 = .ok (.iload 4, 2) := by decide +kernel
theorem d_Law_law_45 : decode b_Law_law 45 = .ok (.aload_n 0, 1) := by decide +kernel
theorem d_Law_law_46 : decode b_Law_law 46 = .ok (.arraylength, 1) := by decide +kernel
theorem d_Law_law_47 : decode b_Law_law 47 = .ok (.iconst 4, 1) := by decide +kernel
theorem d_Law_law_48 : decode b_Law_law 48 = .ok (.isub, 1) := by decide +kernel
theorem d_Law_law_49 : decode b_Law_law 49 = .ok (.if_icmp .gt 685, 3) := by decide +kernel
theorem d_Law_law_52 : decode b_Law_law 52 = .ok (.aload_n 0, 1) := by decide +kernel
theorem d_Law_law_53 : decode b_Law_law 53 = .ok (.iload 4, 2) := by decide +kernel
theorem d_Law_law_55 : decode b_Law_law 55 = .ok (.iaload, 1) := by decide +kernel
theorem d_Law_law_56 : decode b_Law_law 56 = .ok (.bipush 15, 2) := by decide +kernel
theorem d_Law_law_58 : decode b_Law_law 58 = .ok (.iand, 1) := by decide +kernel
theorem d_Law_law_59 : decode b_Law_law 59 = .ok (.tableswitch 669 0 13 #[69, 127, 138, 210, 223, 279, 335, 403, 459, 484, 497, 577, 633, 658], 69) := by decide +kernel
theorem d_Law_law_128 : decode b_Law_law 128 = .ok (.aload_n 1, 1) := by decide +kernel
theorem d_Law_law_129 : decode b_Law_law 129 = .ok (.aload_n 0, 1) := by decide +kernel
theorem d_Law_law_130 : decode b_Law_law 130 = .ok (.iload 4, 2) := by decide +kernel
theorem d_Law_law_132 : decode b_Law_law 132 = .ok (.iconst 1, 1) := by decide +kernel
theorem d_Law_law_133 : decode b_Law_law 133 = .ok (.iadd, 1) := by decide +kernel
theorem d_Law_law_134 : decode b_Law_law 134 = .ok (.iaload, 1) := by decide +kernel
theorem d_Law_law_135 : decode b_Law_law 135 = .ok (.i2c, 1) := by decide +kernel
theorem d_Law_law_136 : decode b_Law_law 136 = .ok (.aload_n 3, 1) := by decide +kernel
theorem d_Law_law_137 : decode b_Law_law 137 = .ok (.invokestatic 55, 3) := by decide +kernel
theorem d_Law_law_140 : decode b_Law_law 140 = .ok (.istore 5, 2) := by decide +kernel
theorem d_Law_law_142 : decode b_Law_law 142 = .ok (.aload_n 2, 1) := by decide +kernel
theorem d_Law_law_143 : decode b_Law_law 143 = .ok (.aload_n 0, 1) := by decide +kernel
theorem d_Law_law_144 : decode b_Law_law 144 = .ok (.iload 4, 2) := by decide +kernel
theorem d_Law_law_146 : decode b_Law_law 146 = .ok (.iconst 1, 1) := by decide +kernel
theorem d_Law_law_147 : decode b_Law_law 147 = .ok (.iadd, 1) := by decide +kernel
theorem d_Law_law_148 : decode b_Law_law 148 = .ok (.iaload, 1) := by decide +kernel
theorem d_Law_law_149 : decode b_Law_law 149 = .ok (.i2c, 1) := by decide +kernel
theorem d_Law_law_150 : decode b_Law_law 150 = .ok (.invokevirtual 58, 3) := by decide +kernel
theorem d_Law_law_153 : decode b_Law_law 153 = .ok (.istore 6, 2) := by decide +kernel
theorem d_Law_law_155 : decode b_Law_law 155 = .ok (.aload_n 2, 1) := by decide +kernel
theorem d_Law_law_156 : decode b_Law_law 156 = .ok (.invokevirtual 59, 3) := by decide +kernel
theorem d_Law_law_159 : decode b_Law_law 159 = .ok (.iload 5, 2) := by decide +kernel
theorem d_Law_law_161 : decode b_Law_law 161 = .ok (.if_icmp .eq 5, 3) := by decide +kernel
theorem d_Law_law_164 : decode b_Law_law 164 = .ok (.iconst 0, 1) := by decide +kernel
theorem d_Law_law_165 : decode b_Law_law 165 = .ok (.ireturn, 1) := by decide +kernel
theorem d_Law_law_166 : decode b_Law_law 166 = .ok (.iload 5, 2) := by decide +kernel
theorem d_Law_law_168 : decode b_Law_law 168 = .ok (.ifCond .ne 15, 3) := by decide +kernel
theorem d_Law_law_171 : decode b_Law_law 171 = .ok (.aload_n 3, 1) := by decide +kernel
theorem d_Law_law_172 : decode b_Law_law 172 = .ok (.iconst 0, 1) := by decide +kernel
theorem d_Law_law_173 : decode b_Law_law 173 = .ok (.laload, 1) := by decide +kernel
theorem d_Law_law_174 : decode b_Law_law 174 = .ok (.iload 6, 2) := by decide +kernel
theorem d_Law_law_176 : decode b_Law_law 176 = .ok (.i2l, 1) := by decide +kernel
theorem d_Law_law_177 : decode b_Law_law 177 = .ok (.lcmp, 1) := by decide +kernel
theorem d_Law_law_178 : decode b_Law_law 178 = .ok (.ifCond .eq 5, 3) := by decide +kernel
theorem d_Law_law_181 : decode b_Law_law 181 = .ok (.iconst 0, 1) := by decide +kernel
theorem d_Law_law_182 : decode b_Law_law 182 = .ok (.ireturn, 1) := by decide +kernel
theorem d_Law_law_183 : decode b_Law_law 183 = .ok (.goto 545, 3) := by decide +kernel
theorem d_Law_law_186 : decode b_Law_law 186 = .ok (.aload_n 1, 1) := by decide +kernel
theorem d_Law_law_187 : decode b_Law_law 187 = .ok (.invokevirtual 63, 3) := by decide +kernel
theorem d_Law_law_190 : decode b_Law_law 190 = .ok (.aload_n 2, 1) := by decide +kernel
theorem d_Law_law_191 : decode b_Law_law 191 = .ok (.invokevirtual 66, 3) := by decide +kernel
theorem d_Law_law_194 : decode b_Law_law 194 = .ok (.goto 534, 3) := by decide +kernel
theorem d_Law_law_197 : decode b_Law_law 197 = .ok (.aload_n 1, 1) := by decide +kernel
theorem d_Law_law_198 : decode b_Law_law 198 = .ok (.aload_n 0, 1) := by decide +kernel
theorem d_Law_law_199 : decode b_Law_law 199 = .ok (.iload 4, 2) := by decide +kernel
theorem d_Law_law_201 : decode b_Law_law 201 = .ok (.iconst 1, 1) := by decide +kernel
theorem d_Law_law_202 : decode b_Law_law 202 = .ok (.iadd, 1) := by decide +kernel
theorem d_Law_law_203 : decode b_Law_law 203 = .ok (.iaload, 1) := by decide +kernel
theorem d_Law_law_204 : decode b_Law_law 204 = .ok (.ifCond .eq 7, 3) := by decide +kernel
theorem d_Law_law_207 : decode b_Law_law 207 = .ok (.iconst 1, 1) := by decide +kernel
theorem d_Law_law_208 : decode b_Law_law 208 = .ok (.goto 4, 3) := by decide +kernel
theorem d_Law_law_211 : decode b_Law_law 211 = .ok (.iconst 0, 1) := by decide +kernel
theorem d_Law_law_212 : decode b_Law_law 212 = .ok (.aload_n 3, 1) := by decide +kernel
theorem d_Law_law_213 : decode b_Law_law 213 = .ok (.invokestatic 67, 3) := by decide +kernel
theorem d_Law_law_216 : decode b_Law_law 216 = .ok (.istore 5, 2) := by decide +kernel
theorem d_Law_law_218 : decode b_Law_law 218 = .ok (.aload_n 2, 1) := by decide +kernel
theorem d_Law_law_219 : decode b_Law_law 219 = .ok (.aload_n 0, 1) := by decide +kernel
theorem d_Law_law_220 : decode b_Law_law 220 = .ok (.iload 4, 2) := by decide +kernel
theorem d_Law_law_222 : decode b_Law_law 222 = .ok (.iconst 1, 1) := by decide +kernel
theorem d_Law_law_223 : decode b_Law_law 223 = .ok (.iadd, 1) := by decide +kernel
theorem d_Law_law_224 : decode b_Law_law 224 = .ok (.iaload, 1) := by decide +kernel
theorem d_Law_law_225 : decode b_Law_law 225 = .ok (.ifCond .eq 7, 3) := by decide +kernel
theorem d_Law_law_228 : decode b_Law_law 228 = .ok (.iconst 1, 1) := by decide +kernel
theorem d_Law_law_229 : decode b_Law_law 229 = .ok (.goto 4, 3) := by decide +kernel
theorem d_Law_law_232 : decode b_Law_law 232 = .ok (.iconst 0, 1) := by decide +kernel
theorem d_Law_law_233 : decode b_Law_law 233 = .ok (.invokevirtual 70, 3) := by decide +kernel
theorem d_Law_law_236 : decode b_Law_law 236 = .ok (.istore 6, 2) := by decide +kernel
theorem d_Law_law_238 : decode b_Law_law 238 = .ok (.aload_n 2, 1) := by decide +kernel
theorem d_Law_law_239 : decode b_Law_law 239 = .ok (.invokevirtual 59, 3) := by decide +kernel
theorem d_Law_law_242 : decode b_Law_law 242 = .ok (.iload 5, 2) := by decide +kernel
theorem d_Law_law_244 : decode b_Law_law 244 = .ok (.if_icmp .eq 5, 3) := by decide +kernel
theorem d_Law_law_247 : decode b_Law_law 247 = .ok (.iconst 0, 1) := by decide +kernel
theorem d_Law_law_248 : decode b_Law_law 248 = .ok (.ireturn, 1) := by decide +kernel
theorem d_Law_law_249 : decode b_Law_law 249 = .ok (.iload 5, 2) := by decide +kernel
theorem d_Law_law_251 : decode b_Law_law 251 = .ok (.ifCond .ne 15, 3) := by decide +kernel
theorem d_Law_law_254 : decode b_Law_law 254 = .ok (.aload_n 3, 1) := by decide +kernel
theorem d_Law_law_255 : decode b_Law_law 255 = .ok (.iconst 0, 1) := by decide +kernel
theorem d_Law_law_256 : decode b_Law_law 256 = .ok (.laload, 1) := by decide +kernel
theorem d_Law_law_257 : decode b_Law_law 257 = .ok (.iload 6, 2) := by decide +kernel
theorem d_Law_law_259 : decode b_Law_law 259 = .ok (.i2l, 1) := by decide +kernel
theorem d_Law_law_260 : decode b_Law_law 260 = .ok (.lcmp, 1) := by decide +kernel
theorem d_Law_law_261 : decode b_Law_law 261 = .ok (.ifCond .eq 5, 3) := by decide +kernel
theorem d_Law_law_264 : decode b_Law_law 264 = .ok (.iconst 0, 1) := by decide +kernel
theorem d_Law_law_265 : decode b_Law_law 265 = .ok (.ireturn, 1) := by decide +kernel
theorem d_Law_law_266 : decode b_Law_law 266 = .ok (.goto 462, 3) := by decide +kernel
theorem d_Law_law_269 : decode b_Law_law 269 = .ok (.aload_n 1, 1) := by decide +kernel
theorem d_Law_law_270 : decode b_Law_law 270 = .ok (.invokevirtual 71, 3) := by decide +kernel
theorem d_Law_law_273 : decode b_Law_law 273 = .ok (.aload_n 2, 1) := by decide +kernel
theorem d_Law_law_274 : decode b_Law_law 274 = .ok (.invokevirtual 74, 3) := by decide +kernel
theorem d_Law_law_277 : decode b_Law_law 277 = .ok (.if_icmp .eq 451, 3) := by decide +kernel
theorem d_Law_law_280 : decode b_Law_law 280 = .ok (.iconst 0, 1) := by decide +kernel
theorem d_Law_law_281 : decode b_Law_law 281 = .ok (.ireturn, 1) := by decide +kernel
theorem d_Law_law_282 : decode b_Law_law 282 = .ok (.aload_n 1, 1) := by decide +kernel
theorem d_Law_law_283 : decode b_Law_law 283 = .ok (.aload_n 0, 1) := by decide +kernel
theorem d_Law_law_284 : decode b_Law_law 284 = .ok (.iload 4, 2) := by decide +kernel
theorem d_Law_law_286 : decode b_Law_law 286 = .ok (.iconst 1, 1) := by decide +kernel
theorem d_Law_law_287 : decode b_Law_law 287 = .ok (.iadd, 1) := by decide +kernel
theorem d_Law_law_288 : decode b_Law_law 288 = .ok (.iaload, 1) := by decide +kernel
theorem d_Law_law_289 : decode b_Law_law 289 = .ok (.aload_n 3, 1) := by decide +kernel
theorem d_Law_law_290 : decode b_Law_law 290 = .ok (.invokestatic 75, 3) := by decide +kernel
theorem d_Law_law_293 : decode b_Law_law 293 = .ok (.istore 5, 2) := by decide +kernel
theorem d_Law_law_295 : decode b_Law_law 295 = .ok (.aload_n 2, 1) := by decide +kernel
theorem d_Law_law_296 : decode b_Law_law 296 = .ok (.aload_n 0, 1) := by decide +kernel
theorem d_Law_law_297 : decode b_Law_law 297 = .ok (.iload 4, 2) := by decide +kernel
theorem d_Law_law_299 : decode b_Law_law 299 = .ok (.iconst 1, 1) := by decide +kernel
theorem d_Law_law_300 : decode b_Law_law 300 = .ok (.iadd, 1) := by decide +kernel
theorem d_Law_law_301 : decode b_Law_law 301 = .ok (.iaload, 1) := by decide +kernel
theorem d_Law_law_302 : decode b_Law_law 302 = .ok (.invokevirtual 78, 3) := by decide +kernel
theorem d_Law_law_305 : decode b_Law_law 305 = .ok (.istore 6, 2) := by decide +kernel
theorem d_Law_law_307 : decode b_Law_law 307 = .ok (.aload_n 2, 1) := by decide +kernel
theorem d_Law_law_308 : decode b_Law_law 308 = .ok (.invokevirtual 59, 3) := by decide +kernel
theorem d_Law_law_311 : decode b_Law_law 311 = .ok (.iload 5, 2) := by decide +kernel
theorem d_Law_law_313 : decode b_Law_law 313 = .ok (.if_icmp .eq 5, 3) := by decide +kernel
theorem d_Law_law_316 : decode b_Law_law 316 = .ok (.iconst 0, 1) := by decide +kernel
theorem d_Law_law_317 : decode b_Law_law 317 = .ok (.ireturn, 1) := by decide +kernel
theorem d_Law_law_318 : decode b_Law_law 318 = .ok (.iload 5, 2) := by decide +kernel
theorem d_Law_law_320 : decode b_Law_law 320 = .ok (.ifCond .ne 15, 3) := by decide +kernel
theorem d_Law_law_323 : decode b_Law_law 323 = .ok (.aload_n 3, 1) := by decide +kernel
theorem d_Law_law_324 : decode b_Law_law 324 = .ok (.iconst 0, 1) := by decide +kernel
theorem d_Law_law_325 : decode b_Law_law 325 = .ok (.laload, 1) := by decide +kernel
theorem d_Law_law_326 : decode b_Law_law 326 = .ok (.iload 6, 2) := by decide +kernel
theorem d_Law_law_328 : decode b_Law_law 328 = .ok (.i2l, 1) := by decide +kernel
theorem d_Law_law_329 : decode b_Law_law 329 = .ok (.lcmp, 1) := by decide +kernel
theorem d_Law_law_330 : decode b_Law_law 330 = .ok (.ifCond .eq 5, 3) := by decide +kernel
theorem d_Law_law_333 : decode b_Law_law 333 = .ok (.iconst 0, 1) := by decide +kernel
theorem d_Law_law_334 : decode b_Law_law 334 = .ok (.ireturn, 1) := by decide +kernel
theorem d_Law_law_335 : decode b_Law_law 335 = .ok (.goto 393, 3) := by decide +kernel
theorem d_Law_law_338 : decode b_Law_law 338 = .ok (.aload_n 1, 1) := by decide +kernel
theorem d_Law_law_339 : decode b_Law_law 339 = .ok (.aload_n 0, 1) := by decide +kernel
theorem d_Law_law_340 : decode b_Law_law 340 = .ok (.iload 4, 2) := by decide +kernel
theorem d_Law_law_342 : decode b_Law_law 342 = .ok (.iconst 1, 1) := by decide +kernel
theorem d_Law_law_343 : decode b_Law_law 343 = .ok (.iadd, 1) := by decide +kernel
theorem d_Law_law_344 : decode b_Law_law 344 = .ok (.iaload, 1) := by decide +kernel
theorem d_Law_law_345 : decode b_Law_law 345 = .ok (.aload_n 3, 1) := by decide +kernel
theorem d_Law_law_346 : decode b_Law_law 346 = .ok (.invokestatic 79, 3) := by decide +kernel
theorem d_Law_law_349 : decode b_Law_law 349 = .ok (.istore 5, 2) := by decide +kernel
theorem d_Law_law_351 : decode b_Law_law 351 = .ok (.aload_n 2, 1) := by decide +kernel
theorem d_Law_law_352 : decode b_Law_law 352 = .ok (.aload_n 0, 1) := by decide +kernel
theorem d_Law_law_353 : decode b_Law_law 353 = .ok (.iload 4, 2) := by decide +kernel
theorem d_Law_law_355 : decode b_Law_law 355 = .ok (.iconst 1, 1) := by decide +kernel
theorem d_Law_law_356 : decode b_Law_law 356 = .ok (.iadd, 1) := by decide +kernel
theorem d_Law_law_357 : decode b_Law_law 357 = .ok (.iaload, 1) := by decide +kernel
theorem d_Law_law_358 : decode b_Law_law 358 = .ok (.invokevirtual 81, 3) := by decide +kernel
theorem d_Law_law_361 : decode b_Law_law 361 = .ok (.istore 6, 2) := by decide +kernel
theorem d_Law_law_363 : decode b_Law_law 363 = .ok (.aload_n 2, 1) := by decide +kernel
theorem d_Law_law_364 : decode b_Law_law 364 = .ok (.invokevirtual 59, 3) := by decide +kernel
theorem d_Law_law_367 : decode b_Law_law 367 = .ok (.iload 5, 2) := by decide +kernel
theorem d_Law_law_369 : decode b_Law_law 369 = .ok (.if_icmp .eq 5, 3) := by decide +kernel
theorem d_Law_law_372 : decode b_Law_law 372 = .ok (.iconst 0, 1) := by decide +kernel
theorem d_Law_law_373 : decode b_Law_law 373 = .ok (.ireturn, 1) := by decide +kernel
theorem d_Law_law_374 : decode b_Law_law 374 = .ok (.iload 5, 2) := by decide +kernel
theorem d_Law_law_376 : decode b_Law_law 376 = .ok (.ifCond .ne 15, 3) := by decide +kernel
theorem d_Law_law_379 : decode b_Law_law 379 = .ok (.aload_n 3, 1) := by decide +kernel
theorem d_Law_law_380 : decode b_Law_law 380 = .ok (.iconst 0, 1) := by decide +kernel
theorem d_Law_law_381 : decode b_Law_law 381 = .ok (.laload, 1) := by decide +kernel
theorem d_Law_law_382 : decode b_Law_law 382 = .ok (.iload 6, 2) := by decide +kernel
theorem d_Law_law_384 : decode b_Law_law 384 = .ok (.i2l, 1) := by decide +kernel
theorem d_Law_law_385 : decode b_Law_law 385 = .ok (.lcmp, 1) := by decide +kernel
theorem d_Law_law_386 : decode b_Law_law 386 = .ok (.ifCond .eq 5, 3) := by decide +kernel
theorem d_Law_law_389 : decode b_Law_law 389 = .ok (.iconst 0, 1) := by decide +kernel
theorem d_Law_law_390 : decode b_Law_law 390 = .ok (.ireturn, 1) := by decide +kernel
theorem d_Law_law_391 : decode b_Law_law 391 = .ok (.goto 337, 3) := by decide +kernel
theorem d_Law_law_394 : decode b_Law_law 394 = .ok (.aload_n 1, 1) := by decide +kernel
theorem d_Law_law_395 : decode b_Law_law 395 = .ok (.aload_n 0, 1) := by decide +kernel
theorem d_Law_law_396 : decode b_Law_law 396 = .ok (.iload 4, 2) := by decide +kernel
theorem d_Law_law_398 : decode b_Law_law 398 = .ok (.iconst 1, 1) := by decide +kernel
theorem d_Law_law_399 : decode b_Law_law 399 = .ok (.iadd, 1) := by decide +kernel
theorem d_Law_law_400 : decode b_Law_law 400 = .ok (.iaload, 1) := by decide +kernel
theorem d_Law_law_401 : decode b_Law_law 401 = .ok (.aload_n 0, 1) := by decide +kernel
theorem d_Law_law_402 : decode b_Law_law 402 = .ok (.iload 4, 2) := by decide +kernel
theorem d_Law_law_404 : decode b_Law_law 404 = .ok (.iconst 2, 1) := by decide +kernel
theorem d_Law_law_405 : decode b_Law_law 405 = .ok (.iadd, 1) := by decide +kernel
theorem d_Law_law_406 : decode b_Law_law 406 = .ok (.iaload, 1) := by decide +kernel
theorem d_Law_law_407 : decode b_Law_law 407 = .ok (.aload_n 3, 1) := by decide +kernel
theorem d_Law_law_408 : decode b_Law_law 408 = .ok (.invokestatic 82, 3) := by decide +kernel
theorem d_Law_law_411 : decode b_Law_law 411 = .ok (.istore 5, 2) := by decide +kernel
theorem d_Law_law_413 : decode b_Law_law 413 = .ok (.aload_n 2, 1) := by decide +kernel
theorem d_Law_law_414 : decode b_Law_law 414 = .ok (.aload_n 0, 1) := by decide +kernel
theorem d_Law_law_415 : decode b_Law_law 415 = .ok (.iload 4, 2) := by decide +kernel
theorem d_Law_law_417 : decode b_Law_law 417 = .ok (.iconst 1, 1) := by decide +kernel
theorem d_Law_law_418 : decode b_Law_law 418 = .ok (.iadd, 1) := by decide +kernel
theorem d_Law_law_419 : decode b_Law_law 419 = .ok (.iaload, 1) := by decide +kernel
theorem d_Law_law_420 : decode b_Law_law 420 = .ok (.aload_n 0, 1) := by decide +kernel
theorem d_Law_law_421 : decode b_Law_law 421 = .ok (.iload 4, 2) := by decide +kernel
theorem d_Law_law_423 : decode b_Law_law 423 = .ok (.iconst 2, 1) := by decide +kernel
theorem d_Law_law_424 : decode b_Law_law 424 = .ok (.iadd, 1) := by decide +kernel
theorem d_Law_law_425 : decode b_Law_law 425 = .ok (.iaload, 1) := by decide +kernel
theorem d_Law_law_426 : decode b_Law_law 426 = .ok (.invokevirtual 85, 3) := by decide +kernel
theorem d_Law_law_429 : decode b_Law_law 429 = .ok (.istore 6, 2) := by decide +kernel
theorem d_Law_law_431 : decode b_Law_law 431 = .ok (.aload_n 2, 1) := by decide +kernel
theorem d_Law_law_432 : decode b_Law_law 432 = .ok (.invokevirtual 59, 3) := by decide +kernel
theorem d_Law_law_435 : decode b_Law_law 435 = .ok (.iload 5, 2) := by decide +kernel
theorem d_Law_law_437 : decode b_Law_law 437 = .ok (.if_icmp .eq 5, 3) := by decide +kernel
theorem d_Law_law_440 : decode b_Law_law 440 = .ok (.iconst 0, 1) := by decide +kernel
theorem d_Law_law_441 : decode b_Law_law 441 = .ok (.ireturn, 1) := by decide +kernel
theorem d_Law_law_442 : decode b_Law_law 442 = .ok (.iload 5, 2) := by decide +kernel
theorem d_Law_law_444 : decode b_Law_law 444 = .ok (.ifCond .ne 15, 3) := by decide +kernel
theorem d_Law_law_447 : decode b_Law_law 447 = .ok (.aload_n 3, 1) := by decide +kernel
theorem d_Law_law_448 : decode b_Law_law 448 = .ok (.iconst 0, 1) := by decide +kernel
theorem d_Law_law_449 : decode b_Law_law 449 = .ok (.laload, 1) := by decide +kernel
theorem d_Law_law_450 : decode b_Law_law 450 = .ok (.iload 6, 2) := by decide +kernel
theorem d_Law_law_452 : decode b_Law_law 452 = .ok (.i2l, 1) := by decide +kernel
theorem d_Law_law_453 : decode b_Law_law 453 = .ok (.lcmp, 1) := by decide +kernel
theorem d_Law_law_454 : decode b_Law_law 454 = .ok (.ifCond .eq 5, 3) := by decide +kernel
theorem d_Law_law_457 : decode b_Law_law 457 = .ok (.iconst 0, 1) := by decide +kernel
theorem d_Law_law_458 : decode b_Law_law 458 = .ok (.ireturn, 1) := by decide +kernel
theorem d_Law_law_459 : decode b_Law_law 459 = .ok (.goto 269, 3) := by decide +kernel
theorem d_Law_law_462 : decode b_Law_law 462 = .ok (.aload_n 1, 1) := by decide +kernel
theorem d_Law_law_463 : decode b_Law_law 463 = .ok (.aload_n 0, 1) := by decide +kernel
theorem d_Law_law_464 : decode b_Law_law 464 = .ok (.iload 4, 2) := by decide +kernel
theorem d_Law_law_466 : decode b_Law_law 466 = .ok (.iconst 1, 1) := by decide +kernel
theorem d_Law_law_467 : decode b_Law_law 467 = .ok (.iadd, 1) := by decide +kernel
theorem d_Law_law_468 : decode b_Law_law 468 = .ok (.iaload, 1) := by decide +kernel
theorem d_Law_law_469 : decode b_Law_law 469 = .ok (.aload_n 3, 1) := by decide +kernel
theorem d_Law_law_470 : decode b_Law_law 470 = .ok (.invokestatic 86, 3) := by decide +kernel
theorem d_Law_law_473 : decode b_Law_law 473 = .ok (.istore 5, 2) := by decide +kernel
theorem d_Law_law_475 : decode b_Law_law 475 = .ok (.aload_n 2, 1) := by decide +kernel
theorem d_Law_law_476 : decode b_Law_law 476 = .ok (.aload_n 0, 1) := by decide +kernel
theorem d_Law_law_477 : decode b_Law_law 477 = .ok (.iload 4, 2) := by decide +kernel
theorem d_Law_law_479 : decode b_Law_law 479 = .ok (.iconst 1, 1) := by decide +kernel
theorem d_Law_law_480 : decode b_Law_law 480 = .ok (.iadd, 1) := by decide +kernel
theorem d_Law_law_481 : decode b_Law_law 481 = .ok (.iaload, 1) := by decide +kernel
theorem d_Law_law_482 : decode b_Law_law 482 = .ok (.invokevirtual 88, 3) := by decide +kernel
theorem d_Law_law_485 : decode b_Law_law 485 = .ok (.istore 6, 2) := by decide +kernel
theorem d_Law_law_487 : decode b_Law_law 487 = .ok (.aload_n 2, 1) := by decide +kernel
theorem d_Law_law_488 : decode b_Law_law 488 = .ok (.invokevirtual 59, 3) := by decide +kernel
theorem d_Law_law_491 : decode b_Law_law 491 = .ok (.iload 5, 2) := by decide +kernel
theorem d_Law_law_493 : decode b_Law_law 493 = .ok (.if_icmp .eq 5, 3) := by decide +kernel
theorem d_Law_law_496 : decode b_Law_law 496 = .ok (.iconst 0, 1) := by decide +kernel
theorem d_Law_law_497 : decode b_Law_law 497 = .ok (.ireturn, 1) := by decide +kernel
theorem d_Law_law_498 : decode b_Law_law 498 = .ok (.iload 5, 2) := by decide +kernel
theorem d_Law_law_500 : decode b_Law_law 500 = .ok (.ifCond .ne 15, 3) := by decide +kernel
theorem d_Law_law_503 : decode b_Law_law 503 = .ok (.aload_n 3, 1) := by decide +kernel
theorem d_Law_law_504 : decode b_Law_law 504 = .ok (.iconst 0, 1) := by decide +kernel
theorem d_Law_law_505 : decode b_Law_law 505 = .ok (.laload, 1) := by decide +kernel
theorem d_Law_law_506 : decode b_Law_law 506 = .ok (.iload 6, 2) := by decide +kernel
theorem d_Law_law_508 : decode b_Law_law 508 = .ok (.i2l, 1) := by decide +kernel
theorem d_Law_law_509 : decode b_Law_law 509 = .ok (.lcmp, 1) := by decide +kernel
theorem d_Law_law_510 : decode b_Law_law 510 = .ok (.ifCond .eq 5, 3) := by decide +kernel
theorem d_Law_law_513 : decode b_Law_law 513 = .ok (.iconst 0, 1) := by decide +kernel
theorem d_Law_law_514 : decode b_Law_law 514 = .ok (.ireturn, 1) := by decide +kernel
theorem d_Law_law_515 : decode b_Law_law 515 = .ok (.goto 213, 3) := by decide +kernel
theorem d_Law_law_518 : decode b_Law_law 518 = .ok (.aload_n 1, 1) := by decide +kernel
theorem d_Law_law_519 : decode b_Law_law 519 = .ok (.aload_n 0, 1) := by decide +kernel
theorem d_Law_law_520 : decode b_Law_law 520 = .ok (.iload 4, 2) := by decide +kernel
theorem d_Law_law_522 : decode b_Law_law 522 = .ok (.iconst 1, 1) := by decide +kernel
theorem d_Law_law_523 : decode b_Law_law 523 = .ok (.iadd, 1) := by decide +kernel
theorem d_Law_law_524 : decode b_Law_law 524 = .ok (.iaload, 1) := by decide +kernel
theorem d_Law_law_525 : decode b_Law_law 525 = .ok (.invokevirtual 89, 3) := by decide +kernel
theorem d_Law_law_528 : decode b_Law_law 528 = .ok (.aload_n 2, 1) := by decide +kernel
theorem d_Law_law_529 : decode b_Law_law 529 = .ok (.aload_n 0, 1) := by decide +kernel
theorem d_Law_law_530 : decode b_Law_law 530 = .ok (.iload 4, 2) := by decide +kernel
theorem d_Law_law_532 : decode b_Law_law 532 = .ok (.iconst 1, 1) := by decide +kernel
theorem d_Law_law_533 : decode b_Law_law 533 = .ok (.iadd, 1) := by decide +kernel
theorem d_Law_law_534 : decode b_Law_law 534 = .ok (.iaload, 1) := by decide +kernel
theorem d_Law_law_535 : decode b_Law_law 535 = .ok (.invokevirtual 93, 3) := by decide +kernel
theorem d_Law_law_538 : decode b_Law_law 538 = .ok (.if_icmp .eq 190, 3) := by decide +kernel
theorem d_Law_law_541 : decode b_Law_law 541 = .ok (.iconst 0, 1) := by decide +kernel
theorem d_Law_law_542 : decode b_Law_law 542 = .ok (.ireturn, 1) := by decide +kernel
theorem d_Law_law_543 : decode b_Law_law 543 = .ok (.aload_n 1, 1) := by decide +kernel
theorem d_Law_law_544 : decode b_Law_law 544 = .ok (.invokevirtual 94, 3) := by decide +kernel
theorem d_Law_law_547 : decode b_Law_law 547 = .ok (.aload_n 2, 1) := by decide +kernel
theorem d_Law_law_548 : decode b_Law_law 548 = .ok (.invokevirtual 97, 3) := by decide +kernel
theorem d_Law_law_551 : decode b_Law_law 551 = .ok (.if_icmp .eq 177, 3) := by decide +kernel
theorem d_Law_law_554 : decode b_Law_law 554 = .ok (.iconst 0, 1) := by decide +kernel
theorem d_Law_law_555 : decode b_Law_law 555 = .ok (.ireturn, 1) := by decide +kernel
theorem d_Law_law_556 : decode b_Law_law 556 = .ok (.aload_n 1, 1) := by decide +kernel
theorem d_Law_law_557 : decode b_Law_law 557 = .ok (.aload_n 0, 1) := by decide +kernel
theorem d_Law_law_558 : decode b_Law_law 558 = .ok (.iload 4, 2) := by decide +kernel
theorem d_Law_law_560 : decode b_Law_law 560 = .ok (.iconst 1, 1) := by decide +kernel
theorem d_Law_law_561 : decode b_Law_law 561 = .ok (.iadd, 1) := by decide +kernel
theorem d_Law_law_562 : decode b_Law_law 562 = .ok (.iaload, 1) := by decide +kernel
theorem d_Law_law_563 : decode b_Law_law 563 = .ok (.aload_n 0, 1) := by decide +kernel
theorem d_Law_law_564 : decode b_Law_law 564 = .ok (.iload 4, 2) := by decide +kernel
theorem d_Law_law_566 : decode b_Law_law 566 = .ok (.iconst 2, 1) := by decide +kernel
theorem d_Law_law_567 : decode b_Law_law 567 = .ok (.iadd, 1) := by decide +kernel
theorem d_Law_law_568 : decode b_Law_law 568 = .ok (.iaload, 1) := by decide +kernel
theorem d_Law_law_569 : decode b_Law_law 569 = .ok (.aload_n 0, 1) := by decide +kernel
theorem d_Law_law_570 : decode b_Law_law 570 = .ok (.iload 4, 2) := by decide +kernel
theorem d_Law_law_572 : decode b_Law_law 572 = .ok (.iconst 3, 1) := by decide +kernel
theorem d_Law_law_573 : decode b_Law_law 573 = .ok (.iadd, 1) := by decide +kernel
theorem d_Law_law_574 : decode b_Law_law 574 = .ok (.iaload, 1) := by decide +kernel
theorem d_Law_law_575 : decode b_Law_law 575 = .ok (.aload_n 3, 1) := by decide +kernel
theorem d_Law_law_576 : decode b_Law_law 576 = .ok (.invokestatic 98, 3) := by decide +kernel
theorem d_Law_law_579 : decode b_Law_law 579 = .ok (.istore 5, 2) := by decide +kernel
theorem d_Law_law_581 : decode b_Law_law 581 = .ok (.aload_n 2, 1) := by decide +kernel
theorem d_Law_law_582 : decode b_Law_law 582 = .ok (.aload_n 0, 1) := by decide +kernel
theorem d_Law_law_583 : decode b_Law_law 583 = .ok (.iload 4, 2) := by decide +kernel
theorem d_Law_law_585 : decode b_Law_law 585 = .ok (.iconst 1, 1) := by decide +kernel
theorem d_Law_law_586 : decode b_Law_law 586 = .ok (.iadd, 1) := by decide +kernel
theorem d_Law_law_587 : decode b_Law_law 587 = .ok (.iaload, 1) := by decide +kernel
theorem d_Law_law_588 : decode b_Law_law 588 = .ok (.aload_n 0, 1) := by decide +kernel
theorem d_Law_law_589 : decode b_Law_law 589 = .ok (.iload 4, 2) := by decide +kernel
theorem d_Law_law_591 : decode b_Law_law 591 = .ok (.iconst 2, 1) := by decide +kernel
theorem d_Law_law_592 : decode b_Law_law 592 = .ok (.iadd, 1) := by decide +kernel
theorem d_Law_law_593 : decode b_Law_law 593 = .ok (.iaload, 1) := by decide +kernel
theorem d_Law_law_594 : decode b_Law_law 594 = .ok (.aload_n 0, 1) := by decide +kernel
theorem d_Law_law_595 : decode b_Law_law 595 = .ok (.iload 4, 2) := by decide +kernel
theorem d_Law_law_597 : decode b_Law_law 597 = .ok (.iconst 3, 1) := by decide +kernel
theorem d_Law_law_598 : decode b_Law_law 598 = .ok (.iadd, 1) := by decide +kernel
theorem d_Law_law_599 : decode b_Law_law 599 = .ok (.iaload, 1) := by decide +kernel
theorem d_Law_law_600 : decode b_Law_law 600 = .ok (.invokevirtual 101, 3) := by decide +kernel
theorem d_Law_law_603 : decode b_Law_law 603 = .ok (.istore 6, 2) := by decide +kernel
theorem d_Law_law_605 : decode b_Law_law 605 = .ok (.aload_n 2, 1) := by decide +kernel
theorem d_Law_law_606 : decode b_Law_law 606 = .ok (.invokevirtual 59, 3) := by decide +kernel
theorem d_Law_law_609 : decode b_Law_law 609 = .ok (.iload 5, 2) := by decide +kernel
theorem d_Law_law_611 : decode b_Law_law 611 = .ok (.if_icmp .eq 5, 3) := by decide +kernel
theorem d_Law_law_614 : decode b_Law_law 614 = .ok (.iconst 0, 1) := by decide +kernel
theorem d_Law_law_615 : decode b_Law_law 615 = .ok (.ireturn, 1) := by decide +kernel
theorem d_Law_law_616 : decode b_Law_law 616 = .ok (.iload 5, 2) := by decide +kernel
theorem d_Law_law_618 : decode b_Law_law 618 = .ok (.ifCond .ne 15, 3) := by decide +kernel
theorem d_Law_law_621 : decode b_Law_law 621 = .ok (.aload_n 3, 1) := by decide +kernel
theorem d_Law_law_622 : decode b_Law_law 622 = .ok (.iconst 0, 1) := by decide +kernel
theorem d_Law_law_623 : decode b_Law_law 623 = .ok (.laload, 1) := by decide +kernel
theorem d_Law_law_624 : decode b_Law_law 624 = .ok (.iload 6, 2) := by decide +kernel
theorem d_Law_law_626 : decode b_Law_law 626 = .ok (.i2l, 1) := by decide +kernel
theorem d_Law_law_627 : decode b_Law_law 627 = .ok (.lcmp, 1) := by decide +kernel
theorem d_Law_law_628 : decode b_Law_law 628 = .ok (.ifCond .eq 5, 3) := by decide +kernel
theorem d_Law_law_631 : decode b_Law_law 631 = .ok (.iconst 0, 1) := by decide +kernel
theorem d_Law_law_632 : decode b_Law_law 632 = .ok (.ireturn, 1) := by decide +kernel
theorem d_Law_law_633 : decode b_Law_law 633 = .ok (.goto 95, 3) := by decide +kernel
theorem d_Law_law_636 : decode b_Law_law 636 = .ok (.aload_n 1, 1) := by decide +kernel
theorem d_Law_law_637 : decode b_Law_law 637 = .ok (.aload_n 0, 1) := by decide +kernel
theorem d_Law_law_638 : decode b_Law_law 638 = .ok (.iload 4, 2) := by decide +kernel
theorem d_Law_law_640 : decode b_Law_law 640 = .ok (.iconst 1, 1) := by decide +kernel
theorem d_Law_law_641 : decode b_Law_law 641 = .ok (.iadd, 1) := by decide +kernel
theorem d_Law_law_642 : decode b_Law_law 642 = .ok (.iaload, 1) := by decide +kernel
theorem d_Law_law_643 : decode b_Law_law 643 = .ok (.aload_n 3, 1) := by decide +kernel
theorem d_Law_law_644 : decode b_Law_law 644 = .ok (.invokestatic 102, 3) := by decide +kernel
theorem d_Law_law_647 : decode b_Law_law 647 = .ok (.istore 5, 2) := by decide +kernel
theorem d_Law_law_649 : decode b_Law_law 649 = .ok (.aload_n 2, 1) := by decide +kernel
theorem d_Law_law_650 : decode b_Law_law 650 = .ok (.aload_n 0, 1) := by decide +kernel
theorem d_Law_law_651 : decode b_Law_law 651 = .ok (.iload 4, 2) := by decide +kernel
theorem d_Law_law_653 : decode b_Law_law 653 = .ok (.iconst 1, 1) := by decide +kernel
theorem d_Law_law_654 : decode b_Law_law 654 = .ok (.iadd, 1) := by decide +kernel
theorem d_Law_law_655 : decode b_Law_law 655 = .ok (.iaload, 1) := by decide +kernel
theorem d_Law_law_656 : decode b_Law_law 656 = .ok (.invokevirtual 104, 3) := by decide +kernel
theorem d_Law_law_659 : decode b_Law_law 659 = .ok (.istore 6, 2) := by decide +kernel
theorem d_Law_law_661 : decode b_Law_law 661 = .ok (.aload_n 2, 1) := by decide +kernel
theorem d_Law_law_662 : decode b_Law_law 662 = .ok (.invokevirtual 59, 3) := by decide +kernel
theorem d_Law_law_665 : decode b_Law_law 665 = .ok (.iload 5, 2) := by decide +kernel
theorem d_Law_law_667 : decode b_Law_law 667 = .ok (.if_icmp .eq 5, 3) := by decide +kernel
theorem d_Law_law_670 : decode b_Law_law 670 = .ok (.iconst 0, 1) := by decide +kernel
theorem d_Law_law_671 : decode b_Law_law 671 = .ok (.ireturn, 1) := by decide +kernel
theorem d_Law_law_672 : decode b_Law_law 672 = .ok (.iload 5, 2) := by decide +kernel
theorem d_Law_law_674 : decode b_Law_law 674 = .ok (.ifCond .ne 15, 3) := by decide +kernel
theorem d_Law_law_677 : decode b_Law_law 677 = .ok (.aload_n 3, 1) := by decide +kernel
theorem d_Law_law_678 : decode b_Law_law 678 = .ok (.iconst 0, 1) := by decide +kernel
theorem d_Law_law_679 : decode b_Law_law 679 = .ok (.laload, 1) := by decide +kernel
theorem d_Law_law_680 : decode b_Law_law 680 = .ok (.iload 6, 2) := by decide +kernel
theorem d_Law_law_682 : decode b_Law_law 682 = .ok (.i2l, 1) := by decide +kernel
theorem d_Law_law_683 : decode b_Law_law 683 = .ok (.lcmp, 1) := by decide +kernel
theorem d_Law_law_684 : decode b_Law_law 684 = .ok (.ifCond .eq 5, 3) := by decide +kernel
theorem d_Law_law_687 : decode b_Law_law 687 = .ok (.iconst 0, 1) := by decide +kernel
theorem d_Law_law_688 : decode b_Law_law 688 = .ok (.ireturn, 1) := by decide +kernel
theorem d_Law_law_689 : decode b_Law_law 689 = .ok (.goto 39, 3) := by decide +kernel
theorem d_Law_law_692 : decode b_Law_law 692 = .ok (.aload_n 1, 1) := by decide +kernel
theorem d_Law_law_693 : decode b_Law_law 693 = .ok (.aload_n 0, 1) := by decide +kernel
theorem d_Law_law_694 : decode b_Law_law 694 = .ok (.iload 4, 2) := by decide +kernel
theorem d_Law_law_696 : decode b_Law_law 696 = .ok (.iconst 1, 1) := by decide +kernel
theorem d_Law_law_697 : decode b_Law_law 697 = .ok (.iadd, 1) := by decide +kernel
theorem d_Law_law_698 : decode b_Law_law 698 = .ok (.iaload, 1) := by decide +kernel
theorem d_Law_law_699 : decode b_Law_law 699 = .ok (.invokevirtual 105, 3) := by decide +kernel
theorem d_Law_law_702 : decode b_Law_law 702 = .ok (.aload_n 2, 1) := by decide +kernel
theorem d_Law_law_703 : decode b_Law_law 703 = .ok (.aload_n 0, 1) := by decide +kernel
theorem d_Law_law_704 : decode b_Law_law 704 = .ok (.iload 4, 2) := by decide +kernel
theorem d_Law_law_706 : decode b_Law_law 706 = .ok (.iconst 1, 1) := by decide +kernel
theorem d_Law_law_707 : decode b_Law_law 707 = .ok (.iadd, 1) := by decide +kernel
theorem d_Law_law_708 : decode b_Law_law 708 = .ok (.iaload, 1) := by decide +kernel
theorem d_Law_law_709 : decode b_Law_law 709 = .ok (.invokevirtual 108, 3) := by decide +kernel
theorem d_Law_law_712 : decode b_Law_law 712 = .ok (.if_icmp .eq 16, 3) := by decide +kernel
theorem d_Law_law_715 : decode b_Law_law 715 = .ok (.iconst 0, 1) := by decide +kernel
theorem d_Law_law_716 : decode b_Law_law 716 = .ok (.ireturn, 1) := by decide +kernel
theorem d_Law_law_717 : decode b_Law_law 717 = .ok (.aload_n 1, 1) := by decide +kernel
theorem d_Law_law_718 : decode b_Law_law 718 = .ok (.invokevirtual 109, 3) := by decide +kernel
theorem d_Law_law_721 : decode b_Law_law 721 = .ok (.aload_n 2, 1) := by decide +kernel
theorem d_Law_law_722 : decode b_Law_law 722 = .ok (.invokevirtual 112, 3) := by decide +kernel
theorem d_Law_law_725 : decode b_Law_law 725 = .ok (.goto 3, 3) := by decide +kernel
theorem d_Law_law_728 : decode b_Law_law 728 = .ok (.iinc 4 4, 3) := by decide +kernel
theorem d_Law_law_731 : decode b_Law_law 731 = .ok (.goto (-688), 3) := by decide +kernel
theorem d_Law_law_734 : decode b_Law_law 734 = .ok (.iconst 1, 1) := by decide +kernel
theorem d_Law_law_735 : decode b_Law_law 735 = .ok (.ireturn, 1) := by decide +kernel
