theorem d_Code_isSmall_0 : decode b_Code_isSmall 0 = .ok (.iload_n 0, 1) := by decide +kernel
theorem d_Code_isSmall_1 : decode b_Code_isSmall 1 = .ok (.bipush 97, 2) := by decide +kernel
theorem d_Code_isSmall_3 : decode b_Code_isSmall 3 = .ok (.if_icmp .lt 13, 3) := by decide +kernel
theorem d_Code_isSmall_6 : decode b_Code_isSmall 6 = .ok (.iload_n 0, 1) := by decide +kernel
theorem d_Code_isSmall_7 : decode b_Code_isSmall 7 = .ok (.bipush 122, 2) := by decide +kernel
theorem d_Code_isSmall_9 : decode b_Code_isSmall 9 = .ok (.if_icmp .gt 7, 3) := by decide +kernel
theorem d_Code_isSmall_12 : decode b_Code_isSmall 12 = .ok (.iconst 1, 1) := by decide +kernel
theorem d_Code_isSmall_13 : decode b_Code_isSmall 13 = .ok (.goto 4, 3) := by decide +kernel
theorem d_Code_isSmall_16 : decode b_Code_isSmall 16 = .ok (.iconst 0, 1) := by decide +kernel
theorem d_Code_isSmall_17 : decode b_Code_isSmall 17 = .ok (.ireturn, 1) := by decide +kernel
theorem d_Code_isCapital_0 : decode b_Code_isCapital 0 = .ok (.iload_n 0, 1) := by decide +kernel
theorem d_Code_isCapital_1 : decode b_Code_isCapital 1 = .ok (.bipush 65, 2) := by decide +kernel
theorem d_Code_isCapital_3 : decode b_Code_isCapital 3 = .ok (.if_icmp .lt 13, 3) := by decide +kernel
theorem d_Code_isCapital_6 : decode b_Code_isCapital 6 = .ok (.iload_n 0, 1) := by decide +kernel
theorem d_Code_isCapital_7 : decode b_Code_isCapital 7 = .ok (.bipush 90, 2) := by decide +kernel
theorem d_Code_isCapital_9 : decode b_Code_isCapital 9 = .ok (.if_icmp .gt 7, 3) := by decide +kernel
theorem d_Code_isCapital_12 : decode b_Code_isCapital 12 = .ok (.iconst 1, 1) := by decide +kernel
theorem d_Code_isCapital_13 : decode b_Code_isCapital 13 = .ok (.goto 4, 3) := by decide +kernel
theorem d_Code_isCapital_16 : decode b_Code_isCapital 16 = .ok (.iconst 0, 1) := by decide +kernel
theorem d_Code_isCapital_17 : decode b_Code_isCapital 17 = .ok (.ireturn, 1) := by decide +kernel
theorem d_Code_isLetter_0 : decode b_Code_isLetter 0 = .ok (.iload_n 0, 1) := by decide +kernel
theorem d_Code_isLetter_1 : decode b_Code_isLetter 1 = .ok (.invokestatic 9, 3) := by decide +kernel
theorem d_Code_isLetter_4 : decode b_Code_isLetter 4 = .ok (.ifCond .ne 10, 3) := by decide +kernel
theorem d_Code_isLetter_7 : decode b_Code_isLetter 7 = .ok (.iload_n 0, 1) := by decide +kernel
theorem d_Code_isLetter_8 : decode b_Code_isLetter 8 = .ok (.invokestatic 15, 3) := by decide +kernel
theorem d_Code_isLetter_11 : decode b_Code_isLetter 11 = .ok (.ifCond .eq 7, 3) := by decide +kernel
theorem d_Code_isLetter_14 : decode b_Code_isLetter 14 = .ok (.iconst 1, 1) := by decide +kernel
theorem d_Code_isLetter_15 : decode b_Code_isLetter 15 = .ok (.goto 4, 3) := by decide +kernel
theorem d_Code_isLetter_18 : decode b_Code_isLetter 18 = .ok (.iconst 0, 1) := by decide +kernel
theorem d_Code_isLetter_19 : decode b_Code_isLetter 19 = .ok (.ireturn, 1) := by decide +kernel
theorem d_Code_isDigit_0 : decode b_Code_isDigit 0 = .ok (.iload_n 0, 1) := by decide +kernel
theorem d_Code_isDigit_1 : decode b_Code_isDigit 1 = .ok (.bipush 48, 2) := by decide +kernel
theorem d_Code_isDigit_3 : decode b_Code_isDigit 3 = .ok (.if_icmp .lt 13, 3) := by decide +kernel
theorem d_Code_isDigit_6 : decode b_Code_isDigit 6 = .ok (.iload_n 0, 1) := by decide +kernel
theorem d_Code_isDigit_7 : decode b_Code_isDigit 7 = .ok (.bipush 57, 2) := by decide +kernel
theorem d_Code_isDigit_9 : decode b_Code_isDigit 9 = .ok (.if_icmp .gt 7, 3) := by decide +kernel
theorem d_Code_isDigit_12 : decode b_Code_isDigit 12 = .ok (.iconst 1, 1) := by decide +kernel
theorem d_Code_isDigit_13 : decode b_Code_isDigit 13 = .ok (.goto 4, 3) := by decide +kernel
theorem d_Code_isDigit_16 : decode b_Code_isDigit 16 = .ok (.iconst 0, 1) := by decide +kernel
theorem d_Code_isDigit_17 : decode b_Code_isDigit 17 = .ok (.ireturn, 1) := by decide +kernel
theorem d_Code_looksLikeDigit_0 : decode b_Code_looksLikeDigit 0 = .ok (.iload_n 0, 1) := by decide +kernel
theorem d_Code_looksLikeDigit_1 : decode b_Code_looksLikeDigit 1 = .ok (.bipush 97, 2) := by decide +kernel
theorem d_Code_looksLikeDigit_3 : decode b_Code_looksLikeDigit 3 = .ok (.if_icmp .lt 13, 3) := by decide +kernel
theorem d_Code_looksLikeDigit_6 : decode b_Code_looksLikeDigit 6 = .ok (.iload_n 0, 1) := by decide +kernel
theorem d_Code_looksLikeDigit_7 : decode b_Code_looksLikeDigit 7 = .ok (.bipush 106, 2) := by decide +kernel
theorem d_Code_looksLikeDigit_9 : decode b_Code_looksLikeDigit 9 = .ok (.if_icmp .gt 7, 3) := by decide +kernel
theorem d_Code_looksLikeDigit_12 : decode b_Code_looksLikeDigit 12 = .ok (.iconst 1, 1) := by decide +kernel
theorem d_Code_looksLikeDigit_13 : decode b_Code_looksLikeDigit 13 = .ok (.goto 4, 3) := by decide +kernel
theorem d_Code_looksLikeDigit_16 : decode b_Code_looksLikeDigit 16 = .ok (.iconst 0, 1) := by decide +kernel
theorem d_Code_looksLikeDigit_17 : decode b_Code_looksLikeDigit 17 = .ok (.ireturn, 1) := by decide +kernel
theorem d_Code_hasCell_0 : decode b_Code_hasCell 0 = .ok (.iload_n 0, 1) := by decide +kernel
theorem d_Code_hasCell_1 : decode b_Code_hasCell 1 = .ok (.bipush 32, 2) := by decide +kernel
theorem d_Code_hasCell_3 : decode b_Code_hasCell 3 = .ok (.if_icmp .eq 26, 3) := by decide +kernel
theorem d_Code_hasCell_6 : decode b_Code_hasCell 6 = .ok (.iload_n 0, 1) := by decide +kernel
theorem d_Code_hasCell_7 : decode b_Code_hasCell 7 = .ok (.invokestatic 18, 3) := by decide +kernel
theorem d_Code_hasCell_10 : decode b_Code_hasCell 10 = .ok (.ifCond .ne 19, 3) := by decide +kernel
theorem d_Code_hasCell_13 : decode b_Code_hasCell 13 = .ok (.iload_n 0, 1) := by decide +kernel
theorem d_Code_hasCell_14 : decode b_Code_hasCell 14 = .ok (.invokestatic 21, 3) := by decide +kernel
theorem d_Code_hasCell_17 : decode b_Code_hasCell 17 = .ok (.ifCond .ne 12, 3) := by decide +kernel
theorem d_Code_hasCell_20 : decode b_Code_hasCell 20 = .ok (.ldc 24, 2) := by decide +kernel
theorem d_Code_hasCell_22 : decode b_Code_hasCell 22 = .ok (.iload_n 0, 1) := by decide +kernel
theorem d_Code_hasCell_23 : decode b_Code_hasCell 23 = .ok (.invokevirtual 26, 3) := by decide +kernel
theorem d_Code_hasCell_26 : decode b_Code_hasCell 26 = .ok (.ifCond .lt 7, 3) := by decide +kernel
theorem d_Code_hasCell_29 : decode b_Code_hasCell 29 = .ok (.iconst 1, 1) := by decide +kernel
theorem d_Code_hasCell_30 : decode b_Code_hasCell 30 = .ok (.goto 4, 3) := by decide +kernel
theorem d_Code_hasCell_33 : decode b_Code_hasCell 33 = .ok (.iconst 0, 1) := by decide +kernel
theorem d_Code_hasCell_34 : decode b_Code_hasCell 34 = .ok (.ireturn, 1) := by decide +kernel
theorem d_Code_toSmall_0 : decode b_Code_toSmall 0 = .ok (.iload_n 0, 1) := by decide +kernel
theorem d_Code_toSmall_1 : decode b_Code_toSmall 1 = .ok (.bipush 65, 2) := by decide +kernel
theorem d_Code_toSmall_3 : decode b_Code_toSmall 3 = .ok (.if_icmp .lt 20, 3) := by decide +kernel
theorem d_Code_toSmall_6 : decode b_Code_toSmall 6 = .ok (.iload_n 0, 1) := by decide +kernel
theorem d_Code_toSmall_7 : decode b_Code_toSmall 7 = .ok (.bipush 90, 2) := by decide +kernel
theorem d_Code_toSmall_9 : decode b_Code_toSmall 9 = .ok (.if_icmp .gt 14, 3) := by decide +kernel
theorem d_Code_toSmall_12 : decode b_Code_toSmall 12 = .ok (.iload_n 0, 1) := by decide +kernel
theorem d_Code_toSmall_13 : decode b_Code_toSmall 13 = .ok (.bipush 65, 2) := by decide +kernel
theorem d_Code_toSmall_15 : decode b_Code_toSmall 15 = .ok (.isub, 1) := by decide +kernel
theorem d_Code_toSmall_16 : decode b_Code_toSmall 16 = .ok (.bipush 97, 2) := by decide +kernel
theorem d_Code_toSmall_18 : decode b_Code_toSmall 18 = .ok (.iadd, 1) := by decide +kernel
theorem d_Code_toSmall_19 : decode b_Code_toSmall 19 = .ok (.i2c, 1) := by decide +kernel
theorem d_Code_toSmall_20 : decode b_Code_toSmall 20 = .ok (.goto 4, 3) := by decide +kernel
theorem d_Code_toSmall_23 : decode b_Code_toSmall 23 = .ok (.iload_n 0, 1) := by decide +kernel
theorem d_Code_toSmall_24 : decode b_Code_toSmall 24 = .ok (.ireturn, 1) := by decide +kernel
theorem d_Code_toCapital_0 : decode b_Code_toCapital 0 = .ok (.iload_n 0, 1) := by decide +kernel
theorem d_Code_toCapital_1 : decode b_Code_toCapital 1 = .ok (.bipush 97, 2) := by decide +kernel
theorem d_Code_toCapital_3 : decode b_Code_toCapital 3 = .ok (.if_icmp .lt 20, 3) := by decide +kernel
theorem d_Code_toCapital_6 : decode b_Code_toCapital 6 = .ok (.iload_n 0, 1) := by decide +kernel
theorem d_Code_toCapital_7 : decode b_Code_toCapital 7 = .ok (.bipush 122, 2) := by decide +kernel
theorem d_Code_toCapital_9 : decode b_Code_toCapital 9 = .ok (.if_icmp .gt 14, 3) := by decide +kernel
theorem d_Code_toCapital_12 : decode b_Code_toCapital 12 = .ok (.iload_n 0, 1) := by decide +kernel
theorem d_Code_toCapital_13 : decode b_Code_toCapital 13 = .ok (.bipush 97, 2) := by decide +kernel
theorem d_Code_toCapital_15 : decode b_Code_toCapital 15 = .ok (.isub, 1) := by decide +kernel
theorem d_Code_toCapital_16 : decode b_Code_toCapital 16 = .ok (.bipush 65, 2) := by decide +kernel
theorem d_Code_toCapital_18 : decode b_Code_toCapital 18 = .ok (.iadd, 1) := by decide +kernel
theorem d_Code_toCapital_19 : decode b_Code_toCapital 19 = .ok (.i2c, 1) := by decide +kernel
theorem d_Code_toCapital_20 : decode b_Code_toCapital 20 = .ok (.goto 4, 3) := by decide +kernel
theorem d_Code_toCapital_23 : decode b_Code_toCapital 23 = .ok (.iload_n 0, 1) := by decide +kernel
theorem d_Code_toCapital_24 : decode b_Code_toCapital 24 = .ok (.ireturn, 1) := by decide +kernel
theorem d_Code_cellOf_0 : decode b_Code_cellOf 0 = .ok (.iload_n 0, 1) := by decide +kernel
theorem d_Code_cellOf_1 : decode b_Code_cellOf 1 = .ok (.invokestatic 18, 3) := by decide +kernel
theorem d_Code_cellOf_4 : decode b_Code_cellOf 4 = .ok (.ifCond .eq 15, 3) := by decide +kernel
theorem d_Code_cellOf_7 : decode b_Code_cellOf 7 = .ok (.getstatic 32, 3) := by decide +kernel
theorem d_Code_cellOf_10 : decode b_Code_cellOf 10 = .ok (.iload_n 0, 1) := by decide +kernel
theorem d_Code_cellOf_11 : decode b_Code_cellOf 11 = .ok (.invokestatic 36, 3) := by decide +kernel
theorem d_Code_cellOf_14 : decode b_Code_cellOf 14 = .ok (.bipush 97, 2) := by decide +kernel
theorem d_Code_cellOf_16 : decode b_Code_cellOf 16 = .ok (.isub, 1) := by decide +kernel
theorem d_Code_cellOf_17 : decode b_Code_cellOf 17 = .ok (.iaload, 1) := by decide +kernel
theorem d_Code_cellOf_18 : decode b_Code_cellOf 18 = .ok (.ireturn, 1) := by decide +kernel
theorem d_Code_cellOf_19 : decode b_Code_cellOf 19 = .ok (.iload_n 0, 1) := by decide +kernel
theorem d_Code_cellOf_20 : decode b_Code_cellOf 20 = .ok (.invokestatic 21, 3) := by decide +kernel
theorem d_Code_cellOf_23 : decode b_Code_cellOf 23 = .ok (.ifCond .eq 27, 3) := by decide +kernel
theorem d_Code_cellOf_26 : decode b_Code_cellOf 26 = .ok (.iload_n 0, 1) := by decide +kernel
theorem d_Code_cellOf_27 : decode b_Code_cellOf 27 = .ok (.bipush 48, 2) := by decide +kernel
theorem d_Code_cellOf_29 : decode b_Code_cellOf 29 = .ok (.if_icmp .ne 12, 3) := by decide +kernel
theorem d_Code_cellOf_32 : decode b_Code_cellOf 32 = .ok (.getstatic 32, 3) := by decide +kernel
theorem d_Code_cellOf_35 : decode b_Code_cellOf 35 = .ok (.bipush 9, 2) := by decide +kernel
theorem d_Code_cellOf_37 : decode b_Code_cellOf 37 = .ok (.iaload, 1) := by decide +kernel
theorem d_Code_cellOf_38 : decode b_Code_cellOf 38 = .ok (.goto 11, 3) := by decide +kernel
theorem d_Code_cellOf_41 : decode b_Code_cellOf 41 = .ok (.getstatic 32, 3) := by decide +kernel
theorem d_Code_cellOf_44 : decode b_Code_cellOf 44 = .ok (.iload_n 0, 1) := by decide +kernel
theorem d_Code_cellOf_45 : decode b_Code_cellOf 45 = .ok (.bipush 49, 2) := by decide +kernel
theorem d_Code_cellOf_47 : decode b_Code_cellOf 47 = .ok (.isub, 1) := by decide +kernel
theorem d_Code_cellOf_48 : decode b_Code_cellOf 48 = .ok (.iaload, 1) := by decide +kernel
theorem d_Code_cellOf_49 : decode b_Code_cellOf 49 = .ok (.ireturn, 1) := by decide +kernel
theorem d_Code_cellOf_50 : decode b_Code_cellOf 50 = .ok (.ldc 24, 2) := by decide +kernel
theorem d_Code_cellOf_52 : decode b_Code_cellOf 52 = .ok (.iload_n 0, 1) := by decide +kernel
theorem d_Code_cellOf_53 : decode b_Code_cellOf 53 = .ok (.invokevirtual 26, 3) := by decide +kernel
theorem d_Code_cellOf_56 : decode b_Code_cellOf 56 = .ok (.istore_n 1, 1) := by decide +kernel
theorem d_Code_cellOf_57 : decode b_Code_cellOf 57 = .ok (.iload_n 1, 1) := by decide +kernel
theorem d_Code_cellOf_58 : decode b_Code_cellOf 58 = .ok (.ifCond .lt 19, 3) := by decide +kernel
theorem d_Code_cellOf_61 : decode b_Code_cellOf 61 = .ok (.iload_n 1, 1) := by decide +kernel
theorem d_Code_cellOf_62 : decode b_Code_cellOf 62 = .ok (.getstatic 40, 3) := by decide +kernel
theorem d_Code_cellOf_65 : decode b_Code_cellOf 65 = .ok (.arraylength, 1) := by decide +kernel
theorem d_Code_cellOf_66 : decode b_Code_cellOf 66 = .ok (.if_icmp .ge 11, 3) := by decide +kernel
theorem d_Code_cellOf_69 : decode b_Code_cellOf 69 = .ok (.getstatic 40, 3) := by decide +kernel
theorem d_Code_cellOf_72 : decode b_Code_cellOf 72 = .ok (.iload_n 1, 1) := by decide +kernel
theorem d_Code_cellOf_73 : decode b_Code_cellOf 73 = .ok (.iaload, 1) := by decide +kernel
theorem d_Code_cellOf_74 : decode b_Code_cellOf 74 = .ok (.goto 4, 3) := by decide +kernel
theorem d_Code_cellOf_77 : decode b_Code_cellOf 77 = .ok (.iconst 0, 1) := by decide +kernel
theorem d_Code_cellOf_78 : decode b_Code_cellOf 78 = .ok (.ireturn, 1) := by decide +kernel
theorem d_Code_digitOf_0 : decode b_Code_digitOf 0 = .ok (.iconst 0, 1) := by decide +kernel
theorem d_Code_digitOf_1 : decode b_Code_digitOf 1 = .ok (.istore_n 1, 1) := by decide +kernel
theorem d_Code_digitOf_2 : decode b_Code_digitOf 2 = .ok (.iload_n 1, 1) := by decide +kernel
theorem d_Code_digitOf_3 : decode b_Code_digitOf 3 = .ok (.bipush 10, 2) := by decide +kernel
theorem d_Code_digitOf_5 : decode b_Code_digitOf 5 = .ok (.if_icmp .ge 29, 3) := by decide +kernel
theorem d_Code_digitOf_8 : decode b_Code_digitOf 8 = .ok (.getstatic 32, 3) := by decide +kernel
theorem d_Code_digitOf_11 : decode b_Code_digitOf 11 = .ok (.iload_n 1, 1) := by decide +kernel
theorem d_Code_digitOf_12 : decode b_Code_digitOf 12 = .ok (.iaload, 1) := by decide +kernel
theorem d_Code_digitOf_13 : decode b_Code_digitOf 13 = .ok (.iload_n 0, 1) := by decide +kernel
theorem d_Code_digitOf_14 : decode b_Code_digitOf 14 = .ok (.if_icmp .ne 14, 3) := by decide +kernel
theorem d_Code_digitOf_17 : decode b_Code_digitOf 17 = .ok (.bipush 48, 2) := by decide +kernel
theorem d_Code_digitOf_19 : decode b_Code_digitOf 19 = .ok (.iload_n 1, 1) := by decide +kernel
theorem d_Code_digitOf_20 : decode b_Code_digitOf 20 = .ok (.iconst 1, 1) := by decide +kernel
theorem d_Code_digitOf_21 : decode b_Code_digitOf 21 = .ok (.iadd, 1) := by decide +kernel
theorem d_Code_digitOf_22 : decode b_Code_digitOf 22 = .ok (.bipush 10, 2) := by decide +kernel
theorem d_Code_digitOf_24 : decode b_Code_digitOf 24 = .ok (.irem, 1) := by decide +kernel
theorem d_Code_digitOf_25 : decode b_Code_digitOf 25 = .ok (.iadd, 1) := by decide +kernel
theorem d_Code_digitOf_26 : decode b_Code_digitOf 26 = .ok (.i2c, 1) := by decide +kernel
theorem d_Code_digitOf_27 : decode b_Code_digitOf 27 = .ok (.ireturn, 1) := by decide +kernel
theorem d_Code_digitOf_28 : decode b_Code_digitOf 28 = .ok (.iinc 1 1, 3) := by decide +kernel
theorem d_Code_digitOf_31 : decode b_Code_digitOf 31 = .ok (.goto (-29), 3) := by decide +kernel
theorem d_Code_digitOf_34 : decode b_Code_digitOf 34 = .ok (.bipush 35, 2) := by decide +kernel
theorem d_Code_digitOf_36 : decode b_Code_digitOf 36 = .ok (.ireturn, 1) := by decide +kernel
theorem d_Code_characterOf_0 : decode b_Code_characterOf 0 = .ok (.iconst 0, 1) := by decide +kernel
theorem d_Code_characterOf_1 : decode b_Code_characterOf 1 = .ok (.istore_n 1, 1) := by decide +kernel
theorem d_Code_characterOf_2 : decode b_Code_characterOf 2 = .ok (.iload_n 1, 1) := by decide +kernel
theorem d_Code_characterOf_3 : decode b_Code_characterOf 3 = .ok (.getstatic 32, 3) := by decide +kernel
theorem d_Code_characterOf_6 : decode b_Code_characterOf 6 = .ok (.arraylength, 1) := by decide +kernel
theorem d_Code_characterOf_7 : decode b_Code_characterOf 7 = .ok (.if_icmp .ge 24, 3) := by decide +kernel
theorem d_Code_characterOf_10 : decode b_Code_characterOf 10 = .ok (.getstatic 32, 3) := by decide +kernel
theorem d_Code_characterOf_13 : decode b_Code_characterOf 13 = .ok (.iload_n 1, 1) := by decide +kernel
theorem d_Code_characterOf_14 : decode b_Code_characterOf 14 = .ok (.iaload, 1) := by decide +kernel
theorem d_Code_characterOf_15 : decode b_Code_characterOf 15 = .ok (.iload_n 0, 1) := by decide +kernel
theorem d_Code_characterOf_16 : decode b_Code_characterOf 16 = .ok (.if_icmp .ne 9, 3) := by decide +kernel
theorem d_Code_characterOf_19 : decode b_Code_characterOf 19 = .ok (.bipush 97, 2) := by decide +kernel
theorem d_Code_characterOf_21 : decode b_Code_characterOf 21 = .ok (.iload_n 1, 1) := by decide +kernel
theorem d_Code_characterOf_22 : decode b_Code_characterOf 22 = .ok (.iadd, 1) := by decide +kernel
theorem d_Code_characterOf_23 : decode b_Code_characterOf 23 = .ok (.i2c, 1) := by decide +kernel
theorem d_Code_characterOf_24 : decode b_Code_characterOf 24 = .ok (.ireturn, 1) := by decide +kernel
theorem d_Code_characterOf_25 : decode b_Code_characterOf 25 = .ok (.iinc 1 1, 3) := by decide +kernel
theorem d_Code_characterOf_28 : decode b_Code_characterOf 28 = .ok (.goto (-26), 3) := by decide +kernel
theorem d_Code_characterOf_31 : decode b_Code_characterOf 31 = .ok (.iconst 0, 1) := by decide +kernel
theorem d_Code_characterOf_32 : decode b_Code_characterOf 32 = .ok (.istore_n 1, 1) := by decide +kernel
theorem d_Code_characterOf_33 : decode b_Code_characterOf 33 = .ok (.iload_n 1, 1) := by decide +kernel
theorem d_Code_characterOf_34 : decode b_Code_characterOf 34 = .ok (.getstatic 40, 3) := by decide +kernel
theorem d_Code_characterOf_37 : decode b_Code_characterOf 37 = .ok (.arraylength, 1) := by decide +kernel
theorem d_Code_characterOf_38 : decode b_Code_characterOf 38 = .ok (.if_icmp .ge 25, 3) := by decide +kernel
theorem d_Code_characterOf_41 : decode b_Code_characterOf 41 = .ok (.getstatic 40, 3) := by decide +kernel
theorem d_Code_characterOf_44 : decode b_Code_characterOf 44 = .ok (.iload_n 1, 1) := by decide +kernel
theorem d_Code_characterOf_45 : decode b_Code_characterOf 45 = .ok (.iaload, 1) := by decide +kernel
theorem d_Code_characterOf_46 : decode b_Code_characterOf 46 = .ok (.iload_n 0, 1) := by decide +kernel
theorem d_Code_characterOf_47 : decode b_Code_characterOf 47 = .ok (.if_icmp .ne 10, 3) := by decide +kernel
theorem d_Code_characterOf_50 : decode b_Code_characterOf 50 = .ok (.ldc 24, 2) := by decide +kernel
theorem d_Code_characterOf_52 : decode b_Code_characterOf 52 = .ok (.iload_n 1, 1) := by decide +kernel
theorem d_Code_characterOf_53 : decode b_Code_characterOf 53 = .ok (.invokevirtual 43, 3) := by decide +kernel
theorem d_Code_characterOf_56 : decode b_Code_characterOf 56 = .ok (.ireturn, 1) := by decide +kernel
theorem d_Code_characterOf_57 : decode b_Code_characterOf 57 = .ok (.iinc 1 1, 3) := by decide +kernel
theorem d_Code_characterOf_60 : decode b_Code_characterOf 60 = .ok (.goto (-27), 3) := by decide +kernel
theorem d_Code_characterOf_63 : decode b_Code_characterOf 63 = .ok (.bipush 35, 2) := by decide +kernel
theorem d_Code_characterOf_65 : decode b_Code_characterOf 65 = .ok (.ireturn, 1) := by decide +kernel
theorem d_Reader_init_0 : decode b_Reader_init 0 = .ok (.aload_n 0, 1) := by decide +kernel
theorem d_Reader_init_1 : decode b_Reader_init 1 = .ok (.invokespecial 3, 3) := by decide +kernel
theorem d_Reader_init_4 : decode b_Reader_init 4 = .ok (.aload_n 0, 1) := by decide +kernel
theorem d_Reader_init_5 : decode b_Reader_init 5 = .ok (.sipush 1200, 3) := by decide +kernel
theorem d_Reader_init_8 : decode b_Reader_init 8 = .ok (.newarray .char, 2) := by decide +kernel
theorem d_Reader_init_10 : decode b_Reader_init 10 = .ok (.putfield 9, 3) := by decide +kernel
theorem d_Reader_init_13 : decode b_Reader_init 13 = .ok (.aload_n 0, 1) := by decide +kernel
theorem d_Reader_init_14 : decode b_Reader_init 14 = .ok (.aload_n 1, 1) := by decide +kernel
theorem d_Reader_init_15 : decode b_Reader_init 15 = .ok (.putfield 15, 3) := by decide +kernel
theorem d_Reader_init_18 : decode b_Reader_init 18 = .ok (.return_, 1) := by decide +kernel
theorem d_Reader_readBlock_0 : decode b_Reader_readBlock 0 = .ok (.aload_n 0, 1) := by decide +kernel
theorem d_Reader_readBlock_1 : decode b_Reader_readBlock 1 = .ok (.iconst 0, 1) := by decide +kernel
theorem d_Reader_readBlock_2 : decode b_Reader_readBlock 2 = .ok (.putfield 19, 3) := by decide +kernel
theorem d_Reader_readBlock_5 : decode b_Reader_readBlock 5 = .ok (.iconst 0, 1) := by decide +kernel
theorem d_Reader_readBlock_6 : decode b_Reader_readBlock 6 = .ok (.istore_n 2, 1) := by decide +kernel
theorem d_Reader_readBlock_7 : decode b_Reader_readBlock 7 = .ok (.iload_n 2, 1) := by decide +kernel
theorem d_Reader_readBlock_8 : decode b_Reader_readBlock 8 = .ok (.aload_n 1, 1) := by decide +kernel
theorem d_Reader_readBlock_9 : decode b_Reader_readBlock 9 = .ok (.getfield 23, 3) := by decide +kernel
theorem d_Reader_readBlock_12 : decode b_Reader_readBlock 12 = .ok (.if_icmp .ge 42, 3) := by decide +kernel
theorem d_Reader_readBlock_15 : decode b_Reader_readBlock 15 = .ok (.aload_n 1, 1) := by decide +kernel
theorem d_Reader_readBlock_16 : decode b_Reader_readBlock 16 = .ok (.iload_n 2, 1) := by decide +kernel
theorem d_Reader_readBlock_17 : decode b_Reader_readBlock 17 = .ok (.invokevirtual 26, 3) := by decide +kernel
theorem d_Reader_readBlock_20 : decode b_Reader_readBlock 20 = .ok (.ifCond .ne 12, 3) := by decide +kernel
theorem d_Reader_readBlock_23 : decode b_Reader_readBlock 23 = .ok (.aload_n 0, 1) := by decide +kernel
theorem d_Reader_readBlock_24 : decode b_Reader_readBlock 24 = .ok (.bipush 32, 2) := by decide +kernel
theorem d_Reader_readBlock_26 : decode b_Reader_readBlock 26 = .ok (.invokevirtual 30, 3) := by decide +kernel
theorem d_Reader_readBlock_29 : decode b_Reader_readBlock 29 = .ok (.goto 19, 3) := by decide +kernel
theorem d_Reader_readBlock_32 : decode b_Reader_readBlock 32 = .ok (.aload_n 1, 1) := by decide +kernel
theorem d_Reader_readBlock_33 : decode b_Reader_readBlock 33 = .ok (.iload_n 2, 1) := by decide +kernel
theorem d_Reader_readBlock_34 : decode b_Reader_readBlock 34 = .ok (.iconst 1, 1) := by decide +kernel
theorem d_Reader_readBlock_35 : decode b_Reader_readBlock 35 = .ok (.isub, 1) := by decide +kernel
theorem d_Reader_readBlock_36 : decode b_Reader_readBlock 36 = .ok (.invokevirtual 26, 3) := by decide +kernel
theorem d_Reader_readBlock_39 : decode b_Reader_readBlock 39 = .ok (.ifCond .ne 9, 3) := by decide +kernel
theorem d_Reader_readBlock_42 : decode b_Reader_readBlock 42 = .ok (.aload_n 0, 1) := by decide +kernel
theorem d_Reader_readBlock_43 : decode b_Reader_readBlock 43 = .ok (.aload_n 1, 1) := by decide +kernel
theorem d_Reader_readBlock_44 : decode b_Reader_readBlock 44 = .ok (.iload_n 2, 1) := by decide +kernel
theorem d_Reader_readBlock_45 : decode b_Reader_readBlock 45 = .ok (.invokevirtual 34, 3) := by decide +kernel
theorem d_Reader_readBlock_48 : decode b_Reader_readBlock 48 = .ok (.iinc 2 1, 3) := by decide +kernel
theorem d_Reader_readBlock_51 : decode b_Reader_readBlock 51 = .ok (.goto (-44), 3) := by decide +kernel
theorem d_Reader_readBlock_54 : decode b_Reader_readBlock 54 = .ok (.return_, 1) := by decide +kernel
theorem d_Reader_readPiece_0 : decode b_Reader_readPiece 0 = .ok (.aload_n 0, 1) := by decide +kernel
theorem d_Reader_readPiece_1 : decode b_Reader_readPiece 1 = .ok (.iload_n 2, 1) := by decide +kernel
theorem d_Reader_readPiece_2 : decode b_Reader_readPiece 2 = .ok (.aload_n 1, 1) := by decide +kernel
theorem d_Reader_readPiece_3 : decode b_Reader_readPiece 3 = .ok (.iload_n 2, 1) := by decide +kernel
theorem d_Reader_readPiece_4 : decode b_Reader_readPiece 4 = .ok (.invokestatic 38, 3) := by decide +kernel
theorem d_Reader_readPiece_7 : decode b_Reader_readPiece 7 = .ok (.iadd, 1) := by decide +kernel
theorem d_Reader_readPiece_8 : decode b_Reader_readPiece 8 = .ok (.putfield 42, 3) := by decide +kernel
theorem d_Reader_readPiece_11 : decode b_Reader_readPiece 11 = .ok (.aload_n 0, 1) := by decide +kernel
theorem d_Reader_readPiece_12 : decode b_Reader_readPiece 12 = .ok (.aload_n 1, 1) := by decide +kernel
theorem d_Reader_readPiece_13 : decode b_Reader_readPiece 13 = .ok (.iload_n 2, 1) := by decide +kernel
theorem d_Reader_readPiece_14 : decode b_Reader_readPiece 14 = .ok (.invokevirtual 45, 3) := by decide +kernel
theorem d_Reader_readPiece_17 : decode b_Reader_readPiece 17 = .ok (.putfield 48, 3) := by decide +kernel
theorem d_Reader_readPiece_20 : decode b_Reader_readPiece 20 = .ok (.aload_n 0, 1) := by decide +kernel
theorem d_Reader_readPiece_21 : decode b_Reader_readPiece 21 = .ok (.iconst 0, 1) := by decide +kernel
theorem d_Reader_readPiece_22 : decode b_Reader_readPiece 22 = .ok (.putfield 51, 3) := by decide +kernel
theorem d_Reader_readPiece_25 : decode b_Reader_readPiece 25 = .ok (.aload_n 0, 1) := by decide +kernel
theorem d_Reader_readPiece_26 : decode b_Reader_readPiece 26 = .ok (.iconst 0, 1) := by decide +kernel
theorem d_Reader_readPiece_27 : decode b_Reader_readPiece 27 = .ok (.putfield 55, 3) := by decide +kernel
theorem d_Reader_readPiece_30 : decode b_Reader_readPiece 30 = .ok (.aload_n 0, 1) := by decide +kernel
theorem d_Reader_readPiece_31 : decode b_Reader_readPiece 31 = .ok (.iconst 0, 1) := by decide +kernel
theorem d_Reader_readPiece_32 : decode b_Reader_readPiece 32 = .ok (.putfield 58, 3) := by decide +kernel
theorem d_Reader_readPiece_35 : decode b_Reader_readPiece 35 = .ok (.iload_n 2, 1) := by decide +kernel
theorem d_Reader_readPiece_36 : decode b_Reader_readPiece 36 = .ok (.istore_n 3, 1) := by decide +kernel
theorem d_Reader_readPiece_37 : decode b_Reader_readPiece 37 = .ok (.iload_n 2, 1) := by decide +kernel
theorem d_Reader_readPiece_38 : decode b_Reader_readPiece 38 = .ok (.istore 4, 2) := by decide +kernel
theorem d_Reader_readPiece_40 : decode b_Reader_readPiece 40 = .ok (.iload 4, 2) := by decide +kernel
theorem d_Reader_readPiece_42 : decode b_Reader_readPiece 42 = .ok (.aload_n 0, 1) := by decide +kernel
theorem d_Reader_readPiece_43 : decode b_Reader_readPiece 43 = .ok (.getfield 48, 3) := by decide +kernel
theorem d_Reader_readPiece_46 : decode b_Reader_readPiece 46 = .ok (.if_icmp .ge 26, 3) := by decide +kernel
theorem d_Reader_readPiece_49 : decode b_Reader_readPiece 49 = .ok (.iload 4, 2) := by decide +kernel
theorem d_Reader_readPiece_51 : decode b_Reader_readPiece 51 = .ok (.iload_n 3, 1) := by decide +kernel
theorem d_Reader_readPiece_52 : decode b_Reader_readPiece 52 = .ok (.if_icmp .ne 14, 3) := by decide +kernel
theorem d_Reader_readPiece_55 : decode b_Reader_readPiece 55 = .ok (.iload 4, 2) := by decide +kernel
theorem d_Reader_readPiece_57 : decode b_Reader_readPiece 57 = .ok (.aload_n 0, 1) := by decide +kernel
theorem d_Reader_readPiece_58 : decode b_Reader_readPiece 58 = .ok (.aload_n 1, 1) := by decide +kernel
theorem d_Reader_readPiece_59 : decode b_Reader_readPiece 59 = .ok (.iload 4, 2) := by decide +kernel
theorem d_Reader_readPiece_61 : decode b_Reader_readPiece 61 = .ok (.invokevirtual 61, 3) := by decide +kernel
theorem d_Reader_readPiece_64 : decode b_Reader_readPiece 64 = .ok (.iadd, 1) := by decide +kernel
theorem d_Reader_readPiece_65 : decode b_Reader_readPiece 65 = .ok (.istore_n 3, 1) := by decide +kernel
theorem d_Reader_readPiece_66 : decode b_Reader_readPiece 66 = .ok (.iinc 4 1, 3) := by decide +kernel
theorem d_Reader_readPiece_69 : decode b_Reader_readPiece 69 = .ok (.goto (-29), 3) := by decide +kernel
theorem d_Reader_readPiece_72 : decode b_Reader_readPiece 72 = .ok (.return_, 1) := by decide +kernel
theorem d_Reader_readCellsAt_0 : decode b_Reader_readCellsAt 0 = .ok (.aload_n 1, 1) := by decide +kernel
theorem d_Reader_readCellsAt_1 : decode b_Reader_readCellsAt 1 = .ok (.iload_n 2, 1) := by decide +kernel
theorem d_Reader_readCellsAt_2 : decode b_Reader_readCellsAt 2 = .ok (.invokevirtual 26, 3) := by decide +kernel
theorem d_Reader_readCellsAt_5 : decode b_Reader_readCellsAt 5 = .ok (.istore_n 3, 1) := by decide +kernel
theorem d_Reader_readCellsAt_6 : decode b_Reader_readCellsAt 6 = .ok (.aload_n 0, 1) := by decide +kernel
theorem d_Reader_readCellsAt_7 : decode b_Reader_readCellsAt 7 = .ok (.getfield 51, 3) := by decide +kernel
theorem d_Reader_readCellsAt_10 : decode b_Reader_readCellsAt 10 = .ok (.ifCond .eq 22, 3) := by decide +kernel
theorem d_Reader_readCellsAt_13 : decode b_Reader_readCellsAt 13 = .ok (.iload_n 3, 1) := by decide +kernel
theorem d_Reader_readCellsAt_14 : decode b_Reader_readCellsAt 14 = .ok (.invokestatic 64, 3) := by decide +kernel
theorem d_Reader_readCellsAt_17 : decode b_Reader_readCellsAt 17 = .ok (.bipush 35, 2) := by decide +kernel
theorem d_Reader_readCellsAt_19 : decode b_Reader_readCellsAt 19 = .ok (.if_icmp .eq 13, 3) := by decide +kernel
theorem d_Reader_readCellsAt_22 : decode b_Reader_readCellsAt 22 = .ok (.aload_n 0, 1) := by decide +kernel
theorem d_Reader_readCellsAt_23 : decode b_Reader_readCellsAt 23 = .ok (.iload_n 3, 1) := by decide +kernel
theorem d_Reader_readCellsAt_24 : decode b_Reader_readCellsAt 24 = .ok (.invokestatic 64, 3) := by decide +kernel
theorem d_Reader_readCellsAt_27 : decode b_Reader_readCellsAt 27 = .ok (.invokevirtual 30, 3) := by decide +kernel
theorem d_Reader_readCellsAt_30 : decode b_Reader_readCellsAt 30 = .ok (.iconst 1, 1) := by decide +kernel
theorem d_Reader_readCellsAt_31 : decode b_Reader_readCellsAt 31 = .ok (.ireturn, 1) := by decide +kernel
theorem d_Reader_readCellsAt_32 : decode b_Reader_readCellsAt 32 = .ok (.aload_n 0, 1) := by decide +kernel
theorem d_Reader_readCellsAt_33 : decode b_Reader_readCellsAt 33 = .ok (.iload_n 3, 1) := by decide +kernel
theorem d_Reader_readCellsAt_34 : decode b_Reader_readCellsAt 34 = .ok (.bipush 60, 2) := by decide +kernel
theorem d_Reader_readCellsAt_36 : decode b_Reader_readCellsAt 36 = .ok (.if_icmp .ne 7, 3) := by decide +kernel
theorem d_Reader_readCellsAt_39 : decode b_Reader_readCellsAt 39 = .ok (.iconst 1, 1) := by decide +kernel
theorem d_Reader_readCellsAt_40 : decode b_Reader_readCellsAt 40 = .ok (.goto 4, 3) := by decide +kernel
theorem d_Reader_readCellsAt_43 : decode b_Reader_readCellsAt 43 = .ok (.iconst 0, 1) := by decide +kernel
theorem d_Reader_readCellsAt_44 : decode b_Reader_readCellsAt 44 = .ok (.putfield 51, 3) := by decide +kernel
theorem d_Reader_readCellsAt_47 : decode b_Reader_readCellsAt 47 = .ok (.iload_n 3, 1) := by decide +kernel
theorem d_Reader_readCellsAt_48 : decode b_Reader_readCellsAt 48 = .ok (.bipush 60, 2) := by decide +kernel
theorem d_Reader_readCellsAt_50 : decode b_Reader_readCellsAt 50 = .ok (.if_icmp .eq 9, 3) := by decide +kernel
theorem d_Reader_readCellsAt_53 : decode b_Reader_readCellsAt 53 = .ok (.iload_n 3, 1) := by decide +kernel
theorem d_Reader_readCellsAt_54 : decode b_Reader_readCellsAt 54 = .ok (.bipush 48, 2) := by decide +kernel
theorem d_Reader_readCellsAt_56 : decode b_Reader_readCellsAt 56 = .ok (.if_icmp .ne 5, 3) := by decide +kernel
theorem d_Reader_readCellsAt_59 : decode b_Reader_readCellsAt 59 = .ok (.iconst 1, 1) := by decide +kernel
theorem d_Reader_readCellsAt_60 : decode b_Reader_readCellsAt 60 = .ok (.ireturn, 1) := by decide +kernel
theorem d_Reader_readCellsAt_61 : decode b_Reader_readCellsAt 61 = .ok (.iload_n 3, 1) := by decide +kernel
theorem d_Reader_readCellsAt_62 : decode b_Reader_readCellsAt 62 = .ok (.bipush 32, 2) := by decide +kernel
theorem d_Reader_readCellsAt_64 : decode b_Reader_readCellsAt 64 = .ok (.if_icmp .ne 10, 3) := by decide +kernel
theorem d_Reader_readCellsAt_67 : decode b_Reader_readCellsAt 67 = .ok (.aload_n 0, 1) := by decide +kernel
theorem d_Reader_readCellsAt_68 : decode b_Reader_readCellsAt 68 = .ok (.aload_n 1, 1) := by decide +kernel
theorem d_Reader_readCellsAt_69 : decode b_Reader_readCellsAt 69 = .ok (.iload_n 2, 1) := by decide +kernel
theorem d_Reader_readCellsAt_70 : decode b_Reader_readCellsAt 70 = .ok (.invokevirtual 70, 3) := by decide +kernel
theorem d_Reader_readCellsAt_73 : decode b_Reader_readCellsAt 73 = .ok (.ireturn, 1) := by decide +kernel
theorem d_Reader_readCellsAt_74 : decode b_Reader_readCellsAt 74 = .ok (.aload_n 0, 1) := by decide +kernel
theorem d_Reader_readCellsAt_75 : decode b_Reader_readCellsAt 75 = .ok (.aload_n 1, 1) := by decide +kernel
theorem d_Reader_readCellsAt_76 : decode b_Reader_readCellsAt 76 = .ok (.iload_n 2, 1) := by decide +kernel
theorem d_Reader_readCellsAt_77 : decode b_Reader_readCellsAt 77 = .ok (.invokevirtual 73, 3) := by decide +kernel
theorem d_Reader_readCellsAt_80 : decode b_Reader_readCellsAt 80 = .ok (.astore 4, 2) := by decide +kernel
theorem d_Reader_readCellsAt_82 : decode b_Reader_readCellsAt 82 = .ok (.aload 4, 2) := by decide +kernel
theorem d_Reader_readCellsAt_84 : decode b_Reader_readCellsAt 84 = .ok (.ifnonnull 13, 3) := by decide +kernel
theorem d_Reader_readCellsAt_87 : decode b_Reader_readCellsAt 87 = .ok (.aload_n 0, 1) := by decide +kernel
theorem d_Reader_readCellsAt_88 : decode b_Reader_readCellsAt 88 = .ok (.iload_n 3, 1) := by decide +kernel
theorem d_Reader_readCellsAt_89 : decode b_Reader_readCellsAt 89 = .ok (.invokestatic 77, 3) := by decide +kernel
theorem d_Reader_readCellsAt_92 : decode b_Reader_readCellsAt 92 = .ok (.invokevirtual 80, 3) := by decide +kernel
theorem d_Reader_readCellsAt_95 : decode b_Reader_readCellsAt 95 = .ok (.iconst 1, 1) := by decide +kernel
theorem d_Reader_readCellsAt_96 : decode b_Reader_readCellsAt 96 = .ok (.ireturn, 1) := by decide +kernel
theorem d_Reader_readCellsAt_97 : decode b_Reader_readCellsAt 97 = .ok (.iconst 0, 1) := by decide +kernel
theorem d_Reader_readCellsAt_98 : decode b_Reader_readCellsAt 98 = .ok (.istore 5, 2) := by decide +kernel
theorem d_Reader_readCellsAt_100 : decode b_Reader_readCellsAt 100 = .ok (.iload 5, 2) := by decide +kernel
theorem d_Reader_readCellsAt_102 : decode b_Reader_readCellsAt 102 = .ok (.aload 4, 2) := by decide +kernel
theorem d_Reader_readCellsAt_104 : decode b_Reader_readCellsAt 104 = .ok (.getfield 83, 3) := by decide +kernel
theorem d_Reader_readCellsAt_107 : decode b_Reader_readCellsAt 107 = .ok (.if_icmp .ge 21, 3) := by decide +kernel
theorem d_Reader_readCellsAt_110 : decode b_Reader_readCellsAt 110 = .ok (.aload_n 0, 1) := by decide +kernel
theorem d_Reader_readCellsAt_111 : decode b_Reader_readCellsAt 111 = .ok (.aload 4, 2) := by decide +kernel
theorem d_Reader_readCellsAt_113 : decode b_Reader_readCellsAt 113 = .ok (.getfield 88, 3) := by decide +kernel
theorem d_Reader_readCellsAt_116 : decode b_Reader_readCellsAt 116 = .ok (.iload 5, 2) := by decide +kernel
theorem d_Reader_readCellsAt_118 : decode b_Reader_readCellsAt 118 = .ok (.caload, 1) := by decide +kernel
theorem d_Reader_readCellsAt_119 : decode b_Reader_readCellsAt 119 = .ok (.invokevirtual 80, 3) := by decide +kernel
theorem d_Reader_readCellsAt_122 : decode b_Reader_readCellsAt 122 = .ok (.iinc 5 1, 3) := by decide +kernel
theorem d_Reader_readCellsAt_125 : decode b_Reader_readCellsAt 125 = .ok (.goto (-25), 3) := by decide +kernel
theorem d_Reader_readCellsAt_128 : decode b_Reader_readCellsAt 128 = .ok (.aload 4, 2) := by decide +kernel
theorem d_Reader_readCellsAt_130 : decode b_Reader_readCellsAt 130 = .ok (.getfield 91, 3) := by decide +kernel
theorem d_Reader_readCellsAt_133 : decode b_Reader_readCellsAt 133 = .ok (.ireturn, 1) := by decide +kernel
theorem d_Reader_passCapitalSigns_0 : decode b_Reader_passCapitalSigns 0 = .ok (.aload_n 1, 1) := by decide +kernel
theorem d_Reader_passCapitalSigns_1 : decode b_Reader_passCapitalSigns 1 = .ok (.iload_n 2, 1) := by decide +kernel
theorem d_Reader_passCapitalSigns_2 : decode b_Reader_passCapitalSigns 2 = .ok (.invokestatic 38, 3) := by decide +kernel
theorem d_Reader_passCapitalSigns_5 : decode b_Reader_passCapitalSigns 5 = .ok (.istore_n 3, 1) := by decide +kernel
theorem d_Reader_passCapitalSigns_6 : decode b_Reader_passCapitalSigns 6 = .ok (.iload_n 3, 1) := by decide +kernel
theorem d_Reader_passCapitalSigns_7 : decode b_Reader_passCapitalSigns 7 = .ok (.iconst 1, 1) := by decide +kernel
theorem d_Reader_passCapitalSigns_8 : decode b_Reader_passCapitalSigns 8 = .ok (.if_icmp .ne 11, 3) := by decide +kernel
theorem d_Reader_passCapitalSigns_11 : decode b_Reader_passCapitalSigns 11 = .ok (.aload_n 0, 1) := by decide +kernel
theorem d_Reader_passCapitalSigns_12 : decode b_Reader_passCapitalSigns 12 = .ok (.iconst 1, 1) := by decide +kernel
theorem d_Reader_passCapitalSigns_13 : decode b_Reader_passCapitalSigns 13 = .ok (.putfield 55, 3) := by decide +kernel
theorem d_Reader_passCapitalSigns_16 : decode b_Reader_passCapitalSigns 16 = .ok (.goto 8, 3) := by decide +kernel
theorem d_Reader_passCapitalSigns_19 : decode b_Reader_passCapitalSigns 19 = .ok (.aload_n 0, 1) := by decide +kernel
theorem d_Reader_passCapitalSigns_20 : decode b_Reader_passCapitalSigns 20 = .ok (.iconst 1, 1) := by decide +kernel
theorem d_Reader_passCapitalSigns_21 : decode b_Reader_passCapitalSigns 21 = .ok (.putfield 58, 3) := by decide +kernel
theorem d_Reader_passCapitalSigns_24 : decode b_Reader_passCapitalSigns 24 = .ok (.iload_n 3, 1) := by decide +kernel
theorem d_Reader_passCapitalSigns_25 : decode b_Reader_passCapitalSigns 25 = .ok (.ireturn, 1) := by decide +kernel
theorem d_Reader_capitalSignsAt_0 : decode b_Reader_capitalSignsAt 0 = .ok (.iconst 0, 1) := by decide +kernel
theorem d_Reader_capitalSignsAt_1 : decode b_Reader_capitalSignsAt 1 = .ok (.istore_n 2, 1) := by decide +kernel
theorem d_Reader_capitalSignsAt_2 : decode b_Reader_capitalSignsAt 2 = .ok (.iload_n 1, 1) := by decide +kernel
theorem d_Reader_capitalSignsAt_3 : decode b_Reader_capitalSignsAt 3 = .ok (.istore_n 3, 1) := by decide +kernel
theorem d_Reader_capitalSignsAt_4 : decode b_Reader_capitalSignsAt 4 = .ok (.iload_n 3, 1) := by decide +kernel
theorem d_Reader_capitalSignsAt_5 : decode b_Reader_capitalSignsAt 5 = .ok (.aload_n 0, 1) := by decide +kernel
theorem d_Reader_capitalSignsAt_6 : decode b_Reader_capitalSignsAt 6 = .ok (.getfield 23, 3) := by decide +kernel
theorem d_Reader_capitalSignsAt_9 : decode b_Reader_capitalSignsAt 9 = .ok (.if_icmp .ge 22, 3) := by decide +kernel
theorem d_Reader_capitalSignsAt_12 : decode b_Reader_capitalSignsAt 12 = .ok (.aload_n 0, 1) := by decide +kernel
theorem d_Reader_capitalSignsAt_13 : decode b_Reader_capitalSignsAt 13 = .ok (.iload_n 3, 1) := by decide +kernel
theorem d_Reader_capitalSignsAt_14 : decode b_Reader_capitalSignsAt 14 = .ok (.invokevirtual 26, 3) := by decide +kernel
theorem d_Reader_capitalSignsAt_17 : decode b_Reader_capitalSignsAt 17 = .ok (.bipush 32, 2) := by decide +kernel
theorem d_Reader_capitalSignsAt_19 : decode b_Reader_capitalSignsAt 19 = .ok (.if_icmp .ne 12, 3) := by decide +kernel
theorem d_Reader_capitalSignsAt_22 : decode b_Reader_capitalSignsAt 22 = .ok (.iinc 2 1, 3) := by decide +kernel
theorem d_Reader_capitalSignsAt_25 : decode b_Reader_capitalSignsAt 25 = .ok (.iinc 3 1, 3) := by decide +kernel
theorem d_Reader_capitalSignsAt_28 : decode b_Reader_capitalSignsAt 28 = .ok (.goto (-24), 3) := by decide +kernel
theorem d_Reader_capitalSignsAt_31 : decode b_Reader_capitalSignsAt 31 = .ok (.iload_n 2, 1) := by decide +kernel
theorem d_Reader_capitalSignsAt_32 : decode b_Reader_capitalSignsAt 32 = .ok (.ireturn, 1) := by decide +kernel
theorem d_Reader_ruleAt_0 : decode b_Reader_ruleAt 0 = .ok (.aconst_null, 1) := by decide +kernel
theorem d_Reader_ruleAt_1 : decode b_Reader_ruleAt 1 = .ok (.astore_n 3, 1) := by decide +kernel
theorem d_Reader_ruleAt_2 : decode b_Reader_ruleAt 2 = .ok (.iconst 0, 1) := by decide +kernel
theorem d_Reader_ruleAt_3 : decode b_Reader_ruleAt 3 = .ok (.istore 4, 2) := by decide +kernel
theorem d_Reader_ruleAt_5 : decode b_Reader_ruleAt 5 = .ok (.iload 4, 2) := by decide +kernel
theorem d_Reader_ruleAt_7 : decode b_Reader_ruleAt 7 = .ok (.aload_n 0, 1) := by decide +kernel
theorem d_Reader_ruleAt_8 : decode b_Reader_ruleAt 8 = .ok (.getfield 15, 3) := by decide +kernel
theorem d_Reader_ruleAt_11 : decode b_Reader_ruleAt 11 = .ok (.getfield 94, 3) := by decide +kernel
theorem d_Reader_ruleAt_14 : decode b_Reader_ruleAt 14 = .ok (.if_icmp .ge 87, 3) := by decide +kernel
theorem d_Reader_ruleAt_17 : decode b_Reader_ruleAt 17 = .ok (.aload_n 0, 1) := by decide +kernel
theorem d_Reader_ruleAt_18 : decode b_Reader_ruleAt 18 = .ok (.getfield 15, 3) := by decide +kernel
theorem d_Reader_ruleAt_21 : decode b_Reader_ruleAt 21 = .ok (.getfield 97, 3) := by decide +kernel
theorem d_Reader_ruleAt_24 : decode b_Reader_ruleAt 24 = .ok (.iload 4, 2) := by decide +kernel
theorem d_Reader_ruleAt_26 : decode b_Reader_ruleAt 26 = .ok (.aaload, 1) := by decide +kernel
theorem d_Reader_ruleAt_27 : decode b_Reader_ruleAt 27 = .ok (.astore 5, 2) := by decide +kernel
theorem d_Reader_ruleAt_29 : decode b_Reader_ruleAt 29 = .ok (.aload 5, 2) := by decide +kernel
theorem d_Reader_ruleAt_31 : decode b_Reader_ruleAt 31 = .ok (.aload_n 1, 1) := by decide +kernel
theorem d_Reader_ruleAt_32 : decode b_Reader_ruleAt 32 = .ok (.iload_n 2, 1) := by decide +kernel
theorem d_Reader_ruleAt_33 : decode b_Reader_ruleAt 33 = .ok (.invokevirtual 100, 3) := by decide +kernel
theorem d_Reader_ruleAt_36 : decode b_Reader_ruleAt 36 = .ok (.ifCond .eq 59, 3) := by decide +kernel
theorem d_Reader_ruleAt_39 : decode b_Reader_ruleAt 39 = .ok (.aload 5, 2) := by decide +kernel
theorem d_Reader_ruleAt_41 : decode b_Reader_ruleAt 41 = .ok (.iload_n 2, 1) := by decide +kernel
theorem d_Reader_ruleAt_42 : decode b_Reader_ruleAt 42 = .ok (.aload_n 0, 1) := by decide +kernel
theorem d_Reader_ruleAt_43 : decode b_Reader_ruleAt 43 = .ok (.getfield 42, 3) := by decide +kernel
theorem d_Reader_ruleAt_46 : decode b_Reader_ruleAt 46 = .ok (.if_icmp .ne 7, 3) := by decide +kernel
theorem d_Reader_ruleAt_49 : decode b_Reader_ruleAt 49 = .ok (.iconst 1, 1) := by decide +kernel
theorem d_Reader_ruleAt_50 : decode b_Reader_ruleAt 50 = .ok (.goto 4, 3) := by decide +kernel
theorem d_Reader_ruleAt_53 : decode b_Reader_ruleAt 53 = .ok (.iconst 0, 1) := by decide +kernel
theorem d_Reader_ruleAt_54 : decode b_Reader_ruleAt 54 = .ok (.iload_n 2, 1) := by decide +kernel
theorem d_Reader_ruleAt_55 : decode b_Reader_ruleAt 55 = .ok (.aload 5, 2) := by decide +kernel
theorem d_Reader_ruleAt_57 : decode b_Reader_ruleAt 57 = .ok (.getfield 91, 3) := by decide +kernel
theorem d_Reader_ruleAt_60 : decode b_Reader_ruleAt 60 = .ok (.iadd, 1) := by decide +kernel
theorem d_Reader_ruleAt_61 : decode b_Reader_ruleAt 61 = .ok (.aload_n 0, 1) := by decide +kernel
theorem d_Reader_ruleAt_62 : decode b_Reader_ruleAt 62 = .ok (.getfield 48, 3) := by decide +kernel
theorem d_Reader_ruleAt_65 : decode b_Reader_ruleAt 65 = .ok (.if_icmp .ne 7, 3) := by decide +kernel
theorem d_Reader_ruleAt_68 : decode b_Reader_ruleAt 68 = .ok (.iconst 1, 1) := by decide +kernel
theorem d_Reader_ruleAt_69 : decode b_Reader_ruleAt 69 = .ok (.goto 4, 3) := by decide +kernel
theorem d_Reader_ruleAt_72 : decode b_Reader_ruleAt 72 = .ok (.iconst 0, 1) := by decide +kernel
theorem d_Reader_ruleAt_73 : decode b_Reader_ruleAt 73 = .ok (.invokevirtual 104, 3) := by decide +kernel
theorem d_Reader_ruleAt_76 : decode b_Reader_ruleAt 76 = .ok (.ifCond .eq 19, 3) := by decide +kernel
theorem d_Reader_ruleAt_79 : decode b_Reader_ruleAt 79 = .ok (.aload_n 3, 1) := by decide +kernel
theorem d_Reader_ruleAt_80 : decode b_Reader_ruleAt 80 = .ok (.ifnull 12, 3) := by decide +kernel
theorem d_Reader_ruleAt_83 : decode b_Reader_ruleAt 83 = .ok (.aload 5, 2) := by decide +kernel
theorem d_Reader_ruleAt_85 : decode b_Reader_ruleAt 85 = .ok (.aload_n 3, 1) := by decide +kernel
theorem d_Reader_ruleAt_86 : decode b_Reader_ruleAt 86 = .ok (.invokestatic 108, 3) := by decide +kernel
theorem d_Reader_ruleAt_89 : decode b_Reader_ruleAt 89 = .ok (.ifCond .eq 6, 3) := by decide +kernel
theorem d_Reader_ruleAt_92 : decode b_Reader_ruleAt 92 = .ok (.aload 5, 2) := by decide +kernel
theorem d_Reader_ruleAt_94 : decode b_Reader_ruleAt 94 = .ok (.astore_n 3, 1) := by decide +kernel
theorem d_Reader_ruleAt_95 : decode b_Reader_ruleAt 95 = .ok (.iinc 4 1, 3) := by decide +kernel
theorem d_Reader_ruleAt_98 : decode b_Reader_ruleAt 98 = .ok (.goto (-93), 3) := by decide +kernel
theorem d_Reader_ruleAt_101 : decode b_Reader_ruleAt 101 = .ok (.aload_n 3, 1) := by decide +kernel
theorem d_Reader_ruleAt_102 : decode b_Reader_ruleAt 102 = .ok (.areturn, 1) := by decide +kernel
theorem d_Reader_isBetter_0 : decode b_Reader_isBetter 0 = .ok (.aload_n 0, 1) := by decide +kernel
theorem d_Reader_isBetter_1 : decode b_Reader_isBetter 1 = .ok (.getfield 91, 3) := by decide +kernel
theorem d_Reader_isBetter_4 : decode b_Reader_isBetter 4 = .ok (.aload_n 1, 1) := by decide +kernel
theorem d_Reader_isBetter_5 : decode b_Reader_isBetter 5 = .ok (.getfield 91, 3) := by decide +kernel
theorem d_Reader_isBetter_8 : decode b_Reader_isBetter 8 = .ok (.if_icmp .gt 25, 3) := by decide +kernel
theorem d_Reader_isBetter_11 : decode b_Reader_isBetter 11 = .ok (.aload_n 0, 1) := by decide +kernel
theorem d_Reader_isBetter_12 : decode b_Reader_isBetter 12 = .ok (.getfield 91, 3) := by decide +kernel
theorem d_Reader_isBetter_15 : decode b_Reader_isBetter 15 = .ok (.aload_n 1, 1) := by decide +kernel
theorem d_Reader_isBetter_16 : decode b_Reader_isBetter 16 = .ok (.getfield 91, 3) := by decide +kernel
theorem d_Reader_isBetter_19 : decode b_Reader_isBetter 19 = .ok (.if_icmp .ne 18, 3) := by decide +kernel
theorem d_Reader_isBetter_22 : decode b_Reader_isBetter 22 = .ok (.aload_n 0, 1) := by decide +kernel
theorem d_Reader_isBetter_23 : decode b_Reader_isBetter 23 = .ok (.getfield 112, 3) := by decide +kernel
theorem d_Reader_isBetter_26 : decode b_Reader_isBetter 26 = .ok (.aload_n 1, 1) := by decide +kernel
theorem d_Reader_isBetter_27 : decode b_Reader_isBetter 27 = .ok (.getfield 112, 3) := by decide +kernel
theorem d_Reader_isBetter_30 : decode b_Reader_isBetter 30 = .ok (.if_icmp .ge 7, 3) := by decide +kernel
theorem d_Reader_isBetter_33 : decode b_Reader_isBetter 33 = .ok (.iconst 1, 1) := by decide +kernel
theorem d_Reader_isBetter_34 : decode b_Reader_isBetter 34 = .ok (.goto 4, 3) := by decide +kernel
theorem d_Reader_isBetter_37 : decode b_Reader_isBetter 37 = .ok (.iconst 0, 1) := by decide +kernel
theorem d_Reader_isBetter_38 : decode b_Reader_isBetter 38 = .ok (.ireturn, 1) := by decide +kernel
theorem d_Reader_putInCase_0 : decode b_Reader_putInCase 0 = .ok (.aload_n 0, 1) := by decide +kernel
theorem d_Reader_putInCase_1 : decode b_Reader_putInCase 1 = .ok (.aload_n 0, 1) := by decide +kernel
theorem d_Reader_putInCase_2 : decode b_Reader_putInCase 2 = .ok (.getfield 55, 3) := by decide +kernel
theorem d_Reader_putInCase_5 : decode b_Reader_putInCase 5 = .ok (.ifCond .ne 10, 3) := by decide +kernel
theorem d_Reader_putInCase_8 : decode b_Reader_putInCase 8 = .ok (.aload_n 0, 1) := by decide +kernel
theorem d_Reader_putInCase_9 : decode b_Reader_putInCase 9 = .ok (.getfield 58, 3) := by decide +kernel
theorem d_Reader_putInCase_12 : decode b_Reader_putInCase 12 = .ok (.ifCond .eq 10, 3) := by decide +kernel
theorem d_Reader_putInCase_15 : decode b_Reader_putInCase 15 = .ok (.iload_n 1, 1) := by decide +kernel
theorem d_Reader_putInCase_16 : decode b_Reader_putInCase 16 = .ok (.invokestatic 115, 3) := by decide +kernel
theorem d_Reader_putInCase_19 : decode b_Reader_putInCase 19 = .ok (.goto 4, 3) := by decide +kernel
theorem d_Reader_putInCase_22 : decode b_Reader_putInCase 22 = .ok (.iload_n 1, 1) := by decide +kernel
theorem d_Reader_putInCase_23 : decode b_Reader_putInCase 23 = .ok (.invokevirtual 30, 3) := by decide +kernel
theorem d_Reader_putInCase_26 : decode b_Reader_putInCase 26 = .ok (.iload_n 1, 1) := by decide +kernel
theorem d_Reader_putInCase_27 : decode b_Reader_putInCase 27 = .ok (.invokestatic 119, 3) := by decide +kernel
theorem d_Reader_putInCase_30 : decode b_Reader_putInCase 30 = .ok (.ifCond .eq 8, 3) := by decide +kernel
theorem d_Reader_putInCase_33 : decode b_Reader_putInCase 33 = .ok (.aload_n 0, 1) := by decide +kernel
theorem d_Reader_putInCase_34 : decode b_Reader_putInCase 34 = .ok (.iconst 0, 1) := by decide +kernel
theorem d_Reader_putInCase_35 : decode b_Reader_putInCase 35 = .ok (.putfield 55, 3) := by decide +kernel
theorem d_Reader_putInCase_38 : decode b_Reader_putInCase 38 = .ok (.return_, 1) := by decide +kernel
theorem d_Reader_put_0 : decode b_Reader_put 0 = .ok (.aload_n 0, 1) := by decide +kernel
theorem d_Reader_put_1 : decode b_Reader_put 1 = .ok (.getfield 19, 3) := by decide +kernel
theorem d_Reader_put_4 : decode b_Reader_put 4 = .ok (.aload_n 0, 1) := by decide +kernel
theorem d_Reader_put_5 : decode b_Reader_put 5 = .ok (.getfield 9, 3) := by decide +kernel
theorem d_Reader_put_8 : decode b_Reader_put 8 = .ok (.arraylength, 1) := by decide +kernel
theorem d_Reader_put_9 : decode b_Reader_put 9 = .ok (.if_icmp .ge 23, 3) := by decide +kernel
theorem d_Reader_put_12 : decode b_Reader_put 12 = .ok (.aload_n 0, 1) := by decide +kernel
theorem d_Reader_put_13 : decode b_Reader_put 13 = .ok (.getfield 9, 3) := by decide +kernel
theorem d_Reader_put_16 : decode b_Reader_put 16 = .ok (.aload_n 0, 1) := by decide +kernel
theorem d_Reader_put_17 : decode b_Reader_put 17 = .ok (.getfield 19, 3) := by decide +kernel
theorem d_Reader_put_20 : decode b_Reader_put 20 = .ok (.iload_n 1, 1) := by decide +kernel
theorem d_Reader_put_21 : decode b_Reader_put 21 = .ok (.castore, 1) := by decide +kernel
theorem d_Reader_put_22 : decode b_Reader_put 22 = .ok (.aload_n 0, 1) := by decide +kernel
theorem d_Reader_put_23 : decode b_Reader_put 23 = .ok (.dup, 1) := by decide +kernel
theorem d_Reader_put_24 : decode b_Reader_put 24 = .ok (.getfield 19, 3) := by decide +kernel
theorem d_Reader_put_27 : decode b_Reader_put 27 = .ok (.iconst 1, 1) := by decide +kernel
theorem d_Reader_put_28 : decode b_Reader_put 28 = .ok (.iadd, 1) := by decide +kernel
theorem d_Reader_put_29 : decode b_Reader_put 29 = .ok (.putfield 19, 3) := by decide +kernel
theorem d_Reader_put_32 : decode b_Reader_put 32 = .ok (.return_, 1) := by decide +kernel
theorem d_Rule_init_0 : decode b_Rule_init 0 = .ok (.aload_n 0, 1) := by decide +kernel
theorem d_Rule_init_1 : decode b_Rule_init 1 = .ok (.invokespecial 3, 3) := by decide +kernel
theorem d_Rule_init_4 : decode b_Rule_init 4 = .ok (.aload_n 0, 1) := by decide +kernel
theorem d_Rule_init_5 : decode b_Rule_init 5 = .ok (.bipush 6, 2) := by decide +kernel
theorem d_Rule_init_7 : decode b_Rule_init 7 = .ok (.newarray .char, 2) := by decide +kernel
theorem d_Rule_init_9 : decode b_Rule_init 9 = .ok (.putfield 9, 3) := by decide +kernel
theorem d_Rule_init_12 : decode b_Rule_init 12 = .ok (.aload_n 0, 1) := by decide +kernel
theorem d_Rule_init_13 : decode b_Rule_init 13 = .ok (.iconst 3, 1) := by decide +kernel
theorem d_Rule_init_14 : decode b_Rule_init 14 = .ok (.newarray .int, 2) := by decide +kernel
theorem d_Rule_init_16 : decode b_Rule_init 16 = .ok (.putfield 15, 3) := by decide +kernel
theorem d_Rule_init_19 : decode b_Rule_init 19 = .ok (.return_, 1) := by decide +kernel
theorem d_Rule_readFrom_0 : decode b_Rule_readFrom 0 = .ok (.aload_n 0, 1) := by decide +kernel
theorem d_Rule_readFrom_1 : decode b_Rule_readFrom 1 = .ok (.ldc 19, 2) := by decide +kernel
theorem d_Rule_readFrom_3 : decode b_Rule_readFrom 3 = .ok (.aload_n 1, 1) := by decide +kernel
theorem d_Rule_readFrom_4 : decode b_Rule_readFrom 4 = .ok (.iload_n 2, 1) := by decide +kernel
theorem d_Rule_readFrom_5 : decode b_Rule_readFrom 5 = .ok (.invokevirtual 21, 3) := by decide +kernel
theorem d_Rule_readFrom_8 : decode b_Rule_readFrom 8 = .ok (.invokevirtual 27, 3) := by decide +kernel
theorem d_Rule_readFrom_11 : decode b_Rule_readFrom 11 = .ok (.putfield 33, 3) := by decide +kernel
theorem d_Rule_readFrom_14 : decode b_Rule_readFrom 14 = .ok (.aload_n 0, 1) := by decide +kernel
theorem d_Rule_readFrom_15 : decode b_Rule_readFrom 15 = .ok (.getfield 33, 3) := by decide +kernel
theorem d_Rule_readFrom_18 : decode b_Rule_readFrom 18 = .ok (.ifCond .lt 15, 3) := by decide +kernel
theorem d_Rule_readFrom_21 : decode b_Rule_readFrom 21 = .ok (.aload_n 1, 1) := by decide +kernel
theorem d_Rule_readFrom_22 : decode b_Rule_readFrom 22 = .ok (.iload_n 2, 1) := by decide +kernel
theorem d_Rule_readFrom_23 : decode b_Rule_readFrom 23 = .ok (.iconst 1, 1) := by decide +kernel
theorem d_Rule_readFrom_24 : decode b_Rule_readFrom 24 = .ok (.iadd, 1) := by decide +kernel
theorem d_Rule_readFrom_25 : decode b_Rule_readFrom 25 = .ok (.invokevirtual 21, 3) := by decide +kernel
theorem d_Rule_readFrom_28 : decode b_Rule_readFrom 28 = .ok (.bipush 32, 2) := by decide +kernel
theorem d_Rule_readFrom_30 : decode b_Rule_readFrom 30 = .ok (.if_icmp .eq 5, 3) := by decide +kernel
theorem d_Rule_readFrom_33 : decode b_Rule_readFrom 33 = .ok (.iconst 0, 1) := by decide +kernel
theorem d_Rule_readFrom_34 : decode b_Rule_readFrom 34 = .ok (.ireturn, 1) := by decide +kernel
theorem d_Rule_readFrom_35 : decode b_Rule_readFrom 35 = .ok (.aload_n 0, 1) := by decide +kernel
theorem d_Rule_readFrom_36 : decode b_Rule_readFrom 36 = .ok (.aload_n 1, 1) := by decide +kernel
theorem d_Rule_readFrom_37 : decode b_Rule_readFrom 37 = .ok (.iload_n 2, 1) := by decide +kernel
theorem d_Rule_readFrom_38 : decode b_Rule_readFrom 38 = .ok (.iconst 2, 1) := by decide +kernel
theorem d_Rule_readFrom_39 : decode b_Rule_readFrom 39 = .ok (.iadd, 1) := by decide +kernel
theorem d_Rule_readFrom_40 : decode b_Rule_readFrom 40 = .ok (.invokevirtual 37, 3) := by decide +kernel
theorem d_Rule_readFrom_43 : decode b_Rule_readFrom 43 = .ok (.iload_n 2, 1) := by decide +kernel
theorem d_Rule_readFrom_44 : decode b_Rule_readFrom 44 = .ok (.iconst 2, 1) := by decide +kernel
theorem d_Rule_readFrom_45 : decode b_Rule_readFrom 45 = .ok (.iadd, 1) := by decide +kernel
theorem d_Rule_readFrom_46 : decode b_Rule_readFrom 46 = .ok (.aload_n 0, 1) := by decide +kernel
theorem d_Rule_readFrom_47 : decode b_Rule_readFrom 47 = .ok (.getfield 41, 3) := by decide +kernel
theorem d_Rule_readFrom_50 : decode b_Rule_readFrom 50 = .ok (.iadd, 1) := by decide +kernel
theorem d_Rule_readFrom_51 : decode b_Rule_readFrom 51 = .ok (.istore 4, 2) := by decide +kernel
theorem d_Rule_readFrom_53 : decode b_Rule_readFrom 53 = .ok (.aload_n 0, 1) := by decide +kernel
theorem d_Rule_readFrom_54 : decode b_Rule_readFrom 54 = .ok (.getfield 41, 3) := by decide +kernel
theorem d_Rule_readFrom_57 : decode b_Rule_readFrom 57 = .ok (.iconst 2, 1) := by decide +kernel
theorem d_Rule_readFrom_58 : decode b_Rule_readFrom 58 = .ok (.if_icmp .lt 31, 3) := by decide +kernel
theorem d_Rule_readFrom_61 : decode b_Rule_readFrom 61 = .ok (.aload_n 1, 1) := by decide +kernel
theorem d_Rule_readFrom_62 : decode b_Rule_readFrom 62 = .ok (.iload 4, 2) := by decide +kernel
theorem d_Rule_readFrom_64 : decode b_Rule_readFrom 64 = .ok (.invokevirtual 21, 3) := by decide +kernel
theorem d_Rule_readFrom_67 : decode b_Rule_readFrom 67 = .ok (.bipush 61, 2) := by decide +kernel
theorem d_Rule_readFrom_69 : decode b_Rule_readFrom 69 = .ok (.if_icmp .ne 20, 3) := by decide +kernel
theorem d_Rule_readFrom_72 : decode b_Rule_readFrom 72 = .ok (.aload_n 0, 1) := by decide +kernel
theorem d_Rule_readFrom_73 : decode b_Rule_readFrom 73 = .ok (.aload_n 1, 1) := by decide +kernel
theorem d_Rule_readFrom_74 : decode b_Rule_readFrom 74 = .ok (.iload 4, 2) := by decide +kernel
theorem d_Rule_readFrom_76 : decode b_Rule_readFrom 76 = .ok (.iconst 1, 1) := by decide +kernel
theorem d_Rule_readFrom_77 : decode b_Rule_readFrom 77 = .ok (.iadd, 1) := by decide +kernel
theorem d_Rule_readFrom_78 : decode b_Rule_readFrom 78 = .ok (.iload_n 3, 1) := by decide +kernel
theorem d_Rule_readFrom_79 : decode b_Rule_readFrom 79 = .ok (.invokevirtual 44, 3) := by decide +kernel
theorem d_Rule_readFrom_82 : decode b_Rule_readFrom 82 = .ok (.ifCond .eq 7, 3) := by decide +kernel
theorem d_Rule_readFrom_85 : decode b_Rule_readFrom 85 = .ok (.iconst 1, 1) := by decide +kernel
theorem d_Rule_readFrom_86 : decode b_Rule_readFrom 86 = .ok (.goto 4, 3) := by decide +kernel
theorem d_Rule_readFrom_89 : decode b_Rule_readFrom 89 = .ok (.iconst 0, 1) := by decide +kernel
theorem d_Rule_readFrom_90 : decode b_Rule_readFrom 90 = .ok (.ireturn, 1) := by decide +kernel
theorem d_Rule_readLetters_0 : decode b_Rule_readLetters 0 = .ok (.aload_n 0, 1) := by decide +kernel
theorem d_Rule_readLetters_1 : decode b_Rule_readLetters 1 = .ok (.iconst 0, 1) := by decide +kernel
theorem d_Rule_readLetters_2 : decode b_Rule_readLetters 2 = .ok (.putfield 41, 3) := by decide +kernel
theorem d_Rule_readLetters_5 : decode b_Rule_readLetters 5 = .ok (.iconst 0, 1) := by decide +kernel
theorem d_Rule_readLetters_6 : decode b_Rule_readLetters 6 = .ok (.istore_n 3, 1) := by decide +kernel
theorem d_Rule_readLetters_7 : decode b_Rule_readLetters 7 = .ok (.iload_n 3, 1) := by decide +kernel
theorem d_Rule_readLetters_8 : decode b_Rule_readLetters 8 = .ok (.bipush 6, 2) := by decide +kernel
theorem d_Rule_readLetters_10 : decode b_Rule_readLetters 10 = .ok (.if_icmp .ge 45, 3) := by decide +kernel
theorem d_Rule_readLetters_13 : decode b_Rule_readLetters 13 = .ok (.aload_n 1, 1) := by decide +kernel
theorem d_Rule_readLetters_14 : decode b_Rule_readLetters 14 = .ok (.iload_n 2, 1) := by decide +kernel
theorem d_Rule_readLetters_15 : decode b_Rule_readLetters 15 = .ok (.iload_n 3, 1) := by decide +kernel
theorem d_Rule_readLetters_16 : decode b_Rule_readLetters 16 = .ok (.iadd, 1) := by decide +kernel
theorem d_Rule_readLetters_17 : decode b_Rule_readLetters 17 = .ok (.invokevirtual 21, 3) := by decide +kernel
theorem d_Rule_readLetters_20 : decode b_Rule_readLetters 20 = .ok (.invokestatic 48, 3) := by decide +kernel
theorem d_Rule_readLetters_23 : decode b_Rule_readLetters 23 = .ok (.ifCond .eq 32, 3) := by decide +kernel
theorem d_Rule_readLetters_26 : decode b_Rule_readLetters 26 = .ok (.aload_n 0, 1) := by decide +kernel
theorem d_Rule_readLetters_27 : decode b_Rule_readLetters 27 = .ok (.getfield 9, 3) := by decide +kernel
theorem d_Rule_readLetters_30 : decode b_Rule_readLetters 30 = .ok (.iload_n 3, 1) := by decide +kernel
theorem d_Rule_readLetters_31 : decode b_Rule_readLetters 31 = .ok (.aload_n 1, 1) := by decide +kernel
theorem d_Rule_readLetters_32 : decode b_Rule_readLetters 32 = .ok (.iload_n 2, 1) := by decide +kernel
theorem d_Rule_readLetters_33 : decode b_Rule_readLetters 33 = .ok (.iload_n 3, 1) := by decide +kernel
theorem d_Rule_readLetters_34 : decode b_Rule_readLetters 34 = .ok (.iadd, 1) := by decide +kernel
theorem d_Rule_readLetters_35 : decode b_Rule_readLetters 35 = .ok (.invokevirtual 21, 3) := by decide +kernel
theorem d_Rule_readLetters_38 : decode b_Rule_readLetters 38 = .ok (.castore, 1) := by decide +kernel
theorem d_Rule_readLetters_39 : decode b_Rule_readLetters 39 = .ok (.aload_n 0, 1) := by decide +kernel
theorem d_Rule_readLetters_40 : decode b_Rule_readLetters 40 = .ok (.dup, 1) := by decide +kernel
theorem d_Rule_readLetters_41 : decode b_Rule_readLetters 41 = .ok (.getfield 41, 3) := by decide +kernel
theorem d_Rule_readLetters_44 : decode b_Rule_readLetters 44 = .ok (.iconst 1, 1) := by decide +kernel
theorem d_Rule_readLetters_45 : decode b_Rule_readLetters 45 = .ok (.iadd, 1) := by decide +kernel
theorem d_Rule_readLetters_46 : decode b_Rule_readLetters 46 = .ok (.putfield 41, 3) := by decide +kernel
theorem d_Rule_readLetters_49 : decode b_Rule_readLetters 49 = .ok (.iinc 3 1, 3) := by decide +kernel
theorem d_Rule_readLetters_52 : decode b_Rule_readLetters 52 = .ok (.goto (-45), 3) := by decide +kernel
theorem d_Rule_readLetters_55 : decode b_Rule_readLetters 55 = .ok (.return_, 1) := by decide +kernel
theorem d_Rule_readCells_0 : decode b_Rule_readCells 0 = .ok (.aload_n 0, 1) := by decide +kernel
theorem d_Rule_readCells_1 : decode b_Rule_readCells 1 = .ok (.iconst 0, 1) := by decide +kernel
theorem d_Rule_readCells_2 : decode b_Rule_readCells 2 = .ok (.putfield 54, 3) := by decide +kernel
theorem d_Rule_readCells_5 : decode b_Rule_readCells 5 = .ok (.iconst 0, 1) := by decide +kernel
theorem d_Rule_readCells_6 : decode b_Rule_readCells 6 = .ok (.istore 4, 2) := by decide +kernel
theorem d_Rule_readCells_8 : decode b_Rule_readCells 8 = .ok (.iload_n 2, 1) := by decide +kernel
theorem d_Rule_readCells_9 : decode b_Rule_readCells 9 = .ok (.istore 5, 2) := by decide +kernel
theorem d_Rule_readCells_11 : decode b_Rule_readCells 11 = .ok (.iload 5, 2) := by decide +kernel
theorem d_Rule_readCells_13 : decode b_Rule_readCells 13 = .ok (.iload_n 3, 1) := by decide +kernel
theorem d_Rule_readCells_14 : decode b_Rule_readCells 14 = .ok (.if_icmp .ge 84, 3) := by decide +kernel
theorem d_Rule_readCells_17 : decode b_Rule_readCells 17 = .ok (.aload_n 1, 1) := by decide +kernel
theorem d_Rule_readCells_18 : decode b_Rule_readCells 18 = .ok (.iload 5, 2) := by decide +kernel
theorem d_Rule_readCells_20 : decode b_Rule_readCells 20 = .ok (.invokevirtual 21, 3) := by decide +kernel
theorem d_Rule_readCells_23 : decode b_Rule_readCells 23 = .ok (.istore 6, 2) := by decide +kernel
theorem d_Rule_readCells_25 : decode b_Rule_readCells 25 = .ok (.iload 6, 2) := by decide +kernel
theorem d_Rule_readCells_27 : decode b_Rule_readCells 27 = .ok (.bipush 45, 2) := by decide +kernel
theorem d_Rule_readCells_29 : decode b_Rule_readCells 29 = .ok (.if_icmp .ne 20, 3) := by decide +kernel
theorem d_Rule_readCells_32 : decode b_Rule_readCells 32 = .ok (.aload_n 0, 1) := by decide +kernel
theorem d_Rule_readCells_33 : decode b_Rule_readCells 33 = .ok (.iload 4, 2) := by decide +kernel
theorem d_Rule_readCells_35 : decode b_Rule_readCells 35 = .ok (.invokevirtual 57, 3) := by decide +kernel
theorem d_Rule_readCells_38 : decode b_Rule_readCells 38 = .ok (.ifCond .ne 5, 3) := by decide +kernel
theorem d_Rule_readCells_41 : decode b_Rule_readCells 41 = .ok (.iconst 0, 1) := by decide +kernel
theorem d_Rule_readCells_42 : decode b_Rule_readCells 42 = .ok (.ireturn, 1) := by decide +kernel
theorem d_Rule_readCells_43 : decode b_Rule_readCells 43 = .ok (.iconst 0, 1) := by decide +kernel
theorem d_Rule_readCells_44 : decode b_Rule_readCells 44 = .ok (.istore 4, 2) := by decide +kernel
theorem d_Rule_readCells_46 : decode b_Rule_readCells 46 = .ok (.goto 46, 3) := by decide +kernel
theorem d_Rule_readCells_49 : decode b_Rule_readCells 49 = .ok (.iload 6, 2) := by decide +kernel
theorem d_Rule_readCells_51 : decode b_Rule_readCells 51 = .ok (.bipush 49, 2) := by decide +kernel
theorem d_Rule_readCells_53 : decode b_Rule_readCells 53 = .ok (.if_icmp .lt 20, 3) := by decide +kernel
theorem d_Rule_readCells_56 : decode b_Rule_readCells 56 = .ok (.iload 6, 2) := by decide +kernel
theorem d_Rule_readCells_58 : decode b_Rule_readCells 58 = .ok (.bipush 54, 2) := by decide +kernel
theorem d_Rule_readCells_60 : decode b_Rule_readCells 60 = .ok (.if_icmp .gt 13, 3) := by decide +kernel
theorem d_Rule_readCells_63 : decode b_Rule_readCells 63 = .ok (.iconst 1, 1) := by decide +kernel
theorem d_Rule_readCells_64 : decode b_Rule_readCells 64 = .ok (.iload 6, 2) := by decide +kernel
theorem d_Rule_readCells_66 : decode b_Rule_readCells 66 = .ok (.bipush 49, 2) := by decide +kernel
theorem d_Rule_readCells_68 : decode b_Rule_readCells 68 = .ok (.isub, 1) := by decide +kernel
theorem d_Rule_readCells_69 : decode b_Rule_readCells 69 = .ok (.ishl, 1) := by decide +kernel
theorem d_Rule_readCells_70 : decode b_Rule_readCells 70 = .ok (.goto 4, 3) := by decide +kernel
theorem d_Rule_readCells_73 : decode b_Rule_readCells 73 = .ok (.iconst 0, 1) := by decide +kernel
theorem d_Rule_readCells_74 : decode b_Rule_readCells 74 = .ok (.istore 7, 2) := by decide +kernel
theorem d_Rule_readCells_76 : decode b_Rule_readCells 76 = .ok (.iload 7, 2) := by decide +kernel
theorem d_Rule_readCells_78 : decode b_Rule_readCells 78 = .ok (.iload 4, 2) := by decide +kernel
theorem d_Rule_readCells_80 : decode b_Rule_readCells 80 = .ok (.if_icmp .gt 5, 3) := by decide +kernel
theorem d_Rule_readCells_83 : decode b_Rule_readCells 83 = .ok (.iconst 0, 1) := by decide +kernel
theorem d_Rule_readCells_84 : decode b_Rule_readCells 84 = .ok (.ireturn, 1) := by decide +kernel
theorem d_Rule_readCells_85 : decode b_Rule_readCells 85 = .ok (.iload 4, 2) := by decide +kernel
theorem d_Rule_readCells_87 : decode b_Rule_readCells 87 = .ok (.iload 7, 2) := by decide +kernel
theorem d_Rule_readCells_89 : decode b_Rule_readCells 89 = .ok (.iadd, 1) := by decide +kernel
theorem d_Rule_readCells_90 : decode b_Rule_readCells 90 = .ok (.istore 4, 2) := by decide +kernel
theorem d_Rule_readCells_92 : decode b_Rule_readCells 92 = .ok (.iinc 5 1, 3) := by decide +kernel
theorem d_Rule_readCells_95 : decode b_Rule_readCells 95 = .ok (.goto (-84), 3) := by decide +kernel
theorem d_Rule_readCells_98 : decode b_Rule_readCells 98 = .ok (.aload_n 0, 1) := by decide +kernel
theorem d_Rule_readCells_99 : decode b_Rule_readCells 99 = .ok (.iload 4, 2) := by decide +kernel
theorem d_Rule_readCells_101 : decode b_Rule_readCells 101 = .ok (.invokevirtual 57, 3) := by decide +kernel
theorem d_Rule_readCells_104 : decode b_Rule_readCells 104 = .ok (.ireturn, 1) := by decide +kernel
theorem d_Rule_putCell_0 : decode b_Rule_putCell 0 = .ok (.iload_n 1, 1) := by decide +kernel
theorem d_Rule_putCell_1 : decode b_Rule_putCell 1 = .ok (.ifCond .eq 11, 3) := by decide +kernel
theorem d_Rule_putCell_4 : decode b_Rule_putCell 4 = .ok (.aload_n 0, 1) := by decide +kernel
theorem d_Rule_putCell_5 : decode b_Rule_putCell 5 = .ok (.getfield 54, 3) := by decide +kernel
theorem d_Rule_putCell_8 : decode b_Rule_putCell 8 = .ok (.iconst 3, 1) := by decide +kernel
theorem d_Rule_putCell_9 : decode b_Rule_putCell 9 = .ok (.if_icmp .lt 5, 3) := by decide +kernel
theorem d_Rule_putCell_12 : decode b_Rule_putCell 12 = .ok (.iconst 0, 1) := by decide +kernel
theorem d_Rule_putCell_13 : decode b_Rule_putCell 13 = .ok (.ireturn, 1) := by decide +kernel
theorem d_Rule_putCell_14 : decode b_Rule_putCell 14 = .ok (.aload_n 0, 1) := by decide +kernel
theorem d_Rule_putCell_15 : decode b_Rule_putCell 15 = .ok (.getfield 15, 3) := by decide +kernel
theorem d_Rule_putCell_18 : decode b_Rule_putCell 18 = .ok (.aload_n 0, 1) := by decide +kernel
theorem d_Rule_putCell_19 : decode b_Rule_putCell 19 = .ok (.getfield 54, 3) := by decide +kernel
theorem d_Rule_putCell_22 : decode b_Rule_putCell 22 = .ok (.iload_n 1, 1) := by decide +kernel
theorem d_Rule_putCell_23 : decode b_Rule_putCell 23 = .ok (.iastore, 1) := by decide +kernel
theorem d_Rule_putCell_24 : decode b_Rule_putCell 24 = .ok (.aload_n 0, 1) := by decide +kernel
theorem d_Rule_putCell_25 : decode b_Rule_putCell 25 = .ok (.dup, 1) := by decide +kernel
theorem d_Rule_putCell_26 : decode b_Rule_putCell 26 = .ok (.getfield 54, 3) := by decide +kernel
theorem d_Rule_putCell_29 : decode b_Rule_putCell 29 = .ok (.iconst 1, 1) := by decide +kernel
theorem d_Rule_putCell_30 : decode b_Rule_putCell 30 = .ok (.iadd, 1) := by decide +kernel
theorem d_Rule_putCell_31 : decode b_Rule_putCell 31 = .ok (.putfield 54, 3) := by decide +kernel
theorem d_Rule_putCell_34 : decode b_Rule_putCell 34 = .ok (.iconst 1, 1) := by decide +kernel
theorem d_Rule_putCell_35 : decode b_Rule_putCell 35 = .ok (.ireturn, 1) := by decide +kernel
theorem d_Rule_isLike_0 : decode b_Rule_isLike 0 = .ok (.aload_n 0, 1) := by decide +kernel
theorem d_Rule_isLike_1 : decode b_Rule_isLike 1 = .ok (.getfield 33, 3) := by decide +kernel
theorem d_Rule_isLike_4 : decode b_Rule_isLike 4 = .ok (.aload_n 1, 1) := by decide +kernel
theorem d_Rule_isLike_5 : decode b_Rule_isLike 5 = .ok (.getfield 33, 3) := by decide +kernel
theorem d_Rule_isLike_8 : decode b_Rule_isLike 8 = .ok (.if_icmp .ne 14, 3) := by decide +kernel
theorem d_Rule_isLike_11 : decode b_Rule_isLike 11 = .ok (.aload_n 0, 1) := by decide +kernel
theorem d_Rule_isLike_12 : decode b_Rule_isLike 12 = .ok (.getfield 41, 3) := by decide +kernel
theorem d_Rule_isLike_15 : decode b_Rule_isLike 15 = .ok (.aload_n 1, 1) := by decide +kernel
theorem d_Rule_isLike_16 : decode b_Rule_isLike 16 = .ok (.getfield 41, 3) := by decide +kernel
theorem d_Rule_isLike_19 : decode b_Rule_isLike 19 = .ok (.if_icmp .eq 5, 3) := by decide +kernel
theorem d_Rule_isLike_22 : decode b_Rule_isLike 22 = .ok (.iconst 0, 1) := by decide +kernel
theorem d_Rule_isLike_23 : decode b_Rule_isLike 23 = .ok (.ireturn, 1) := by decide +kernel
theorem d_Rule_isLike_24 : decode b_Rule_isLike 24 = .ok (.iconst 0, 1) := by decide +kernel
theorem d_Rule_isLike_25 : decode b_Rule_isLike 25 = .ok (.istore_n 2, 1) := by decide +kernel
theorem d_Rule_isLike_26 : decode b_Rule_isLike 26 = .ok (.iload_n 2, 1) := by decide +kernel
theorem d_Rule_isLike_27 : decode b_Rule_isLike 27 = .ok (.aload_n 0, 1) := by decide +kernel
theorem d_Rule_isLike_28 : decode b_Rule_isLike 28 = .ok (.getfield 41, 3) := by decide +kernel
theorem d_Rule_isLike_31 : decode b_Rule_isLike 31 = .ok (.if_icmp .ge 26, 3) := by decide +kernel
theorem d_Rule_isLike_34 : decode b_Rule_isLike 34 = .ok (.aload_n 0, 1) := by decide +kernel
theorem d_Rule_isLike_35 : decode b_Rule_isLike 35 = .ok (.getfield 9, 3) := by decide +kernel
theorem d_Rule_isLike_38 : decode b_Rule_isLike 38 = .ok (.iload_n 2, 1) := by decide +kernel
theorem d_Rule_isLike_39 : decode b_Rule_isLike 39 = .ok (.caload, 1) := by decide +kernel
theorem d_Rule_isLike_40 : decode b_Rule_isLike 40 = .ok (.aload_n 1, 1) := by decide +kernel
theorem d_Rule_isLike_41 : decode b_Rule_isLike 41 = .ok (.getfield 9, 3) := by decide +kernel
theorem d_Rule_isLike_44 : decode b_Rule_isLike 44 = .ok (.iload_n 2, 1) := by decide +kernel
theorem d_Rule_isLike_45 : decode b_Rule_isLike 45 = .ok (.caload, 1) := by decide +kernel
theorem d_Rule_isLike_46 : decode b_Rule_isLike 46 = .ok (.if_icmp .eq 5, 3) := by decide +kernel
theorem d_Rule_isLike_49 : decode b_Rule_isLike 49 = .ok (.iconst 0, 1) := by decide +kernel
theorem d_Rule_isLike_50 : decode b_Rule_isLike 50 = .ok (.ireturn, 1) := by decide +kernel
theorem d_Rule_isLike_51 : decode b_Rule_isLike 51 = .ok (.iinc 2 1, 3) := by decide +kernel
theorem d_Rule_isLike_54 : decode b_Rule_isLike 54 = .ok (.goto (-28), 3) := by decide +kernel
theorem d_Rule_isLike_57 : decode b_Rule_isLike 57 = .ok (.iconst 1, 1) := by decide +kernel
theorem d_Rule_isLike_58 : decode b_Rule_isLike 58 = .ok (.ireturn, 1) := by decide +kernel
theorem d_Rule_applies_0 : decode b_Rule_applies 0 = .ok (.aload_n 0, 1) := by decide +kernel
theorem d_Rule_applies_1 : decode b_Rule_applies 1 = .ok (.getfield 33, 3) := by decide +kernel
theorem d_Rule_applies_4 : decode b_Rule_applies 4 = .ok (.tableswitch 88 0 3 #[32, 46, 60, 74], 32) := by decide +kernel
theorem d_Rule_applies_36 : decode b_Rule_applies 36 = .ok (.iload_n 1, 1) := by decide +kernel
theorem d_Rule_applies_37 : decode b_Rule_applies 37 = .ok (.ifCond .eq 11, 3) := by decide +kernel
theorem d_Rule_applies_40 : decode b_Rule_applies 40 = .ok (.iload_n 2, 1) := by decide +kernel
theorem d_Rule_applies_41 : decode b_Rule_applies 41 = .ok (.ifCond .eq 7, 3) := by decide +kernel
theorem d_Rule_applies_44 : decode b_Rule_applies 44 = .ok (.iconst 1, 1) := by decide +kernel
theorem d_Rule_applies_45 : decode b_Rule_applies 45 = .ok (.goto 4, 3) := by decide +kernel
theorem d_Rule_applies_48 : decode b_Rule_applies 48 = .ok (.iconst 0, 1) := by decide +kernel
theorem d_Rule_applies_49 : decode b_Rule_applies 49 = .ok (.ireturn, 1) := by decide +kernel
theorem d_Rule_applies_50 : decode b_Rule_applies 50 = .ok (.iload_n 1, 1) := by decide +kernel
theorem d_Rule_applies_51 : decode b_Rule_applies 51 = .ok (.ifCond .eq 11, 3) := by decide +kernel
theorem d_Rule_applies_54 : decode b_Rule_applies 54 = .ok (.iload_n 2, 1) := by decide +kernel
theorem d_Rule_applies_55 : decode b_Rule_applies 55 = .ok (.ifCond .ne 7, 3) := by decide +kernel
theorem d_Rule_applies_58 : decode b_Rule_applies 58 = .ok (.iconst 1, 1) := by decide +kernel
theorem d_Rule_applies_59 : decode b_Rule_applies 59 = .ok (.goto 4, 3) := by decide +kernel
theorem d_Rule_applies_62 : decode b_Rule_applies 62 = .ok (.iconst 0, 1) := by decide +kernel
theorem d_Rule_applies_63 : decode b_Rule_applies 63 = .ok (.ireturn, 1) := by decide +kernel
theorem d_Rule_applies_64 : decode b_Rule_applies 64 = .ok (.iload_n 1, 1) := by decide +kernel
theorem d_Rule_applies_65 : decode b_Rule_applies 65 = .ok (.ifCond .ne 11, 3) := by decide +kernel
theorem d_Rule_applies_68 : decode b_Rule_applies 68 = .ok (.iload_n 2, 1) := by decide +kernel
theorem d_Rule_applies_69 : decode b_Rule_applies 69 = .ok (.ifCond .ne 7, 3) := by decide +kernel
theorem d_Rule_applies_72 : decode b_Rule_applies 72 = .ok (.iconst 1, 1) := by decide +kernel
theorem d_Rule_applies_73 : decode b_Rule_applies 73 = .ok (.goto 4, 3) := by decide +kernel
theorem d_Rule_applies_76 : decode b_Rule_applies 76 = .ok (.iconst 0, 1) := by decide +kernel
theorem d_Rule_applies_77 : decode b_Rule_applies 77 = .ok (.ireturn, 1) := by decide +kernel
theorem d_Rule_applies_78 : decode b_Rule_applies 78 = .ok (.iload_n 1, 1) := by decide +kernel
theorem d_Rule_applies_79 : decode b_Rule_applies 79 = .ok (.ifCond .ne 11, 3) := by decide +kernel
theorem d_Rule_applies_82 : decode b_Rule_applies 82 = .ok (.iload_n 2, 1) := by decide +kernel
theorem d_Rule_applies_83 : decode b_Rule_applies 83 = .ok (.ifCond .eq 7, 3) := by decide +kernel
theorem d_Rule_applies_86 : decode b_Rule_applies 86 = .ok (.iconst 1, 1) := by decide +kernel
theorem d_Rule_applies_87 : decode b_Rule_applies 87 = .ok (.goto 4, 3) := by decide +kernel
theorem d_Rule_applies_90 : decode b_Rule_applies 90 = .ok (.iconst 0, 1) := by decide +kernel
theorem d_Rule_applies_91 : decode b_Rule_applies 91 = .ok (.ireturn, 1) := by decide +kernel
theorem d_Rule_applies_92 : decode b_Rule_applies 92 = .ok (.iconst 1, 1) := by decide +kernel
theorem d_Rule_applies_93 : decode b_Rule_applies 93 = .ok (.ireturn, 1) := by decide +kernel
theorem d_Rule_hasLettersAt_0 : decode b_Rule_hasLettersAt 0 = .ok (.iconst 0, 1) := by decide +kernel
theorem d_Rule_hasLettersAt_1 : decode b_Rule_hasLettersAt 1 = .ok (.istore 4, 2) := by decide +kernel
theorem d_Rule_hasLettersAt_3 : decode b_Rule_hasLettersAt 3 = .ok (.iload 4, 2) := by decide +kernel
theorem d_Rule_hasLettersAt_5 : decode b_Rule_hasLettersAt 5 = .ok (.aload_n 0, 1) := by decide +kernel
theorem d_Rule_hasLettersAt_6 : decode b_Rule_hasLettersAt 6 = .ok (.getfield 41, 3) := by decide +kernel
theorem d_Rule_hasLettersAt_9 : decode b_Rule_hasLettersAt 9 = .ok (.if_icmp .ge 62, 3) := by decide +kernel
theorem d_Rule_hasLettersAt_12 : decode b_Rule_hasLettersAt 12 = .ok (.aload_n 1, 1) := by decide +kernel
theorem d_Rule_hasLettersAt_13 : decode b_Rule_hasLettersAt 13 = .ok (.iload_n 2, 1) := by decide +kernel
theorem d_Rule_hasLettersAt_14 : decode b_Rule_hasLettersAt 14 = .ok (.iload 4, 2) := by decide +kernel
theorem d_Rule_hasLettersAt_16 : decode b_Rule_hasLettersAt 16 = .ok (.iadd, 1) := by decide +kernel
theorem d_Rule_hasLettersAt_17 : decode b_Rule_hasLettersAt 17 = .ok (.invokevirtual 21, 3) := by decide +kernel
theorem d_Rule_hasLettersAt_20 : decode b_Rule_hasLettersAt 20 = .ok (.istore 5, 2) := by decide +kernel
theorem d_Rule_hasLettersAt_22 : decode b_Rule_hasLettersAt 22 = .ok (.iload_n 3, 1) := by decide +kernel
theorem d_Rule_hasLettersAt_23 : decode b_Rule_hasLettersAt 23 = .ok (.ifCond .ne 8, 3) := by decide +kernel
theorem d_Rule_hasLettersAt_26 : decode b_Rule_hasLettersAt 26 = .ok (.iload 4, 2) := by decide +kernel
theorem d_Rule_hasLettersAt_28 : decode b_Rule_hasLettersAt 28 = .ok (.ifCond .ne 7, 3) := by decide +kernel
theorem d_Rule_hasLettersAt_31 : decode b_Rule_hasLettersAt 31 = .ok (.iconst 1, 1) := by decide +kernel
theorem d_Rule_hasLettersAt_32 : decode b_Rule_hasLettersAt 32 = .ok (.goto 4, 3) := by decide +kernel
theorem d_Rule_hasLettersAt_35 : decode b_Rule_hasLettersAt 35 = .ok (.iconst 0, 1) := by decide +kernel
theorem d_Rule_hasLettersAt_36 : decode b_Rule_hasLettersAt 36 = .ok (.istore 6, 2) := by decide +kernel
theorem d_Rule_hasLettersAt_38 : decode b_Rule_hasLettersAt 38 = .ok (.iload 6, 2) := by decide +kernel
theorem d_Rule_hasLettersAt_40 : decode b_Rule_hasLettersAt 40 = .ok (.ifCond .eq 11, 3) := by decide +kernel
theorem d_Rule_hasLettersAt_43 : decode b_Rule_hasLettersAt 43 = .ok (.iload 5, 2) := by decide +kernel
theorem d_Rule_hasLettersAt_45 : decode b_Rule_hasLettersAt 45 = .ok (.invokestatic 61, 3) := by decide +kernel
theorem d_Rule_hasLettersAt_48 : decode b_Rule_hasLettersAt 48 = .ok (.goto 5, 3) := by decide +kernel
theorem d_Rule_hasLettersAt_51 : decode b_Rule_hasLettersAt 51 = .ok (.iload 5, 2) := by decide +kernel
theorem d_Rule_hasLettersAt_53 : decode b_Rule_hasLettersAt 53 = .ok (.aload_n 0, 1) := by decide +kernel
theorem d_Rule_hasLettersAt_54 : decode b_Rule_hasLettersAt 54 = .ok (.getfield 9, 3) := by decide +kernel
theorem d_Rule_hasLettersAt_57 : decode b_Rule_hasLettersAt 57 = .ok (.iload 4, 2) := by decide +kernel
theorem d_Rule_hasLettersAt_59 : decode b_Rule_hasLettersAt 59 = .ok (.caload, 1) := by decide +kernel
theorem d_Rule_hasLettersAt_60 : decode b_Rule_hasLettersAt 60 = .ok (.if_icmp .eq 5, 3) := by decide +kernel
theorem d_Rule_hasLettersAt_63 : decode b_Rule_hasLettersAt 63 = .ok (.iconst 0, 1) := by decide +kernel
theorem d_Rule_hasLettersAt_64 : decode b_Rule_hasLettersAt 64 = .ok (.ireturn, 1) := by decide +kernel
theorem d_Rule_hasLettersAt_65 : decode b_Rule_hasLettersAt 65 = .ok (.iinc 4 1, 3) := by decide +kernel
theorem d_Rule_hasLettersAt_68 : decode b_Rule_hasLettersAt 68 = .ok (.goto (-65), 3) := by decide +kernel
theorem d_Rule_hasLettersAt_71 : decode b_Rule_hasLettersAt 71 = .ok (.iconst 1, 1) := by decide +kernel
theorem d_Rule_hasLettersAt_72 : decode b_Rule_hasLettersAt 72 = .ok (.ireturn, 1) := by decide +kernel
theorem d_Rule_hasCellsAt_0 : decode b_Rule_hasCellsAt 0 = .ok (.iconst 0, 1) := by decide +kernel
theorem d_Rule_hasCellsAt_1 : decode b_Rule_hasCellsAt 1 = .ok (.istore_n 3, 1) := by decide +kernel
theorem d_Rule_hasCellsAt_2 : decode b_Rule_hasCellsAt 2 = .ok (.iload_n 3, 1) := by decide +kernel
theorem d_Rule_hasCellsAt_3 : decode b_Rule_hasCellsAt 3 = .ok (.aload_n 0, 1) := by decide +kernel
theorem d_Rule_hasCellsAt_4 : decode b_Rule_hasCellsAt 4 = .ok (.getfield 54, 3) := by decide +kernel
theorem d_Rule_hasCellsAt_7 : decode b_Rule_hasCellsAt 7 = .ok (.if_icmp .ge 27, 3) := by decide +kernel
theorem d_Rule_hasCellsAt_10 : decode b_Rule_hasCellsAt 10 = .ok (.aload_n 1, 1) := by decide +kernel
theorem d_Rule_hasCellsAt_11 : decode b_Rule_hasCellsAt 11 = .ok (.iload_n 2, 1) := by decide +kernel
theorem d_Rule_hasCellsAt_12 : decode b_Rule_hasCellsAt 12 = .ok (.iload_n 3, 1) := by decide +kernel
theorem d_Rule_hasCellsAt_13 : decode b_Rule_hasCellsAt 13 = .ok (.iadd, 1) := by decide +kernel
theorem d_Rule_hasCellsAt_14 : decode b_Rule_hasCellsAt 14 = .ok (.invokevirtual 65, 3) := by decide +kernel
theorem d_Rule_hasCellsAt_17 : decode b_Rule_hasCellsAt 17 = .ok (.aload_n 0, 1) := by decide +kernel
theorem d_Rule_hasCellsAt_18 : decode b_Rule_hasCellsAt 18 = .ok (.getfield 15, 3) := by decide +kernel
theorem d_Rule_hasCellsAt_21 : decode b_Rule_hasCellsAt 21 = .ok (.iload_n 3, 1) := by decide +kernel
theorem d_Rule_hasCellsAt_22 : decode b_Rule_hasCellsAt 22 = .ok (.iaload, 1) := by decide +kernel
theorem d_Rule_hasCellsAt_23 : decode b_Rule_hasCellsAt 23 = .ok (.if_icmp .eq 5, 3) := by decide +kernel
theorem d_Rule_hasCellsAt_26 : decode b_Rule_hasCellsAt 26 = .ok (.iconst 0, 1) := by decide +kernel
theorem d_Rule_hasCellsAt_27 : decode b_Rule_hasCellsAt 27 = .ok (.ireturn, 1) := by decide +kernel
theorem d_Rule_hasCellsAt_28 : decode b_Rule_hasCellsAt 28 = .ok (.iinc 3 1, 3) := by decide +kernel
theorem d_Rule_hasCellsAt_31 : decode b_Rule_hasCellsAt 31 = .ok (.goto (-29), 3) := by decide +kernel
theorem d_Rule_hasCellsAt_34 : decode b_Rule_hasCellsAt 34 = .ok (.iconst 1, 1) := by decide +kernel
theorem d_Rule_hasCellsAt_35 : decode b_Rule_hasCellsAt 35 = .ok (.ireturn, 1) := by decide +kernel
theorem d_RuleList_init_0 : decode b_RuleList_init 0 = .ok (.aload_n 0, 1) := by decide +kernel
theorem d_RuleList_init_1 : decode b_RuleList_init 1 = .ok (.invokespecial 3, 3) := by decide +kernel
theorem d_RuleList_init_4 : decode b_RuleList_init 4 = .ok (.aload_n 0, 1) := by decide +kernel
theorem d_RuleList_init_5 : decode b_RuleList_init 5 = .ok (.bipush 24, 2) := by decide +kernel
theorem d_RuleList_init_7 : decode b_RuleList_init 7 = .ok (.anewarray 9, 3) := by decide +kernel
theorem d_RuleList_init_10 : decode b_RuleList_init 10 = .ok (.putfield 11, 3) := by decide +kernel
theorem d_RuleList_init_13 : decode b_RuleList_init 13 = .ok (.aload_n 0, 1) := by decide +kernel
theorem d_RuleList_init_14 : decode b_RuleList_init 14 = .ok (.iconst (-1), 1) := by decide +kernel
theorem d_RuleList_init_15 : decode b_RuleList_init 15 = .ok (.putfield 17, 3) := by decide +kernel
theorem d_RuleList_init_18 : decode b_RuleList_init 18 = .ok (.iconst 0, 1) := by decide +kernel
theorem d_RuleList_init_19 : decode b_RuleList_init 19 = .ok (.istore_n 1, 1) := by decide +kernel
theorem d_RuleList_init_20 : decode b_RuleList_init 20 = .ok (.iload_n 1, 1) := by decide +kernel
theorem d_RuleList_init_21 : decode b_RuleList_init 21 = .ok (.aload_n 0, 1) := by decide +kernel
theorem d_RuleList_init_22 : decode b_RuleList_init 22 = .ok (.getfield 11, 3) := by decide +kernel
theorem d_RuleList_init_25 : decode b_RuleList_init 25 = .ok (.arraylength, 1) := by decide +kernel
theorem d_RuleList_init_26 : decode b_RuleList_init 26 = .ok (.if_icmp .ge 22, 3) := by decide +kernel
theorem d_RuleList_init_29 : decode b_RuleList_init 29 = .ok (.aload_n 0, 1) := by decide +kernel
theorem d_RuleList_init_30 : decode b_RuleList_init 30 = .ok (.getfield 11, 3) := by decide +kernel
theorem d_RuleList_init_33 : decode b_RuleList_init 33 = .ok (.iload_n 1, 1) := by decide +kernel
theorem d_RuleList_init_34 : decode b_RuleList_init 34 = .ok (.new 9, 3) := by decide +kernel
theorem d_RuleList_init_37 : decode b_RuleList_init 37 = .ok (.dup, 1) := by decide +kernel
theorem d_RuleList_init_38 : decode b_RuleList_init 38 = .ok (.invokespecial 21, 3) := by decide +kernel
theorem d_RuleList_init_41 : decode b_RuleList_init 41 = .ok (.aastore, 1) := by decide +kernel
theorem d_RuleList_init_42 : decode b_RuleList_init 42 = .ok (.iinc 1 1, 3) := by decide +kernel
theorem d_RuleList_init_45 : decode b_RuleList_init 45 = .ok (.goto (-25), 3) := by decide +kernel
theorem d_RuleList_init_48 : decode b_RuleList_init 48 = .ok (.return_, 1) := by decide +kernel
theorem d_RuleList_take_0 : decode b_RuleList_take 0 = .ok (.aload_n 0, 1) := by decide +kernel
theorem d_RuleList_take_1 : decode b_RuleList_take 1 = .ok (.getfield 22, 3) := by decide +kernel
theorem d_RuleList_take_4 : decode b_RuleList_take 4 = .ok (.istore_n 3, 1) := by decide +kernel
theorem d_RuleList_take_5 : decode b_RuleList_take 5 = .ok (.iconst 0, 1) := by decide +kernel
theorem d_RuleList_take_6 : decode b_RuleList_take 6 = .ok (.istore 4, 2) := by decide +kernel
theorem d_RuleList_take_8 : decode b_RuleList_take 8 = .ok (.iconst 0, 1) := by decide +kernel
theorem d_RuleList_take_9 : decode b_RuleList_take 9 = .ok (.istore 5, 2) := by decide +kernel
theorem d_RuleList_take_11 : decode b_RuleList_take 11 = .ok (.aload_n 0, 1) := by decide +kernel
theorem d_RuleList_take_12 : decode b_RuleList_take 12 = .ok (.iconst (-1), 1) := by decide +kernel
theorem d_RuleList_take_13 : decode b_RuleList_take 13 = .ok (.putfield 17, 3) := by decide +kernel
theorem d_RuleList_take_16 : decode b_RuleList_take 16 = .ok (.iconst 0, 1) := by decide +kernel
theorem d_RuleList_take_17 : decode b_RuleList_take 17 = .ok (.istore 6, 2) := by decide +kernel
theorem d_RuleList_take_19 : decode b_RuleList_take 19 = .ok (.iload 6, 2) := by decide +kernel
theorem d_RuleList_take_21 : decode b_RuleList_take 21 = .ok (.aload_n 1, 1) := by decide +kernel
theorem d_RuleList_take_22 : decode b_RuleList_take 22 = .ok (.getfield 25, 3) := by decide +kernel
theorem d_RuleList_take_25 : decode b_RuleList_take 25 = .ok (.if_icmp .gt 64, 3) := by decide +kernel
theorem d_RuleList_take_28 : decode b_RuleList_take 28 = .ok (.iload 6, 2) := by decide +kernel
theorem d_RuleList_take_30 : decode b_RuleList_take 30 = .ok (.aload_n 1, 1) := by decide +kernel
theorem d_RuleList_take_31 : decode b_RuleList_take 31 = .ok (.getfield 25, 3) := by decide +kernel
theorem d_RuleList_take_34 : decode b_RuleList_take 34 = .ok (.if_icmp .eq 14, 3) := by decide +kernel
theorem d_RuleList_take_37 : decode b_RuleList_take 37 = .ok (.aload_n 1, 1) := by decide +kernel
theorem d_RuleList_take_38 : decode b_RuleList_take 38 = .ok (.iload 6, 2) := by decide +kernel
theorem d_RuleList_take_40 : decode b_RuleList_take 40 = .ok (.invokevirtual 28, 3) := by decide +kernel
theorem d_RuleList_take_43 : decode b_RuleList_take 43 = .ok (.bipush 59, 2) := by decide +kernel
theorem d_RuleList_take_45 : decode b_RuleList_take 45 = .ok (.if_icmp .ne 38, 3) := by decide +kernel
theorem d_RuleList_take_48 : decode b_RuleList_take 48 = .ok (.aload_n 0, 1) := by decide +kernel
theorem d_RuleList_take_49 : decode b_RuleList_take 49 = .ok (.aload_n 1, 1) := by decide +kernel
theorem d_RuleList_take_50 : decode b_RuleList_take 50 = .ok (.iload 4, 2) := by decide +kernel
theorem d_RuleList_take_52 : decode b_RuleList_take 52 = .ok (.iload 6, 2) := by decide +kernel
theorem d_RuleList_take_54 : decode b_RuleList_take 54 = .ok (.invokevirtual 32, 3) := by decide +kernel
theorem d_RuleList_take_57 : decode b_RuleList_take 57 = .ok (.ifCond .ne 17, 3) := by decide +kernel
theorem d_RuleList_take_60 : decode b_RuleList_take 60 = .ok (.aload_n 0, 1) := by decide +kernel
theorem d_RuleList_take_61 : decode b_RuleList_take 61 = .ok (.getfield 17, 3) := by decide +kernel
theorem d_RuleList_take_64 : decode b_RuleList_take 64 = .ok (.iconst (-1), 1) := by decide +kernel
theorem d_RuleList_take_65 : decode b_RuleList_take 65 = .ok (.if_icmp .ne 9, 3) := by decide +kernel
theorem d_RuleList_take_68 : decode b_RuleList_take 68 = .ok (.aload_n 0, 1) := by decide +kernel
theorem d_RuleList_take_69 : decode b_RuleList_take 69 = .ok (.iload 5, 2) := by decide +kernel
theorem d_RuleList_take_71 : decode b_RuleList_take 71 = .ok (.putfield 17, 3) := by decide +kernel
theorem d_RuleList_take_74 : decode b_RuleList_take 74 = .ok (.iload 6, 2) := by decide +kernel
theorem d_RuleList_take_76 : decode b_RuleList_take 76 = .ok (.iconst 1, 1) := by decide +kernel
theorem d_RuleList_take_77 : decode b_RuleList_take 77 = .ok (.iadd, 1) := by decide +kernel
theorem d_RuleList_take_78 : decode b_RuleList_take 78 = .ok (.istore 4, 2) := by decide +kernel
theorem d_RuleList_take_80 : decode b_RuleList_take 80 = .ok (.iinc 5 1, 3) := by decide +kernel
theorem d_RuleList_take_83 : decode b_RuleList_take 83 = .ok (.iinc 6 1, 3) := by decide +kernel
theorem d_RuleList_take_86 : decode b_RuleList_take 86 = .ok (.goto (-67), 3) := by decide +kernel
theorem d_RuleList_take_89 : decode b_RuleList_take 89 = .ok (.aload_n 0, 1) := by decide +kernel
theorem d_RuleList_take_90 : decode b_RuleList_take 90 = .ok (.getfield 17, 3) := by decide +kernel
theorem d_RuleList_take_93 : decode b_RuleList_take 93 = .ok (.iconst (-1), 1) := by decide +kernel
theorem d_RuleList_take_94 : decode b_RuleList_take 94 = .ok (.if_icmp .eq 7, 3) := by decide +kernel
theorem d_RuleList_take_97 : decode b_RuleList_take 97 = .ok (.iload_n 2, 1) := by decide +kernel
theorem d_RuleList_take_98 : decode b_RuleList_take 98 = .ok (.ifCond .eq 5, 3) := by decide +kernel
theorem d_RuleList_take_101 : decode b_RuleList_take 101 = .ok (.iconst 1, 1) := by decide +kernel
theorem d_RuleList_take_102 : decode b_RuleList_take 102 = .ok (.ireturn, 1) := by decide +kernel
theorem d_RuleList_take_103 : decode b_RuleList_take 103 = .ok (.aload_n 0, 1) := by decide +kernel
theorem d_RuleList_take_104 : decode b_RuleList_take 104 = .ok (.iload_n 3, 1) := by decide +kernel
theorem d_RuleList_take_105 : decode b_RuleList_take 105 = .ok (.putfield 22, 3) := by decide +kernel
theorem d_RuleList_take_108 : decode b_RuleList_take 108 = .ok (.iconst 0, 1) := by decide +kernel
theorem d_RuleList_take_109 : decode b_RuleList_take 109 = .ok (.ireturn, 1) := by decide +kernel
theorem d_RuleList_takeOne_0 : decode b_RuleList_takeOne 0 = .ok (.aload_n 0, 1) := by decide +kernel
theorem d_RuleList_takeOne_1 : decode b_RuleList_takeOne 1 = .ok (.getfield 22, 3) := by decide +kernel
theorem d_RuleList_takeOne_4 : decode b_RuleList_takeOne 4 = .ok (.aload_n 0, 1) := by decide +kernel
theorem d_RuleList_takeOne_5 : decode b_RuleList_takeOne 5 = .ok (.getfield 11, 3) := by decide +kernel
theorem d_RuleList_takeOne_8 : decode b_RuleList_takeOne 8 = .ok (.arraylength, 1) := by decide +kernel
theorem d_RuleList_takeOne_9 : decode b_RuleList_takeOne 9 = .ok (.if_icmp .lt 5, 3) := by decide +kernel
theorem d_RuleList_takeOne_12 : decode b_RuleList_takeOne 12 = .ok (.iconst 0, 1) := by decide +kernel
theorem d_RuleList_takeOne_13 : decode b_RuleList_takeOne 13 = .ok (.ireturn, 1) := by decide +kernel
theorem d_RuleList_takeOne_14 : decode b_RuleList_takeOne 14 = .ok (.aload_n 0, 1) := by decide +kernel
theorem d_RuleList_takeOne_15 : decode b_RuleList_takeOne 15 = .ok (.getfield 11, 3) := by decide +kernel
theorem d_RuleList_takeOne_18 : decode b_RuleList_takeOne 18 = .ok (.aload_n 0, 1) := by decide +kernel
theorem d_RuleList_takeOne_19 : decode b_RuleList_takeOne 19 = .ok (.getfield 22, 3) := by decide +kernel
theorem d_RuleList_takeOne_22 : decode b_RuleList_takeOne 22 = .ok (.aaload, 1) := by decide +kernel
theorem d_RuleList_takeOne_23 : decode b_RuleList_takeOne 23 = .ok (.astore 4, 2) := by decide +kernel
theorem d_RuleList_takeOne_25 : decode b_RuleList_takeOne 25 = .ok (.aload 4, 2) := by decide +kernel
theorem d_RuleList_takeOne_27 : decode b_RuleList_takeOne 27 = .ok (.aload_n 1, 1) := by decide +kernel
theorem d_RuleList_takeOne_28 : decode b_RuleList_takeOne 28 = .ok (.iload_n 2, 1) := by decide +kernel
theorem d_RuleList_takeOne_29 : decode b_RuleList_takeOne 29 = .ok (.iload_n 3, 1) := by decide +kernel
theorem d_RuleList_takeOne_30 : decode b_RuleList_takeOne 30 = .ok (.invokevirtual 36, 3) := by decide +kernel
theorem d_RuleList_takeOne_33 : decode b_RuleList_takeOne 33 = .ok (.ifCond .eq 12, 3) := by decide +kernel
theorem d_RuleList_takeOne_36 : decode b_RuleList_takeOne 36 = .ok (.aload_n 0, 1) := by decide +kernel
theorem d_RuleList_takeOne_37 : decode b_RuleList_takeOne 37 = .ok (.aload 4, 2) := by decide +kernel
theorem d_RuleList_takeOne_39 : decode b_RuleList_takeOne 39 = .ok (.invokevirtual 39, 3) := by decide +kernel
theorem d_RuleList_takeOne_42 : decode b_RuleList_takeOne 42 = .ok (.ifCond .eq 5, 3) := by decide +kernel
theorem d_RuleList_takeOne_45 : decode b_RuleList_takeOne 45 = .ok (.iconst 0, 1) := by decide +kernel
theorem d_RuleList_takeOne_46 : decode b_RuleList_takeOne 46 = .ok (.ireturn, 1) := by decide +kernel
theorem d_RuleList_takeOne_47 : decode b_RuleList_takeOne 47 = .ok (.aload_n 0, 1) := by decide +kernel
theorem d_RuleList_takeOne_48 : decode b_RuleList_takeOne 48 = .ok (.dup, 1) := by decide +kernel
theorem d_RuleList_takeOne_49 : decode b_RuleList_takeOne 49 = .ok (.getfield 22, 3) := by decide +kernel
theorem d_RuleList_takeOne_52 : decode b_RuleList_takeOne 52 = .ok (.iconst 1, 1) := by decide +kernel
theorem d_RuleList_takeOne_53 : decode b_RuleList_takeOne 53 = .ok (.iadd, 1) := by decide +kernel
theorem d_RuleList_takeOne_54 : decode b_RuleList_takeOne 54 = .ok (.putfield 22, 3) := by decide +kernel
theorem d_RuleList_takeOne_57 : decode b_RuleList_takeOne 57 = .ok (.iconst 1, 1) := by decide +kernel
theorem d_RuleList_takeOne_58 : decode b_RuleList_takeOne 58 = .ok (.ireturn, 1) := by decide +kernel
theorem d_RuleList_hasLike_0 : decode b_RuleList_hasLike 0 = .ok (.iconst 0, 1) := by decide +kernel
theorem d_RuleList_hasLike_1 : decode b_RuleList_hasLike 1 = .ok (.istore_n 2, 1) := by decide +kernel
theorem d_RuleList_hasLike_2 : decode b_RuleList_hasLike 2 = .ok (.iload_n 2, 1) := by decide +kernel
theorem d_RuleList_hasLike_3 : decode b_RuleList_hasLike 3 = .ok (.aload_n 0, 1) := by decide +kernel
theorem d_RuleList_hasLike_4 : decode b_RuleList_hasLike 4 = .ok (.getfield 22, 3) := by decide +kernel
theorem d_RuleList_hasLike_7 : decode b_RuleList_hasLike 7 = .ok (.if_icmp .ge 24, 3) := by decide +kernel
theorem d_RuleList_hasLike_10 : decode b_RuleList_hasLike 10 = .ok (.aload_n 0, 1) := by decide +kernel
theorem d_RuleList_hasLike_11 : decode b_RuleList_hasLike 11 = .ok (.getfield 11, 3) := by decide +kernel
theorem d_RuleList_hasLike_14 : decode b_RuleList_hasLike 14 = .ok (.iload_n 2, 1) := by decide +kernel
theorem d_RuleList_hasLike_15 : decode b_RuleList_hasLike 15 = .ok (.aaload, 1) := by decide +kernel
theorem d_RuleList_hasLike_16 : decode b_RuleList_hasLike 16 = .ok (.aload_n 1, 1) := by decide +kernel
theorem d_RuleList_hasLike_17 : decode b_RuleList_hasLike 17 = .ok (.invokevirtual 43, 3) := by decide +kernel
theorem d_RuleList_hasLike_20 : decode b_RuleList_hasLike 20 = .ok (.ifCond .eq 5, 3) := by decide +kernel
theorem d_RuleList_hasLike_23 : decode b_RuleList_hasLike 23 = .ok (.iconst 1, 1) := by decide +kernel
theorem d_RuleList_hasLike_24 : decode b_RuleList_hasLike 24 = .ok (.ireturn, 1) := by decide +kernel
theorem d_RuleList_hasLike_25 : decode b_RuleList_hasLike 25 = .ok (.iinc 2 1, 3) := by decide +kernel
theorem d_RuleList_hasLike_28 : decode b_RuleList_hasLike 28 = .ok (.goto (-26), 3) := by decide +kernel
theorem d_RuleList_hasLike_31 : decode b_RuleList_hasLike 31 = .ok (.iconst 0, 1) := by decide +kernel
theorem d_RuleList_hasLike_32 : decode b_RuleList_hasLike 32 = .ok (.ireturn, 1) := by decide +kernel
theorem d_Translator_init_0 : decode b_Translator_init 0 = .ok (.aload_n 0, 1) := by decide +kernel
theorem d_Translator_init_1 : decode b_Translator_init 1 = .ok (.invokespecial 3, 3) := by decide +kernel
theorem d_Translator_init_4 : decode b_Translator_init 4 = .ok (.aload_n 0, 1) := by decide +kernel
theorem d_Translator_init_5 : decode b_Translator_init 5 = .ok (.aload_n 1, 1) := by decide +kernel
theorem d_Translator_init_6 : decode b_Translator_init 6 = .ok (.putfield 9, 3) := by decide +kernel
theorem d_Translator_init_9 : decode b_Translator_init 9 = .ok (.aload_n 0, 1) := by decide +kernel
theorem d_Translator_init_10 : decode b_Translator_init 10 = .ok (.aload_n 2, 1) := by decide +kernel
theorem d_Translator_init_11 : decode b_Translator_init 11 = .ok (.putfield 15, 3) := by decide +kernel
theorem d_Translator_init_14 : decode b_Translator_init 14 = .ok (.return_, 1) := by decide +kernel
theorem d_Translator_translateInto_0 : decode b_Translator_translateInto 0 = .ok (.iconst 0, 1) := by decide +kernel
theorem d_Translator_translateInto_1 : decode b_Translator_translateInto 1 = .ok (.istore_n 2, 1) := by decide +kernel
theorem d_Translator_translateInto_2 : decode b_Translator_translateInto 2 = .ok (.iload_n 2, 1) := by decide +kernel
theorem d_Translator_translateInto_3 : decode b_Translator_translateInto 3 = .ok (.aload_n 0, 1) := by decide +kernel
theorem d_Translator_translateInto_4 : decode b_Translator_translateInto 4 = .ok (.getfield 9, 3) := by decide +kernel
theorem d_Translator_translateInto_7 : decode b_Translator_translateInto 7 = .ok (.getfield 19, 3) := by decide +kernel
theorem d_Translator_translateInto_10 : decode b_Translator_translateInto 10 = .ok (.if_icmp .ge 58, 3) := by decide +kernel
theorem d_Translator_translateInto_13 : decode b_Translator_translateInto 13 = .ok (.aload_n 0, 1) := by decide +kernel
theorem d_Translator_translateInto_14 : decode b_Translator_translateInto 14 = .ok (.getfield 9, 3) := by decide +kernel
theorem d_Translator_translateInto_17 : decode b_Translator_translateInto 17 = .ok (.iload_n 2, 1) := by decide +kernel
theorem d_Translator_translateInto_18 : decode b_Translator_translateInto 18 = .ok (.invokevirtual 25, 3) := by decide +kernel
theorem d_Translator_translateInto_21 : decode b_Translator_translateInto 21 = .ok (.invokestatic 29, 3) := by decide +kernel
theorem d_Translator_translateInto_24 : decode b_Translator_translateInto 24 = .ok (.ifCond .ne 12, 3) := by decide +kernel
theorem d_Translator_translateInto_27 : decode b_Translator_translateInto 27 = .ok (.aload_n 0, 1) := by decide +kernel
theorem d_Translator_translateInto_28 : decode b_Translator_translateInto 28 = .ok (.aload_n 1, 1) := by decide +kernel
theorem d_Translator_translateInto_29 : decode b_Translator_translateInto 29 = .ok (.iload_n 2, 1) := by decide +kernel
theorem d_Translator_translateInto_30 : decode b_Translator_translateInto 30 = .ok (.invokevirtual 35, 3) := by decide +kernel
theorem d_Translator_translateInto_33 : decode b_Translator_translateInto 33 = .ok (.goto 29, 3) := by decide +kernel
theorem d_Translator_translateInto_36 : decode b_Translator_translateInto 36 = .ok (.aload_n 0, 1) := by decide +kernel
theorem d_Translator_translateInto_37 : decode b_Translator_translateInto 37 = .ok (.getfield 9, 3) := by decide +kernel
theorem d_Translator_translateInto_40 : decode b_Translator_translateInto 40 = .ok (.iload_n 2, 1) := by decide +kernel
theorem d_Translator_translateInto_41 : decode b_Translator_translateInto 41 = .ok (.iconst 1, 1) := by decide +kernel
theorem d_Translator_translateInto_42 : decode b_Translator_translateInto 42 = .ok (.isub, 1) := by decide +kernel
theorem d_Translator_translateInto_43 : decode b_Translator_translateInto 43 = .ok (.invokevirtual 25, 3) := by decide +kernel
theorem d_Translator_translateInto_46 : decode b_Translator_translateInto 46 = .ok (.invokestatic 29, 3) := by decide +kernel
theorem d_Translator_translateInto_49 : decode b_Translator_translateInto 49 = .ok (.ifCond .ne 13, 3) := by decide +kernel
theorem d_Translator_translateInto_52 : decode b_Translator_translateInto 52 = .ok (.aload_n 0, 1) := by decide +kernel
theorem d_Translator_translateInto_53 : decode b_Translator_translateInto 53 = .ok (.iload_n 2, 1) := by decide +kernel
theorem d_Translator_translateInto_54 : decode b_Translator_translateInto 54 = .ok (.invokevirtual 39, 3) := by decide +kernel
theorem d_Translator_translateInto_57 : decode b_Translator_translateInto 57 = .ok (.aload_n 0, 1) := by decide +kernel
theorem d_Translator_translateInto_58 : decode b_Translator_translateInto 58 = .ok (.aload_n 1, 1) := by decide +kernel
theorem d_Translator_translateInto_59 : decode b_Translator_translateInto 59 = .ok (.invokevirtual 43, 3) := by decide +kernel
theorem d_Translator_translateInto_62 : decode b_Translator_translateInto 62 = .ok (.iinc 2 1, 3) := by decide +kernel
theorem d_Translator_translateInto_65 : decode b_Translator_translateInto 65 = .ok (.goto (-63), 3) := by decide +kernel
theorem d_Translator_translateInto_68 : decode b_Translator_translateInto 68 = .ok (.return_, 1) := by decide +kernel
theorem d_Translator_putSingle_0 : decode b_Translator_putSingle 0 = .ok (.aload_n 0, 1) := by decide +kernel
theorem d_Translator_putSingle_1 : decode b_Translator_putSingle 1 = .ok (.getfield 9, 3) := by decide +kernel
theorem d_Translator_putSingle_4 : decode b_Translator_putSingle 4 = .ok (.iload_n 2, 1) := by decide +kernel
theorem d_Translator_putSingle_5 : decode b_Translator_putSingle 5 = .ok (.invokevirtual 25, 3) := by decide +kernel
theorem d_Translator_putSingle_8 : decode b_Translator_putSingle 8 = .ok (.istore_n 3, 1) := by decide +kernel
theorem d_Translator_putSingle_9 : decode b_Translator_putSingle 9 = .ok (.iload_n 3, 1) := by decide +kernel
theorem d_Translator_putSingle_10 : decode b_Translator_putSingle 10 = .ok (.invokestatic 47, 3) := by decide +kernel
theorem d_Translator_putSingle_13 : decode b_Translator_putSingle 13 = .ok (.istore 4, 2) := by decide +kernel
theorem d_Translator_putSingle_15 : decode b_Translator_putSingle 15 = .ok (.iload 4, 2) := by decide +kernel
theorem d_Translator_putSingle_17 : decode b_Translator_putSingle 17 = .ok (.ifCond .eq 26, 3) := by decide +kernel
theorem d_Translator_putSingle_20 : decode b_Translator_putSingle 20 = .ok (.aload_n 0, 1) := by decide +kernel
theorem d_Translator_putSingle_21 : decode b_Translator_putSingle 21 = .ok (.getfield 9, 3) := by decide +kernel
theorem d_Translator_putSingle_24 : decode b_Translator_putSingle 24 = .ok (.iload_n 2, 1) := by decide +kernel
theorem d_Translator_putSingle_25 : decode b_Translator_putSingle 25 = .ok (.iconst 1, 1) := by decide +kernel
theorem d_Translator_putSingle_26 : decode b_Translator_putSingle 26 = .ok (.isub, 1) := by decide +kernel
theorem d_Translator_putSingle_27 : decode b_Translator_putSingle 27 = .ok (.invokevirtual 25, 3) := by decide +kernel
theorem d_Translator_putSingle_30 : decode b_Translator_putSingle 30 = .ok (.invokestatic 47, 3) := by decide +kernel
theorem d_Translator_putSingle_33 : decode b_Translator_putSingle 33 = .ok (.ifCond .ne 10, 3) := by decide +kernel
theorem d_Translator_putSingle_36 : decode b_Translator_putSingle 36 = .ok (.aload_n 1, 1) := by decide +kernel
theorem d_Translator_putSingle_37 : decode b_Translator_putSingle 37 = .ok (.bipush 60, 2) := by decide +kernel
theorem d_Translator_putSingle_39 : decode b_Translator_putSingle 39 = .ok (.iload_n 2, 1) := by decide +kernel
theorem d_Translator_putSingle_40 : decode b_Translator_putSingle 40 = .ok (.invokevirtual 50, 3) := by decide +kernel
theorem d_Translator_putSingle_43 : decode b_Translator_putSingle 43 = .ok (.aload_n 1, 1) := by decide +kernel
theorem d_Translator_putSingle_44 : decode b_Translator_putSingle 44 = .ok (.iload_n 3, 1) := by decide +kernel
theorem d_Translator_putSingle_45 : decode b_Translator_putSingle 45 = .ok (.invokestatic 56, 3) := by decide +kernel
theorem d_Translator_putSingle_48 : decode b_Translator_putSingle 48 = .ok (.iload_n 2, 1) := by decide +kernel
theorem d_Translator_putSingle_49 : decode b_Translator_putSingle 49 = .ok (.invokevirtual 50, 3) := by decide +kernel
theorem d_Translator_putSingle_52 : decode b_Translator_putSingle 52 = .ok (.iload 4, 2) := by decide +kernel
theorem d_Translator_putSingle_54 : decode b_Translator_putSingle 54 = .ok (.ifCond .eq 28, 3) := by decide +kernel
theorem d_Translator_putSingle_57 : decode b_Translator_putSingle 57 = .ok (.aload_n 0, 1) := by decide +kernel
theorem d_Translator_putSingle_58 : decode b_Translator_putSingle 58 = .ok (.getfield 9, 3) := by decide +kernel
theorem d_Translator_putSingle_61 : decode b_Translator_putSingle 61 = .ok (.iload_n 2, 1) := by decide +kernel
theorem d_Translator_putSingle_62 : decode b_Translator_putSingle 62 = .ok (.iconst 1, 1) := by decide +kernel
theorem d_Translator_putSingle_63 : decode b_Translator_putSingle 63 = .ok (.iadd, 1) := by decide +kernel
theorem d_Translator_putSingle_64 : decode b_Translator_putSingle 64 = .ok (.invokevirtual 25, 3) := by decide +kernel
theorem d_Translator_putSingle_67 : decode b_Translator_putSingle 67 = .ok (.invokestatic 60, 3) := by decide +kernel
theorem d_Translator_putSingle_70 : decode b_Translator_putSingle 70 = .ok (.ifCond .eq 12, 3) := by decide +kernel
theorem d_Translator_putSingle_73 : decode b_Translator_putSingle 73 = .ok (.aload_n 1, 1) := by decide +kernel
theorem d_Translator_putSingle_74 : decode b_Translator_putSingle 74 = .ok (.bipush 48, 2) := by decide +kernel
theorem d_Translator_putSingle_76 : decode b_Translator_putSingle 76 = .ok (.iload_n 2, 1) := by decide +kernel
theorem d_Translator_putSingle_77 : decode b_Translator_putSingle 77 = .ok (.iconst 1, 1) := by decide +kernel
theorem d_Translator_putSingle_78 : decode b_Translator_putSingle 78 = .ok (.iadd, 1) := by decide +kernel
theorem d_Translator_putSingle_79 : decode b_Translator_putSingle 79 = .ok (.invokevirtual 50, 3) := by decide +kernel
theorem d_Translator_putSingle_82 : decode b_Translator_putSingle 82 = .ok (.return_, 1) := by decide +kernel
theorem d_Translator_findWord_0 : decode b_Translator_findWord 0 = .ok (.iconst 1, 1) := by decide +kernel
theorem d_Translator_findWord_1 : decode b_Translator_findWord 1 = .ok (.istore_n 2, 1) := by decide +kernel
theorem d_Translator_findWord_2 : decode b_Translator_findWord 2 = .ok (.iload_n 1, 1) := by decide +kernel
theorem d_Translator_findWord_3 : decode b_Translator_findWord 3 = .ok (.istore_n 3, 1) := by decide +kernel
theorem d_Translator_findWord_4 : decode b_Translator_findWord 4 = .ok (.iload_n 1, 1) := by decide +kernel
theorem d_Translator_findWord_5 : decode b_Translator_findWord 5 = .ok (.istore 4, 2) := by decide +kernel
theorem d_Translator_findWord_7 : decode b_Translator_findWord 7 = .ok (.iload 4, 2) := by decide +kernel
theorem d_Translator_findWord_9 : decode b_Translator_findWord 9 = .ok (.aload_n 0, 1) := by decide +kernel
theorem d_Translator_findWord_10 : decode b_Translator_findWord 10 = .ok (.getfield 9, 3) := by decide +kernel
theorem d_Translator_findWord_13 : decode b_Translator_findWord 13 = .ok (.getfield 19, 3) := by decide +kernel
theorem d_Translator_findWord_16 : decode b_Translator_findWord 16 = .ok (.if_icmp .ge 54, 3) := by decide +kernel
theorem d_Translator_findWord_19 : decode b_Translator_findWord 19 = .ok (.aload_n 0, 1) := by decide +kernel
theorem d_Translator_findWord_20 : decode b_Translator_findWord 20 = .ok (.getfield 9, 3) := by decide +kernel
theorem d_Translator_findWord_23 : decode b_Translator_findWord 23 = .ok (.iload 4, 2) := by decide +kernel
theorem d_Translator_findWord_25 : decode b_Translator_findWord 25 = .ok (.invokevirtual 25, 3) := by decide +kernel
theorem d_Translator_findWord_28 : decode b_Translator_findWord 28 = .ok (.invokestatic 29, 3) := by decide +kernel
theorem d_Translator_findWord_31 : decode b_Translator_findWord 31 = .ok (.ifCond .eq 39, 3) := by decide +kernel
theorem d_Translator_findWord_34 : decode b_Translator_findWord 34 = .ok (.iload_n 2, 1) := by decide +kernel
theorem d_Translator_findWord_35 : decode b_Translator_findWord 35 = .ok (.ifCond .eq 22, 3) := by decide +kernel
theorem d_Translator_findWord_38 : decode b_Translator_findWord 38 = .ok (.aload_n 0, 1) := by decide +kernel
theorem d_Translator_findWord_39 : decode b_Translator_findWord 39 = .ok (.getfield 9, 3) := by decide +kernel
theorem d_Translator_findWord_42 : decode b_Translator_findWord 42 = .ok (.iload 4, 2) := by decide +kernel
theorem d_Translator_findWord_44 : decode b_Translator_findWord 44 = .ok (.invokevirtual 25, 3) := by decide +kernel
theorem d_Translator_findWord_47 : decode b_Translator_findWord 47 = .ok (.invokestatic 63, 3) := by decide +kernel
theorem d_Translator_findWord_50 : decode b_Translator_findWord 50 = .ok (.ifCond .eq 7, 3) := by decide +kernel
theorem d_Translator_findWord_53 : decode b_Translator_findWord 53 = .ok (.iconst 1, 1) := by decide +kernel
theorem d_Translator_findWord_54 : decode b_Translator_findWord 54 = .ok (.goto 4, 3) := by decide +kernel
theorem d_Translator_findWord_57 : decode b_Translator_findWord 57 = .ok (.iconst 0, 1) := by decide +kernel
theorem d_Translator_findWord_58 : decode b_Translator_findWord 58 = .ok (.istore_n 2, 1) := by decide +kernel
theorem d_Translator_findWord_59 : decode b_Translator_findWord 59 = .ok (.iload 4, 2) := by decide +kernel
theorem d_Translator_findWord_61 : decode b_Translator_findWord 61 = .ok (.iconst 1, 1) := by decide +kernel
theorem d_Translator_findWord_62 : decode b_Translator_findWord 62 = .ok (.iadd, 1) := by decide +kernel
theorem d_Translator_findWord_63 : decode b_Translator_findWord 63 = .ok (.istore_n 3, 1) := by decide +kernel
theorem d_Translator_findWord_64 : decode b_Translator_findWord 64 = .ok (.iinc 4 1, 3) := by decide +kernel
theorem d_Translator_findWord_67 : decode b_Translator_findWord 67 = .ok (.goto (-60), 3) := by decide +kernel
theorem d_Translator_findWord_70 : decode b_Translator_findWord 70 = .ok (.aload_n 0, 1) := by decide +kernel
theorem d_Translator_findWord_71 : decode b_Translator_findWord 71 = .ok (.iload_n 1, 1) := by decide +kernel
theorem d_Translator_findWord_72 : decode b_Translator_findWord 72 = .ok (.putfield 66, 3) := by decide +kernel
theorem d_Translator_findWord_75 : decode b_Translator_findWord 75 = .ok (.aload_n 0, 1) := by decide +kernel
theorem d_Translator_findWord_76 : decode b_Translator_findWord 76 = .ok (.iload_n 3, 1) := by decide +kernel
theorem d_Translator_findWord_77 : decode b_Translator_findWord 77 = .ok (.putfield 69, 3) := by decide +kernel
theorem d_Translator_findWord_80 : decode b_Translator_findWord 80 = .ok (.aload_n 0, 1) := by decide +kernel
theorem d_Translator_findWord_81 : decode b_Translator_findWord 81 = .ok (.iload_n 2, 1) := by decide +kernel
theorem d_Translator_findWord_82 : decode b_Translator_findWord 82 = .ok (.ifCond .eq 14, 3) := by decide +kernel
theorem d_Translator_findWord_85 : decode b_Translator_findWord 85 = .ok (.iload_n 3, 1) := by decide +kernel
theorem d_Translator_findWord_86 : decode b_Translator_findWord 86 = .ok (.iload_n 1, 1) := by decide +kernel
theorem d_Translator_findWord_87 : decode b_Translator_findWord 87 = .ok (.isub, 1) := by decide +kernel
theorem d_Translator_findWord_88 : decode b_Translator_findWord 88 = .ok (.iconst 2, 1) := by decide +kernel
theorem d_Translator_findWord_89 : decode b_Translator_findWord 89 = .ok (.if_icmp .lt 7, 3) := by decide +kernel
theorem d_Translator_findWord_92 : decode b_Translator_findWord 92 = .ok (.iconst 1, 1) := by decide +kernel
theorem d_Translator_findWord_93 : decode b_Translator_findWord 93 = .ok (.goto 4, 3) := by decide +kernel
theorem d_Translator_findWord_96 : decode b_Translator_findWord 96 = .ok (.iconst 0, 1) := by decide +kernel
theorem d_Translator_findWord_97 : decode b_Translator_findWord 97 = .ok (.putfield 72, 3) := by decide +kernel
theorem d_Translator_findWord_100 : decode b_Translator_findWord 100 = .ok (.return_, 1) := by decide +kernel
theorem d_Translator_putWord_0 : decode b_Translator_putWord 0 = .ok (.aload_n 0, 1) := by decide +kernel
theorem d_Translator_putWord_1 : decode b_Translator_putWord 1 = .ok (.getfield 72, 3) := by decide +kernel
theorem d_Translator_putWord_4 : decode b_Translator_putWord 4 = .ok (.ifCond .eq 23, 3) := by decide +kernel
theorem d_Translator_putWord_7 : decode b_Translator_putWord 7 = .ok (.aload_n 1, 1) := by decide +kernel
theorem d_Translator_putWord_8 : decode b_Translator_putWord 8 = .ok (.bipush 32, 2) := by decide +kernel
theorem d_Translator_putWord_10 : decode b_Translator_putWord 10 = .ok (.aload_n 0, 1) := by decide +kernel
theorem d_Translator_putWord_11 : decode b_Translator_putWord 11 = .ok (.getfield 66, 3) := by decide +kernel
theorem d_Translator_putWord_14 : decode b_Translator_putWord 14 = .ok (.invokevirtual 50, 3) := by decide +kernel
theorem d_Translator_putWord_17 : decode b_Translator_putWord 17 = .ok (.aload_n 1, 1) := by decide +kernel
theorem d_Translator_putWord_18 : decode b_Translator_putWord 18 = .ok (.bipush 32, 2) := by decide +kernel
theorem d_Translator_putWord_20 : decode b_Translator_putWord 20 = .ok (.aload_n 0, 1) := by decide +kernel
theorem d_Translator_putWord_21 : decode b_Translator_putWord 21 = .ok (.getfield 66, 3) := by decide +kernel
theorem d_Translator_putWord_24 : decode b_Translator_putWord 24 = .ok (.invokevirtual 50, 3) := by decide +kernel
theorem d_Translator_putWord_27 : decode b_Translator_putWord 27 = .ok (.aload_n 0, 1) := by decide +kernel
theorem d_Translator_putWord_28 : decode b_Translator_putWord 28 = .ok (.getfield 66, 3) := by decide +kernel
theorem d_Translator_putWord_31 : decode b_Translator_putWord 31 = .ok (.istore_n 2, 1) := by decide +kernel
theorem d_Translator_putWord_32 : decode b_Translator_putWord 32 = .ok (.aload_n 0, 1) := by decide +kernel
theorem d_Translator_putWord_33 : decode b_Translator_putWord 33 = .ok (.getfield 66, 3) := by decide +kernel
theorem d_Translator_putWord_36 : decode b_Translator_putWord 36 = .ok (.istore_n 3, 1) := by decide +kernel
theorem d_Translator_putWord_37 : decode b_Translator_putWord 37 = .ok (.iload_n 3, 1) := by decide +kernel
theorem d_Translator_putWord_38 : decode b_Translator_putWord 38 = .ok (.aload_n 0, 1) := by decide +kernel
theorem d_Translator_putWord_39 : decode b_Translator_putWord 39 = .ok (.getfield 69, 3) := by decide +kernel
theorem d_Translator_putWord_42 : decode b_Translator_putWord 42 = .ok (.if_icmp .ge 23, 3) := by decide +kernel
theorem d_Translator_putWord_45 : decode b_Translator_putWord 45 = .ok (.iload_n 3, 1) := by decide +kernel
theorem d_Translator_putWord_46 : decode b_Translator_putWord 46 = .ok (.iload_n 2, 1) := by decide +kernel
theorem d_Translator_putWord_47 : decode b_Translator_putWord 47 = .ok (.if_icmp .ne 12, 3) := by decide +kernel
theorem d_Translator_putWord_50 : decode b_Translator_putWord 50 = .ok (.iload_n 3, 1) := by decide +kernel
theorem d_Translator_putWord_51 : decode b_Translator_putWord 51 = .ok (.aload_n 0, 1) := by decide +kernel
theorem d_Translator_putWord_52 : decode b_Translator_putWord 52 = .ok (.aload_n 1, 1) := by decide +kernel
theorem d_Translator_putWord_53 : decode b_Translator_putWord 53 = .ok (.iload_n 3, 1) := by decide +kernel
theorem d_Translator_putWord_54 : decode b_Translator_putWord 54 = .ok (.invokevirtual 76, 3) := by decide +kernel
theorem d_Translator_putWord_57 : decode b_Translator_putWord 57 = .ok (.iadd, 1) := by decide +kernel
theorem d_Translator_putWord_58 : decode b_Translator_putWord 58 = .ok (.istore_n 2, 1) := by decide +kernel
theorem d_Translator_putWord_59 : decode b_Translator_putWord 59 = .ok (.iinc 3 1, 3) := by decide +kernel
theorem d_Translator_putWord_62 : decode b_Translator_putWord 62 = .ok (.goto (-25), 3) := by decide +kernel
theorem d_Translator_putWord_65 : decode b_Translator_putWord 65 = .ok (.return_, 1) := by decide +kernel
theorem d_Translator_putLettersAt_0 : decode b_Translator_putLettersAt 0 = .ok (.aload_n 0, 1) := by decide +kernel
theorem d_Translator_putLettersAt_1 : decode b_Translator_putLettersAt 1 = .ok (.getfield 9, 3) := by decide +kernel
theorem d_Translator_putLettersAt_4 : decode b_Translator_putLettersAt 4 = .ok (.iload_n 2, 1) := by decide +kernel
theorem d_Translator_putLettersAt_5 : decode b_Translator_putLettersAt 5 = .ok (.invokevirtual 25, 3) := by decide +kernel
theorem d_Translator_putLettersAt_8 : decode b_Translator_putLettersAt 8 = .ok (.istore_n 3, 1) := by decide +kernel
theorem d_Translator_putLettersAt_9 : decode b_Translator_putLettersAt 9 = .ok (.aload_n 0, 1) := by decide +kernel
theorem d_Translator_putLettersAt_10 : decode b_Translator_putLettersAt 10 = .ok (.getfield 72, 3) := by decide +kernel
theorem d_Translator_putLettersAt_13 : decode b_Translator_putLettersAt 13 = .ok (.ifCond .ne 17, 3) := by decide +kernel
theorem d_Translator_putLettersAt_16 : decode b_Translator_putLettersAt 16 = .ok (.iload_n 3, 1) := by decide +kernel
theorem d_Translator_putLettersAt_17 : decode b_Translator_putLettersAt 17 = .ok (.invokestatic 63, 3) := by decide +kernel
theorem d_Translator_putLettersAt_20 : decode b_Translator_putLettersAt 20 = .ok (.ifCond .eq 10, 3) := by decide +kernel
theorem d_Translator_putLettersAt_23 : decode b_Translator_putLettersAt 23 = .ok (.aload_n 1, 1) := by decide +kernel
theorem d_Translator_putLettersAt_24 : decode b_Translator_putLettersAt 24 = .ok (.bipush 32, 2) := by decide +kernel
theorem d_Translator_putLettersAt_26 : decode b_Translator_putLettersAt 26 = .ok (.iload_n 2, 1) := by decide +kernel
theorem d_Translator_putLettersAt_27 : decode b_Translator_putLettersAt 27 = .ok (.invokevirtual 50, 3) := by decide +kernel
theorem d_Translator_putLettersAt_30 : decode b_Translator_putLettersAt 30 = .ok (.aload_n 0, 1) := by decide +kernel
theorem d_Translator_putLettersAt_31 : decode b_Translator_putLettersAt 31 = .ok (.iload_n 2, 1) := by decide +kernel
theorem d_Translator_putLettersAt_32 : decode b_Translator_putLettersAt 32 = .ok (.invokevirtual 80, 3) := by decide +kernel
theorem d_Translator_putLettersAt_35 : decode b_Translator_putLettersAt 35 = .ok (.astore 4, 2) := by decide +kernel
theorem d_Translator_putLettersAt_37 : decode b_Translator_putLettersAt 37 = .ok (.aload 4, 2) := by decide +kernel
theorem d_Translator_putLettersAt_39 : decode b_Translator_putLettersAt 39 = .ok (.ifnonnull 14, 3) := by decide +kernel
theorem d_Translator_putLettersAt_42 : decode b_Translator_putLettersAt 42 = .ok (.aload_n 1, 1) := by decide +kernel
theorem d_Translator_putLettersAt_43 : decode b_Translator_putLettersAt 43 = .ok (.iload_n 3, 1) := by decide +kernel
theorem d_Translator_putLettersAt_44 : decode b_Translator_putLettersAt 44 = .ok (.invokestatic 56, 3) := by decide +kernel
theorem d_Translator_putLettersAt_47 : decode b_Translator_putLettersAt 47 = .ok (.iload_n 2, 1) := by decide +kernel
theorem d_Translator_putLettersAt_48 : decode b_Translator_putLettersAt 48 = .ok (.invokevirtual 50, 3) := by decide +kernel
theorem d_Translator_putLettersAt_51 : decode b_Translator_putLettersAt 51 = .ok (.iconst 1, 1) := by decide +kernel
theorem d_Translator_putLettersAt_52 : decode b_Translator_putLettersAt 52 = .ok (.ireturn, 1) := by decide +kernel
theorem d_Translator_putLettersAt_53 : decode b_Translator_putLettersAt 53 = .ok (.iconst 0, 1) := by decide +kernel
theorem d_Translator_putLettersAt_54 : decode b_Translator_putLettersAt 54 = .ok (.istore 5, 2) := by decide +kernel
theorem d_Translator_putLettersAt_56 : decode b_Translator_putLettersAt 56 = .ok (.iload 5, 2) := by decide +kernel
theorem d_Translator_putLettersAt_58 : decode b_Translator_putLettersAt 58 = .ok (.aload 4, 2) := by decide +kernel
theorem d_Translator_putLettersAt_60 : decode b_Translator_putLettersAt 60 = .ok (.getfield 84, 3) := by decide +kernel
theorem d_Translator_putLettersAt_63 : decode b_Translator_putLettersAt 63 = .ok (.if_icmp .ge 22, 3) := by decide +kernel
theorem d_Translator_putLettersAt_66 : decode b_Translator_putLettersAt 66 = .ok (.aload_n 1, 1) := by decide +kernel
theorem d_Translator_putLettersAt_67 : decode b_Translator_putLettersAt 67 = .ok (.aload 4, 2) := by decide +kernel
theorem d_Translator_putLettersAt_69 : decode b_Translator_putLettersAt 69 = .ok (.getfield 89, 3) := by decide +kernel
theorem d_Translator_putLettersAt_72 : decode b_Translator_putLettersAt 72 = .ok (.iload 5, 2) := by decide +kernel
theorem d_Translator_putLettersAt_74 : decode b_Translator_putLettersAt 74 = .ok (.iaload, 1) := by decide +kernel
theorem d_Translator_putLettersAt_75 : decode b_Translator_putLettersAt 75 = .ok (.iload_n 2, 1) := by decide +kernel
theorem d_Translator_putLettersAt_76 : decode b_Translator_putLettersAt 76 = .ok (.invokevirtual 50, 3) := by decide +kernel
theorem d_Translator_putLettersAt_79 : decode b_Translator_putLettersAt 79 = .ok (.iinc 5 1, 3) := by decide +kernel
theorem d_Translator_putLettersAt_82 : decode b_Translator_putLettersAt 82 = .ok (.goto (-26), 3) := by decide +kernel
theorem d_Translator_putLettersAt_85 : decode b_Translator_putLettersAt 85 = .ok (.aload 4, 2) := by decide +kernel
theorem d_Translator_putLettersAt_87 : decode b_Translator_putLettersAt 87 = .ok (.getfield 93, 3) := by decide +kernel
theorem d_Translator_putLettersAt_90 : decode b_Translator_putLettersAt 90 = .ok (.ireturn, 1) := by decide +kernel
theorem d_Translator_ruleAt_0 : decode b_Translator_ruleAt 0 = .ok (.aconst_null, 1) := by decide +kernel
theorem d_Translator_ruleAt_1 : decode b_Translator_ruleAt 1 = .ok (.astore_n 2, 1) := by decide +kernel
theorem d_Translator_ruleAt_2 : decode b_Translator_ruleAt 2 = .ok (.iconst 0, 1) := by decide +kernel
theorem d_Translator_ruleAt_3 : decode b_Translator_ruleAt 3 = .ok (.istore_n 3, 1) := by decide +kernel
theorem d_Translator_ruleAt_4 : decode b_Translator_ruleAt 4 = .ok (.iload_n 3, 1) := by decide +kernel
theorem d_Translator_ruleAt_5 : decode b_Translator_ruleAt 5 = .ok (.aload_n 0, 1) := by decide +kernel
theorem d_Translator_ruleAt_6 : decode b_Translator_ruleAt 6 = .ok (.getfield 15, 3) := by decide +kernel
theorem d_Translator_ruleAt_9 : decode b_Translator_ruleAt 9 = .ok (.getfield 96, 3) := by decide +kernel
theorem d_Translator_ruleAt_12 : decode b_Translator_ruleAt 12 = .ok (.if_icmp .ge 93, 3) := by decide +kernel
theorem d_Translator_ruleAt_15 : decode b_Translator_ruleAt 15 = .ok (.aload_n 0, 1) := by decide +kernel
theorem d_Translator_ruleAt_16 : decode b_Translator_ruleAt 16 = .ok (.getfield 15, 3) := by decide +kernel
theorem d_Translator_ruleAt_19 : decode b_Translator_ruleAt 19 = .ok (.getfield 99, 3) := by decide +kernel
theorem d_Translator_ruleAt_22 : decode b_Translator_ruleAt 22 = .ok (.iload_n 3, 1) := by decide +kernel
theorem d_Translator_ruleAt_23 : decode b_Translator_ruleAt 23 = .ok (.aaload, 1) := by decide +kernel
theorem d_Translator_ruleAt_24 : decode b_Translator_ruleAt 24 = .ok (.astore 4, 2) := by decide +kernel
theorem d_Translator_ruleAt_26 : decode b_Translator_ruleAt 26 = .ok (.aload 4, 2) := by decide +kernel
theorem d_Translator_ruleAt_28 : decode b_Translator_ruleAt 28 = .ok (.aload_n 0, 1) := by decide +kernel
theorem d_Translator_ruleAt_29 : decode b_Translator_ruleAt 29 = .ok (.getfield 9, 3) := by decide +kernel
theorem d_Translator_ruleAt_32 : decode b_Translator_ruleAt 32 = .ok (.iload_n 1, 1) := by decide +kernel
theorem d_Translator_ruleAt_33 : decode b_Translator_ruleAt 33 = .ok (.aload_n 0, 1) := by decide +kernel
theorem d_Translator_ruleAt_34 : decode b_Translator_ruleAt 34 = .ok (.getfield 72, 3) := by decide +kernel
theorem d_Translator_ruleAt_37 : decode b_Translator_ruleAt 37 = .ok (.invokevirtual 103, 3) := by decide +kernel
theorem d_Translator_ruleAt_40 : decode b_Translator_ruleAt 40 = .ok (.ifCond .eq 59, 3) := by decide +kernel
theorem d_Translator_ruleAt_43 : decode b_Translator_ruleAt 43 = .ok (.aload 4, 2) := by decide +kernel
theorem d_Translator_ruleAt_45 : decode b_Translator_ruleAt 45 = .ok (.iload_n 1, 1) := by decide +kernel
theorem d_Translator_ruleAt_46 : decode b_Translator_ruleAt 46 = .ok (.aload_n 0, 1) := by decide +kernel
theorem d_Translator_ruleAt_47 : decode b_Translator_ruleAt 47 = .ok (.getfield 66, 3) := by decide +kernel
theorem d_Translator_ruleAt_50 : decode b_Translator_ruleAt 50 = .ok (.if_icmp .ne 7, 3) := by decide +kernel
theorem d_Translator_ruleAt_53 : decode b_Translator_ruleAt 53 = .ok (.iconst 1, 1) := by decide +kernel
theorem d_Translator_ruleAt_54 : decode b_Translator_ruleAt 54 = .ok (.goto 4, 3) := by decide +kernel
theorem d_Translator_ruleAt_57 : decode b_Translator_ruleAt 57 = .ok (.iconst 0, 1) := by decide +kernel
theorem d_Translator_ruleAt_58 : decode b_Translator_ruleAt 58 = .ok (.iload_n 1, 1) := by decide +kernel
theorem d_Translator_ruleAt_59 : decode b_Translator_ruleAt 59 = .ok (.aload 4, 2) := by decide +kernel
theorem d_Translator_ruleAt_61 : decode b_Translator_ruleAt 61 = .ok (.getfield 93, 3) := by decide +kernel
theorem d_Translator_ruleAt_64 : decode b_Translator_ruleAt 64 = .ok (.iadd, 1) := by decide +kernel
theorem d_Translator_ruleAt_65 : decode b_Translator_ruleAt 65 = .ok (.aload_n 0, 1) := by decide +kernel
theorem d_Translator_ruleAt_66 : decode b_Translator_ruleAt 66 = .ok (.getfield 69, 3) := by decide +kernel
theorem d_Translator_ruleAt_69 : decode b_Translator_ruleAt 69 = .ok (.if_icmp .ne 7, 3) := by decide +kernel
theorem d_Translator_ruleAt_72 : decode b_Translator_ruleAt 72 = .ok (.iconst 1, 1) := by decide +kernel
theorem d_Translator_ruleAt_73 : decode b_Translator_ruleAt 73 = .ok (.goto 4, 3) := by decide +kernel
theorem d_Translator_ruleAt_76 : decode b_Translator_ruleAt 76 = .ok (.iconst 0, 1) := by decide +kernel
theorem d_Translator_ruleAt_77 : decode b_Translator_ruleAt 77 = .ok (.invokevirtual 107, 3) := by decide +kernel
theorem d_Translator_ruleAt_80 : decode b_Translator_ruleAt 80 = .ok (.ifCond .eq 19, 3) := by decide +kernel
theorem d_Translator_ruleAt_83 : decode b_Translator_ruleAt 83 = .ok (.aload_n 2, 1) := by decide +kernel
theorem d_Translator_ruleAt_84 : decode b_Translator_ruleAt 84 = .ok (.ifnull 12, 3) := by decide +kernel
theorem d_Translator_ruleAt_87 : decode b_Translator_ruleAt 87 = .ok (.aload 4, 2) := by decide +kernel
theorem d_Translator_ruleAt_89 : decode b_Translator_ruleAt 89 = .ok (.aload_n 2, 1) := by decide +kernel
theorem d_Translator_ruleAt_90 : decode b_Translator_ruleAt 90 = .ok (.invokestatic 111, 3) := by decide +kernel
theorem d_Translator_ruleAt_93 : decode b_Translator_ruleAt 93 = .ok (.ifCond .eq 6, 3) := by decide +kernel
theorem d_Translator_ruleAt_96 : decode b_Translator_ruleAt 96 = .ok (.aload 4, 2) := by decide +kernel
theorem d_Translator_ruleAt_98 : decode b_Translator_ruleAt 98 = .ok (.astore_n 2, 1) := by decide +kernel
theorem d_Translator_ruleAt_99 : decode b_Translator_ruleAt 99 = .ok (.iinc 3 1, 3) := by decide +kernel
theorem d_Translator_ruleAt_102 : decode b_Translator_ruleAt 102 = .ok (.goto (-98), 3) := by decide +kernel
theorem d_Translator_ruleAt_105 : decode b_Translator_ruleAt 105 = .ok (.aload_n 2, 1) := by decide +kernel
theorem d_Translator_ruleAt_106 : decode b_Translator_ruleAt 106 = .ok (.areturn, 1) := by decide +kernel
theorem d_Translator_isBetter_0 : decode b_Translator_isBetter 0 = .ok (.aload_n 0, 1) := by decide +kernel
theorem d_Translator_isBetter_1 : decode b_Translator_isBetter 1 = .ok (.getfield 93, 3) := by decide +kernel
theorem d_Translator_isBetter_4 : decode b_Translator_isBetter 4 = .ok (.aload_n 1, 1) := by decide +kernel
theorem d_Translator_isBetter_5 : decode b_Translator_isBetter 5 = .ok (.getfield 93, 3) := by decide +kernel
theorem d_Translator_isBetter_8 : decode b_Translator_isBetter 8 = .ok (.if_icmp .gt 25, 3) := by decide +kernel
theorem d_Translator_isBetter_11 : decode b_Translator_isBetter 11 = .ok (.aload_n 0, 1) := by decide +kernel
theorem d_Translator_isBetter_12 : decode b_Translator_isBetter 12 = .ok (.getfield 93, 3) := by decide +kernel
theorem d_Translator_isBetter_15 : decode b_Translator_isBetter 15 = .ok (.aload_n 1, 1) := by decide +kernel
theorem d_Translator_isBetter_16 : decode b_Translator_isBetter 16 = .ok (.getfield 93, 3) := by decide +kernel
theorem d_Translator_isBetter_19 : decode b_Translator_isBetter 19 = .ok (.if_icmp .ne 18, 3) := by decide +kernel
theorem d_Translator_isBetter_22 : decode b_Translator_isBetter 22 = .ok (.aload_n 0, 1) := by decide +kernel
theorem d_Translator_isBetter_23 : decode b_Translator_isBetter 23 = .ok (.getfield 115, 3) := by decide +kernel
theorem d_Translator_isBetter_26 : decode b_Translator_isBetter 26 = .ok (.aload_n 1, 1) := by decide +kernel
theorem d_Translator_isBetter_27 : decode b_Translator_isBetter 27 = .ok (.getfield 115, 3) := by decide +kernel
theorem d_Translator_isBetter_30 : decode b_Translator_isBetter 30 = .ok (.if_icmp .ge 7, 3) := by decide +kernel
theorem d_Translator_isBetter_33 : decode b_Translator_isBetter 33 = .ok (.iconst 1, 1) := by decide +kernel
theorem d_Translator_isBetter_34 : decode b_Translator_isBetter 34 = .ok (.goto 4, 3) := by decide +kernel
theorem d_Translator_isBetter_37 : decode b_Translator_isBetter 37 = .ok (.iconst 0, 1) := by decide +kernel
theorem d_Translator_isBetter_38 : decode b_Translator_isBetter 38 = .ok (.ireturn, 1) := by decide +kernel
theorem d_Typed_init_0 : decode b_Typed_init 0 = .ok (.aload_n 0, 1) := by decide +kernel
theorem d_Typed_init_1 : decode b_Typed_init 1 = .ok (.invokespecial 3, 3) := by decide +kernel
theorem d_Typed_init_4 : decode b_Typed_init 4 = .ok (.aload_n 0, 1) := by decide +kernel
theorem d_Typed_init_5 : decode b_Typed_init 5 = .ok (.bipush 80, 2) := by decide +kernel
theorem d_Typed_init_7 : decode b_Typed_init 7 = .ok (.newarray .char, 2) := by decide +kernel
theorem d_Typed_init_9 : decode b_Typed_init 9 = .ok (.putfield 9, 3) := by decide +kernel
theorem d_Typed_init_12 : decode b_Typed_init 12 = .ok (.return_, 1) := by decide +kernel
theorem d_Typed_put_0 : decode b_Typed_put 0 = .ok (.aload_n 0, 1) := by decide +kernel
theorem d_Typed_put_1 : decode b_Typed_put 1 = .ok (.getfield 15, 3) := by decide +kernel
theorem d_Typed_put_4 : decode b_Typed_put 4 = .ok (.aload_n 0, 1) := by decide +kernel
theorem d_Typed_put_5 : decode b_Typed_put 5 = .ok (.getfield 9, 3) := by decide +kernel
theorem d_Typed_put_8 : decode b_Typed_put 8 = .ok (.arraylength, 1) := by decide +kernel
theorem d_Typed_put_9 : decode b_Typed_put 9 = .ok (.if_icmp .ge 23, 3) := by decide +kernel
theorem d_Typed_put_12 : decode b_Typed_put 12 = .ok (.aload_n 0, 1) := by decide +kernel
theorem d_Typed_put_13 : decode b_Typed_put 13 = .ok (.getfield 9, 3) := by decide +kernel
theorem d_Typed_put_16 : decode b_Typed_put 16 = .ok (.aload_n 0, 1) := by decide +kernel
theorem d_Typed_put_17 : decode b_Typed_put 17 = .ok (.getfield 15, 3) := by decide +kernel
theorem d_Typed_put_20 : decode b_Typed_put 20 = .ok (.iload_n 1, 1) := by decide +kernel
theorem d_Typed_put_21 : decode b_Typed_put 21 = .ok (.castore, 1) := by decide +kernel
theorem d_Typed_put_22 : decode b_Typed_put 22 = .ok (.aload_n 0, 1) := by decide +kernel
theorem d_Typed_put_23 : decode b_Typed_put 23 = .ok (.dup, 1) := by decide +kernel
theorem d_Typed_put_24 : decode b_Typed_put 24 = .ok (.getfield 15, 3) := by decide +kernel
theorem d_Typed_put_27 : decode b_Typed_put 27 = .ok (.iconst 1, 1) := by decide +kernel
theorem d_Typed_put_28 : decode b_Typed_put 28 = .ok (.iadd, 1) := by decide +kernel
theorem d_Typed_put_29 : decode b_Typed_put 29 = .ok (.putfield 15, 3) := by decide +kernel
theorem d_Typed_put_32 : decode b_Typed_put 32 = .ok (.return_, 1) := by decide +kernel
theorem d_Typed_characterAt_0 : decode b_Typed_characterAt 0 = .ok (.iload_n 1, 1) := by decide +kernel
theorem d_Typed_characterAt_1 : decode b_Typed_characterAt 1 = .ok (.ifCond .lt 20, 3) := by decide +kernel
theorem d_Typed_characterAt_4 : decode b_Typed_characterAt 4 = .ok (.iload_n 1, 1) := by decide +kernel
theorem d_Typed_characterAt_5 : decode b_Typed_characterAt 5 = .ok (.aload_n 0, 1) := by decide +kernel
theorem d_Typed_characterAt_6 : decode b_Typed_characterAt 6 = .ok (.getfield 15, 3) := by decide +kernel
theorem d_Typed_characterAt_9 : decode b_Typed_characterAt 9 = .ok (.if_icmp .ge 12, 3) := by decide +kernel
theorem d_Typed_characterAt_12 : decode b_Typed_characterAt 12 = .ok (.aload_n 0, 1) := by decide +kernel
theorem d_Typed_characterAt_13 : decode b_Typed_characterAt 13 = .ok (.getfield 9, 3) := by decide +kernel
theorem d_Typed_characterAt_16 : decode b_Typed_characterAt 16 = .ok (.iload_n 1, 1) := by decide +kernel
theorem d_Typed_characterAt_17 : decode b_Typed_characterAt 17 = .ok (.caload, 1) := by decide +kernel
theorem d_Typed_characterAt_18 : decode b_Typed_characterAt 18 = .ok (.goto 4, 3) := by decide +kernel
theorem d_Typed_characterAt_21 : decode b_Typed_characterAt 21 = .ok (.iconst 0, 1) := by decide +kernel
theorem d_Typed_characterAt_22 : decode b_Typed_characterAt 22 = .ok (.ireturn, 1) := by decide +kernel
theorem d_Typed_canBeTranslated_0 : decode b_Typed_canBeTranslated 0 = .ok (.iconst 0, 1) := by decide +kernel
theorem d_Typed_canBeTranslated_1 : decode b_Typed_canBeTranslated 1 = .ok (.istore_n 1, 1) := by decide +kernel
theorem d_Typed_canBeTranslated_2 : decode b_Typed_canBeTranslated 2 = .ok (.iload_n 1, 1) := by decide +kernel
theorem d_Typed_canBeTranslated_3 : decode b_Typed_canBeTranslated 3 = .ok (.aload_n 0, 1) := by decide +kernel
theorem d_Typed_canBeTranslated_4 : decode b_Typed_canBeTranslated 4 = .ok (.getfield 15, 3) := by decide +kernel
theorem d_Typed_canBeTranslated_7 : decode b_Typed_canBeTranslated 7 = .ok (.if_icmp .ge 23, 3) := by decide +kernel
theorem d_Typed_canBeTranslated_10 : decode b_Typed_canBeTranslated 10 = .ok (.aload_n 0, 1) := by decide +kernel
theorem d_Typed_canBeTranslated_11 : decode b_Typed_canBeTranslated 11 = .ok (.getfield 9, 3) := by decide +kernel
theorem d_Typed_canBeTranslated_14 : decode b_Typed_canBeTranslated 14 = .ok (.iload_n 1, 1) := by decide +kernel
theorem d_Typed_canBeTranslated_15 : decode b_Typed_canBeTranslated 15 = .ok (.caload, 1) := by decide +kernel
theorem d_Typed_canBeTranslated_16 : decode b_Typed_canBeTranslated 16 = .ok (.invokestatic 19, 3) := by decide +kernel
theorem d_Typed_canBeTranslated_19 : decode b_Typed_canBeTranslated 19 = .ok (.ifCond .ne 5, 3) := by decide +kernel
theorem d_Typed_canBeTranslated_22 : decode b_Typed_canBeTranslated 22 = .ok (.iconst 0, 1) := by decide +kernel
theorem d_Typed_canBeTranslated_23 : decode b_Typed_canBeTranslated 23 = .ok (.ireturn, 1) := by decide +kernel
theorem d_Typed_canBeTranslated_24 : decode b_Typed_canBeTranslated 24 = .ok (.iinc 1 1, 3) := by decide +kernel
theorem d_Typed_canBeTranslated_27 : decode b_Typed_canBeTranslated 27 = .ok (.goto (-25), 3) := by decide +kernel
theorem d_Typed_canBeTranslated_30 : decode b_Typed_canBeTranslated 30 = .ok (.iconst 1, 1) := by decide +kernel
theorem d_Typed_canBeTranslated_31 : decode b_Typed_canBeTranslated 31 = .ok (.ireturn, 1) := by decide +kernel
