/-! JDK: names, decode rows, links; rows over the layout on statics and texts -/
def R_JStr : String := "java/lang/String"
def R_JL1 : String := "java/lang/StringLatin1"
def R_JPre : String := "jdk/internal/util/Preconditions"
def y_JStr_indexOf : MethodName := ⟨R_JStr, "indexOf", "(I)I"⟩
abbrev b_JStr_indexOf : ByteArray := prog_19_method_79_code
theorem d_JStr_indexOf_0 : decode b_JStr_indexOf 0 = .ok (.aload_n 0, 1) := by decide +kernel
theorem d_JStr_indexOf_1 : decode b_JStr_indexOf 1 = .ok (.iload_n 1, 1) := by decide +kernel
theorem d_JStr_indexOf_2 : decode b_JStr_indexOf 2 = .ok (.iconst 0, 1) := by decide +kernel
theorem d_JStr_indexOf_3 : decode b_JStr_indexOf 3 = .ok (.invokevirtual 633, 3) := by decide +kernel
theorem d_JStr_indexOf_6 : decode b_JStr_indexOf 6 = .ok (.ireturn, 1) := by decide +kernel
def y_JStr_indexOf2 : MethodName := ⟨R_JStr, "indexOf", "(II)I"⟩
abbrev b_JStr_indexOf2 : ByteArray := prog_19_method_80_code
theorem d_JStr_indexOf2_0 : decode b_JStr_indexOf2 0 = .ok (.aload_n 0, 1) := by decide +kernel
theorem d_JStr_indexOf2_1 : decode b_JStr_indexOf2 1 = .ok (.invokevirtual 492, 3) := by decide +kernel
theorem d_JStr_indexOf2_4 : decode b_JStr_indexOf2 4 = .ok (.ifCond .eq 19, 3) := by decide +kernel
theorem d_JStr_indexOf2_7 : decode b_JStr_indexOf2 7 = .ok (.aload_n 0, 1) := by decide +kernel
theorem d_JStr_indexOf2_8 : decode b_JStr_indexOf2 8 = .ok (.getfield 9, 3) := by decide +kernel
theorem d_JStr_indexOf2_11 : decode b_JStr_indexOf2 11 = .ok (.iload_n 1, 1) := by decide +kernel
theorem d_JStr_indexOf2_12 : decode b_JStr_indexOf2 12 = .ok (.iload_n 2, 1) := by decide +kernel
theorem d_JStr_indexOf2_13 : decode b_JStr_indexOf2 13 = .ok (.aload_n 0, 1) := by decide +kernel
theorem d_JStr_indexOf2_14 : decode b_JStr_indexOf2 14 = .ok (.invokevirtual 505, 3) := by decide +kernel
theorem d_JStr_indexOf2_17 : decode b_JStr_indexOf2 17 = .ok (.invokestatic 637, 3) := by decide +kernel
theorem d_JStr_indexOf2_20 : decode b_JStr_indexOf2 20 = .ok (.goto 16, 3) := by decide +kernel
theorem d_JStr_indexOf2_23 : decode b_JStr_indexOf2 23 = .ok (.aload_n 0, 1) := by decide +kernel
theorem d_JStr_indexOf2_24 : decode b_JStr_indexOf2 24 = .ok (.getfield 9, 3) := by decide +kernel
theorem d_JStr_indexOf2_27 : decode b_JStr_indexOf2 27 = .ok (.iload_n 1, 1) := by decide +kernel
theorem d_JStr_indexOf2_28 : decode b_JStr_indexOf2 28 = .ok (.iload_n 2, 1) := by decide +kernel
theorem d_JStr_indexOf2_29 : decode b_JStr_indexOf2 29 = .ok (.aload_n 0, 1) := by decide +kernel
theorem d_JStr_indexOf2_30 : decode b_JStr_indexOf2 30 = .ok (.invokevirtual 505, 3) := by decide +kernel
theorem d_JStr_indexOf2_33 : decode b_JStr_indexOf2 33 = .ok (.invokestatic 640, 3) := by decide +kernel
theorem d_JStr_indexOf2_36 : decode b_JStr_indexOf2 36 = .ok (.ireturn, 1) := by decide +kernel
def y_JStr_isLatin1 : MethodName := ⟨R_JStr, "isLatin1", "()Z"⟩
abbrev b_JStr_isLatin1 : ByteArray := prog_19_method_154_code
theorem d_JStr_isLatin1_0 : decode b_JStr_isLatin1 0 = .ok (.getstatic 38, 3) := by decide +kernel
theorem d_JStr_isLatin1_3 : decode b_JStr_isLatin1 3 = .ok (.ifCond .eq 14, 3) := by decide +kernel
theorem d_JStr_isLatin1_6 : decode b_JStr_isLatin1 6 = .ok (.aload_n 0, 1) := by decide +kernel
theorem d_JStr_isLatin1_7 : decode b_JStr_isLatin1 7 = .ok (.getfield 15, 3) := by decide +kernel
theorem d_JStr_isLatin1_10 : decode b_JStr_isLatin1 10 = .ok (.ifCond .ne 7, 3) := by decide +kernel
theorem d_JStr_isLatin1_13 : decode b_JStr_isLatin1 13 = .ok (.iconst 1, 1) := by decide +kernel
theorem d_JStr_isLatin1_14 : decode b_JStr_isLatin1 14 = .ok (.goto 4, 3) := by decide +kernel
theorem d_JStr_isLatin1_17 : decode b_JStr_isLatin1 17 = .ok (.iconst 0, 1) := by decide +kernel
theorem d_JStr_isLatin1_18 : decode b_JStr_isLatin1 18 = .ok (.ireturn, 1) := by decide +kernel
def y_JStr_length : MethodName := ⟨R_JStr, "length", "()I"⟩
abbrev b_JStr_length : ByteArray := prog_19_method_54_code
theorem d_JStr_length_0 : decode b_JStr_length 0 = .ok (.aload_n 0, 1) := by decide +kernel
theorem d_JStr_length_1 : decode b_JStr_length 1 = .ok (.getfield 9, 3) := by decide +kernel
theorem d_JStr_length_4 : decode b_JStr_length 4 = .ok (.arraylength, 1) := by decide +kernel
theorem d_JStr_length_5 : decode b_JStr_length 5 = .ok (.aload_n 0, 1) := by decide +kernel
theorem d_JStr_length_6 : decode b_JStr_length 6 = .ok (.invokevirtual 335, 3) := by decide +kernel
theorem d_JStr_length_9 : decode b_JStr_length 9 = .ok (.ishr, 1) := by decide +kernel
theorem d_JStr_length_10 : decode b_JStr_length 10 = .ok (.ireturn, 1) := by decide +kernel
def y_JStr_coder : MethodName := ⟨R_JStr, "coder", "()B"⟩
abbrev b_JStr_coder : ByteArray := prog_19_method_152_code
theorem d_JStr_coder_0 : decode b_JStr_coder 0 = .ok (.getstatic 38, 3) := by decide +kernel
theorem d_JStr_coder_3 : decode b_JStr_coder 3 = .ok (.ifCond .eq 10, 3) := by decide +kernel
theorem d_JStr_coder_6 : decode b_JStr_coder 6 = .ok (.aload_n 0, 1) := by decide +kernel
theorem d_JStr_coder_7 : decode b_JStr_coder 7 = .ok (.getfield 15, 3) := by decide +kernel
theorem d_JStr_coder_10 : decode b_JStr_coder 10 = .ok (.goto 4, 3) := by decide +kernel
theorem d_JStr_coder_13 : decode b_JStr_coder 13 = .ok (.iconst 1, 1) := by decide +kernel
theorem d_JStr_coder_14 : decode b_JStr_coder 14 = .ok (.ireturn, 1) := by decide +kernel
def y_JStr_charAt : MethodName := ⟨R_JStr, "charAt", "(I)C"⟩
abbrev b_JStr_charAt : ByteArray := prog_19_method_56_code
theorem d_JStr_charAt_0 : decode b_JStr_charAt 0 = .ok (.aload_n 0, 1) := by decide +kernel
theorem d_JStr_charAt_1 : decode b_JStr_charAt 1 = .ok (.invokevirtual 492, 3) := by decide +kernel
theorem d_JStr_charAt_4 : decode b_JStr_charAt 4 = .ok (.ifCond .eq 12, 3) := by decide +kernel
theorem d_JStr_charAt_7 : decode b_JStr_charAt 7 = .ok (.aload_n 0, 1) := by decide +kernel
theorem d_JStr_charAt_8 : decode b_JStr_charAt 8 = .ok (.getfield 9, 3) := by decide +kernel
theorem d_JStr_charAt_11 : decode b_JStr_charAt 11 = .ok (.iload_n 1, 1) := by decide +kernel
theorem d_JStr_charAt_12 : decode b_JStr_charAt 12 = .ok (.invokestatic 495, 3) := by decide +kernel
theorem d_JStr_charAt_15 : decode b_JStr_charAt 15 = .ok (.ireturn, 1) := by decide +kernel
theorem d_JStr_charAt_16 : decode b_JStr_charAt 16 = .ok (.aload_n 0, 1) := by decide +kernel
theorem d_JStr_charAt_17 : decode b_JStr_charAt 17 = .ok (.getfield 9, 3) := by decide +kernel
theorem d_JStr_charAt_20 : decode b_JStr_charAt 20 = .ok (.iload_n 1, 1) := by decide +kernel
theorem d_JStr_charAt_21 : decode b_JStr_charAt 21 = .ok (.invokestatic 498, 3) := by decide +kernel
theorem d_JStr_charAt_24 : decode b_JStr_charAt 24 = .ok (.ireturn, 1) := by decide +kernel
def y_JStr_checkIndex : MethodName := ⟨R_JStr, "checkIndex", "(II)V"⟩
abbrev b_JStr_checkIndex : ByteArray := prog_19_method_155_code
theorem d_JStr_checkIndex_0 : decode b_JStr_checkIndex 0 = .ok (.iload_n 0, 1) := by decide +kernel
theorem d_JStr_checkIndex_1 : decode b_JStr_checkIndex 1 = .ok (.iload_n 1, 1) := by decide +kernel
theorem d_JStr_checkIndex_2 : decode b_JStr_checkIndex 2 = .ok (.getstatic 1053, 3) := by decide +kernel
theorem d_JStr_checkIndex_5 : decode b_JStr_checkIndex 5 = .ok (.invokestatic 1059, 3) := by decide +kernel
theorem d_JStr_checkIndex_8 : decode b_JStr_checkIndex 8 = .ok (.pop, 1) := by decide +kernel
theorem d_JStr_checkIndex_9 : decode b_JStr_checkIndex 9 = .ok (.return_, 1) := by decide +kernel
def y_JL1_indexOf : MethodName := ⟨R_JL1, "indexOf", "([BIII)I"⟩
abbrev b_JL1_indexOf : ByteArray := prog_20_method_22_code
theorem d_JL1_indexOf_0 : decode b_JL1_indexOf 0 = .ok (.iload_n 1, 1) := by decide +kernel
theorem d_JL1_indexOf_1 : decode b_JL1_indexOf 1 = .ok (.invokestatic 88, 3) := by decide +kernel
theorem d_JL1_indexOf_4 : decode b_JL1_indexOf 4 = .ok (.ifCond .ne 5, 3) := by decide +kernel
theorem d_JL1_indexOf_7 : decode b_JL1_indexOf 7 = .ok (.iconst (-1), 1) := by decide +kernel
theorem d_JL1_indexOf_8 : decode b_JL1_indexOf 8 = .ok (.ireturn, 1) := by decide +kernel
theorem d_JL1_indexOf_9 : decode b_JL1_indexOf 9 = .ok (.iload_n 2, 1) := by decide +kernel
theorem d_JL1_indexOf_10 : decode b_JL1_indexOf 10 = .ok (.iconst 0, 1) := by decide +kernel
theorem d_JL1_indexOf_11 : decode b_JL1_indexOf 11 = .ok (.invokestatic 92, 3) := by decide +kernel
theorem d_JL1_indexOf_14 : decode b_JL1_indexOf 14 = .ok (.istore_n 2, 1) := by decide +kernel
theorem d_JL1_indexOf_15 : decode b_JL1_indexOf 15 = .ok (.iload_n 3, 1) := by decide +kernel
theorem d_JL1_indexOf_16 : decode b_JL1_indexOf 16 = .ok (.aload_n 0, 1) := by decide +kernel
theorem d_JL1_indexOf_17 : decode b_JL1_indexOf 17 = .ok (.arraylength, 1) := by decide +kernel
theorem d_JL1_indexOf_18 : decode b_JL1_indexOf 18 = .ok (.invokestatic 38, 3) := by decide +kernel
theorem d_JL1_indexOf_21 : decode b_JL1_indexOf 21 = .ok (.istore_n 3, 1) := by decide +kernel
theorem d_JL1_indexOf_22 : decode b_JL1_indexOf 22 = .ok (.iload_n 2, 1) := by decide +kernel
theorem d_JL1_indexOf_23 : decode b_JL1_indexOf 23 = .ok (.iload_n 3, 1) := by decide +kernel
theorem d_JL1_indexOf_24 : decode b_JL1_indexOf 24 = .ok (.if_icmp .lt 5, 3) := by decide +kernel
theorem d_JL1_indexOf_27 : decode b_JL1_indexOf 27 = .ok (.iconst (-1), 1) := by decide +kernel
theorem d_JL1_indexOf_28 : decode b_JL1_indexOf 28 = .ok (.ireturn, 1) := by decide +kernel
theorem d_JL1_indexOf_29 : decode b_JL1_indexOf 29 = .ok (.aload_n 0, 1) := by decide +kernel
theorem d_JL1_indexOf_30 : decode b_JL1_indexOf 30 = .ok (.iload_n 1, 1) := by decide +kernel
theorem d_JL1_indexOf_31 : decode b_JL1_indexOf 31 = .ok (.iload_n 2, 1) := by decide +kernel
theorem d_JL1_indexOf_32 : decode b_JL1_indexOf 32 = .ok (.iload_n 3, 1) := by decide +kernel
theorem d_JL1_indexOf_33 : decode b_JL1_indexOf 33 = .ok (.invokestatic 95, 3) := by decide +kernel
theorem d_JL1_indexOf_36 : decode b_JL1_indexOf 36 = .ok (.ireturn, 1) := by decide +kernel
def y_JL1_canEncode : MethodName := ⟨R_JL1, "canEncode", "(I)Z"⟩
abbrev b_JL1_canEncode : ByteArray := prog_20_method_4_code
theorem d_JL1_canEncode_0 : decode b_JL1_canEncode 0 = .ok (.iload_n 0, 1) := by decide +kernel
theorem d_JL1_canEncode_1 : decode b_JL1_canEncode 1 = .ok (.ifCond .lt 14, 3) := by decide +kernel
theorem d_JL1_canEncode_4 : decode b_JL1_canEncode 4 = .ok (.iload_n 0, 1) := by decide +kernel
theorem d_JL1_canEncode_5 : decode b_JL1_canEncode 5 = .ok (.sipush 255, 3) := by decide +kernel
theorem d_JL1_canEncode_8 : decode b_JL1_canEncode 8 = .ok (.if_icmp .gt 7, 3) := by decide +kernel
theorem d_JL1_canEncode_11 : decode b_JL1_canEncode 11 = .ok (.iconst 1, 1) := by decide +kernel
theorem d_JL1_canEncode_12 : decode b_JL1_canEncode 12 = .ok (.goto 4, 3) := by decide +kernel
theorem d_JL1_canEncode_15 : decode b_JL1_canEncode 15 = .ok (.iconst 0, 1) := by decide +kernel
theorem d_JL1_canEncode_16 : decode b_JL1_canEncode 16 = .ok (.ireturn, 1) := by decide +kernel
def y_JL1_indexOfChar : MethodName := ⟨R_JL1, "indexOfChar", "([BIII)I"⟩
abbrev b_JL1_indexOfChar : ByteArray := prog_20_method_23_code
theorem d_JL1_indexOfChar_0 : decode b_JL1_indexOfChar 0 = .ok (.iload_n 1, 1) := by decide +kernel
theorem d_JL1_indexOfChar_1 : decode b_JL1_indexOfChar 1 = .ok (.i2b, 1) := by decide +kernel
theorem d_JL1_indexOfChar_2 : decode b_JL1_indexOfChar 2 = .ok (.istore 4, 2) := by decide +kernel
theorem d_JL1_indexOfChar_4 : decode b_JL1_indexOfChar 4 = .ok (.iload_n 2, 1) := by decide +kernel
theorem d_JL1_indexOfChar_5 : decode b_JL1_indexOfChar 5 = .ok (.istore 5, 2) := by decide +kernel
theorem d_JL1_indexOfChar_7 : decode b_JL1_indexOfChar 7 = .ok (.iload 5, 2) := by decide +kernel
theorem d_JL1_indexOfChar_9 : decode b_JL1_indexOfChar 9 = .ok (.iload_n 3, 1) := by decide +kernel
theorem d_JL1_indexOfChar_10 : decode b_JL1_indexOfChar 10 = .ok (.if_icmp .ge 21, 3) := by decide +kernel
theorem d_JL1_indexOfChar_13 : decode b_JL1_indexOfChar 13 = .ok (.aload_n 0, 1) := by decide +kernel
theorem d_JL1_indexOfChar_14 : decode b_JL1_indexOfChar 14 = .ok (.iload 5, 2) := by decide +kernel
theorem d_JL1_indexOfChar_16 : decode b_JL1_indexOfChar 16 = .ok (.baload, 1) := by decide +kernel
theorem d_JL1_indexOfChar_17 : decode b_JL1_indexOfChar 17 = .ok (.iload 4, 2) := by decide +kernel
theorem d_JL1_indexOfChar_19 : decode b_JL1_indexOfChar 19 = .ok (.if_icmp .ne 6, 3) := by decide +kernel
theorem d_JL1_indexOfChar_22 : decode b_JL1_indexOfChar 22 = .ok (.iload 5, 2) := by decide +kernel
theorem d_JL1_indexOfChar_24 : decode b_JL1_indexOfChar 24 = .ok (.ireturn, 1) := by decide +kernel
theorem d_JL1_indexOfChar_25 : decode b_JL1_indexOfChar 25 = .ok (.iinc 5 1, 3) := by decide +kernel
theorem d_JL1_indexOfChar_28 : decode b_JL1_indexOfChar 28 = .ok (.goto (-21), 3) := by decide +kernel
theorem d_JL1_indexOfChar_31 : decode b_JL1_indexOfChar 31 = .ok (.iconst (-1), 1) := by decide +kernel
theorem d_JL1_indexOfChar_32 : decode b_JL1_indexOfChar 32 = .ok (.ireturn, 1) := by decide +kernel
def y_JL1_charAt : MethodName := ⟨R_JL1, "charAt", "([BI)C"⟩
abbrev b_JL1_charAt : ByteArray := prog_20_method_2_code
theorem d_JL1_charAt_0 : decode b_JL1_charAt 0 = .ok (.iload_n 1, 1) := by decide +kernel
theorem d_JL1_charAt_1 : decode b_JL1_charAt 1 = .ok (.aload_n 0, 1) := by decide +kernel
theorem d_JL1_charAt_2 : decode b_JL1_charAt 2 = .ok (.arraylength, 1) := by decide +kernel
theorem d_JL1_charAt_3 : decode b_JL1_charAt 3 = .ok (.invokestatic 9, 3) := by decide +kernel
theorem d_JL1_charAt_6 : decode b_JL1_charAt 6 = .ok (.aload_n 0, 1) := by decide +kernel
theorem d_JL1_charAt_7 : decode b_JL1_charAt 7 = .ok (.iload_n 1, 1) := by decide +kernel
theorem d_JL1_charAt_8 : decode b_JL1_charAt 8 = .ok (.baload, 1) := by decide +kernel
theorem d_JL1_charAt_9 : decode b_JL1_charAt 9 = .ok (.sipush 255, 3) := by decide +kernel
theorem d_JL1_charAt_12 : decode b_JL1_charAt 12 = .ok (.iand, 1) := by decide +kernel
theorem d_JL1_charAt_13 : decode b_JL1_charAt 13 = .ok (.i2c, 1) := by decide +kernel
theorem d_JL1_charAt_14 : decode b_JL1_charAt 14 = .ok (.ireturn, 1) := by decide +kernel
def y_JPre_checkIndex : MethodName := ⟨R_JPre, "checkIndex", "(IILjava/util/function/BiFunction;)I"⟩
abbrev b_JPre_checkIndex : ByteArray := prog_23_method_11_code
theorem d_JPre_checkIndex_0 : decode b_JPre_checkIndex 0 = .ok (.iload_n 0, 1) := by decide +kernel
theorem d_JPre_checkIndex_1 : decode b_JPre_checkIndex 1 = .ok (.ifCond .lt 8, 3) := by decide +kernel
theorem d_JPre_checkIndex_4 : decode b_JPre_checkIndex 4 = .ok (.iload_n 0, 1) := by decide +kernel
theorem d_JPre_checkIndex_5 : decode b_JPre_checkIndex 5 = .ok (.iload_n 1, 1) := by decide +kernel
theorem d_JPre_checkIndex_6 : decode b_JPre_checkIndex 6 = .ok (.if_icmp .lt 10, 3) := by decide +kernel
theorem d_JPre_checkIndex_9 : decode b_JPre_checkIndex 9 = .ok (.aload_n 2, 1) := by decide +kernel
theorem d_JPre_checkIndex_10 : decode b_JPre_checkIndex 10 = .ok (.iload_n 0, 1) := by decide +kernel
theorem d_JPre_checkIndex_11 : decode b_JPre_checkIndex 11 = .ok (.iload_n 1, 1) := by decide +kernel
theorem d_JPre_checkIndex_12 : decode b_JPre_checkIndex 12 = .ok (.invokestatic 95, 3) := by decide +kernel
theorem d_JPre_checkIndex_15 : decode b_JPre_checkIndex 15 = .ok (.athrow, 1) := by decide +kernel
theorem d_JPre_checkIndex_16 : decode b_JPre_checkIndex 16 = .ok (.iload_n 0, 1) := by decide +kernel
theorem d_JPre_checkIndex_17 : decode b_JPre_checkIndex 17 = .ok (.ireturn, 1) := by decide +kernel
theorem cl_Rule_27 : dz_Cg R_Rule 27 y_JStr_indexOf b_JStr_indexOf 2 (some .int) 1 0 := ⟨Or.inl (dz_g2 167 rfl rfl), (dz_g2 170 rfl rfl), (dz_g1 16 rfl rfl), by decide, ⟨by decide, by decide, by decide +kernel⟩, ⟨(dz_g2 168 rfl rfl), (dz_g2 169 rfl rfl)⟩⟩
theorem cl_JStr_633 : dz_Cg R_JStr 633 y_JStr_indexOf2 b_JStr_indexOf2 3 (some .int) 2 0 := ⟨Or.inl (dz_g2 171 rfl rfl), (dz_g2 174 rfl rfl), (dz_g1 16 rfl rfl), by decide, ⟨by decide, by decide, by decide +kernel⟩, ⟨(dz_g2 172 rfl rfl), (dz_g2 173 rfl rfl)⟩⟩
theorem cl_JStr_492 : dz_Cg R_JStr 492 y_JStr_isLatin1 b_JStr_isLatin1 1 (some .boolean) 0 0 := ⟨Or.inl (dz_g2 175 rfl rfl), (dz_g2 178 rfl rfl), (dz_g1 16 rfl rfl), by decide, ⟨by decide, by decide, by decide +kernel⟩, ⟨(dz_g2 176 rfl rfl), (dz_g2 177 rfl rfl)⟩⟩
theorem cl_JStr_505 : dz_Cg R_JStr 505 y_JStr_length b_JStr_length 1 (some .int) 0 0 := ⟨Or.inl (dz_g2 181 rfl rfl), (dz_g2 184 rfl rfl), (dz_g1 16 rfl rfl), by decide, ⟨by decide, by decide, by decide +kernel⟩, ⟨(dz_g2 182 rfl rfl), (dz_g2 183 rfl rfl)⟩⟩
theorem cl_JStr_335 : dz_Cg R_JStr 335 y_JStr_coder b_JStr_coder 1 (some .byte) 0 0 := ⟨Or.inl (dz_g2 185 rfl rfl), (dz_g2 188 rfl rfl), (dz_g1 16 rfl rfl), by decide, ⟨by decide, by decide, by decide +kernel⟩, ⟨(dz_g2 186 rfl rfl), (dz_g2 187 rfl rfl)⟩⟩
theorem cl_JStr_637 : dz_Cg R_JStr 637 y_JL1_indexOf b_JL1_indexOf 4 (some .int) 4 1 := ⟨Or.inl (dz_g2 189 rfl rfl), (dz_g2 191 rfl rfl), (dz_g1 17 rfl rfl), by decide, ⟨by decide, by decide, by decide +kernel⟩, (dz_g2 190 rfl rfl)⟩
theorem cl_JL1_88 : dz_Cg R_JL1 88 y_JL1_canEncode b_JL1_canEncode 1 (some .boolean) 1 1 := ⟨Or.inl (dz_g2 192 rfl rfl), (dz_g2 194 rfl rfl), (dz_g1 17 rfl rfl), by decide, ⟨by decide, by decide, by decide +kernel⟩, (dz_g2 193 rfl rfl)⟩
theorem cl_JL1_95 : dz_Cg R_JL1 95 y_JL1_indexOfChar b_JL1_indexOfChar 6 (some .int) 4 1 := ⟨Or.inl (dz_g2 197 rfl rfl), (dz_g2 199 rfl rfl), (dz_g1 17 rfl rfl), by decide, ⟨by decide, by decide, by decide +kernel⟩, (dz_g2 198 rfl rfl)⟩
theorem cl_Code_26 : dz_Cg R_Code 26 y_JStr_indexOf b_JStr_indexOf 2 (some .int) 1 0 := ⟨Or.inl (dz_g3 58 rfl rfl), (dz_g2 170 rfl rfl), (dz_g1 16 rfl rfl), by decide, ⟨by decide, by decide, by decide +kernel⟩, ⟨(dz_g2 168 rfl rfl), (dz_g2 169 rfl rfl)⟩⟩
theorem cl_Code_43 : dz_Cg R_Code 43 y_JStr_charAt b_JStr_charAt 2 (some .char) 1 0 := ⟨Or.inl (dz_g4 9 rfl rfl), (dz_g4 12 rfl rfl), (dz_g1 16 rfl rfl), by decide, ⟨by decide, by decide, by decide +kernel⟩, ⟨(dz_g4 10 rfl rfl), (dz_g4 11 rfl rfl)⟩⟩
theorem cl_JStr_495 : dz_Cg R_JStr 495 y_JL1_charAt b_JL1_charAt 2 (some .char) 2 1 := ⟨Or.inl (dz_g4 13 rfl rfl), (dz_g4 15 rfl rfl), (dz_g1 17 rfl rfl), by decide, ⟨by decide, by decide, by decide +kernel⟩, (dz_g4 14 rfl rfl)⟩
theorem cl_JL1_9 : dz_Cg R_JL1 9 y_JStr_checkIndex b_JStr_checkIndex 2 none 2 1 := ⟨Or.inl (dz_g4 16 rfl rfl), (dz_g4 18 rfl rfl), (dz_g1 16 rfl rfl), by decide, ⟨by decide, by decide, by decide +kernel⟩, (dz_g4 17 rfl rfl)⟩
theorem cl_JStr_1059 : dz_Cg R_JStr 1059 y_JPre_checkIndex b_JPre_checkIndex 3 (some .int) 3 1 := ⟨Or.inl (dz_g4 19 rfl rfl), (dz_g4 21 rfl rfl), (dz_g1 19 rfl rfl), by decide, ⟨by decide, by decide, by decide +kernel⟩, (dz_g4 20 rfl rfl)⟩
theorem sl_JStr_38 : Cond.fieldLink R_JStr 38 "java/lang/String" "COMPACT_STRINGS" "Z" ∈ dz_GW := (dz_g2 179 rfl rfl)
theorem sl_JStr_1053 : Cond.fieldLink R_JStr 1053 "jdk/internal/util/Preconditions" "SIOOBE_FORMATTER" "Ljava/util/function/BiFunction;" ∈ dz_GW := (dz_g2 218 rfl rfl)
theorem sl_Code_32 : Cond.fieldLink R_Code 32 "DotBook$Code" "LETTER_CELLS" "[I" ∈ dz_GW := (dz_g3 81 rfl rfl)
theorem sl_Code_40 : Cond.fieldLink R_Code 40 "DotBook$Code" "MARK_CELLS" "[I" ∈ dz_GW := (dz_g3 86 rfl rfl)
theorem sl_JStr_15 : Cond.fieldLink R_JStr 15 "java/lang/String" "coder" "B" ∈ dz_GW := (dz_g5 100 rfl rfl)
theorem sl_JStr_9 : Cond.fieldLink R_JStr 9 "java/lang/String" "value" "[B" ∈ dz_GW := (dz_g5 101 rfl rfl)
theorem ml_DotBook_43 : Cond.methodLink R_DotBook 43 Jvm.Lib.Math.min.name ∈ dz_GW ∧ Cond.static Jvm.Lib.Math.min.name ∈ dz_GW ∧ Cond.initialized "java/lang/Math" ∈ dz_GW ∧ Cond.code Jvm.Lib.Math.min.name Jvm.Lib.Math.min.code 2 (some .int) ∈ dz_GW := ⟨(dz_g1 159 rfl rfl), (dz_g1 160 rfl rfl), (dz_g1 8 rfl rfl), (dz_g1 161 rfl rfl)⟩
theorem ml_DotBook_49 : Cond.methodLink R_DotBook 49 Jvm.Lib.Math.max.name ∈ dz_GW ∧ Cond.static Jvm.Lib.Math.max.name ∈ dz_GW ∧ Cond.initialized "java/lang/Math" ∈ dz_GW ∧ Cond.code Jvm.Lib.Math.max.name Jvm.Lib.Math.max.code 2 (some .int) ∈ dz_GW := ⟨(dz_g1 162 rfl rfl), (dz_g1 163 rfl rfl), (dz_g1 8 rfl rfl), (dz_g1 164 rfl rfl)⟩
theorem ml_JL1_92 : Cond.methodLink R_JL1 92 Jvm.Lib.Math.max.name ∈ dz_GW ∧ Cond.static Jvm.Lib.Math.max.name ∈ dz_GW ∧ Cond.initialized "java/lang/Math" ∈ dz_GW ∧ Cond.code Jvm.Lib.Math.max.name Jvm.Lib.Math.max.code 2 (some .int) ∈ dz_GW := ⟨(dz_g2 195 rfl rfl), (dz_g1 163 rfl rfl), (dz_g1 8 rfl rfl), (dz_g1 164 rfl rfl)⟩
theorem ml_JL1_38 : Cond.methodLink R_JL1 38 Jvm.Lib.Math.min.name ∈ dz_GW ∧ Cond.static Jvm.Lib.Math.min.name ∈ dz_GW ∧ Cond.initialized "java/lang/Math" ∈ dz_GW ∧ Cond.code Jvm.Lib.Math.min.name Jvm.Lib.Math.min.code 2 (some .int) ∈ dz_GW := ⟨(dz_g2 196 rfl rfl), (dz_g1 160 rfl rfl), (dz_g1 8 rfl rfl), (dz_g1 161 rfl rfl)⟩
section ly_sta
variable {κ : dz_Kx} {l : Launch} {D : va_G} {Dt : Nat → ClassId} {b sz : Nat} {cc : ByteArray} {own : String} {nL : Nat} {ret : Option FieldType} {d : Nat} {post : Option Value → dz_Hp → Prop} {I : dz_Hp} {pc : Nat} {ls : List (Nat × Value)} {st : List Value}
theorem ly_D (x : ly_X κ l D Dt b sz cc own nL ret d post) : dz_D κ = Dt := by
  obtain ⟨p, l', e, R, s, m, args, below, meth, c, Q, D', Dt', A, nL'⟩ := κ
  exact x.2.1.2.2.1
theorem ly_getsL (x : ly_X κ l D Dt b sz cc own nL ret d post) {index : Nat} (hf : Cond.fieldLink own index "DotBook$Code" "LETTER_CELLS" "[I" ∈ dz_GW) (hd : decode cc pc = .ok (.getstatic index, 3)) (kk : ly_V κ b sz I (pc + 3) ls (.ref (Dt 300) :: st)) : ly_V κ b sz I pc ls st := dz_getsL x.1 hf hd (by rw [ly_D x]; exact kk)
theorem ly_getsM (x : ly_X κ l D Dt b sz cc own nL ret d post) {index : Nat} (hf : Cond.fieldLink own index "DotBook$Code" "MARK_CELLS" "[I" ∈ dz_GW) (hd : decode cc pc = .ok (.getstatic index, 3)) (kk : ly_V κ b sz I (pc + 3) ls (.ref (Dt 301) :: st)) : ly_V κ b sz I pc ls st := dz_getsM x.1 hf hd (by rw [ly_D x]; exact kk)
theorem ly_getsC (x : ly_X κ l D Dt b sz cc own nL ret d post) {index : Nat} (hf : Cond.fieldLink own index "java/lang/String" "COMPACT_STRINGS" "Z" ∈ dz_GW) (hd : decode cc pc = .ok (.getstatic index, 3)) (kk : ly_V κ b sz I (pc + 3) ls (.int (dz_i 1) :: st)) : ly_V κ b sz I pc ls st := dz_getsC x.1 hf hd kk
theorem ly_tldL (x : ly_X κ l D Dt b sz cc own nL ret d post) {z : Int} (hi : 0 ≤ z ∧ z < 26) (hd : decode cc pc = .ok (.iaload, 1)) (kk : ly_V κ b sz I (pc + 1) ls (.int (dz_i (sp_lc z)) :: st)) : ly_V κ b sz I pc ls (.int (dz_i z) :: .ref (Dt 300) :: st) := by
  have h := dz_tldL x.1 hi hd kk
  rw [ly_D x] at h; exact h
theorem ly_tldM (x : ly_X κ l D Dt b sz cc own nL ret d post) {z : Int} (hi : 0 ≤ z ∧ z < 8) (hd : decode cc pc = .ok (.iaload, 1)) (kk : ly_V κ b sz I (pc + 1) ls (.int (dz_i (sp_mc z)) :: st)) : ly_V κ b sz I pc ls (.int (dz_i z) :: .ref (Dt 301) :: st) := by
  have h := dz_tldM x.1 hi hd kk
  rw [ly_D x] at h; exact h
theorem ly_tlnL (x : ly_X κ l D Dt b sz cc own nL ret d post) (hd : decode cc pc = .ok (.arraylength, 1)) (kk : ly_V κ b sz I (pc + 1) ls (.int (dz_i 26) :: st)) : ly_V κ b sz I pc ls (.ref (Dt 300) :: st) := by
  have h := dz_tlnL x.1 hd kk
  rw [ly_D x] at h; exact h
theorem ly_tlnM (x : ly_X κ l D Dt b sz cc own nL ret d post) (hd : decode cc pc = .ok (.arraylength, 1)) (kk : ly_V κ b sz I (pc + 1) ls (.int (dz_i 8) :: st)) : ly_V κ b sz I pc ls (.ref (Dt 301) :: st) := by
  have h := dz_tlnM x.1 hd kk
  rw [ly_D x] at h; exact h
theorem ly_gfv (x : ly_X κ l D Dt b sz cc own nL ret d post) {i index : Nat} (hi : i < 2) (hf : Cond.fieldLink own index "java/lang/String" "value" "[B" ∈ dz_GW) (hd : decode cc pc = .ok (.getfield index, 3)) (kk : ly_V κ b sz I (pc + 3) ls (.ref (Dt (200 + i)) :: st)) : ly_V κ b sz I pc ls (.ref (Dt (100 + i)) :: st) := by
  have h := dz_gfv x.1 hi hf hd (by rw [ly_D x]; exact kk)
  rw [ly_D x] at h; exact h
theorem ly_gfc (x : ly_X κ l D Dt b sz cc own nL ret d post) {i index : Nat} (hi : i < 2) (hf : Cond.fieldLink own index "java/lang/String" "coder" "B" ∈ dz_GW) (hd : decode cc pc = .ok (.getfield index, 3)) (kk : ly_V κ b sz I (pc + 3) ls (.int (dz_i 0) :: st)) : ly_V κ b sz I pc ls (.ref (Dt (100 + i)) :: st) := by
  have h := dz_gfc x.1 hi hf hd kk
  rw [ly_D x] at h; exact h
theorem ly_tbl (x : ly_X κ l D Dt b sz cc own nL ret d post) {i : Nat} (hi : i < 2) {z w : Int} (hz0 : 0 ≤ z ∧ z < sp_sl i) (hw : sp_sb i z = w) (hd : decode cc pc = .ok (.baload, 1)) (kk : ly_V κ b sz I (pc + 1) ls (.int (dz_i w) :: st)) : ly_V κ b sz I pc ls (.int (dz_i z) :: .ref (Dt (200 + i)) :: st) := by
  subst hw
  have h := dz_tbl x.1 hi hz0 hd kk
  rw [ly_D x] at h; exact h
theorem ly_tbn (x : ly_X κ l D Dt b sz cc own nL ret d post) {i : Nat} (hi : i < 2) {w : Int} (hw : ((sp_sl i : Nat) : Int) = w) (hd : decode cc pc = .ok (.arraylength, 1)) (kk : ly_V κ b sz I (pc + 1) ls (.int (dz_i w) :: st)) : ly_V κ b sz I pc ls (.ref (Dt (200 + i)) :: st) := by
  subst hw
  have h := dz_tbn x.1 hi hd kk
  rw [ly_D x] at h; exact h
theorem ly_ldc0 (x : ly_X κ l D Dt b sz cc R_Rule nL ret d post) (hd : decode cc pc = .ok (.ldc 19, 2)) (kk : ly_V κ b sz I (pc + 2) ls (.ref (Dt 100) :: st)) : ly_V κ b sz I pc ls st := dz_ldc0 x.1 hd (by rw [ly_D x]; exact kk)
theorem ly_ldc1 (x : ly_X κ l D Dt b sz cc R_Code nL ret d post) (hd : decode cc pc = .ok (.ldc 24, 2)) (kk : ly_V κ b sz I (pc + 2) ls (.ref (Dt 101) :: st)) : ly_V κ b sz I pc ls st := dz_ldc1 x.1 hd (by rw [ly_D x]; exact kk)
theorem ly_getsF (x : ly_X κ l D Dt b sz cc own nL ret d post) {index : Nat} (hf : Cond.fieldLink own index "jdk/internal/util/Preconditions" "SIOOBE_FORMATTER" "Ljava/util/function/BiFunction;" ∈ dz_GW) (hd : decode cc pc = .ok (.getstatic index, 3)) (kk : ∀ w : Value, (w = .null ∨ ∃ t, w = .ref t) → ly_V κ b sz I (pc + 3) ls (w :: st)) : ly_V κ b sz I pc ls st := by
  obtain ⟨p, l', e, R, s, m, args, below, meth, c, Q, D', Dt', A, nL'⟩ := κ
  obtain ⟨hx, hb, hml, hown, hts, hK, hA, hlk, hns⟩ := x.1
  intro H locs la hz hW hsA hS hc hl
  rcases hK.2.2.2.2.2.2.2.2.2.2.2.2.2.1 with h | ⟨t, h⟩
  · exact va_gets hx hb h hS hown (hts _ hf) (fun _ h => h) hd (kk _ (Or.inl rfl) H locs la hz hW hsA hS hc hl)
  · exact va_gets hx hb h hS hown (hts _ hf) (fun _ h => h) hd (kk _ (Or.inr ⟨t, rfl⟩) H locs la hz hW hsA hS hc hl)
theorem dz_i8 {z : Int} (h : 0 ≤ z ∧ z < 256) : (dz_i z).toInt8.toInt32 = dz_i (if z < 128 then z else z - 256) := by
  have key : ∀ n : Nat, n < 256 → (dz_i (n : Int)).toInt8.toInt32 = dz_i (if (n : Int) < 128 then (n : Int) else (n : Int) - 256) := by decide +kernel
  have h2 := key z.toNat (by omega)
  rw [show ((z.toNat : Nat) : Int) = z by omega] at h2
  exact h2
theorem ly_i2b (x : ly_X κ l D Dt b sz cc own nL ret d post) {z w : Int} (h : 0 ≤ z ∧ z < 256) (hw : (if z < 128 then z else z - 256) = w) (hd : decode cc pc = .ok (.i2b, 1)) (kk : ly_V κ b sz I (pc + 1) ls (.int (dz_i w) :: st)) : ly_V κ b sz I pc ls (.int (dz_i z) :: st) := by
  obtain ⟨p, l', e, R, s, m, args, below, meth, c, Q, D', Dt', A, nL'⟩ := κ
  obtain ⟨hx, hb, hml, hown, hts, hK, hA, hlk, hns⟩ := x.1
  intro H locs la hz hW hsA hS hc hl
  exact lv_i2b hx hb hd (by rw [dz_i8 h, hw]) (kk H locs la hz hW hsA hS hc hl)
theorem ly_ishr (x : ly_X κ l D Dt b sz cc own nL ret d post) {z : Int32} (hd : decode cc pc = .ok (.ishr, 1)) (kk : ly_V κ b sz I (pc + 1) ls (.int z :: st)) : ly_V κ b sz I pc ls (.int (dz_i 0) :: .int z :: st) := by
  obtain ⟨p, l', e, R, s, m, args, below, meth, c, Q, D', Dt', A, nL'⟩ := κ
  obtain ⟨hx, hb, hml, hown, hts, hK, hA, hlk, hns⟩ := x.1
  intro H locs la hz hW hsA hS hc hl
  refine lv_ishr hx hb hd ?_
  rw [show z >>> (dz_i 0 &&& 31) = z from sb_shr0 z]
  exact kk H locs la hz hW hsA hS hc hl
theorem ly_max (x : ly_X κ l D Dt b sz cc own nL ret d post) {index : Nat} (hg : Cond.methodLink own index Jvm.Lib.Math.max.name ∈ dz_GW ∧ Cond.static Jvm.Lib.Math.max.name ∈ dz_GW ∧ Cond.initialized "java/lang/Math" ∈ dz_GW ∧ Cond.code Jvm.Lib.Math.max.name Jvm.Lib.Math.max.code 2 (some .int) ∈ dz_GW) (hd0 : 1 ≤ d) (hst : (st.map fun v => v.category).sum ≤ 8) {z w u : Int} (h1 : -2147483648 ≤ z ∧ z < 2147483648) (h2 : -2147483648 ≤ w ∧ w < 2147483648) (hu : (if z < w then w else z) = u) (hd : decode cc pc = .ok (.invokestatic index, 3)) (kk : ly_V κ b sz I (pc + 3) ls (.int (dz_i u) :: st)) : ly_V κ b sz I pc ls (.int (dz_i w) :: .int (dz_i z) :: st) := by
  obtain ⟨p, l', e, R, s, m, args, below, meth, c, Q, D', Dt', A, nL'⟩ := κ
  obtain ⟨hx, hb, hml, hown, hts, hK, hA, hlk, hns⟩ := x.1
  obtain ⟨r1, r2, r3, r4⟩ := x.2.2.2
  intro H locs la hz hW hsA hS hc hl
  have hz9 : d ≤ R.frames := r1
  have hy9 : 36 * d ≤ R.locals := r2
  refine va_mmax hx hb (by rw [hml]; exact hl.1.symm) hown (hts _ hg.1) (hts _ hg.2.1) (hts _ hg.2.2.1) (hts _ hg.2.2.2) (by omega) (by omega) (Nat.zero_le _) (Nat.zero_le _) hd ?_
  have e : (if dz_i z < dz_i w then dz_i w else dz_i z) = dz_i u := by
    rw [← hu]
    by_cases hc9 : z < w
    · rw [if_pos ((dz_lt h1 h2).mpr hc9), if_pos hc9]
    · rw [if_neg (fun q => hc9 ((dz_lt h1 h2).mp q)), if_neg hc9]
  rw [e]
  exact kk H locs la hz hW hsA hS hc hl
theorem ly_min (x : ly_X κ l D Dt b sz cc own nL ret d post) {index : Nat} (hg : Cond.methodLink own index Jvm.Lib.Math.min.name ∈ dz_GW ∧ Cond.static Jvm.Lib.Math.min.name ∈ dz_GW ∧ Cond.initialized "java/lang/Math" ∈ dz_GW ∧ Cond.code Jvm.Lib.Math.min.name Jvm.Lib.Math.min.code 2 (some .int) ∈ dz_GW) (hd0 : 1 ≤ d) (hst : (st.map fun v => v.category).sum ≤ 8) {z w u : Int} (h1 : -2147483648 ≤ z ∧ z < 2147483648) (h2 : -2147483648 ≤ w ∧ w < 2147483648) (hu : (if w < z then w else z) = u) (hd : decode cc pc = .ok (.invokestatic index, 3)) (kk : ly_V κ b sz I (pc + 3) ls (.int (dz_i u) :: st)) : ly_V κ b sz I pc ls (.int (dz_i w) :: .int (dz_i z) :: st) := by
  obtain ⟨p, l', e, R, s, m, args, below, meth, c, Q, D', Dt', A, nL'⟩ := κ
  obtain ⟨hx, hb, hml, hown, hts, hK, hA, hlk, hns⟩ := x.1
  obtain ⟨r1, r2, r3, r4⟩ := x.2.2.2
  intro H locs la hz hW hsA hS hc hl
  have hz9 : d ≤ R.frames := r1
  have hy9 : 36 * d ≤ R.locals := r2
  refine va_mmin hx hb (by rw [hml]; exact hl.1.symm) hown (hts _ hg.1) (hts _ hg.2.1) (hts _ hg.2.2.1) (hts _ hg.2.2.2) (by omega) (by omega) (Nat.zero_le _) (Nat.zero_le _) hd ?_
  have e : (if dz_i w < dz_i z then dz_i w else dz_i z) = dz_i u := by
    rw [← hu]
    by_cases hc9 : w < z
    · rw [if_pos ((dz_lt h2 h1).mpr hc9), if_pos hc9]
    · rw [if_neg (fun q => hc9 ((dz_lt h2 h1).mp q)), if_neg hc9]
  first | rw [e]; exact kk H locs la hz hW hsA hS hc hl | exact kk H locs la hz hW hsA hS hc hl
variable {y : MethodName} {bc : ByteArray} {nL' d' n index : Nat} {ret' : Option FieldType} {post' : Option Value → dz_Hp → Prop} {As rest : List Value}
theorem ly_callT (x : ly_X κ l D Dt b sz cc own nL ret d post) (hg : dz_Cg own index y bc nL' ret' n 0) {i : Nat} (hi : i < 2) (hC : ly_M l D Dt b sz y bc nL' ret' d' (.ref (Dt (100 + i)) :: As) I post') (hd0 : d' + 1 ≤ d) (hrc : y.cls = "java/lang/String") (hn : As.length = n) {st0 : List Value} (hst0 : st0 = As.reverse ++ .ref (Dt (100 + i)) :: rest) (hst : (rest.map fun v => v.category).sum ≤ 8) (hd : decode cc pc = .ok (.invokevirtual index, 3))
    (kk : ∀ v I', post' v I' → ly_V κ b sz I' (pc + 3) ls (v.toList ++ rest)) : ly_V κ b sz I pc ls st0 := by
  obtain ⟨am, hDd, -, hR⟩ := x
  obtain ⟨p, l', e, R, s, m, args, below, meth, c, Q, D', Dt', A, nL9⟩ := κ
  obtain ⟨hx, hb, hml, hown, hts, hK, hA, hlk, hns⟩ := am
  obtain ⟨rfl, rfl, rfl, rfl⟩ := hDd
  obtain ⟨r1, r2, r3, r4⟩ := hR
  obtain ⟨g1, g2, g3, g4, g5, g6, g7⟩ := hg
  intro H locs la hz hW hsA hS hc hl
  obtain ⟨hbl, hpc⟩ := dz_pre (As := .ref (Dt' (100 + i)) :: As) hA hz hsA hS hK hW
  have hrcv := vk_recv hK.2.2.2.2.2.2.2.2.2.1 hi hS
  rw [← hrc] at hrcv
  have hroom : (dz_rm d' 0 0).frames + 1 ≤ R.frames ∧ 8 + (nL' + 11) + (dz_rm d' 0 0).locals ≤ R.locals := by
    simp only [dz_rm]; omega
  refine dz_after (post := fun v sz' sk' rf' I' => sz' = sz ∧ sk' = ly_s b ∧ rf' = ly_r b ∧ post' v I') (a := (Value.ref (Dt' (100 + i)) :: As).toArray) (mc := 0) (ms := 0) (rest := rest) ?_ hA hz hsA hS hc hl (fun v sz' sk' rf' I' h => by obtain ⟨rfl, rfl, rfl, h⟩ := h; exact kk v I' h)
  rcases g1 with g1 | ⟨host, g1⟩
  · exact va_runV ⟨hx, hb, hml, hown, hts⟩ hC ⟨callB_of n hts (dz_goodw y bc nL' ret' g2) rfl rfl rfl (hts _ g3) (hts _ g1) g5 hroom, hts _ g6, hts _ g7⟩ ⟨hbl, hrcv, hpc⟩ rfl hn hl.1 hst0 (by show 2 * 0 + _ ≤ 8; omega) hd ⟨by omega, by omega⟩
  · exact va_runVN ⟨hx, hb, hml, hown, hts⟩ hC ⟨va_cnB n hts (dz_goodw y bc nL' ret' g2) rfl rfl rfl (hK.2.1 _ g1) (hts _ g3) g5 hroom, hts _ g6, hts _ g7⟩ ⟨hbl, hrcv, hpc⟩ rfl hn hl.1 hst0 (by show 2 * 0 + _ ≤ 8; omega) hd ⟨by omega, by omega⟩
end ly_sta
