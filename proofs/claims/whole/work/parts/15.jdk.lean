abbrev b_IN_bitCount : ByteArray := prog_10_method_49_code
def y_IN_bitCount : MethodName := ⟨"java/lang/Integer", "bitCount", "(I)I"⟩
abbrev k_IN_bitCount : Cond := .code y_IN_bitCount b_IN_bitCount 1 (some .int)
set_option maxRecDepth 20000 in
theorem zj_IN_bitCount : k_IN_bitCount ∈ zg := zg_in 369 rfl rfl
theorem d_IN_bitCount_0 : decode b_IN_bitCount 0 = .ok (.iload_n 0, 1) := by decide +kernel
theorem d_IN_bitCount_1 : decode b_IN_bitCount 1 = .ok (.iload_n 0, 1) := by decide +kernel
theorem d_IN_bitCount_2 : decode b_IN_bitCount 2 = .ok (.iconst 1, 1) := by decide +kernel
theorem d_IN_bitCount_3 : decode b_IN_bitCount 3 = .ok (.iushr, 1) := by decide +kernel
theorem d_IN_bitCount_4 : decode b_IN_bitCount 4 = .ok (.ldc_w 265, 3) := by decide +kernel
theorem d_IN_bitCount_7 : decode b_IN_bitCount 7 = .ok (.iand, 1) := by decide +kernel
theorem d_IN_bitCount_8 : decode b_IN_bitCount 8 = .ok (.isub, 1) := by decide +kernel
theorem d_IN_bitCount_9 : decode b_IN_bitCount 9 = .ok (.istore_n 0, 1) := by decide +kernel
theorem d_IN_bitCount_10 : decode b_IN_bitCount 10 = .ok (.iload_n 0, 1) := by decide +kernel
theorem d_IN_bitCount_11 : decode b_IN_bitCount 11 = .ok (.ldc_w 266, 3) := by decide +kernel
theorem d_IN_bitCount_14 : decode b_IN_bitCount 14 = .ok (.iand, 1) := by decide +kernel
theorem d_IN_bitCount_15 : decode b_IN_bitCount 15 = .ok (.iload_n 0, 1) := by decide +kernel
theorem d_IN_bitCount_16 : decode b_IN_bitCount 16 = .ok (.iconst 2, 1) := by decide +kernel
theorem d_IN_bitCount_17 : decode b_IN_bitCount 17 = .ok (.iushr, 1) := by decide +kernel
theorem d_IN_bitCount_18 : decode b_IN_bitCount 18 = .ok (.ldc_w 266, 3) := by decide +kernel
theorem d_IN_bitCount_21 : decode b_IN_bitCount 21 = .ok (.iand, 1) := by decide +kernel
theorem d_IN_bitCount_22 : decode b_IN_bitCount 22 = .ok (.iadd, 1) := by decide +kernel
theorem d_IN_bitCount_23 : decode b_IN_bitCount 23 = .ok (.istore_n 0, 1) := by decide +kernel
theorem d_IN_bitCount_24 : decode b_IN_bitCount 24 = .ok (.iload_n 0, 1) := by decide +kernel
theorem d_IN_bitCount_25 : decode b_IN_bitCount 25 = .ok (.iload_n 0, 1) := by decide +kernel
theorem d_IN_bitCount_26 : decode b_IN_bitCount 26 = .ok (.iconst 4, 1) := by decide +kernel
theorem d_IN_bitCount_27 : decode b_IN_bitCount 27 = .ok (.iushr, 1) := by decide +kernel
theorem d_IN_bitCount_28 : decode b_IN_bitCount 28 = .ok (.iadd, 1) := by decide +kernel
theorem d_IN_bitCount_29 : decode b_IN_bitCount 29 = .ok (.ldc_w 267, 3) := by decide +kernel
theorem d_IN_bitCount_32 : decode b_IN_bitCount 32 = .ok (.iand, 1) := by decide +kernel
theorem d_IN_bitCount_33 : decode b_IN_bitCount 33 = .ok (.istore_n 0, 1) := by decide +kernel
theorem d_IN_bitCount_34 : decode b_IN_bitCount 34 = .ok (.iload_n 0, 1) := by decide +kernel
theorem d_IN_bitCount_35 : decode b_IN_bitCount 35 = .ok (.iload_n 0, 1) := by decide +kernel
theorem d_IN_bitCount_36 : decode b_IN_bitCount 36 = .ok (.bipush 8, 2) := by decide +kernel
theorem d_IN_bitCount_38 : decode b_IN_bitCount 38 = .ok (.iushr, 1) := by decide +kernel
theorem d_IN_bitCount_39 : decode b_IN_bitCount 39 = .ok (.iadd, 1) := by decide +kernel
theorem d_IN_bitCount_40 : decode b_IN_bitCount 40 = .ok (.istore_n 0, 1) := by decide +kernel
theorem d_IN_bitCount_41 : decode b_IN_bitCount 41 = .ok (.iload_n 0, 1) := by decide +kernel
theorem d_IN_bitCount_42 : decode b_IN_bitCount 42 = .ok (.iload_n 0, 1) := by decide +kernel
theorem d_IN_bitCount_43 : decode b_IN_bitCount 43 = .ok (.bipush 16, 2) := by decide +kernel
theorem d_IN_bitCount_45 : decode b_IN_bitCount 45 = .ok (.iushr, 1) := by decide +kernel
theorem d_IN_bitCount_46 : decode b_IN_bitCount 46 = .ok (.iadd, 1) := by decide +kernel
theorem d_IN_bitCount_47 : decode b_IN_bitCount 47 = .ok (.istore_n 0, 1) := by decide +kernel
theorem d_IN_bitCount_48 : decode b_IN_bitCount 48 = .ok (.iload_n 0, 1) := by decide +kernel
theorem d_IN_bitCount_49 : decode b_IN_bitCount 49 = .ok (.bipush 63, 2) := by decide +kernel
theorem d_IN_bitCount_51 : decode b_IN_bitCount 51 = .ok (.iand, 1) := by decide +kernel
theorem d_IN_bitCount_52 : decode b_IN_bitCount 52 = .ok (.ireturn, 1) := by decide +kernel
abbrev b_ST_charAt : ByteArray := prog_13_method_56_code
def y_ST_charAt : MethodName := ⟨"java/lang/String", "charAt", "(I)C"⟩
abbrev k_ST_charAt : Cond := .code y_ST_charAt b_ST_charAt 2 (some .char)
set_option maxRecDepth 20000 in
theorem zj_ST_charAt : k_ST_charAt ∈ zg := zg_in 153 rfl rfl
theorem d_ST_charAt_0 : decode b_ST_charAt 0 = .ok (.aload_n 0, 1) := by decide +kernel
theorem d_ST_charAt_1 : decode b_ST_charAt 1 = .ok (.invokevirtual 492, 3) := by decide +kernel
theorem d_ST_charAt_4 : decode b_ST_charAt 4 = .ok (.ifCond .eq 12, 3) := by decide +kernel
theorem d_ST_charAt_7 : decode b_ST_charAt 7 = .ok (.aload_n 0, 1) := by decide +kernel
theorem d_ST_charAt_8 : decode b_ST_charAt 8 = .ok (.getfield 9, 3) := by decide +kernel
theorem d_ST_charAt_11 : decode b_ST_charAt 11 = .ok (.iload_n 1, 1) := by decide +kernel
theorem d_ST_charAt_12 : decode b_ST_charAt 12 = .ok (.invokestatic 495, 3) := by decide +kernel
theorem d_ST_charAt_15 : decode b_ST_charAt 15 = .ok (.ireturn, 1) := by decide +kernel
theorem d_ST_charAt_16 : decode b_ST_charAt 16 = .ok (.aload_n 0, 1) := by decide +kernel
theorem d_ST_charAt_17 : decode b_ST_charAt 17 = .ok (.getfield 9, 3) := by decide +kernel
theorem d_ST_charAt_20 : decode b_ST_charAt 20 = .ok (.iload_n 1, 1) := by decide +kernel
theorem d_ST_charAt_21 : decode b_ST_charAt 21 = .ok (.invokestatic 498, 3) := by decide +kernel
theorem d_ST_charAt_24 : decode b_ST_charAt 24 = .ok (.ireturn, 1) := by decide +kernel
abbrev b_ST_isLatin1 : ByteArray := prog_13_method_154_code
def y_ST_isLatin1 : MethodName := ⟨"java/lang/String", "isLatin1", "()Z"⟩
abbrev k_ST_isLatin1 : Cond := .code y_ST_isLatin1 b_ST_isLatin1 1 (some .boolean)
set_option maxRecDepth 20000 in
theorem zj_ST_isLatin1 : k_ST_isLatin1 ∈ zg := zg_in 157 rfl rfl
theorem d_ST_isLatin1_0 : decode b_ST_isLatin1 0 = .ok (.getstatic 38, 3) := by decide +kernel
theorem d_ST_isLatin1_3 : decode b_ST_isLatin1 3 = .ok (.ifCond .eq 14, 3) := by decide +kernel
theorem d_ST_isLatin1_6 : decode b_ST_isLatin1 6 = .ok (.aload_n 0, 1) := by decide +kernel
theorem d_ST_isLatin1_7 : decode b_ST_isLatin1 7 = .ok (.getfield 15, 3) := by decide +kernel
theorem d_ST_isLatin1_10 : decode b_ST_isLatin1 10 = .ok (.ifCond .ne 7, 3) := by decide +kernel
theorem d_ST_isLatin1_13 : decode b_ST_isLatin1 13 = .ok (.iconst 1, 1) := by decide +kernel
theorem d_ST_isLatin1_14 : decode b_ST_isLatin1 14 = .ok (.goto 4, 3) := by decide +kernel
theorem d_ST_isLatin1_17 : decode b_ST_isLatin1 17 = .ok (.iconst 0, 1) := by decide +kernel
theorem d_ST_isLatin1_18 : decode b_ST_isLatin1 18 = .ok (.ireturn, 1) := by decide +kernel
abbrev b_SL_charAt : ByteArray := prog_14_method_2_code
def y_SL_charAt : MethodName := ⟨"java/lang/StringLatin1", "charAt", "([BI)C"⟩
abbrev k_SL_charAt : Cond := .code y_SL_charAt b_SL_charAt 2 (some .char)
set_option maxRecDepth 20000 in
theorem zj_SL_charAt : k_SL_charAt ∈ zg := zg_in 162 rfl rfl
theorem d_SL_charAt_0 : decode b_SL_charAt 0 = .ok (.iload_n 1, 1) := by decide +kernel
theorem d_SL_charAt_1 : decode b_SL_charAt 1 = .ok (.aload_n 0, 1) := by decide +kernel
theorem d_SL_charAt_2 : decode b_SL_charAt 2 = .ok (.arraylength, 1) := by decide +kernel
theorem d_SL_charAt_3 : decode b_SL_charAt 3 = .ok (.invokestatic 9, 3) := by decide +kernel
theorem d_SL_charAt_6 : decode b_SL_charAt 6 = .ok (.aload_n 0, 1) := by decide +kernel
theorem d_SL_charAt_7 : decode b_SL_charAt 7 = .ok (.iload_n 1, 1) := by decide +kernel
theorem d_SL_charAt_8 : decode b_SL_charAt 8 = .ok (.baload, 1) := by decide +kernel
theorem d_SL_charAt_9 : decode b_SL_charAt 9 = .ok (.sipush 255, 3) := by decide +kernel
theorem d_SL_charAt_12 : decode b_SL_charAt 12 = .ok (.iand, 1) := by decide +kernel
theorem d_SL_charAt_13 : decode b_SL_charAt 13 = .ok (.i2c, 1) := by decide +kernel
theorem d_SL_charAt_14 : decode b_SL_charAt 14 = .ok (.ireturn, 1) := by decide +kernel
abbrev b_ST_checkIndex : ByteArray := prog_13_method_155_code
def y_ST_checkIndex : MethodName := ⟨"java/lang/String", "checkIndex", "(II)V"⟩
abbrev k_ST_checkIndex : Cond := .code y_ST_checkIndex b_ST_checkIndex 2 none
set_option maxRecDepth 20000 in
theorem zj_ST_checkIndex : k_ST_checkIndex ∈ zg := zg_in 165 rfl rfl
theorem d_ST_checkIndex_0 : decode b_ST_checkIndex 0 = .ok (.iload_n 0, 1) := by decide +kernel
theorem d_ST_checkIndex_1 : decode b_ST_checkIndex 1 = .ok (.iload_n 1, 1) := by decide +kernel
theorem d_ST_checkIndex_2 : decode b_ST_checkIndex 2 = .ok (.getstatic 1053, 3) := by decide +kernel
theorem d_ST_checkIndex_5 : decode b_ST_checkIndex 5 = .ok (.invokestatic 1059, 3) := by decide +kernel
theorem d_ST_checkIndex_8 : decode b_ST_checkIndex 8 = .ok (.pop, 1) := by decide +kernel
theorem d_ST_checkIndex_9 : decode b_ST_checkIndex 9 = .ok (.return_, 1) := by decide +kernel
abbrev b_PR_checkIndex : ByteArray := prog_18_method_11_code
def y_PR_checkIndex : MethodName := ⟨"jdk/internal/util/Preconditions", "checkIndex", "(IILjava/util/function/BiFunction;)I"⟩
abbrev k_PR_checkIndex : Cond := .code y_PR_checkIndex b_PR_checkIndex 3 (some .int)
set_option maxRecDepth 20000 in
theorem zj_PR_checkIndex : k_PR_checkIndex ∈ zg := zg_in 170 rfl rfl
theorem d_PR_checkIndex_0 : decode b_PR_checkIndex 0 = .ok (.iload_n 0, 1) := by decide +kernel
theorem d_PR_checkIndex_1 : decode b_PR_checkIndex 1 = .ok (.ifCond .lt 8, 3) := by decide +kernel
theorem d_PR_checkIndex_4 : decode b_PR_checkIndex 4 = .ok (.iload_n 0, 1) := by decide +kernel
theorem d_PR_checkIndex_5 : decode b_PR_checkIndex 5 = .ok (.iload_n 1, 1) := by decide +kernel
theorem d_PR_checkIndex_6 : decode b_PR_checkIndex 6 = .ok (.if_icmp .lt 10, 3) := by decide +kernel
theorem d_PR_checkIndex_9 : decode b_PR_checkIndex 9 = .ok (.aload_n 2, 1) := by decide +kernel
theorem d_PR_checkIndex_10 : decode b_PR_checkIndex 10 = .ok (.iload_n 0, 1) := by decide +kernel
theorem d_PR_checkIndex_11 : decode b_PR_checkIndex 11 = .ok (.iload_n 1, 1) := by decide +kernel
theorem d_PR_checkIndex_12 : decode b_PR_checkIndex 12 = .ok (.invokestatic 95, 3) := by decide +kernel
theorem d_PR_checkIndex_15 : decode b_PR_checkIndex 15 = .ok (.athrow, 1) := by decide +kernel
theorem d_PR_checkIndex_16 : decode b_PR_checkIndex 16 = .ok (.iload_n 0, 1) := by decide +kernel
theorem d_PR_checkIndex_17 : decode b_PR_checkIndex 17 = .ok (.ireturn, 1) := by decide +kernel
abbrev b_ST_indexOf : ByteArray := prog_13_method_79_code
def y_ST_indexOf : MethodName := ⟨"java/lang/String", "indexOf", "(I)I"⟩
abbrev k_ST_indexOf : Cond := .code y_ST_indexOf b_ST_indexOf 2 (some .int)
set_option maxRecDepth 20000 in
theorem zj_ST_indexOf : k_ST_indexOf ∈ zg := zg_in 198 rfl rfl
theorem d_ST_indexOf_0 : decode b_ST_indexOf 0 = .ok (.aload_n 0, 1) := by decide +kernel
theorem d_ST_indexOf_1 : decode b_ST_indexOf 1 = .ok (.iload_n 1, 1) := by decide +kernel
theorem d_ST_indexOf_2 : decode b_ST_indexOf 2 = .ok (.iconst 0, 1) := by decide +kernel
theorem d_ST_indexOf_3 : decode b_ST_indexOf 3 = .ok (.invokevirtual 633, 3) := by decide +kernel
theorem d_ST_indexOf_6 : decode b_ST_indexOf 6 = .ok (.ireturn, 1) := by decide +kernel
abbrev b_ST_indexOf2 : ByteArray := prog_13_method_80_code
def y_ST_indexOf2 : MethodName := ⟨"java/lang/String", "indexOf", "(II)I"⟩
abbrev k_ST_indexOf2 : Cond := .code y_ST_indexOf2 b_ST_indexOf2 3 (some .int)
set_option maxRecDepth 20000 in
theorem zj_ST_indexOf2 : k_ST_indexOf2 ∈ zg := zg_in 202 rfl rfl
theorem d_ST_indexOf2_0 : decode b_ST_indexOf2 0 = .ok (.aload_n 0, 1) := by decide +kernel
theorem d_ST_indexOf2_1 : decode b_ST_indexOf2 1 = .ok (.invokevirtual 492, 3) := by decide +kernel
theorem d_ST_indexOf2_4 : decode b_ST_indexOf2 4 = .ok (.ifCond .eq 19, 3) := by decide +kernel
theorem d_ST_indexOf2_7 : decode b_ST_indexOf2 7 = .ok (.aload_n 0, 1) := by decide +kernel
theorem d_ST_indexOf2_8 : decode b_ST_indexOf2 8 = .ok (.getfield 9, 3) := by decide +kernel
theorem d_ST_indexOf2_11 : decode b_ST_indexOf2 11 = .ok (.iload_n 1, 1) := by decide +kernel
theorem d_ST_indexOf2_12 : decode b_ST_indexOf2 12 = .ok (.iload_n 2, 1) := by decide +kernel
theorem d_ST_indexOf2_13 : decode b_ST_indexOf2 13 = .ok (.aload_n 0, 1) := by decide +kernel
theorem d_ST_indexOf2_14 : decode b_ST_indexOf2 14 = .ok (.invokevirtual 505, 3) := by decide +kernel
theorem d_ST_indexOf2_17 : decode b_ST_indexOf2 17 = .ok (.invokestatic 637, 3) := by decide +kernel
theorem d_ST_indexOf2_20 : decode b_ST_indexOf2 20 = .ok (.goto 16, 3) := by decide +kernel
theorem d_ST_indexOf2_23 : decode b_ST_indexOf2 23 = .ok (.aload_n 0, 1) := by decide +kernel
theorem d_ST_indexOf2_24 : decode b_ST_indexOf2 24 = .ok (.getfield 9, 3) := by decide +kernel
theorem d_ST_indexOf2_27 : decode b_ST_indexOf2 27 = .ok (.iload_n 1, 1) := by decide +kernel
theorem d_ST_indexOf2_28 : decode b_ST_indexOf2 28 = .ok (.iload_n 2, 1) := by decide +kernel
theorem d_ST_indexOf2_29 : decode b_ST_indexOf2 29 = .ok (.aload_n 0, 1) := by decide +kernel
theorem d_ST_indexOf2_30 : decode b_ST_indexOf2 30 = .ok (.invokevirtual 505, 3) := by decide +kernel
theorem d_ST_indexOf2_33 : decode b_ST_indexOf2 33 = .ok (.invokestatic 640, 3) := by decide +kernel
theorem d_ST_indexOf2_36 : decode b_ST_indexOf2 36 = .ok (.ireturn, 1) := by decide +kernel
abbrev b_ST_length : ByteArray := prog_13_method_54_code
def y_ST_length : MethodName := ⟨"java/lang/String", "length", "()I"⟩
abbrev k_ST_length : Cond := .code y_ST_length b_ST_length 1 (some .int)
set_option maxRecDepth 20000 in
theorem zj_ST_length : k_ST_length ∈ zg := zg_in 206 rfl rfl
theorem d_ST_length_0 : decode b_ST_length 0 = .ok (.aload_n 0, 1) := by decide +kernel
theorem d_ST_length_1 : decode b_ST_length 1 = .ok (.getfield 9, 3) := by decide +kernel
theorem d_ST_length_4 : decode b_ST_length 4 = .ok (.arraylength, 1) := by decide +kernel
theorem d_ST_length_5 : decode b_ST_length 5 = .ok (.aload_n 0, 1) := by decide +kernel
theorem d_ST_length_6 : decode b_ST_length 6 = .ok (.invokevirtual 335, 3) := by decide +kernel
theorem d_ST_length_9 : decode b_ST_length 9 = .ok (.ishr, 1) := by decide +kernel
theorem d_ST_length_10 : decode b_ST_length 10 = .ok (.ireturn, 1) := by decide +kernel
abbrev b_ST_coder : ByteArray := prog_13_method_152_code
def y_ST_coder : MethodName := ⟨"java/lang/String", "coder", "()B"⟩
abbrev k_ST_coder : Cond := .code y_ST_coder b_ST_coder 1 (some .byte)
set_option maxRecDepth 20000 in
theorem zj_ST_coder : k_ST_coder ∈ zg := zg_in 210 rfl rfl
theorem d_ST_coder_0 : decode b_ST_coder 0 = .ok (.getstatic 38, 3) := by decide +kernel
theorem d_ST_coder_3 : decode b_ST_coder 3 = .ok (.ifCond .eq 10, 3) := by decide +kernel
theorem d_ST_coder_6 : decode b_ST_coder 6 = .ok (.aload_n 0, 1) := by decide +kernel
theorem d_ST_coder_7 : decode b_ST_coder 7 = .ok (.getfield 15, 3) := by decide +kernel
theorem d_ST_coder_10 : decode b_ST_coder 10 = .ok (.goto 4, 3) := by decide +kernel
theorem d_ST_coder_13 : decode b_ST_coder 13 = .ok (.iconst 1, 1) := by decide +kernel
theorem d_ST_coder_14 : decode b_ST_coder 14 = .ok (.ireturn, 1) := by decide +kernel
abbrev b_SL_indexOf : ByteArray := prog_14_method_22_code
def y_SL_indexOf : MethodName := ⟨"java/lang/StringLatin1", "indexOf", "([BIII)I"⟩
abbrev k_SL_indexOf : Cond := .code y_SL_indexOf b_SL_indexOf 4 (some .int)
set_option maxRecDepth 20000 in
theorem zj_SL_indexOf : k_SL_indexOf ∈ zg := zg_in 213 rfl rfl
theorem d_SL_indexOf_0 : decode b_SL_indexOf 0 = .ok (.iload_n 1, 1) := by decide +kernel
theorem d_SL_indexOf_1 : decode b_SL_indexOf 1 = .ok (.invokestatic 88, 3) := by decide +kernel
theorem d_SL_indexOf_4 : decode b_SL_indexOf 4 = .ok (.ifCond .ne 5, 3) := by decide +kernel
theorem d_SL_indexOf_7 : decode b_SL_indexOf 7 = .ok (.iconst (-1), 1) := by decide +kernel
theorem d_SL_indexOf_8 : decode b_SL_indexOf 8 = .ok (.ireturn, 1) := by decide +kernel
theorem d_SL_indexOf_9 : decode b_SL_indexOf 9 = .ok (.iload_n 2, 1) := by decide +kernel
theorem d_SL_indexOf_10 : decode b_SL_indexOf 10 = .ok (.iconst 0, 1) := by decide +kernel
theorem d_SL_indexOf_11 : decode b_SL_indexOf 11 = .ok (.invokestatic 92, 3) := by decide +kernel
theorem d_SL_indexOf_14 : decode b_SL_indexOf 14 = .ok (.istore_n 2, 1) := by decide +kernel
theorem d_SL_indexOf_15 : decode b_SL_indexOf 15 = .ok (.iload_n 3, 1) := by decide +kernel
theorem d_SL_indexOf_16 : decode b_SL_indexOf 16 = .ok (.aload_n 0, 1) := by decide +kernel
theorem d_SL_indexOf_17 : decode b_SL_indexOf 17 = .ok (.arraylength, 1) := by decide +kernel
theorem d_SL_indexOf_18 : decode b_SL_indexOf 18 = .ok (.invokestatic 38, 3) := by decide +kernel
theorem d_SL_indexOf_21 : decode b_SL_indexOf 21 = .ok (.istore_n 3, 1) := by decide +kernel
theorem d_SL_indexOf_22 : decode b_SL_indexOf 22 = .ok (.iload_n 2, 1) := by decide +kernel
theorem d_SL_indexOf_23 : decode b_SL_indexOf 23 = .ok (.iload_n 3, 1) := by decide +kernel
theorem d_SL_indexOf_24 : decode b_SL_indexOf 24 = .ok (.if_icmp .lt 5, 3) := by decide +kernel
theorem d_SL_indexOf_27 : decode b_SL_indexOf 27 = .ok (.iconst (-1), 1) := by decide +kernel
theorem d_SL_indexOf_28 : decode b_SL_indexOf 28 = .ok (.ireturn, 1) := by decide +kernel
theorem d_SL_indexOf_29 : decode b_SL_indexOf 29 = .ok (.aload_n 0, 1) := by decide +kernel
theorem d_SL_indexOf_30 : decode b_SL_indexOf 30 = .ok (.iload_n 1, 1) := by decide +kernel
theorem d_SL_indexOf_31 : decode b_SL_indexOf 31 = .ok (.iload_n 2, 1) := by decide +kernel
theorem d_SL_indexOf_32 : decode b_SL_indexOf 32 = .ok (.iload_n 3, 1) := by decide +kernel
theorem d_SL_indexOf_33 : decode b_SL_indexOf 33 = .ok (.invokestatic 95, 3) := by decide +kernel
theorem d_SL_indexOf_36 : decode b_SL_indexOf 36 = .ok (.ireturn, 1) := by decide +kernel
abbrev b_SL_canEncode : ByteArray := prog_14_method_4_code
def y_SL_canEncode : MethodName := ⟨"java/lang/StringLatin1", "canEncode", "(I)Z"⟩
abbrev k_SL_canEncode : Cond := .code y_SL_canEncode b_SL_canEncode 1 (some .boolean)
set_option maxRecDepth 20000 in
theorem zj_SL_canEncode : k_SL_canEncode ∈ zg := zg_in 216 rfl rfl
theorem d_SL_canEncode_0 : decode b_SL_canEncode 0 = .ok (.iload_n 0, 1) := by decide +kernel
theorem d_SL_canEncode_1 : decode b_SL_canEncode 1 = .ok (.ifCond .lt 14, 3) := by decide +kernel
theorem d_SL_canEncode_4 : decode b_SL_canEncode 4 = .ok (.iload_n 0, 1) := by decide +kernel
theorem d_SL_canEncode_5 : decode b_SL_canEncode 5 = .ok (.sipush 255, 3) := by decide +kernel
theorem d_SL_canEncode_8 : decode b_SL_canEncode 8 = .ok (.if_icmp .gt 7, 3) := by decide +kernel
theorem d_SL_canEncode_11 : decode b_SL_canEncode 11 = .ok (.iconst 1, 1) := by decide +kernel
theorem d_SL_canEncode_12 : decode b_SL_canEncode 12 = .ok (.goto 4, 3) := by decide +kernel
theorem d_SL_canEncode_15 : decode b_SL_canEncode 15 = .ok (.iconst 0, 1) := by decide +kernel
theorem d_SL_canEncode_16 : decode b_SL_canEncode 16 = .ok (.ireturn, 1) := by decide +kernel
abbrev b_SL_indexOfChar : ByteArray := prog_14_method_23_code
def y_SL_indexOfChar : MethodName := ⟨"java/lang/StringLatin1", "indexOfChar", "([BIII)I"⟩
abbrev k_SL_indexOfChar : Cond := .code y_SL_indexOfChar b_SL_indexOfChar 6 (some .int)
set_option maxRecDepth 20000 in
theorem zj_SL_indexOfChar : k_SL_indexOfChar ∈ zg := zg_in 225 rfl rfl
theorem d_SL_indexOfChar_0 : decode b_SL_indexOfChar 0 = .ok (.iload_n 1, 1) := by decide +kernel
theorem d_SL_indexOfChar_1 : decode b_SL_indexOfChar 1 = .ok (.i2b, 1) := by decide +kernel
theorem d_SL_indexOfChar_2 : decode b_SL_indexOfChar 2 = .ok (.istore 4, 2) := by decide +kernel
theorem d_SL_indexOfChar_4 : decode b_SL_indexOfChar 4 = .ok (.iload_n 2, 1) := by decide +kernel
theorem d_SL_indexOfChar_5 : decode b_SL_indexOfChar 5 = .ok (.istore 5, 2) := by decide +kernel
theorem d_SL_indexOfChar_7 : decode b_SL_indexOfChar 7 = .ok (.iload 5, 2) := by decide +kernel
theorem d_SL_indexOfChar_9 : decode b_SL_indexOfChar 9 = .ok (.iload_n 3, 1) := by decide +kernel
theorem d_SL_indexOfChar_10 : decode b_SL_indexOfChar 10 = .ok (.if_icmp .ge 21, 3) := by decide +kernel
theorem d_SL_indexOfChar_13 : decode b_SL_indexOfChar 13 = .ok (.aload_n 0, 1) := by decide +kernel
theorem d_SL_indexOfChar_14 : decode b_SL_indexOfChar 14 = .ok (.iload 5, 2) := by decide +kernel
theorem d_SL_indexOfChar_16 : decode b_SL_indexOfChar 16 = .ok (.baload, 1) := by decide +kernel
theorem d_SL_indexOfChar_17 : decode b_SL_indexOfChar 17 = .ok (.iload 4, 2) := by decide +kernel
theorem d_SL_indexOfChar_19 : decode b_SL_indexOfChar 19 = .ok (.if_icmp .ne 6, 3) := by decide +kernel
theorem d_SL_indexOfChar_22 : decode b_SL_indexOfChar 22 = .ok (.iload 5, 2) := by decide +kernel
theorem d_SL_indexOfChar_24 : decode b_SL_indexOfChar 24 = .ok (.ireturn, 1) := by decide +kernel
theorem d_SL_indexOfChar_25 : decode b_SL_indexOfChar 25 = .ok (.iinc 5 1, 3) := by decide +kernel
theorem d_SL_indexOfChar_28 : decode b_SL_indexOfChar 28 = .ok (.goto (-21), 3) := by decide +kernel
theorem d_SL_indexOfChar_31 : decode b_SL_indexOfChar 31 = .ok (.iconst (-1), 1) := by decide +kernel
theorem d_SL_indexOfChar_32 : decode b_SL_indexOfChar 32 = .ok (.ireturn, 1) := by decide +kernel
theorem zc_IN_bitCount : zCal y_IN_bitCount b_IN_bitCount 1 (some .int) 1 := ⟨zj_IN_bitCount, zw_10, by decide, by decide, by decide +kernel⟩
theorem zc_ST_charAt : zCal y_ST_charAt b_ST_charAt 2 (some .char) 1 := ⟨zj_ST_charAt, zw_13, by decide, by decide, by decide +kernel⟩
theorem zc_ST_isLatin1 : zCal y_ST_isLatin1 b_ST_isLatin1 1 (some .boolean) 0 := ⟨zj_ST_isLatin1, zw_13, by decide, by decide, by decide +kernel⟩
theorem zc_SL_charAt : zCal y_SL_charAt b_SL_charAt 2 (some .char) 2 := ⟨zj_SL_charAt, zw_14, by decide, by decide, by decide +kernel⟩
theorem zc_ST_checkIndex : zCal y_ST_checkIndex b_ST_checkIndex 2 none 2 := ⟨zj_ST_checkIndex, zw_13, by decide, by decide, by decide +kernel⟩
theorem zc_PR_checkIndex : zCal y_PR_checkIndex b_PR_checkIndex 3 (some .int) 3 := ⟨zj_PR_checkIndex, zw_15, by decide, by decide, by decide +kernel⟩
theorem zc_ST_indexOf : zCal y_ST_indexOf b_ST_indexOf 2 (some .int) 1 := ⟨zj_ST_indexOf, zw_13, by decide, by decide, by decide +kernel⟩
theorem zc_ST_indexOf2 : zCal y_ST_indexOf2 b_ST_indexOf2 3 (some .int) 2 := ⟨zj_ST_indexOf2, zw_13, by decide, by decide, by decide +kernel⟩
theorem zc_ST_length : zCal y_ST_length b_ST_length 1 (some .int) 0 := ⟨zj_ST_length, zw_13, by decide, by decide, by decide +kernel⟩
theorem zc_ST_coder : zCal y_ST_coder b_ST_coder 1 (some .byte) 0 := ⟨zj_ST_coder, zw_13, by decide, by decide, by decide +kernel⟩
theorem zc_SL_indexOf : zCal y_SL_indexOf b_SL_indexOf 4 (some .int) 4 := ⟨zj_SL_indexOf, zw_14, by decide, by decide, by decide +kernel⟩
theorem zc_SL_canEncode : zCal y_SL_canEncode b_SL_canEncode 1 (some .boolean) 1 := ⟨zj_SL_canEncode, zw_14, by decide, by decide, by decide +kernel⟩
theorem zc_SL_indexOfChar : zCal y_SL_indexOfChar b_SL_indexOfChar 6 (some .int) 4 := ⟨zj_SL_indexOfChar, zw_14, by decide, by decide, by decide +kernel⟩
