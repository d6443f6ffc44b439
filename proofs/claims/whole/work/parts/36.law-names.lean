abbrev b_LW_key : ByteArray := method_3_code
def y_LW_key : MethodName := ⟨"SealedFilesLaw", "key", "(LSealedFiles;I[J)I"⟩
abbrev k_LW_key : Cond := .codeWith y_LW_key b_LW_key 4 (some .int) [(0, 9, 12, 13), (0, 9, 15, 15)]
set_option maxRecDepth 20000 in
theorem zk_LW_key : k_LW_key ∈ zg := zg_in 263 rfl rfl
abbrev b_LW_seal : ByteArray := method_4_code
def y_LW_seal : MethodName := ⟨"SealedFilesLaw", "seal", "(LSealedFiles;III[J)I"⟩
abbrev k_LW_seal : Cond := .codeWith y_LW_seal b_LW_seal 6 (some .int) [(0, 12, 15, 13)]
set_option maxRecDepth 20000 in
theorem zk_LW_seal : k_LW_seal ∈ zg := zg_in 358 rfl rfl
abbrev b_LW_open : ByteArray := method_5_code
def y_LW_open : MethodName := ⟨"SealedFilesLaw", "open", "(LSealedFiles;I[J)I"⟩
abbrev k_LW_open : Cond := .codeWith y_LW_open b_LW_open 4 (some .int) [(0, 9, 12, 13)]
set_option maxRecDepth 20000 in
theorem zk_LW_open : k_LW_open ∈ zg := zg_in 425 rfl rfl
abbrev b_LW_read : ByteArray := method_6_code
def y_LW_read : MethodName := ⟨"SealedFilesLaw", "read", "(LSealedFiles;I[J)I"⟩
abbrev k_LW_read : Cond := .codeWith y_LW_read b_LW_read 4 (some .int) [(0, 9, 12, 27)]
set_option maxRecDepth 20000 in
theorem zk_LW_read : k_LW_read ∈ zg := zg_in 465 rfl rfl
abbrev b_LW_alter : ByteArray := method_7_code
def y_LW_alter : MethodName := ⟨"SealedFilesLaw", "alter", "(LSealedFiles;II[J)I"⟩
abbrev k_LW_alter : Cond := .codeWith y_LW_alter b_LW_alter 5 (some .int) [(0, 10, 13, 27)]
set_option maxRecDepth 20000 in
theorem zk_LW_alter : k_LW_alter ∈ zg := zg_in 489 rfl rfl
abbrev b_LW_load : ByteArray := method_8_code
def y_LW_load : MethodName := ⟨"SealedFilesLaw", "load", "(LSealedFiles;[J)I"⟩
abbrev k_LW_load : Cond := .codeWith y_LW_load b_LW_load 3 (some .int) [(0, 8, 11, 13)]
set_option maxRecDepth 20000 in
theorem zk_LW_load : k_LW_load ∈ zg := zg_in 501 rfl rfl
abbrev b_LW_law : ByteArray := code
theorem d_LW_key_0 : decode b_LW_key 0 = .ok (.aload_n 2, 1) := by decide +kernel
theorem d_LW_key_1 : decode b_LW_key 1 = .ok (.iconst 0, 1) := by decide +kernel
theorem d_LW_key_2 : decode b_LW_key 2 = .ok (.aload_n 0, 1) := by decide +kernel
theorem d_LW_key_3 : decode b_LW_key 3 = .ok (.iload_n 1, 1) := by decide +kernel
theorem d_LW_key_4 : decode b_LW_key 4 = .ok (.invokevirtual 7, 3) := by decide +kernel
theorem d_LW_key_7 : decode b_LW_key 7 = .ok (.i2l, 1) := by decide +kernel
theorem d_LW_key_8 : decode b_LW_key 8 = .ok (.lastore, 1) := by decide +kernel
theorem d_LW_key_9 : decode b_LW_key 9 = .ok (.goto 9, 3) := by decide +kernel
theorem d_LW_key_12 : decode b_LW_key 12 = .ok (.astore_n 3, 1) := by decide +kernel
theorem d_LW_key_13 : decode b_LW_key 13 = .ok (.iconst 1, 1) := by decide +kernel
theorem d_LW_key_14 : decode b_LW_key 14 = .ok (.ireturn, 1) := by decide +kernel
theorem d_LW_key_15 : decode b_LW_key 15 = .ok (.astore_n 3, 1) := by decide +kernel
theorem d_LW_key_16 : decode b_LW_key 16 = .ok (.iconst 2, 1) := by decide +kernel
theorem d_LW_key_17 : decode b_LW_key 17 = .ok (.ireturn, 1) := by decide +kernel
theorem d_LW_key_18 : decode b_LW_key 18 = .ok (.iconst 0, 1) := by decide +kernel
theorem d_LW_key_19 : decode b_LW_key 19 = .ok (.ireturn, 1) := by decide +kernel
theorem d_LW_seal_0 : decode b_LW_seal 0 = .ok (.aload 4, 2) := by decide +kernel
theorem d_LW_seal_2 : decode b_LW_seal 2 = .ok (.iconst 0, 1) := by decide +kernel
theorem d_LW_seal_3 : decode b_LW_seal 3 = .ok (.aload_n 0, 1) := by decide +kernel
theorem d_LW_seal_4 : decode b_LW_seal 4 = .ok (.iload_n 1, 1) := by decide +kernel
theorem d_LW_seal_5 : decode b_LW_seal 5 = .ok (.iload_n 2, 1) := by decide +kernel
theorem d_LW_seal_6 : decode b_LW_seal 6 = .ok (.iload_n 3, 1) := by decide +kernel
theorem d_LW_seal_7 : decode b_LW_seal 7 = .ok (.invokevirtual 17, 3) := by decide +kernel
theorem d_LW_seal_10 : decode b_LW_seal 10 = .ok (.i2l, 1) := by decide +kernel
theorem d_LW_seal_11 : decode b_LW_seal 11 = .ok (.lastore, 1) := by decide +kernel
theorem d_LW_seal_12 : decode b_LW_seal 12 = .ok (.goto 7, 3) := by decide +kernel
theorem d_LW_seal_15 : decode b_LW_seal 15 = .ok (.astore 5, 2) := by decide +kernel
theorem d_LW_seal_17 : decode b_LW_seal 17 = .ok (.iconst 1, 1) := by decide +kernel
theorem d_LW_seal_18 : decode b_LW_seal 18 = .ok (.ireturn, 1) := by decide +kernel
theorem d_LW_seal_19 : decode b_LW_seal 19 = .ok (.iconst 0, 1) := by decide +kernel
theorem d_LW_seal_20 : decode b_LW_seal 20 = .ok (.ireturn, 1) := by decide +kernel
theorem d_LW_open_0 : decode b_LW_open 0 = .ok (.aload_n 2, 1) := by decide +kernel
theorem d_LW_open_1 : decode b_LW_open 1 = .ok (.iconst 0, 1) := by decide +kernel
theorem d_LW_open_2 : decode b_LW_open 2 = .ok (.aload_n 0, 1) := by decide +kernel
theorem d_LW_open_3 : decode b_LW_open 3 = .ok (.iload_n 1, 1) := by decide +kernel
theorem d_LW_open_4 : decode b_LW_open 4 = .ok (.invokevirtual 21, 3) := by decide +kernel
theorem d_LW_open_7 : decode b_LW_open 7 = .ok (.i2l, 1) := by decide +kernel
theorem d_LW_open_8 : decode b_LW_open 8 = .ok (.lastore, 1) := by decide +kernel
theorem d_LW_open_9 : decode b_LW_open 9 = .ok (.goto 6, 3) := by decide +kernel
theorem d_LW_open_12 : decode b_LW_open 12 = .ok (.astore_n 3, 1) := by decide +kernel
theorem d_LW_open_13 : decode b_LW_open 13 = .ok (.iconst 1, 1) := by decide +kernel
theorem d_LW_open_14 : decode b_LW_open 14 = .ok (.ireturn, 1) := by decide +kernel
theorem d_LW_open_15 : decode b_LW_open 15 = .ok (.iconst 0, 1) := by decide +kernel
theorem d_LW_open_16 : decode b_LW_open 16 = .ok (.ireturn, 1) := by decide +kernel
theorem d_LW_read_0 : decode b_LW_read 0 = .ok (.aload_n 2, 1) := by decide +kernel
theorem d_LW_read_1 : decode b_LW_read 1 = .ok (.iconst 0, 1) := by decide +kernel
theorem d_LW_read_2 : decode b_LW_read 2 = .ok (.aload_n 0, 1) := by decide +kernel
theorem d_LW_read_3 : decode b_LW_read 3 = .ok (.iload_n 1, 1) := by decide +kernel
theorem d_LW_read_4 : decode b_LW_read 4 = .ok (.invokevirtual 24, 3) := by decide +kernel
theorem d_LW_read_7 : decode b_LW_read 7 = .ok (.i2l, 1) := by decide +kernel
theorem d_LW_read_8 : decode b_LW_read 8 = .ok (.lastore, 1) := by decide +kernel
theorem d_LW_read_9 : decode b_LW_read 9 = .ok (.goto 6, 3) := by decide +kernel
theorem d_LW_read_12 : decode b_LW_read 12 = .ok (.astore_n 3, 1) := by decide +kernel
theorem d_LW_read_13 : decode b_LW_read 13 = .ok (.iconst 1, 1) := by decide +kernel
theorem d_LW_read_14 : decode b_LW_read 14 = .ok (.ireturn, 1) := by decide +kernel
theorem d_LW_read_15 : decode b_LW_read 15 = .ok (.iconst 0, 1) := by decide +kernel
theorem d_LW_read_16 : decode b_LW_read 16 = .ok (.ireturn, 1) := by decide +kernel
theorem d_LW_alter_0 : decode b_LW_alter 0 = .ok (.aload_n 3, 1) := by decide +kernel
theorem d_LW_alter_1 : decode b_LW_alter 1 = .ok (.iconst 0, 1) := by decide +kernel
theorem d_LW_alter_2 : decode b_LW_alter 2 = .ok (.aload_n 0, 1) := by decide +kernel
theorem d_LW_alter_3 : decode b_LW_alter 3 = .ok (.iload_n 1, 1) := by decide +kernel
theorem d_LW_alter_4 : decode b_LW_alter 4 = .ok (.iload_n 2, 1) := by decide +kernel
theorem d_LW_alter_5 : decode b_LW_alter 5 = .ok (.invokevirtual 29, 3) := by decide +kernel
theorem d_LW_alter_8 : decode b_LW_alter 8 = .ok (.i2l, 1) := by decide +kernel
theorem d_LW_alter_9 : decode b_LW_alter 9 = .ok (.lastore, 1) := by decide +kernel
theorem d_LW_alter_10 : decode b_LW_alter 10 = .ok (.goto 7, 3) := by decide +kernel
theorem d_LW_alter_13 : decode b_LW_alter 13 = .ok (.astore 4, 2) := by decide +kernel
theorem d_LW_alter_15 : decode b_LW_alter 15 = .ok (.iconst 1, 1) := by decide +kernel
theorem d_LW_alter_16 : decode b_LW_alter 16 = .ok (.ireturn, 1) := by decide +kernel
theorem d_LW_alter_17 : decode b_LW_alter 17 = .ok (.iconst 0, 1) := by decide +kernel
theorem d_LW_alter_18 : decode b_LW_alter 18 = .ok (.ireturn, 1) := by decide +kernel
theorem d_LW_load_0 : decode b_LW_load 0 = .ok (.aload_n 1, 1) := by decide +kernel
theorem d_LW_load_1 : decode b_LW_load 1 = .ok (.iconst 0, 1) := by decide +kernel
theorem d_LW_load_2 : decode b_LW_load 2 = .ok (.aload_n 0, 1) := by decide +kernel
theorem d_LW_load_3 : decode b_LW_load 3 = .ok (.invokevirtual 33, 3) := by decide +kernel
theorem d_LW_load_6 : decode b_LW_load 6 = .ok (.i2l, 1) := by decide +kernel
theorem d_LW_load_7 : decode b_LW_load 7 = .ok (.lastore, 1) := by decide +kernel
theorem d_LW_load_8 : decode b_LW_load 8 = .ok (.goto 6, 3) := by decide +kernel
theorem d_LW_load_11 : decode b_LW_load 11 = .ok (.astore_n 2, 1) := by decide +kernel
theorem d_LW_load_12 : decode b_LW_load 12 = .ok (.iconst 1, 1) := by decide +kernel
theorem d_LW_load_13 : decode b_LW_load 13 = .ok (.ireturn, 1) := by decide +kernel
theorem d_LW_load_14 : decode b_LW_load 14 = .ok (.iconst 0, 1) := by decide +kernel
theorem d_LW_load_15 : decode b_LW_load 15 = .ok (.ireturn, 1) := by decide +kernel
theorem d_LW_law_0 : decode b_LW_law 0 = .ok (.new 8, 3) := by decide +kernel
theorem d_LW_law_3 : decode b_LW_law 3 = .ok (.dup, 1) := by decide +kernel
theorem d_LW_law_4 : decode b_LW_law 4 = .ok (.invokespecial 37, 3) := by decide +kernel
theorem d_LW_law_7 : decode b_LW_law 7 = .ok (.astore_n 1, 1) := by decide +kernel
theorem d_LW_law_8 : decode b_LW_law 8 = .ok (.new 38, 3) := by decide +kernel
theorem d_LW_law_11 : decode b_LW_law 11 = .ok (.dup, 1) := by decide +kernel
theorem d_LW_law_12 : decode b_LW_law 12 = .ok (.invokespecial 40, 3) := by decide +kernel
theorem d_LW_law_15 : decode b_LW_law 15 = .ok (.astore_n 2, 1) := by decide +kernel
theorem d_LW_law_16 : decode b_LW_law 16 = .ok (.iconst 1, 1) := by decide +kernel
theorem d_LW_law_17 : decode b_LW_law 17 = .ok (.newarray .long, 2) := by decide +kernel
theorem d_LW_law_19 : decode b_LW_law 19 = .ok (.astore_n 3, 1) := by decide +kernel
theorem d_LW_law_20 : decode b_LW_law 20 = .ok (.iconst 0, 1) := by decide +kernel
theorem d_LW_law_21 : decode b_LW_law 21 = .ok (.istore 4, 2) := by decide +kernel
theorem d_LW_law_23 : decode b_LW_law 23 = .ok (.iload 4, 2) := by decide +kernel
theorem d_LW_law_25 : decode b_LW_law 25 = .ok (.aload_n 0, 1) := by decide +kernel
theorem d_LW_law_26 : decode b_LW_law 26 = .ok (.arraylength, 1) := by decide +kernel
theorem d_LW_law_27 : decode b_LW_law 27 = .ok (.iconst 4, 1) := by decide +kernel
theorem d_LW_law_28 : decode b_LW_law 28 = .ok (.isub, 1) := by decide +kernel
theorem d_LW_law_29 : decode b_LW_law 29 = .ok (.if_icmp .gt 652, 3) := by decide +kernel
theorem d_LW_law_32 : decode b_LW_law 32 = .ok (.aload_n 0, 1) := by decide +kernel
theorem d_LW_law_33 : decode b_LW_law 33 = .ok (.iload 4, 2) := by decide +kernel
theorem d_LW_law_35 : decode b_LW_law 35 = .ok (.iaload, 1) := by decide +kernel
theorem d_LW_law_36 : decode b_LW_law 36 = .ok (.bipush 15, 2) := by decide +kernel
theorem d_LW_law_38 : decode b_LW_law 38 = .ok (.iand, 1) := by decide +kernel
theorem d_LW_law_39 : decode b_LW_law 39 = .ok (.tableswitch 636 0 14 #[73, 129, 154, 179, 192, 272, 328, 341, 397, 422, 447, 515, 540, 565, 592], 73) := by decide +kernel
theorem d_LW_law_112 : decode b_LW_law 112 = .ok (.aload_n 1, 1) := by decide +kernel
theorem d_LW_law_113 : decode b_LW_law 113 = .ok (.aload_n 0, 1) := by decide +kernel
theorem d_LW_law_114 : decode b_LW_law 114 = .ok (.iload 4, 2) := by decide +kernel
theorem d_LW_law_116 : decode b_LW_law 116 = .ok (.iconst 1, 1) := by decide +kernel
theorem d_LW_law_117 : decode b_LW_law 117 = .ok (.iadd, 1) := by decide +kernel
theorem d_LW_law_118 : decode b_LW_law 118 = .ok (.iaload, 1) := by decide +kernel
theorem d_LW_law_119 : decode b_LW_law 119 = .ok (.aload_n 3, 1) := by decide +kernel
theorem d_LW_law_120 : decode b_LW_law 120 = .ok (.invokestatic 41, 3) := by decide +kernel
theorem d_LW_law_123 : decode b_LW_law 123 = .ok (.istore 5, 2) := by decide +kernel
theorem d_LW_law_125 : decode b_LW_law 125 = .ok (.aload_n 2, 1) := by decide +kernel
theorem d_LW_law_126 : decode b_LW_law 126 = .ok (.aload_n 0, 1) := by decide +kernel
theorem d_LW_law_127 : decode b_LW_law 127 = .ok (.iload 4, 2) := by decide +kernel
theorem d_LW_law_129 : decode b_LW_law 129 = .ok (.iconst 1, 1) := by decide +kernel
theorem d_LW_law_130 : decode b_LW_law 130 = .ok (.iadd, 1) := by decide +kernel
theorem d_LW_law_131 : decode b_LW_law 131 = .ok (.iaload, 1) := by decide +kernel
theorem d_LW_law_132 : decode b_LW_law 132 = .ok (.invokevirtual 46, 3) := by decide +kernel
theorem d_LW_law_135 : decode b_LW_law 135 = .ok (.istore 6, 2) := by decide +kernel
theorem d_LW_law_137 : decode b_LW_law 137 = .ok (.aload_n 2, 1) := by decide +kernel
theorem d_LW_law_138 : decode b_LW_law 138 = .ok (.invokevirtual 47, 3) := by decide +kernel
theorem d_LW_law_141 : decode b_LW_law 141 = .ok (.iload 5, 2) := by decide +kernel
theorem d_LW_law_143 : decode b_LW_law 143 = .ok (.if_icmp .eq 5, 3) := by decide +kernel
theorem d_LW_law_146 : decode b_LW_law 146 = .ok (.iconst 0, 1) := by decide +kernel
theorem d_LW_law_147 : decode b_LW_law 147 = .ok (.ireturn, 1) := by decide +kernel
theorem d_LW_law_148 : decode b_LW_law 148 = .ok (.iload 5, 2) := by decide +kernel
theorem d_LW_law_150 : decode b_LW_law 150 = .ok (.ifCond .ne 15, 3) := by decide +kernel
theorem d_LW_law_153 : decode b_LW_law 153 = .ok (.aload_n 3, 1) := by decide +kernel
theorem d_LW_law_154 : decode b_LW_law 154 = .ok (.iconst 0, 1) := by decide +kernel
theorem d_LW_law_155 : decode b_LW_law 155 = .ok (.laload, 1) := by decide +kernel
theorem d_LW_law_156 : decode b_LW_law 156 = .ok (.iload 6, 2) := by decide +kernel
theorem d_LW_law_158 : decode b_LW_law 158 = .ok (.i2l, 1) := by decide +kernel
theorem d_LW_law_159 : decode b_LW_law 159 = .ok (.lcmp, 1) := by decide +kernel
theorem d_LW_law_160 : decode b_LW_law 160 = .ok (.ifCond .eq 5, 3) := by decide +kernel
theorem d_LW_law_163 : decode b_LW_law 163 = .ok (.iconst 0, 1) := by decide +kernel
theorem d_LW_law_164 : decode b_LW_law 164 = .ok (.ireturn, 1) := by decide +kernel
theorem d_LW_law_165 : decode b_LW_law 165 = .ok (.goto 510, 3) := by decide +kernel
theorem d_LW_law_168 : decode b_LW_law 168 = .ok (.aload_n 1, 1) := by decide +kernel
theorem d_LW_law_169 : decode b_LW_law 169 = .ok (.aload_n 0, 1) := by decide +kernel
theorem d_LW_law_170 : decode b_LW_law 170 = .ok (.iload 4, 2) := by decide +kernel
theorem d_LW_law_172 : decode b_LW_law 172 = .ok (.iconst 1, 1) := by decide +kernel
theorem d_LW_law_173 : decode b_LW_law 173 = .ok (.iadd, 1) := by decide +kernel
theorem d_LW_law_174 : decode b_LW_law 174 = .ok (.iaload, 1) := by decide +kernel
theorem d_LW_law_175 : decode b_LW_law 175 = .ok (.invokevirtual 50, 3) := by decide +kernel
theorem d_LW_law_178 : decode b_LW_law 178 = .ok (.aload_n 2, 1) := by decide +kernel
theorem d_LW_law_179 : decode b_LW_law 179 = .ok (.aload_n 0, 1) := by decide +kernel
theorem d_LW_law_180 : decode b_LW_law 180 = .ok (.iload 4, 2) := by decide +kernel
theorem d_LW_law_182 : decode b_LW_law 182 = .ok (.iconst 1, 1) := by decide +kernel
theorem d_LW_law_183 : decode b_LW_law 183 = .ok (.iadd, 1) := by decide +kernel
theorem d_LW_law_184 : decode b_LW_law 184 = .ok (.iaload, 1) := by decide +kernel
theorem d_LW_law_185 : decode b_LW_law 185 = .ok (.invokevirtual 53, 3) := by decide +kernel
theorem d_LW_law_188 : decode b_LW_law 188 = .ok (.if_icmp .eq 487, 3) := by decide +kernel
theorem d_LW_law_191 : decode b_LW_law 191 = .ok (.iconst 0, 1) := by decide +kernel
theorem d_LW_law_192 : decode b_LW_law 192 = .ok (.ireturn, 1) := by decide +kernel
theorem d_LW_law_193 : decode b_LW_law 193 = .ok (.aload_n 1, 1) := by decide +kernel
theorem d_LW_law_194 : decode b_LW_law 194 = .ok (.aload_n 0, 1) := by decide +kernel
theorem d_LW_law_195 : decode b_LW_law 195 = .ok (.iload 4, 2) := by decide +kernel
theorem d_LW_law_197 : decode b_LW_law 197 = .ok (.iconst 1, 1) := by decide +kernel
theorem d_LW_law_198 : decode b_LW_law 198 = .ok (.iadd, 1) := by decide +kernel
theorem d_LW_law_199 : decode b_LW_law 199 = .ok (.iaload, 1) := by decide +kernel
theorem d_LW_law_200 : decode b_LW_law 200 = .ok (.invokevirtual 54, 3) := by decide +kernel
theorem d_LW_law_203 : decode b_LW_law 203 = .ok (.aload_n 2, 1) := by decide +kernel
theorem d_LW_law_204 : decode b_LW_law 204 = .ok (.aload_n 0, 1) := by decide +kernel
theorem d_LW_law_205 : decode b_LW_law 205 = .ok (.iload 4, 2) := by decide +kernel
theorem d_LW_law_207 : decode b_LW_law 207 = .ok (.iconst 1, 1) := by decide +kernel
theorem d_LW_law_208 : decode b_LW_law 208 = .ok (.iadd, 1) := by decide +kernel
theorem d_LW_law_209 : decode b_LW_law 209 = .ok (.iaload, 1) := by decide +kernel
theorem d_LW_law_210 : decode b_LW_law 210 = .ok (.invokevirtual 58, 3) := by decide +kernel
theorem d_LW_law_213 : decode b_LW_law 213 = .ok (.if_icmp .eq 462, 3) := by decide +kernel
theorem d_LW_law_216 : decode b_LW_law 216 = .ok (.iconst 0, 1) := by decide +kernel
theorem d_LW_law_217 : decode b_LW_law 217 = .ok (.ireturn, 1) := by decide +kernel
theorem d_LW_law_218 : decode b_LW_law 218 = .ok (.aload_n 1, 1) := by decide +kernel
theorem d_LW_law_219 : decode b_LW_law 219 = .ok (.invokevirtual 59, 3) := by decide +kernel
theorem d_LW_law_222 : decode b_LW_law 222 = .ok (.aload_n 2, 1) := by decide +kernel
theorem d_LW_law_223 : decode b_LW_law 223 = .ok (.invokevirtual 62, 3) := by decide +kernel
theorem d_LW_law_226 : decode b_LW_law 226 = .ok (.if_icmp .eq 449, 3) := by decide +kernel
theorem d_LW_law_229 : decode b_LW_law 229 = .ok (.iconst 0, 1) := by decide +kernel
theorem d_LW_law_230 : decode b_LW_law 230 = .ok (.ireturn, 1) := by decide +kernel
theorem d_LW_law_231 : decode b_LW_law 231 = .ok (.aload_n 1, 1) := by decide +kernel
theorem d_LW_law_232 : decode b_LW_law 232 = .ok (.aload_n 0, 1) := by decide +kernel
theorem d_LW_law_233 : decode b_LW_law 233 = .ok (.iload 4, 2) := by decide +kernel
theorem d_LW_law_235 : decode b_LW_law 235 = .ok (.iconst 1, 1) := by decide +kernel
theorem d_LW_law_236 : decode b_LW_law 236 = .ok (.iadd, 1) := by decide +kernel
theorem d_LW_law_237 : decode b_LW_law 237 = .ok (.iaload, 1) := by decide +kernel
theorem d_LW_law_238 : decode b_LW_law 238 = .ok (.aload_n 0, 1) := by decide +kernel
theorem d_LW_law_239 : decode b_LW_law 239 = .ok (.iload 4, 2) := by decide +kernel
theorem d_LW_law_241 : decode b_LW_law 241 = .ok (.iconst 2, 1) := by decide +kernel
theorem d_LW_law_242 : decode b_LW_law 242 = .ok (.iadd, 1) := by decide +kernel
theorem d_LW_law_243 : decode b_LW_law 243 = .ok (.iaload, 1) := by decide +kernel
theorem d_LW_law_244 : decode b_LW_law 244 = .ok (.aload_n 0, 1) := by decide +kernel
theorem d_LW_law_245 : decode b_LW_law 245 = .ok (.iload 4, 2) := by decide +kernel
theorem d_LW_law_247 : decode b_LW_law 247 = .ok (.iconst 3, 1) := by decide +kernel
theorem d_LW_law_248 : decode b_LW_law 248 = .ok (.iadd, 1) := by decide +kernel
theorem d_LW_law_249 : decode b_LW_law 249 = .ok (.iaload, 1) := by decide +kernel
theorem d_LW_law_250 : decode b_LW_law 250 = .ok (.aload_n 3, 1) := by decide +kernel
theorem d_LW_law_251 : decode b_LW_law 251 = .ok (.invokestatic 63, 3) := by decide +kernel
theorem d_LW_law_254 : decode b_LW_law 254 = .ok (.istore 5, 2) := by decide +kernel
theorem d_LW_law_256 : decode b_LW_law 256 = .ok (.aload_n 2, 1) := by decide +kernel
theorem d_LW_law_257 : decode b_LW_law 257 = .ok (.aload_n 0, 1) := by decide +kernel
theorem d_LW_law_258 : decode b_LW_law 258 = .ok (.iload 4, 2) := by decide +kernel
theorem d_LW_law_260 : decode b_LW_law 260 = .ok (.iconst 1, 1) := by decide +kernel
theorem d_LW_law_261 : decode b_LW_law 261 = .ok (.iadd, 1) := by decide +kernel
theorem d_LW_law_262 : decode b_LW_law 262 = .ok (.iaload, 1) := by decide +kernel
theorem d_LW_law_263 : decode b_LW_law 263 = .ok (.aload_n 0, 1) := by decide +kernel
theorem d_LW_law_264 : decode b_LW_law 264 = .ok (.iload 4, 2) := by decide +kernel
theorem d_LW_law_266 : decode b_LW_law 266 = .ok (.iconst 2, 1) := by decide +kernel
theorem d_LW_law_267 : decode b_LW_law 267 = .ok (.iadd, 1) := by decide +kernel
theorem d_LW_law_268 : decode b_LW_law 268 = .ok (.iaload, 1) := by decide +kernel
theorem d_LW_law_269 : decode b_LW_law 269 = .ok (.aload_n 0, 1) := by decide +kernel
theorem d_LW_law_270 : decode b_LW_law 270 = .ok (.iload 4, 2) := by decide +kernel
theorem d_LW_law_272 : decode b_LW_law 272 = .ok (.iconst 3, 1) := by decide +kernel
theorem d_LW_law_273 : decode b_LW_law 273 = .ok (.iadd, 1) := by decide +kernel
theorem d_LW_law_274 : decode b_LW_law 274 = .ok (.iaload, 1) := by decide +kernel
theorem d_LW_law_275 : decode b_LW_law 275 = .ok (.invokevirtual 66, 3) := by decide +kernel
theorem d_LW_law_278 : decode b_LW_law 278 = .ok (.istore 6, 2) := by decide +kernel
theorem d_LW_law_280 : decode b_LW_law 280 = .ok (.aload_n 2, 1) := by decide +kernel
theorem d_LW_law_281 : decode b_LW_law 281 = .ok (.invokevirtual 47, 3) := by decide +kernel
theorem d_LW_law_284 : decode b_LW_law 284 = .ok (.iload 5, 2) := by decide +kernel
theorem d_LW_law_286 : decode b_LW_law 286 = .ok (.if_icmp .eq 5, 3) := by decide +kernel
theorem d_LW_law_289 : decode b_LW_law 289 = .ok (.iconst 0, 1) := by decide +kernel
theorem d_LW_law_290 : decode b_LW_law 290 = .ok (.ireturn, 1) := by decide +kernel
theorem d_LW_law_291 : decode b_LW_law 291 = .ok (.iload 5, 2) := by decide +kernel
theorem d_LW_law_293 : decode b_LW_law 293 = .ok (.ifCond .ne 15, 3) := by decide +kernel
theorem d_LW_law_296 : decode b_LW_law 296 = .ok (.aload_n 3, 1) := by decide +kernel
theorem d_LW_law_297 : decode b_LW_law 297 = .ok (.iconst 0, 1) := by decide +kernel
theorem d_LW_law_298 : decode b_LW_law 298 = .ok (.laload, 1) := by decide +kernel
theorem d_LW_law_299 : decode b_LW_law 299 = .ok (.iload 6, 2) := by decide +kernel
theorem d_LW_law_301 : decode b_LW_law 301 = .ok (.i2l, 1) := by decide +kernel
theorem d_LW_law_302 : decode b_LW_law 302 = .ok (.lcmp, 1) := by decide +kernel
theorem d_LW_law_303 : decode b_LW_law 303 = .ok (.ifCond .eq 5, 3) := by decide +kernel
theorem d_LW_law_306 : decode b_LW_law 306 = .ok (.iconst 0, 1) := by decide +kernel
theorem d_LW_law_307 : decode b_LW_law 307 = .ok (.ireturn, 1) := by decide +kernel
theorem d_LW_law_308 : decode b_LW_law 308 = .ok (.goto 367, 3) := by decide +kernel
theorem d_LW_law_311 : decode b_LW_law 311 = .ok (.aload_n 1, 1) := by decide +kernel
theorem d_LW_law_312 : decode b_LW_law 312 = .ok (.aload_n 0, 1) := by decide +kernel
theorem d_LW_law_313 : decode b_LW_law 313 = .ok (.iload 4, 2) := by decide +kernel
theorem d_LW_law_315 : decode b_LW_law 315 = .ok (.iconst 1, 1) := by decide +kernel
theorem d_LW_law_316 : decode b_LW_law 316 = .ok (.iadd, 1) := by decide +kernel
theorem d_LW_law_317 : decode b_LW_law 317 = .ok (.iaload, 1) := by decide +kernel
theorem d_LW_law_318 : decode b_LW_law 318 = .ok (.aload_n 3, 1) := by decide +kernel
theorem d_LW_law_319 : decode b_LW_law 319 = .ok (.invokestatic 67, 3) := by decide +kernel
theorem d_LW_law_322 : decode b_LW_law 322 = .ok (.istore 5, 2) := by decide +kernel
theorem d_LW_law_324 : decode b_LW_law 324 = .ok (.aload_n 2, 1) := by decide +kernel
theorem d_LW_law_325 : decode b_LW_law 325 = .ok (.aload_n 0, 1) := by decide +kernel
theorem d_LW_law_326 : decode b_LW_law 326 = .ok (.iload 4, 2) := by decide +kernel
theorem d_LW_law_328 : decode b_LW_law 328 = .ok (.iconst 1, 1) := by decide +kernel
theorem d_LW_law_329 : decode b_LW_law 329 = .ok (.iadd, 1) := by decide +kernel
theorem d_LW_law_330 : decode b_LW_law 330 = .ok (.iaload, 1) := by decide +kernel
theorem d_LW_law_331 : decode b_LW_law 331 = .ok (.invokevirtual 69, 3) := by decide +kernel
theorem d_LW_law_334 : decode b_LW_law 334 = .ok (.istore 6, 2) := by decide +kernel
theorem d_LW_law_336 : decode b_LW_law 336 = .ok (.aload_n 2, 1) := by decide +kernel
theorem d_LW_law_337 : decode b_LW_law 337 = .ok (.invokevirtual 47, 3) := by decide +kernel
theorem d_LW_law_340 : decode b_LW_law 340 = .ok (.iload 5, 2) := by decide +kernel
theorem d_LW_law_342 : decode b_LW_law 342 = .ok (.if_icmp .eq 5, 3) := by decide +kernel
theorem d_LW_law_345 : decode b_LW_law 345 = .ok (.iconst 0, 1) := by decide +kernel
theorem d_LW_law_346 : decode b_LW_law 346 = .ok (.ireturn, 1) := by decide +kernel
theorem d_LW_law_347 : decode b_LW_law 347 = .ok (.iload 5, 2) := by decide +kernel
theorem d_LW_law_349 : decode b_LW_law 349 = .ok (.ifCond .ne 15, 3) := by decide +kernel
theorem d_LW_law_352 : decode b_LW_law 352 = .ok (.aload_n 3, 1) := by decide +kernel
theorem d_LW_law_353 : decode b_LW_law 353 = .ok (.iconst 0, 1) := by decide +kernel
theorem d_LW_law_354 : decode b_LW_law 354 = .ok (.laload, 1) := by decide +kernel
theorem d_LW_law_355 : decode b_LW_law 355 = .ok (.iload 6, 2) := by decide +kernel
theorem d_LW_law_357 : decode b_LW_law 357 = .ok (.i2l, 1) := by decide +kernel
theorem d_LW_law_358 : decode b_LW_law 358 = .ok (.lcmp, 1) := by decide +kernel
theorem d_LW_law_359 : decode b_LW_law 359 = .ok (.ifCond .eq 5, 3) := by decide +kernel
theorem d_LW_law_362 : decode b_LW_law 362 = .ok (.iconst 0, 1) := by decide +kernel
theorem d_LW_law_363 : decode b_LW_law 363 = .ok (.ireturn, 1) := by decide +kernel
theorem d_LW_law_364 : decode b_LW_law 364 = .ok (.goto 311, 3) := by decide +kernel
theorem d_LW_law_367 : decode b_LW_law 367 = .ok (.aload_n 1, 1) := by decide +kernel
theorem d_LW_law_368 : decode b_LW_law 368 = .ok (.invokevirtual 70, 3) := by decide +kernel
theorem d_LW_law_371 : decode b_LW_law 371 = .ok (.aload_n 2, 1) := by decide +kernel
theorem d_LW_law_372 : decode b_LW_law 372 = .ok (.invokevirtual 73, 3) := by decide +kernel
theorem d_LW_law_375 : decode b_LW_law 375 = .ok (.if_icmp .eq 300, 3) := by decide +kernel
theorem d_LW_law_378 : decode b_LW_law 378 = .ok (.iconst 0, 1) := by decide +kernel
theorem d_LW_law_379 : decode b_LW_law 379 = .ok (.ireturn, 1) := by decide +kernel
theorem d_LW_law_380 : decode b_LW_law 380 = .ok (.aload_n 1, 1) := by decide +kernel
theorem d_LW_law_381 : decode b_LW_law 381 = .ok (.aload_n 0, 1) := by decide +kernel
theorem d_LW_law_382 : decode b_LW_law 382 = .ok (.iload 4, 2) := by decide +kernel
theorem d_LW_law_384 : decode b_LW_law 384 = .ok (.iconst 1, 1) := by decide +kernel
theorem d_LW_law_385 : decode b_LW_law 385 = .ok (.iadd, 1) := by decide +kernel
theorem d_LW_law_386 : decode b_LW_law 386 = .ok (.iaload, 1) := by decide +kernel
theorem d_LW_law_387 : decode b_LW_law 387 = .ok (.aload_n 3, 1) := by decide +kernel
theorem d_LW_law_388 : decode b_LW_law 388 = .ok (.invokestatic 74, 3) := by decide +kernel
theorem d_LW_law_391 : decode b_LW_law 391 = .ok (.istore 5, 2) := by decide +kernel
theorem d_LW_law_393 : decode b_LW_law 393 = .ok (.aload_n 2, 1) := by decide +kernel
theorem d_LW_law_394 : decode b_LW_law 394 = .ok (.aload_n 0, 1) := by decide +kernel
theorem d_LW_law_395 : decode b_LW_law 395 = .ok (.iload 4, 2) := by decide +kernel
theorem d_LW_law_397 : decode b_LW_law 397 = .ok (.iconst 1, 1) := by decide +kernel
theorem d_LW_law_398 : decode b_LW_law 398 = .ok (.iadd, 1) := by decide +kernel
theorem d_LW_law_399 : decode b_LW_law 399 = .ok (.iaload, 1) := by decide +kernel
theorem d_LW_law_400 : decode b_LW_law 400 = .ok (.invokevirtual 76, 3) := by decide +kernel
theorem d_LW_law_403 : decode b_LW_law 403 = .ok (.istore 6, 2) := by decide +kernel
theorem d_LW_law_405 : decode b_LW_law 405 = .ok (.aload_n 2, 1) := by decide +kernel
theorem d_LW_law_406 : decode b_LW_law 406 = .ok (.invokevirtual 47, 3) := by decide +kernel
theorem d_LW_law_409 : decode b_LW_law 409 = .ok (.iload 5, 2) := by decide +kernel
theorem d_LW_law_411 : decode b_LW_law 411 = .ok (.if_icmp .eq 5, 3) := by decide +kernel
theorem d_LW_law_414 : decode b_LW_law 414 = .ok (.iconst 0, 1) := by decide +kernel
theorem d_LW_law_415 : decode b_LW_law 415 = .ok (.ireturn, 1) := by decide +kernel
theorem d_LW_law_416 : decode b_LW_law 416 = .ok (.iload 5, 2) := by decide +kernel
theorem d_LW_law_418 : decode b_LW_law 418 = .ok (.ifCond .ne 15, 3) := by decide +kernel
theorem d_LW_law_421 : decode b_LW_law 421 = .ok (.aload_n 3, 1) := by decide +kernel
theorem d_LW_law_422 : decode b_LW_law 422 = .ok (.iconst 0, 1) := by decide +kernel
theorem d_LW_law_423 : decode b_LW_law 423 = .ok (.laload, 1) := by decide +kernel
theorem d_LW_law_424 : decode b_LW_law 424 = .ok (.iload 6, 2) := by decide +kernel
theorem d_LW_law_426 : decode b_LW_law 426 = .ok (.i2l, 1) := by decide +kernel
theorem d_LW_law_427 : decode b_LW_law 427 = .ok (.lcmp, 1) := by decide +kernel
theorem d_LW_law_428 : decode b_LW_law 428 = .ok (.ifCond .eq 5, 3) := by decide +kernel
theorem d_LW_law_431 : decode b_LW_law 431 = .ok (.iconst 0, 1) := by decide +kernel
theorem d_LW_law_432 : decode b_LW_law 432 = .ok (.ireturn, 1) := by decide +kernel
theorem d_LW_law_433 : decode b_LW_law 433 = .ok (.goto 242, 3) := by decide +kernel
theorem d_LW_law_436 : decode b_LW_law 436 = .ok (.aload_n 1, 1) := by decide +kernel
theorem d_LW_law_437 : decode b_LW_law 437 = .ok (.aload_n 0, 1) := by decide +kernel
theorem d_LW_law_438 : decode b_LW_law 438 = .ok (.iload 4, 2) := by decide +kernel
theorem d_LW_law_440 : decode b_LW_law 440 = .ok (.iconst 1, 1) := by decide +kernel
theorem d_LW_law_441 : decode b_LW_law 441 = .ok (.iadd, 1) := by decide +kernel
theorem d_LW_law_442 : decode b_LW_law 442 = .ok (.iaload, 1) := by decide +kernel
theorem d_LW_law_443 : decode b_LW_law 443 = .ok (.invokevirtual 77, 3) := by decide +kernel
theorem d_LW_law_446 : decode b_LW_law 446 = .ok (.aload_n 2, 1) := by decide +kernel
theorem d_LW_law_447 : decode b_LW_law 447 = .ok (.aload_n 0, 1) := by decide +kernel
theorem d_LW_law_448 : decode b_LW_law 448 = .ok (.iload 4, 2) := by decide +kernel
theorem d_LW_law_450 : decode b_LW_law 450 = .ok (.iconst 1, 1) := by decide +kernel
theorem d_LW_law_451 : decode b_LW_law 451 = .ok (.iadd, 1) := by decide +kernel
theorem d_LW_law_452 : decode b_LW_law 452 = .ok (.iaload, 1) := by decide +kernel
theorem d_LW_law_453 : decode b_LW_law 453 = .ok (.invokevirtual 80, 3) := by decide +kernel
theorem d_LW_law_456 : decode b_LW_law 456 = .ok (.if_icmp .eq 219, 3) := by decide +kernel
theorem d_LW_law_459 : decode b_LW_law 459 = .ok (.iconst 0, 1) := by decide +kernel
theorem d_LW_law_460 : decode b_LW_law 460 = .ok (.ireturn, 1) := by decide +kernel
theorem d_LW_law_461 : decode b_LW_law 461 = .ok (.aload_n 1, 1) := by decide +kernel
theorem d_LW_law_462 : decode b_LW_law 462 = .ok (.aload_n 0, 1) := by decide +kernel
theorem d_LW_law_463 : decode b_LW_law 463 = .ok (.iload 4, 2) := by decide +kernel
theorem d_LW_law_465 : decode b_LW_law 465 = .ok (.iconst 1, 1) := by decide +kernel
theorem d_LW_law_466 : decode b_LW_law 466 = .ok (.iadd, 1) := by decide +kernel
theorem d_LW_law_467 : decode b_LW_law 467 = .ok (.iaload, 1) := by decide +kernel
theorem d_LW_law_468 : decode b_LW_law 468 = .ok (.invokevirtual 81, 3) := by decide +kernel
theorem d_LW_law_471 : decode b_LW_law 471 = .ok (.aload_n 2, 1) := by decide +kernel
theorem d_LW_law_472 : decode b_LW_law 472 = .ok (.aload_n 0, 1) := by decide +kernel
theorem d_LW_law_473 : decode b_LW_law 473 = .ok (.iload 4, 2) := by decide +kernel
theorem d_LW_law_475 : decode b_LW_law 475 = .ok (.iconst 1, 1) := by decide +kernel
theorem d_LW_law_476 : decode b_LW_law 476 = .ok (.iadd, 1) := by decide +kernel
theorem d_LW_law_477 : decode b_LW_law 477 = .ok (.iaload, 1) := by decide +kernel
theorem d_LW_law_478 : decode b_LW_law 478 = .ok (.invokevirtual 84, 3) := by decide +kernel
theorem d_LW_law_481 : decode b_LW_law 481 = .ok (.if_icmp .eq 194, 3) := by decide +kernel
theorem d_LW_law_484 : decode b_LW_law 484 = .ok (.iconst 0, 1) := by decide +kernel
theorem d_LW_law_485 : decode b_LW_law 485 = .ok (.ireturn, 1) := by decide +kernel
theorem d_LW_law_486 : decode b_LW_law 486 = .ok (.aload_n 1, 1) := by decide +kernel
theorem d_LW_law_487 : decode b_LW_law 487 = .ok (.aload_n 0, 1) := by decide +kernel
theorem d_LW_law_488 : decode b_LW_law 488 = .ok (.iload 4, 2) := by decide +kernel
theorem d_LW_law_490 : decode b_LW_law 490 = .ok (.iconst 1, 1) := by decide +kernel
theorem d_LW_law_491 : decode b_LW_law 491 = .ok (.iadd, 1) := by decide +kernel
theorem d_LW_law_492 : decode b_LW_law 492 = .ok (.iaload, 1) := by decide +kernel
theorem d_LW_law_493 : decode b_LW_law 493 = .ok (.aload_n 0, 1) := by decide +kernel
theorem d_LW_law_494 : decode b_LW_law 494 = .ok (.iload 4, 2) := by decide +kernel
theorem d_LW_law_496 : decode b_LW_law 496 = .ok (.iconst 2, 1) := by decide +kernel
theorem d_LW_law_497 : decode b_LW_law 497 = .ok (.iadd, 1) := by decide +kernel
theorem d_LW_law_498 : decode b_LW_law 498 = .ok (.iaload, 1) := by decide +kernel
theorem d_LW_law_499 : decode b_LW_law 499 = .ok (.aload_n 3, 1) := by decide +kernel
theorem d_LW_law_500 : decode b_LW_law 500 = .ok (.invokestatic 85, 3) := by decide +kernel
theorem d_LW_law_503 : decode b_LW_law 503 = .ok (.istore 5, 2) := by decide +kernel
theorem d_LW_law_505 : decode b_LW_law 505 = .ok (.aload_n 2, 1) := by decide +kernel
theorem d_LW_law_506 : decode b_LW_law 506 = .ok (.aload_n 0, 1) := by decide +kernel
theorem d_LW_law_507 : decode b_LW_law 507 = .ok (.iload 4, 2) := by decide +kernel
theorem d_LW_law_509 : decode b_LW_law 509 = .ok (.iconst 1, 1) := by decide +kernel
theorem d_LW_law_510 : decode b_LW_law 510 = .ok (.iadd, 1) := by decide +kernel
theorem d_LW_law_511 : decode b_LW_law 511 = .ok (.iaload, 1) := by decide +kernel
theorem d_LW_law_512 : decode b_LW_law 512 = .ok (.aload_n 0, 1) := by decide +kernel
theorem d_LW_law_513 : decode b_LW_law 513 = .ok (.iload 4, 2) := by decide +kernel
theorem d_LW_law_515 : decode b_LW_law 515 = .ok (.iconst 2, 1) := by decide +kernel
theorem d_LW_law_516 : decode b_LW_law 516 = .ok (.iadd, 1) := by decide +kernel
theorem d_LW_law_517 : decode b_LW_law 517 = .ok (.iaload, 1) := by decide +kernel
theorem d_LW_law_518 : decode b_LW_law 518 = .ok (.invokevirtual 88, 3) := by decide +kernel
theorem d_LW_law_521 : decode b_LW_law 521 = .ok (.istore 6, 2) := by decide +kernel
theorem d_LW_law_523 : decode b_LW_law 523 = .ok (.aload_n 2, 1) := by decide +kernel
theorem d_LW_law_524 : decode b_LW_law 524 = .ok (.invokevirtual 47, 3) := by decide +kernel
theorem d_LW_law_527 : decode b_LW_law 527 = .ok (.iload 5, 2) := by decide +kernel
theorem d_LW_law_529 : decode b_LW_law 529 = .ok (.if_icmp .eq 5, 3) := by decide +kernel
theorem d_LW_law_532 : decode b_LW_law 532 = .ok (.iconst 0, 1) := by decide +kernel
theorem d_LW_law_533 : decode b_LW_law 533 = .ok (.ireturn, 1) := by decide +kernel
theorem d_LW_law_534 : decode b_LW_law 534 = .ok (.iload 5, 2) := by decide +kernel
theorem d_LW_law_536 : decode b_LW_law 536 = .ok (.ifCond .ne 15, 3) := by decide +kernel
theorem d_LW_law_539 : decode b_LW_law 539 = .ok (.aload_n 3, 1) := by decide +kernel
theorem d_LW_law_540 : decode b_LW_law 540 = .ok (.iconst 0, 1) := by decide +kernel
theorem d_LW_law_541 : decode b_LW_law 541 = .ok (.laload, 1) := by decide +kernel
theorem d_LW_law_542 : decode b_LW_law 542 = .ok (.iload 6, 2) := by decide +kernel
theorem d_LW_law_544 : decode b_LW_law 544 = .ok (.i2l, 1) := by decide +kernel
theorem d_LW_law_545 : decode b_LW_law 545 = .ok (.lcmp, 1) := by decide +kernel
theorem d_LW_law_546 : decode b_LW_law 546 = .ok (.ifCond .eq 5, 3) := by decide +kernel
theorem d_LW_law_549 : decode b_LW_law 549 = .ok (.iconst 0, 1) := by decide +kernel
theorem d_LW_law_550 : decode b_LW_law 550 = .ok (.ireturn, 1) := by decide +kernel
theorem d_LW_law_551 : decode b_LW_law 551 = .ok (.goto 124, 3) := by decide +kernel
theorem d_LW_law_554 : decode b_LW_law 554 = .ok (.aload_n 1, 1) := by decide +kernel
theorem d_LW_law_555 : decode b_LW_law 555 = .ok (.aload_n 0, 1) := by decide +kernel
theorem d_LW_law_556 : decode b_LW_law 556 = .ok (.iload 4, 2) := by decide +kernel
theorem d_LW_law_558 : decode b_LW_law 558 = .ok (.iconst 1, 1) := by decide +kernel
theorem d_LW_law_559 : decode b_LW_law 559 = .ok (.iadd, 1) := by decide +kernel
theorem d_LW_law_560 : decode b_LW_law 560 = .ok (.iaload, 1) := by decide +kernel
theorem d_LW_law_561 : decode b_LW_law 561 = .ok (.invokevirtual 89, 3) := by decide +kernel
theorem d_LW_law_564 : decode b_LW_law 564 = .ok (.aload_n 2, 1) := by decide +kernel
theorem d_LW_law_565 : decode b_LW_law 565 = .ok (.aload_n 0, 1) := by decide +kernel
theorem d_LW_law_566 : decode b_LW_law 566 = .ok (.iload 4, 2) := by decide +kernel
theorem d_LW_law_568 : decode b_LW_law 568 = .ok (.iconst 1, 1) := by decide +kernel
theorem d_LW_law_569 : decode b_LW_law 569 = .ok (.iadd, 1) := by decide +kernel
theorem d_LW_law_570 : decode b_LW_law 570 = .ok (.iaload, 1) := by decide +kernel
theorem d_LW_law_571 : decode b_LW_law 571 = .ok (.invokevirtual 92, 3) := by decide +kernel
theorem d_LW_law_574 : decode b_LW_law 574 = .ok (.if_icmp .eq 101, 3) := by decide +kernel
theorem d_LW_law_577 : decode b_LW_law 577 = .ok (.iconst 0, 1) := by decide +kernel
theorem d_LW_law_578 : decode b_LW_law 578 = .ok (.ireturn, 1) := by decide +kernel
theorem d_LW_law_579 : decode b_LW_law 579 = .ok (.aload_n 1, 1) := by decide +kernel
theorem d_LW_law_580 : decode b_LW_law 580 = .ok (.aload_n 0, 1) := by decide +kernel
theorem d_LW_law_581 : decode b_LW_law 581 = .ok (.iload 4, 2) := by decide +kernel
theorem d_LW_law_583 : decode b_LW_law 583 = .ok (.iconst 1, 1) := by decide +kernel
theorem d_LW_law_584 : decode b_LW_law 584 = .ok (.iadd, 1) := by decide +kernel
theorem d_LW_law_585 : decode b_LW_law 585 = .ok (.iaload, 1) := by decide +kernel
theorem d_LW_law_586 : decode b_LW_law 586 = .ok (.invokevirtual 93, 3) := by decide +kernel
theorem d_LW_law_589 : decode b_LW_law 589 = .ok (.aload_n 2, 1) := by decide +kernel
theorem d_LW_law_590 : decode b_LW_law 590 = .ok (.aload_n 0, 1) := by decide +kernel
theorem d_LW_law_591 : decode b_LW_law 591 = .ok (.iload 4, 2) := by decide +kernel
theorem d_LW_law_593 : decode b_LW_law 593 = .ok (.iconst 1, 1) := by decide +kernel
theorem d_LW_law_594 : decode b_LW_law 594 = .ok (.iadd, 1) := by decide +kernel
theorem d_LW_law_595 : decode b_LW_law 595 = .ok (.iaload, 1) := by decide +kernel
theorem d_LW_law_596 : decode b_LW_law 596 = .ok (.invokevirtual 96, 3) := by decide +kernel
theorem d_LW_law_599 : decode b_LW_law 599 = .ok (.if_icmp .eq 76, 3) := by decide +kernel
theorem d_LW_law_602 : decode b_LW_law 602 = .ok (.iconst 0, 1) := by decide +kernel
theorem d_LW_law_603 : decode b_LW_law 603 = .ok (.ireturn, 1) := by decide +kernel
theorem d_LW_law_604 : decode b_LW_law 604 = .ok (.aload_n 1, 1) := by decide +kernel
theorem d_LW_law_605 : decode b_LW_law 605 = .ok (.aload_n 0, 1) := by decide +kernel
theorem d_LW_law_606 : decode b_LW_law 606 = .ok (.iload 4, 2) := by decide +kernel
theorem d_LW_law_608 : decode b_LW_law 608 = .ok (.iconst 1, 1) := by decide +kernel
theorem d_LW_law_609 : decode b_LW_law 609 = .ok (.iadd, 1) := by decide +kernel
theorem d_LW_law_610 : decode b_LW_law 610 = .ok (.iaload, 1) := by decide +kernel
theorem d_LW_law_611 : decode b_LW_law 611 = .ok (.i2c, 1) := by decide +kernel
theorem d_LW_law_612 : decode b_LW_law 612 = .ok (.invokevirtual 97, 3) := by decide +kernel
theorem d_LW_law_615 : decode b_LW_law 615 = .ok (.aload_n 2, 1) := by decide +kernel
theorem d_LW_law_616 : decode b_LW_law 616 = .ok (.aload_n 0, 1) := by decide +kernel
theorem d_LW_law_617 : decode b_LW_law 617 = .ok (.iload 4, 2) := by decide +kernel
theorem d_LW_law_619 : decode b_LW_law 619 = .ok (.iconst 1, 1) := by decide +kernel
theorem d_LW_law_620 : decode b_LW_law 620 = .ok (.iadd, 1) := by decide +kernel
theorem d_LW_law_621 : decode b_LW_law 621 = .ok (.iaload, 1) := by decide +kernel
theorem d_LW_law_622 : decode b_LW_law 622 = .ok (.i2c, 1) := by decide +kernel
theorem d_LW_law_623 : decode b_LW_law 623 = .ok (.invokevirtual 101, 3) := by decide +kernel
theorem d_LW_law_626 : decode b_LW_law 626 = .ok (.if_icmp .eq 49, 3) := by decide +kernel
theorem d_LW_law_629 : decode b_LW_law 629 = .ok (.iconst 0, 1) := by decide +kernel
theorem d_LW_law_630 : decode b_LW_law 630 = .ok (.ireturn, 1) := by decide +kernel
theorem d_LW_law_631 : decode b_LW_law 631 = .ok (.aload_n 1, 1) := by decide +kernel
theorem d_LW_law_632 : decode b_LW_law 632 = .ok (.aload_n 3, 1) := by decide +kernel
theorem d_LW_law_633 : decode b_LW_law 633 = .ok (.invokestatic 102, 3) := by decide +kernel
theorem d_LW_law_636 : decode b_LW_law 636 = .ok (.istore 5, 2) := by decide +kernel
theorem d_LW_law_638 : decode b_LW_law 638 = .ok (.aload_n 2, 1) := by decide +kernel
theorem d_LW_law_639 : decode b_LW_law 639 = .ok (.invokevirtual 105, 3) := by decide +kernel
theorem d_LW_law_642 : decode b_LW_law 642 = .ok (.istore 6, 2) := by decide +kernel
theorem d_LW_law_644 : decode b_LW_law 644 = .ok (.aload_n 2, 1) := by decide +kernel
theorem d_LW_law_645 : decode b_LW_law 645 = .ok (.invokevirtual 47, 3) := by decide +kernel
theorem d_LW_law_648 : decode b_LW_law 648 = .ok (.iload 5, 2) := by decide +kernel
theorem d_LW_law_650 : decode b_LW_law 650 = .ok (.if_icmp .eq 5, 3) := by decide +kernel
theorem d_LW_law_653 : decode b_LW_law 653 = .ok (.iconst 0, 1) := by decide +kernel
theorem d_LW_law_654 : decode b_LW_law 654 = .ok (.ireturn, 1) := by decide +kernel
theorem d_LW_law_655 : decode b_LW_law 655 = .ok (.iload 5, 2) := by decide +kernel
theorem d_LW_law_657 : decode b_LW_law 657 = .ok (.ifCond .ne 15, 3) := by decide +kernel
theorem d_LW_law_660 : decode b_LW_law 660 = .ok (.aload_n 3, 1) := by decide +kernel
theorem d_LW_law_661 : decode b_LW_law 661 = .ok (.iconst 0, 1) := by decide +kernel
theorem d_LW_law_662 : decode b_LW_law 662 = .ok (.laload, 1) := by decide +kernel
theorem d_LW_law_663 : decode b_LW_law 663 = .ok (.iload 6, 2) := by decide +kernel
theorem d_LW_law_665 : decode b_LW_law 665 = .ok (.i2l, 1) := by decide +kernel
theorem d_LW_law_666 : decode b_LW_law 666 = .ok (.lcmp, 1) := by decide +kernel
theorem d_LW_law_667 : decode b_LW_law 667 = .ok (.ifCond .eq 5, 3) := by decide +kernel
theorem d_LW_law_670 : decode b_LW_law 670 = .ok (.iconst 0, 1) := by decide +kernel
theorem d_LW_law_671 : decode b_LW_law 671 = .ok (.ireturn, 1) := by decide +kernel
theorem d_LW_law_672 : decode b_LW_law 672 = .ok (.goto 3, 3) := by decide +kernel
theorem d_LW_law_675 : decode b_LW_law 675 = .ok (.iinc 4 4, 3) := by decide +kernel
theorem d_LW_law_678 : decode b_LW_law 678 = .ok (.goto (-655), 3) := by decide +kernel
theorem d_LW_law_681 : decode b_LW_law 681 = .ok (.iconst 1, 1) := by decide +kernel
theorem d_LW_law_682 : decode b_LW_law 682 = .ok (.ireturn, 1) := by decide +kernel
