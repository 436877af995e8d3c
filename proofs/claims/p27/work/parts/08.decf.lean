set_option maxRecDepth 20000 in
theorem pl_decf_0 : ((bqT tcL_law_0 0 187 && bqT tcL_law_0 1 0 && bqT tcL_law_0 2 7 && (0 * 256 + 7 == 7)) = true) ∧ (bqT tcL_law_0 3 89 = true) ∧ ((bqT tcL_law_0 4 183 && bqT tcL_law_0 5 0 && bqT tcL_law_0 6 9 && (0 * 256 + 9 == 9)) = true) ∧ (bqT tcL_law_0 7 76 = true) ∧ ((bqT tcL_law_0 8 187 && bqT tcL_law_0 9 0 && bqT tcL_law_0 10 10 && (0 * 256 + 10 == 10)) = true) ∧ (bqT tcL_law_0 11 89 = true) ∧ ((bqT tcL_law_0 12 183 && bqT tcL_law_0 13 0 && bqT tcL_law_0 14 12 && (0 * 256 + 12 == 12)) = true) ∧ (bqT tcL_law_0 15 77 = true) ∧ (bqT tcL_law_1 0 3 = true) ∧ (bqT tcL_law_1 1 62 = true) ∧ (bqT tcL_law_1 2 29 = true) ∧ (bqT tcL_law_1 3 42 = true) ∧ (bqT tcL_law_1 4 190 = true) ∧ (bqT tcL_law_1 5 7 = true) ∧ (bqT tcL_law_1 6 100 = true) ∧ ((bqT tcL_law_1 7 163 && bqT tcL_law_1 8 3 && bqT tcL_law_1 9 239 && (Reader.signed 16 (3 * 256 + 239) == 1007)) = true) ∧ (bqT tcL_law_1 10 42 = true) ∧ (bqT tcL_law_1 11 29 = true) ∧ (bqT tcL_law_1 12 46 = true) ∧ ((bqT tcL_law_1 13 16 && bqT tcL_law_1 14 31 && (Reader.signed 8 31 == 31)) = true) ∧ (bqT tcL_law_1 15 126 = true) := by decide +kernel
theorem dL_law_0 : decode cL_law 0 = .ok (.new 7, 3) := dt_187 (i := 0) (p := 0) gcL_law_0 0 7 pl_decf_0.1
theorem dL_law_3 : decode cL_law 3 = .ok (.dup, 1) := dt_89 (i := 3) (p := 0) gcL_law_0 pl_decf_0.2.1
theorem dL_law_4 : decode cL_law 4 = .ok (.invokespecial 9, 3) := dt_183 (i := 4) (p := 0) gcL_law_0 0 9 pl_decf_0.2.2.1
theorem dL_law_7 : decode cL_law 7 = .ok (.astore_n 1, 1) := dt_76 (i := 7) (p := 0) gcL_law_0 pl_decf_0.2.2.2.1
theorem dL_law_8 : decode cL_law 8 = .ok (.new 10, 3) := dt_187 (i := 8) (p := 0) gcL_law_0 0 10 pl_decf_0.2.2.2.2.1
theorem dL_law_11 : decode cL_law 11 = .ok (.dup, 1) := dt_89 (i := 11) (p := 0) gcL_law_0 pl_decf_0.2.2.2.2.2.1
theorem dL_law_12 : decode cL_law 12 = .ok (.invokespecial 12, 3) := dt_183 (i := 12) (p := 0) gcL_law_0 0 12 pl_decf_0.2.2.2.2.2.2.1
theorem dL_law_15 : decode cL_law 15 = .ok (.astore_n 2, 1) := dt_77 (i := 15) (p := 0) gcL_law_0 pl_decf_0.2.2.2.2.2.2.2.1
theorem dL_law_16 : decode cL_law 16 = .ok (.iconst 0, 1) := dt_3 (i := 0) (p := 16) gcL_law_1 pl_decf_0.2.2.2.2.2.2.2.2.1
theorem dL_law_17 : decode cL_law 17 = .ok (.istore_n 3, 1) := dt_62 (i := 1) (p := 16) gcL_law_1 pl_decf_0.2.2.2.2.2.2.2.2.2.1
theorem dL_law_18 : decode cL_law 18 = .ok (.iload_n 3, 1) := dt_29 (i := 2) (p := 16) gcL_law_1 pl_decf_0.2.2.2.2.2.2.2.2.2.2.1
theorem dL_law_19 : decode cL_law 19 = .ok (.aload_n 0, 1) := dt_42 (i := 3) (p := 16) gcL_law_1 pl_decf_0.2.2.2.2.2.2.2.2.2.2.2.1
theorem dL_law_20 : decode cL_law 20 = .ok (.arraylength, 1) := dt_190 (i := 4) (p := 16) gcL_law_1 pl_decf_0.2.2.2.2.2.2.2.2.2.2.2.2.1
theorem dL_law_21 : decode cL_law 21 = .ok (.iconst 4, 1) := dt_7 (i := 5) (p := 16) gcL_law_1 pl_decf_0.2.2.2.2.2.2.2.2.2.2.2.2.2.1
theorem dL_law_22 : decode cL_law 22 = .ok (.isub, 1) := dt_100 (i := 6) (p := 16) gcL_law_1 pl_decf_0.2.2.2.2.2.2.2.2.2.2.2.2.2.2.1
theorem dL_law_23 : decode cL_law 23 = .ok (.if_icmp .gt 1007, 3) := dt_163 (i := 7) (p := 16) gcL_law_1 3 239 pl_decf_0.2.2.2.2.2.2.2.2.2.2.2.2.2.2.2.1
theorem dL_law_26 : decode cL_law 26 = .ok (.aload_n 0, 1) := dt_42 (i := 10) (p := 16) gcL_law_1 pl_decf_0.2.2.2.2.2.2.2.2.2.2.2.2.2.2.2.2.1
theorem dL_law_27 : decode cL_law 27 = .ok (.iload_n 3, 1) := dt_29 (i := 11) (p := 16) gcL_law_1 pl_decf_0.2.2.2.2.2.2.2.2.2.2.2.2.2.2.2.2.2.1
theorem dL_law_28 : decode cL_law 28 = .ok (.iaload, 1) := dt_46 (i := 12) (p := 16) gcL_law_1 pl_decf_0.2.2.2.2.2.2.2.2.2.2.2.2.2.2.2.2.2.2.1
theorem dL_law_29 : decode cL_law 29 = .ok (.bipush 31, 2) := dt_16 (i := 13) (p := 16) gcL_law_1 31 pl_decf_0.2.2.2.2.2.2.2.2.2.2.2.2.2.2.2.2.2.2.2.1
theorem dL_law_31 : decode cL_law 31 = .ok (.iand, 1) := dt_126 (i := 15) (p := 16) gcL_law_1 pl_decf_0.2.2.2.2.2.2.2.2.2.2.2.2.2.2.2.2.2.2.2.2
theorem dL_law_32 : decode cL_law 32 = .ok (.tableswitch 992 0 27 #[128, 191, 204, 227, 260, 283, 306, 339, 372, 415, 448, 471, 504, 527, 540, 573, 616, 659, 692, 725, 748, 771, 804, 837, 880, 923, 956, 979], 128) := by decide +kernel
set_option maxRecDepth 20000 in
theorem pl_decf_1 : (bqT tcL_law_10 0 43 = true) ∧ (bqT tcL_law_10 1 42 = true) ∧ (bqT tcL_law_10 2 29 = true) ∧ (bqT tcL_law_10 3 4 = true) ∧ (bqT tcL_law_10 4 96 = true) ∧ (bqT tcL_law_10 5 46 = true) ∧ (bqT tcL_law_10 6 133 = true) ∧ ((bqT tcL_law_10 7 16 && bqT tcL_law_10 8 32 && (Reader.signed 8 32 == 32)) = true) ∧ (bqT tcL_law_10 9 121 = true) ∧ (bqT tcL_law_10 10 42 = true) ∧ (bqT tcL_law_10 11 29 = true) ∧ (bqT tcL_law_10 12 5 = true) ∧ (bqT tcL_law_10 13 96 = true) ∧ (bqT tcL_law_10 14 46 = true) ∧ (bqT tcL_law_10 15 133 = true) ∧ ((bqT tcL_law_11 0 20 && bqT tcL_law_11 1 0 && bqT tcL_law_11 2 13 && (0 * 256 + 13 == 13)) = true) ∧ (bqT tcL_law_11 3 127 = true) ∧ (bqT tcL_law_11 4 129 = true) ∧ (bqT tcL_law_11 5 42 = true) ∧ (bqT tcL_law_11 6 29 = true) ∧ (bqT tcL_law_11 7 6 = true) ∧ (bqT tcL_law_11 8 96 = true) ∧ (bqT tcL_law_11 9 46 = true) ∧ ((bqT tcL_law_11 10 182 && bqT tcL_law_11 11 0 && bqT tcL_law_11 12 15 && (0 * 256 + 15 == 15)) = true) := by decide +kernel
theorem dL_law_160 : decode cL_law 160 = .ok (.aload_n 1, 1) := dt_43 (i := 0) (p := 160) gcL_law_10 pl_decf_1.1
theorem dL_law_161 : decode cL_law 161 = .ok (.aload_n 0, 1) := dt_42 (i := 1) (p := 160) gcL_law_10 pl_decf_1.2.1
theorem dL_law_162 : decode cL_law 162 = .ok (.iload_n 3, 1) := dt_29 (i := 2) (p := 160) gcL_law_10 pl_decf_1.2.2.1
theorem dL_law_163 : decode cL_law 163 = .ok (.iconst 1, 1) := dt_4 (i := 3) (p := 160) gcL_law_10 pl_decf_1.2.2.2.1
theorem dL_law_164 : decode cL_law 164 = .ok (.iadd, 1) := dt_96 (i := 4) (p := 160) gcL_law_10 pl_decf_1.2.2.2.2.1
theorem dL_law_165 : decode cL_law 165 = .ok (.iaload, 1) := dt_46 (i := 5) (p := 160) gcL_law_10 pl_decf_1.2.2.2.2.2.1
theorem dL_law_166 : decode cL_law 166 = .ok (.i2l, 1) := dt_133 (i := 6) (p := 160) gcL_law_10 pl_decf_1.2.2.2.2.2.2.1
theorem dL_law_167 : decode cL_law 167 = .ok (.bipush 32, 2) := dt_16 (i := 7) (p := 160) gcL_law_10 32 pl_decf_1.2.2.2.2.2.2.2.1
theorem dL_law_169 : decode cL_law 169 = .ok (.lshl, 1) := dt_121 (i := 9) (p := 160) gcL_law_10 pl_decf_1.2.2.2.2.2.2.2.2.1
theorem dL_law_170 : decode cL_law 170 = .ok (.aload_n 0, 1) := dt_42 (i := 10) (p := 160) gcL_law_10 pl_decf_1.2.2.2.2.2.2.2.2.2.1
theorem dL_law_171 : decode cL_law 171 = .ok (.iload_n 3, 1) := dt_29 (i := 11) (p := 160) gcL_law_10 pl_decf_1.2.2.2.2.2.2.2.2.2.2.1
theorem dL_law_172 : decode cL_law 172 = .ok (.iconst 2, 1) := dt_5 (i := 12) (p := 160) gcL_law_10 pl_decf_1.2.2.2.2.2.2.2.2.2.2.2.1
theorem dL_law_173 : decode cL_law 173 = .ok (.iadd, 1) := dt_96 (i := 13) (p := 160) gcL_law_10 pl_decf_1.2.2.2.2.2.2.2.2.2.2.2.2.1
theorem dL_law_174 : decode cL_law 174 = .ok (.iaload, 1) := dt_46 (i := 14) (p := 160) gcL_law_10 pl_decf_1.2.2.2.2.2.2.2.2.2.2.2.2.2.1
theorem dL_law_175 : decode cL_law 175 = .ok (.i2l, 1) := dt_133 (i := 15) (p := 160) gcL_law_10 pl_decf_1.2.2.2.2.2.2.2.2.2.2.2.2.2.2.1
theorem dL_law_176 : decode cL_law 176 = .ok (.ldc2_w 13, 3) := dt_20 (i := 0) (p := 176) gcL_law_11 0 13 pl_decf_1.2.2.2.2.2.2.2.2.2.2.2.2.2.2.2.1
theorem dL_law_179 : decode cL_law 179 = .ok (.land, 1) := dt_127 (i := 3) (p := 176) gcL_law_11 pl_decf_1.2.2.2.2.2.2.2.2.2.2.2.2.2.2.2.2.1
theorem dL_law_180 : decode cL_law 180 = .ok (.lor, 1) := dt_129 (i := 4) (p := 176) gcL_law_11 pl_decf_1.2.2.2.2.2.2.2.2.2.2.2.2.2.2.2.2.2.1
theorem dL_law_181 : decode cL_law 181 = .ok (.aload_n 0, 1) := dt_42 (i := 5) (p := 176) gcL_law_11 pl_decf_1.2.2.2.2.2.2.2.2.2.2.2.2.2.2.2.2.2.2.1
theorem dL_law_182 : decode cL_law 182 = .ok (.iload_n 3, 1) := dt_29 (i := 6) (p := 176) gcL_law_11 pl_decf_1.2.2.2.2.2.2.2.2.2.2.2.2.2.2.2.2.2.2.2.1
theorem dL_law_183 : decode cL_law 183 = .ok (.iconst 3, 1) := dt_6 (i := 7) (p := 176) gcL_law_11 pl_decf_1.2.2.2.2.2.2.2.2.2.2.2.2.2.2.2.2.2.2.2.2.1
theorem dL_law_184 : decode cL_law 184 = .ok (.iadd, 1) := dt_96 (i := 8) (p := 176) gcL_law_11 pl_decf_1.2.2.2.2.2.2.2.2.2.2.2.2.2.2.2.2.2.2.2.2.2.1
theorem dL_law_185 : decode cL_law 185 = .ok (.iaload, 1) := dt_46 (i := 9) (p := 176) gcL_law_11 pl_decf_1.2.2.2.2.2.2.2.2.2.2.2.2.2.2.2.2.2.2.2.2.2.2.1
theorem dL_law_186 : decode cL_law 186 = .ok (.invokevirtual 15, 3) := dt_182 (i := 10) (p := 176) gcL_law_11 0 15 pl_decf_1.2.2.2.2.2.2.2.2.2.2.2.2.2.2.2.2.2.2.2.2.2.2.2
set_option maxRecDepth 20000 in
theorem pl_decf_2 : (bqT tcL_law_11 13 87 = true) ∧ (bqT tcL_law_11 14 44 = true) ∧ (bqT tcL_law_11 15 42 = true) ∧ (bqT tcL_law_12 0 29 = true) ∧ (bqT tcL_law_12 1 4 = true) ∧ (bqT tcL_law_12 2 96 = true) ∧ (bqT tcL_law_12 3 46 = true) ∧ (bqT tcL_law_12 4 133 = true) ∧ ((bqT tcL_law_12 5 16 && bqT tcL_law_12 6 32 && (Reader.signed 8 32 == 32)) = true) ∧ (bqT tcL_law_12 7 121 = true) ∧ (bqT tcL_law_12 8 42 = true) ∧ (bqT tcL_law_12 9 29 = true) ∧ (bqT tcL_law_12 10 5 = true) ∧ (bqT tcL_law_12 11 96 = true) ∧ (bqT tcL_law_12 12 46 = true) ∧ (bqT tcL_law_12 13 133 = true) ∧ ((bqT tcL_law_12 14 20 && bqT tcL_law_12 15 0 && bqT tcL_law_12 16 13 && (0 * 256 + 13 == 13)) = true) ∧ (bqT tcL_law_13 1 127 = true) ∧ (bqT tcL_law_13 2 129 = true) ∧ (bqT tcL_law_13 3 42 = true) ∧ (bqT tcL_law_13 4 29 = true) ∧ (bqT tcL_law_13 5 6 = true) ∧ (bqT tcL_law_13 6 96 = true) ∧ (bqT tcL_law_13 7 46 = true) := by decide +kernel
theorem dL_law_189 : decode cL_law 189 = .ok (.pop, 1) := dt_87 (i := 13) (p := 176) gcL_law_11 pl_decf_2.1
theorem dL_law_190 : decode cL_law 190 = .ok (.aload_n 2, 1) := dt_44 (i := 14) (p := 176) gcL_law_11 pl_decf_2.2.1
theorem dL_law_191 : decode cL_law 191 = .ok (.aload_n 0, 1) := dt_42 (i := 15) (p := 176) gcL_law_11 pl_decf_2.2.2.1
theorem dL_law_192 : decode cL_law 192 = .ok (.iload_n 3, 1) := dt_29 (i := 0) (p := 192) gcL_law_12 pl_decf_2.2.2.2.1
theorem dL_law_193 : decode cL_law 193 = .ok (.iconst 1, 1) := dt_4 (i := 1) (p := 192) gcL_law_12 pl_decf_2.2.2.2.2.1
theorem dL_law_194 : decode cL_law 194 = .ok (.iadd, 1) := dt_96 (i := 2) (p := 192) gcL_law_12 pl_decf_2.2.2.2.2.2.1
theorem dL_law_195 : decode cL_law 195 = .ok (.iaload, 1) := dt_46 (i := 3) (p := 192) gcL_law_12 pl_decf_2.2.2.2.2.2.2.1
theorem dL_law_196 : decode cL_law 196 = .ok (.i2l, 1) := dt_133 (i := 4) (p := 192) gcL_law_12 pl_decf_2.2.2.2.2.2.2.2.1
theorem dL_law_197 : decode cL_law 197 = .ok (.bipush 32, 2) := dt_16 (i := 5) (p := 192) gcL_law_12 32 pl_decf_2.2.2.2.2.2.2.2.2.1
theorem dL_law_199 : decode cL_law 199 = .ok (.lshl, 1) := dt_121 (i := 7) (p := 192) gcL_law_12 pl_decf_2.2.2.2.2.2.2.2.2.2.1
theorem dL_law_200 : decode cL_law 200 = .ok (.aload_n 0, 1) := dt_42 (i := 8) (p := 192) gcL_law_12 pl_decf_2.2.2.2.2.2.2.2.2.2.2.1
theorem dL_law_201 : decode cL_law 201 = .ok (.iload_n 3, 1) := dt_29 (i := 9) (p := 192) gcL_law_12 pl_decf_2.2.2.2.2.2.2.2.2.2.2.2.1
theorem dL_law_202 : decode cL_law 202 = .ok (.iconst 2, 1) := dt_5 (i := 10) (p := 192) gcL_law_12 pl_decf_2.2.2.2.2.2.2.2.2.2.2.2.2.1
theorem dL_law_203 : decode cL_law 203 = .ok (.iadd, 1) := dt_96 (i := 11) (p := 192) gcL_law_12 pl_decf_2.2.2.2.2.2.2.2.2.2.2.2.2.2.1
theorem dL_law_204 : decode cL_law 204 = .ok (.iaload, 1) := dt_46 (i := 12) (p := 192) gcL_law_12 pl_decf_2.2.2.2.2.2.2.2.2.2.2.2.2.2.2.1
theorem dL_law_205 : decode cL_law 205 = .ok (.i2l, 1) := dt_133 (i := 13) (p := 192) gcL_law_12 pl_decf_2.2.2.2.2.2.2.2.2.2.2.2.2.2.2.2.1
theorem dL_law_206 : decode cL_law 206 = .ok (.ldc2_w 13, 3) := dt_20 (i := 14) (p := 192) gcL_law_12 0 13 pl_decf_2.2.2.2.2.2.2.2.2.2.2.2.2.2.2.2.2.1
theorem dL_law_209 : decode cL_law 209 = .ok (.land, 1) := dt_127 (i := 1) (p := 208) gcL_law_13 pl_decf_2.2.2.2.2.2.2.2.2.2.2.2.2.2.2.2.2.2.1
theorem dL_law_210 : decode cL_law 210 = .ok (.lor, 1) := dt_129 (i := 2) (p := 208) gcL_law_13 pl_decf_2.2.2.2.2.2.2.2.2.2.2.2.2.2.2.2.2.2.2.1
theorem dL_law_211 : decode cL_law 211 = .ok (.aload_n 0, 1) := dt_42 (i := 3) (p := 208) gcL_law_13 pl_decf_2.2.2.2.2.2.2.2.2.2.2.2.2.2.2.2.2.2.2.2.1
theorem dL_law_212 : decode cL_law 212 = .ok (.iload_n 3, 1) := dt_29 (i := 4) (p := 208) gcL_law_13 pl_decf_2.2.2.2.2.2.2.2.2.2.2.2.2.2.2.2.2.2.2.2.2.1
theorem dL_law_213 : decode cL_law 213 = .ok (.iconst 3, 1) := dt_6 (i := 5) (p := 208) gcL_law_13 pl_decf_2.2.2.2.2.2.2.2.2.2.2.2.2.2.2.2.2.2.2.2.2.2.1
theorem dL_law_214 : decode cL_law 214 = .ok (.iadd, 1) := dt_96 (i := 6) (p := 208) gcL_law_13 pl_decf_2.2.2.2.2.2.2.2.2.2.2.2.2.2.2.2.2.2.2.2.2.2.2.1
theorem dL_law_215 : decode cL_law 215 = .ok (.iaload, 1) := dt_46 (i := 7) (p := 208) gcL_law_13 pl_decf_2.2.2.2.2.2.2.2.2.2.2.2.2.2.2.2.2.2.2.2.2.2.2.2
set_option maxRecDepth 20000 in
theorem pl_decf_3 : ((bqT tcL_law_13 8 182 && bqT tcL_law_13 9 0 && bqT tcL_law_13 10 19 && (0 * 256 + 19 == 19)) = true) ∧ (bqT tcL_law_13 11 87 = true) ∧ ((bqT tcL_law_13 12 167 && bqT tcL_law_13 13 3 && bqT tcL_law_13 14 36 && (Reader.signed 16 (3 * 256 + 36) == 804)) = true) ∧ (bqT tcL_law_13 15 43 = true) ∧ ((bqT tcL_law_14 0 182 && bqT tcL_law_14 1 0 && bqT tcL_law_14 2 20 && (0 * 256 + 20 == 20)) = true) ∧ (bqT tcL_law_14 3 87 = true) ∧ (bqT tcL_law_14 4 44 = true) ∧ ((bqT tcL_law_14 5 182 && bqT tcL_law_14 6 0 && bqT tcL_law_14 7 24 && (0 * 256 + 24 == 24)) = true) ∧ (bqT tcL_law_14 8 87 = true) ∧ ((bqT tcL_law_14 9 167 && bqT tcL_law_14 10 3 && bqT tcL_law_14 11 23 && (Reader.signed 16 (3 * 256 + 23) == 791)) = true) ∧ (bqT tcL_law_14 12 43 = true) ∧ (bqT tcL_law_14 13 42 = true) ∧ (bqT tcL_law_14 14 29 = true) ∧ (bqT tcL_law_14 15 4 = true) ∧ (bqT tcL_law_15 0 96 = true) ∧ (bqT tcL_law_15 1 46 = true) ∧ ((bqT tcL_law_15 2 182 && bqT tcL_law_15 3 0 && bqT tcL_law_15 4 25 && (0 * 256 + 25 == 25)) = true) ∧ (bqT tcL_law_15 5 87 = true) ∧ (bqT tcL_law_15 6 44 = true) ∧ (bqT tcL_law_15 7 42 = true) ∧ (bqT tcL_law_15 8 29 = true) ∧ (bqT tcL_law_15 9 4 = true) ∧ (bqT tcL_law_15 10 96 = true) ∧ (bqT tcL_law_15 11 46 = true) := by decide +kernel
theorem dL_law_216 : decode cL_law 216 = .ok (.invokevirtual 19, 3) := dt_182 (i := 8) (p := 208) gcL_law_13 0 19 pl_decf_3.1
theorem dL_law_219 : decode cL_law 219 = .ok (.pop, 1) := dt_87 (i := 11) (p := 208) gcL_law_13 pl_decf_3.2.1
theorem dL_law_220 : decode cL_law 220 = .ok (.goto 804, 3) := dt_167 (i := 12) (p := 208) gcL_law_13 3 36 pl_decf_3.2.2.1
theorem dL_law_223 : decode cL_law 223 = .ok (.aload_n 1, 1) := dt_43 (i := 15) (p := 208) gcL_law_13 pl_decf_3.2.2.2.1
theorem dL_law_224 : decode cL_law 224 = .ok (.invokevirtual 20, 3) := dt_182 (i := 0) (p := 224) gcL_law_14 0 20 pl_decf_3.2.2.2.2.1
theorem dL_law_227 : decode cL_law 227 = .ok (.pop, 1) := dt_87 (i := 3) (p := 224) gcL_law_14 pl_decf_3.2.2.2.2.2.1
theorem dL_law_228 : decode cL_law 228 = .ok (.aload_n 2, 1) := dt_44 (i := 4) (p := 224) gcL_law_14 pl_decf_3.2.2.2.2.2.2.1
theorem dL_law_229 : decode cL_law 229 = .ok (.invokevirtual 24, 3) := dt_182 (i := 5) (p := 224) gcL_law_14 0 24 pl_decf_3.2.2.2.2.2.2.2.1
theorem dL_law_232 : decode cL_law 232 = .ok (.pop, 1) := dt_87 (i := 8) (p := 224) gcL_law_14 pl_decf_3.2.2.2.2.2.2.2.2.1
theorem dL_law_233 : decode cL_law 233 = .ok (.goto 791, 3) := dt_167 (i := 9) (p := 224) gcL_law_14 3 23 pl_decf_3.2.2.2.2.2.2.2.2.2.1
theorem dL_law_236 : decode cL_law 236 = .ok (.aload_n 1, 1) := dt_43 (i := 12) (p := 224) gcL_law_14 pl_decf_3.2.2.2.2.2.2.2.2.2.2.1
theorem dL_law_237 : decode cL_law 237 = .ok (.aload_n 0, 1) := dt_42 (i := 13) (p := 224) gcL_law_14 pl_decf_3.2.2.2.2.2.2.2.2.2.2.2.1
theorem dL_law_238 : decode cL_law 238 = .ok (.iload_n 3, 1) := dt_29 (i := 14) (p := 224) gcL_law_14 pl_decf_3.2.2.2.2.2.2.2.2.2.2.2.2.1
theorem dL_law_239 : decode cL_law 239 = .ok (.iconst 1, 1) := dt_4 (i := 15) (p := 224) gcL_law_14 pl_decf_3.2.2.2.2.2.2.2.2.2.2.2.2.2.1
theorem dL_law_240 : decode cL_law 240 = .ok (.iadd, 1) := dt_96 (i := 0) (p := 240) gcL_law_15 pl_decf_3.2.2.2.2.2.2.2.2.2.2.2.2.2.2.1
theorem dL_law_241 : decode cL_law 241 = .ok (.iaload, 1) := dt_46 (i := 1) (p := 240) gcL_law_15 pl_decf_3.2.2.2.2.2.2.2.2.2.2.2.2.2.2.2.1
theorem dL_law_242 : decode cL_law 242 = .ok (.invokevirtual 25, 3) := dt_182 (i := 2) (p := 240) gcL_law_15 0 25 pl_decf_3.2.2.2.2.2.2.2.2.2.2.2.2.2.2.2.2.1
theorem dL_law_245 : decode cL_law 245 = .ok (.pop, 1) := dt_87 (i := 5) (p := 240) gcL_law_15 pl_decf_3.2.2.2.2.2.2.2.2.2.2.2.2.2.2.2.2.2.1
theorem dL_law_246 : decode cL_law 246 = .ok (.aload_n 2, 1) := dt_44 (i := 6) (p := 240) gcL_law_15 pl_decf_3.2.2.2.2.2.2.2.2.2.2.2.2.2.2.2.2.2.2.1
theorem dL_law_247 : decode cL_law 247 = .ok (.aload_n 0, 1) := dt_42 (i := 7) (p := 240) gcL_law_15 pl_decf_3.2.2.2.2.2.2.2.2.2.2.2.2.2.2.2.2.2.2.2.1
theorem dL_law_248 : decode cL_law 248 = .ok (.iload_n 3, 1) := dt_29 (i := 8) (p := 240) gcL_law_15 pl_decf_3.2.2.2.2.2.2.2.2.2.2.2.2.2.2.2.2.2.2.2.2.1
theorem dL_law_249 : decode cL_law 249 = .ok (.iconst 1, 1) := dt_4 (i := 9) (p := 240) gcL_law_15 pl_decf_3.2.2.2.2.2.2.2.2.2.2.2.2.2.2.2.2.2.2.2.2.2.1
theorem dL_law_250 : decode cL_law 250 = .ok (.iadd, 1) := dt_96 (i := 10) (p := 240) gcL_law_15 pl_decf_3.2.2.2.2.2.2.2.2.2.2.2.2.2.2.2.2.2.2.2.2.2.2.1
theorem dL_law_251 : decode cL_law 251 = .ok (.iaload, 1) := dt_46 (i := 11) (p := 240) gcL_law_15 pl_decf_3.2.2.2.2.2.2.2.2.2.2.2.2.2.2.2.2.2.2.2.2.2.2.2
set_option maxRecDepth 20000 in
theorem pl_decf_4 : ((bqT tcL_law_15 12 182 && bqT tcL_law_15 13 0 && bqT tcL_law_15 14 29 && (0 * 256 + 29 == 29)) = true) ∧ (bqT tcL_law_15 15 87 = true) ∧ ((bqT tcL_law_16 0 167 && bqT tcL_law_16 1 3 && bqT tcL_law_16 2 0 && (Reader.signed 16 (3 * 256 + 0) == 768)) = true) ∧ (bqT tcL_law_16 3 43 = true) ∧ (bqT tcL_law_16 4 42 = true) ∧ (bqT tcL_law_16 5 29 = true) ∧ (bqT tcL_law_16 6 4 = true) ∧ (bqT tcL_law_16 7 96 = true) ∧ (bqT tcL_law_16 8 46 = true) ∧ (bqT tcL_law_16 9 42 = true) ∧ (bqT tcL_law_16 10 29 = true) ∧ (bqT tcL_law_16 11 5 = true) ∧ (bqT tcL_law_16 12 96 = true) ∧ (bqT tcL_law_16 13 46 = true) ∧ ((bqT tcL_law_16 14 182 && bqT tcL_law_16 15 0 && bqT tcL_law_16 16 30 && (0 * 256 + 30 == 30)) = true) ∧ (bqT tcL_law_17 1 87 = true) ∧ (bqT tcL_law_17 2 44 = true) ∧ (bqT tcL_law_17 3 42 = true) ∧ (bqT tcL_law_17 4 29 = true) ∧ (bqT tcL_law_17 5 4 = true) ∧ (bqT tcL_law_17 6 96 = true) ∧ (bqT tcL_law_17 7 46 = true) ∧ (bqT tcL_law_17 8 42 = true) ∧ (bqT tcL_law_17 9 29 = true) := by decide +kernel
theorem dL_law_252 : decode cL_law 252 = .ok (.invokevirtual 29, 3) := dt_182 (i := 12) (p := 240) gcL_law_15 0 29 pl_decf_4.1
theorem dL_law_255 : decode cL_law 255 = .ok (.pop, 1) := dt_87 (i := 15) (p := 240) gcL_law_15 pl_decf_4.2.1
theorem dL_law_256 : decode cL_law 256 = .ok (.goto 768, 3) := dt_167 (i := 0) (p := 256) gcL_law_16 3 0 pl_decf_4.2.2.1
theorem dL_law_259 : decode cL_law 259 = .ok (.aload_n 1, 1) := dt_43 (i := 3) (p := 256) gcL_law_16 pl_decf_4.2.2.2.1
theorem dL_law_260 : decode cL_law 260 = .ok (.aload_n 0, 1) := dt_42 (i := 4) (p := 256) gcL_law_16 pl_decf_4.2.2.2.2.1
theorem dL_law_261 : decode cL_law 261 = .ok (.iload_n 3, 1) := dt_29 (i := 5) (p := 256) gcL_law_16 pl_decf_4.2.2.2.2.2.1
theorem dL_law_262 : decode cL_law 262 = .ok (.iconst 1, 1) := dt_4 (i := 6) (p := 256) gcL_law_16 pl_decf_4.2.2.2.2.2.2.1
theorem dL_law_263 : decode cL_law 263 = .ok (.iadd, 1) := dt_96 (i := 7) (p := 256) gcL_law_16 pl_decf_4.2.2.2.2.2.2.2.1
theorem dL_law_264 : decode cL_law 264 = .ok (.iaload, 1) := dt_46 (i := 8) (p := 256) gcL_law_16 pl_decf_4.2.2.2.2.2.2.2.2.1
theorem dL_law_265 : decode cL_law 265 = .ok (.aload_n 0, 1) := dt_42 (i := 9) (p := 256) gcL_law_16 pl_decf_4.2.2.2.2.2.2.2.2.2.1
theorem dL_law_266 : decode cL_law 266 = .ok (.iload_n 3, 1) := dt_29 (i := 10) (p := 256) gcL_law_16 pl_decf_4.2.2.2.2.2.2.2.2.2.2.1
theorem dL_law_267 : decode cL_law 267 = .ok (.iconst 2, 1) := dt_5 (i := 11) (p := 256) gcL_law_16 pl_decf_4.2.2.2.2.2.2.2.2.2.2.2.1
theorem dL_law_268 : decode cL_law 268 = .ok (.iadd, 1) := dt_96 (i := 12) (p := 256) gcL_law_16 pl_decf_4.2.2.2.2.2.2.2.2.2.2.2.2.1
theorem dL_law_269 : decode cL_law 269 = .ok (.iaload, 1) := dt_46 (i := 13) (p := 256) gcL_law_16 pl_decf_4.2.2.2.2.2.2.2.2.2.2.2.2.2.1
theorem dL_law_270 : decode cL_law 270 = .ok (.invokevirtual 30, 3) := dt_182 (i := 14) (p := 256) gcL_law_16 0 30 pl_decf_4.2.2.2.2.2.2.2.2.2.2.2.2.2.2.1
theorem dL_law_273 : decode cL_law 273 = .ok (.pop, 1) := dt_87 (i := 1) (p := 272) gcL_law_17 pl_decf_4.2.2.2.2.2.2.2.2.2.2.2.2.2.2.2.1
theorem dL_law_274 : decode cL_law 274 = .ok (.aload_n 2, 1) := dt_44 (i := 2) (p := 272) gcL_law_17 pl_decf_4.2.2.2.2.2.2.2.2.2.2.2.2.2.2.2.2.1
theorem dL_law_275 : decode cL_law 275 = .ok (.aload_n 0, 1) := dt_42 (i := 3) (p := 272) gcL_law_17 pl_decf_4.2.2.2.2.2.2.2.2.2.2.2.2.2.2.2.2.2.1
theorem dL_law_276 : decode cL_law 276 = .ok (.iload_n 3, 1) := dt_29 (i := 4) (p := 272) gcL_law_17 pl_decf_4.2.2.2.2.2.2.2.2.2.2.2.2.2.2.2.2.2.2.1
theorem dL_law_277 : decode cL_law 277 = .ok (.iconst 1, 1) := dt_4 (i := 5) (p := 272) gcL_law_17 pl_decf_4.2.2.2.2.2.2.2.2.2.2.2.2.2.2.2.2.2.2.2.1
theorem dL_law_278 : decode cL_law 278 = .ok (.iadd, 1) := dt_96 (i := 6) (p := 272) gcL_law_17 pl_decf_4.2.2.2.2.2.2.2.2.2.2.2.2.2.2.2.2.2.2.2.2.1
theorem dL_law_279 : decode cL_law 279 = .ok (.iaload, 1) := dt_46 (i := 7) (p := 272) gcL_law_17 pl_decf_4.2.2.2.2.2.2.2.2.2.2.2.2.2.2.2.2.2.2.2.2.2.1
theorem dL_law_280 : decode cL_law 280 = .ok (.aload_n 0, 1) := dt_42 (i := 8) (p := 272) gcL_law_17 pl_decf_4.2.2.2.2.2.2.2.2.2.2.2.2.2.2.2.2.2.2.2.2.2.2.1
theorem dL_law_281 : decode cL_law 281 = .ok (.iload_n 3, 1) := dt_29 (i := 9) (p := 272) gcL_law_17 pl_decf_4.2.2.2.2.2.2.2.2.2.2.2.2.2.2.2.2.2.2.2.2.2.2.2
set_option maxRecDepth 20000 in
theorem pl_decf_5 : (bqT tcL_law_17 10 5 = true) ∧ (bqT tcL_law_17 11 96 = true) ∧ (bqT tcL_law_17 12 46 = true) ∧ ((bqT tcL_law_17 13 182 && bqT tcL_law_17 14 0 && bqT tcL_law_17 15 34 && (0 * 256 + 34 == 34)) = true) ∧ (bqT tcL_law_18 0 87 = true) ∧ ((bqT tcL_law_18 1 167 && bqT tcL_law_18 2 2 && bqT tcL_law_18 3 223 && (Reader.signed 16 (2 * 256 + 223) == 735)) = true) ∧ (bqT tcL_law_18 4 43 = true) ∧ (bqT tcL_law_18 5 42 = true) ∧ (bqT tcL_law_18 6 29 = true) ∧ (bqT tcL_law_18 7 4 = true) ∧ (bqT tcL_law_18 8 96 = true) ∧ (bqT tcL_law_18 9 46 = true) ∧ ((bqT tcL_law_18 10 182 && bqT tcL_law_18 11 0 && bqT tcL_law_18 12 35 && (0 * 256 + 35 == 35)) = true) ∧ (bqT tcL_law_18 13 87 = true) ∧ (bqT tcL_law_18 14 44 = true) ∧ (bqT tcL_law_18 15 42 = true) ∧ (bqT tcL_law_19 0 29 = true) ∧ (bqT tcL_law_19 1 4 = true) ∧ (bqT tcL_law_19 2 96 = true) ∧ (bqT tcL_law_19 3 46 = true) ∧ ((bqT tcL_law_19 4 182 && bqT tcL_law_19 5 0 && bqT tcL_law_19 6 38 && (0 * 256 + 38 == 38)) = true) ∧ (bqT tcL_law_19 7 87 = true) ∧ ((bqT tcL_law_19 8 167 && bqT tcL_law_19 9 2 && bqT tcL_law_19 10 200 && (Reader.signed 16 (2 * 256 + 200) == 712)) = true) ∧ (bqT tcL_law_19 11 43 = true) := by decide +kernel
theorem dL_law_282 : decode cL_law 282 = .ok (.iconst 2, 1) := dt_5 (i := 10) (p := 272) gcL_law_17 pl_decf_5.1
theorem dL_law_283 : decode cL_law 283 = .ok (.iadd, 1) := dt_96 (i := 11) (p := 272) gcL_law_17 pl_decf_5.2.1
theorem dL_law_284 : decode cL_law 284 = .ok (.iaload, 1) := dt_46 (i := 12) (p := 272) gcL_law_17 pl_decf_5.2.2.1
theorem dL_law_285 : decode cL_law 285 = .ok (.invokevirtual 34, 3) := dt_182 (i := 13) (p := 272) gcL_law_17 0 34 pl_decf_5.2.2.2.1
theorem dL_law_288 : decode cL_law 288 = .ok (.pop, 1) := dt_87 (i := 0) (p := 288) gcL_law_18 pl_decf_5.2.2.2.2.1
theorem dL_law_289 : decode cL_law 289 = .ok (.goto 735, 3) := dt_167 (i := 1) (p := 288) gcL_law_18 2 223 pl_decf_5.2.2.2.2.2.1
theorem dL_law_292 : decode cL_law 292 = .ok (.aload_n 1, 1) := dt_43 (i := 4) (p := 288) gcL_law_18 pl_decf_5.2.2.2.2.2.2.1
theorem dL_law_293 : decode cL_law 293 = .ok (.aload_n 0, 1) := dt_42 (i := 5) (p := 288) gcL_law_18 pl_decf_5.2.2.2.2.2.2.2.1
theorem dL_law_294 : decode cL_law 294 = .ok (.iload_n 3, 1) := dt_29 (i := 6) (p := 288) gcL_law_18 pl_decf_5.2.2.2.2.2.2.2.2.1
theorem dL_law_295 : decode cL_law 295 = .ok (.iconst 1, 1) := dt_4 (i := 7) (p := 288) gcL_law_18 pl_decf_5.2.2.2.2.2.2.2.2.2.1
theorem dL_law_296 : decode cL_law 296 = .ok (.iadd, 1) := dt_96 (i := 8) (p := 288) gcL_law_18 pl_decf_5.2.2.2.2.2.2.2.2.2.2.1
theorem dL_law_297 : decode cL_law 297 = .ok (.iaload, 1) := dt_46 (i := 9) (p := 288) gcL_law_18 pl_decf_5.2.2.2.2.2.2.2.2.2.2.2.1
theorem dL_law_298 : decode cL_law 298 = .ok (.invokevirtual 35, 3) := dt_182 (i := 10) (p := 288) gcL_law_18 0 35 pl_decf_5.2.2.2.2.2.2.2.2.2.2.2.2.1
theorem dL_law_301 : decode cL_law 301 = .ok (.pop, 1) := dt_87 (i := 13) (p := 288) gcL_law_18 pl_decf_5.2.2.2.2.2.2.2.2.2.2.2.2.2.1
theorem dL_law_302 : decode cL_law 302 = .ok (.aload_n 2, 1) := dt_44 (i := 14) (p := 288) gcL_law_18 pl_decf_5.2.2.2.2.2.2.2.2.2.2.2.2.2.2.1
theorem dL_law_303 : decode cL_law 303 = .ok (.aload_n 0, 1) := dt_42 (i := 15) (p := 288) gcL_law_18 pl_decf_5.2.2.2.2.2.2.2.2.2.2.2.2.2.2.2.1
theorem dL_law_304 : decode cL_law 304 = .ok (.iload_n 3, 1) := dt_29 (i := 0) (p := 304) gcL_law_19 pl_decf_5.2.2.2.2.2.2.2.2.2.2.2.2.2.2.2.2.1
theorem dL_law_305 : decode cL_law 305 = .ok (.iconst 1, 1) := dt_4 (i := 1) (p := 304) gcL_law_19 pl_decf_5.2.2.2.2.2.2.2.2.2.2.2.2.2.2.2.2.2.1
theorem dL_law_306 : decode cL_law 306 = .ok (.iadd, 1) := dt_96 (i := 2) (p := 304) gcL_law_19 pl_decf_5.2.2.2.2.2.2.2.2.2.2.2.2.2.2.2.2.2.2.1
theorem dL_law_307 : decode cL_law 307 = .ok (.iaload, 1) := dt_46 (i := 3) (p := 304) gcL_law_19 pl_decf_5.2.2.2.2.2.2.2.2.2.2.2.2.2.2.2.2.2.2.2.1
theorem dL_law_308 : decode cL_law 308 = .ok (.invokevirtual 38, 3) := dt_182 (i := 4) (p := 304) gcL_law_19 0 38 pl_decf_5.2.2.2.2.2.2.2.2.2.2.2.2.2.2.2.2.2.2.2.2.1
theorem dL_law_311 : decode cL_law 311 = .ok (.pop, 1) := dt_87 (i := 7) (p := 304) gcL_law_19 pl_decf_5.2.2.2.2.2.2.2.2.2.2.2.2.2.2.2.2.2.2.2.2.2.1
theorem dL_law_312 : decode cL_law 312 = .ok (.goto 712, 3) := dt_167 (i := 8) (p := 304) gcL_law_19 2 200 pl_decf_5.2.2.2.2.2.2.2.2.2.2.2.2.2.2.2.2.2.2.2.2.2.2.1
theorem dL_law_315 : decode cL_law 315 = .ok (.aload_n 1, 1) := dt_43 (i := 11) (p := 304) gcL_law_19 pl_decf_5.2.2.2.2.2.2.2.2.2.2.2.2.2.2.2.2.2.2.2.2.2.2.2
set_option maxRecDepth 20000 in
theorem pl_decf_6 : (bqT tcL_law_19 12 42 = true) ∧ (bqT tcL_law_19 13 29 = true) ∧ (bqT tcL_law_19 14 4 = true) ∧ (bqT tcL_law_19 15 96 = true) ∧ (bqT tcL_law_20 0 46 = true) ∧ ((bqT tcL_law_20 1 182 && bqT tcL_law_20 2 0 && bqT tcL_law_20 3 39 && (0 * 256 + 39 == 39)) = true) ∧ (bqT tcL_law_20 4 87 = true) ∧ (bqT tcL_law_20 5 44 = true) ∧ (bqT tcL_law_20 6 42 = true) ∧ (bqT tcL_law_20 7 29 = true) ∧ (bqT tcL_law_20 8 4 = true) ∧ (bqT tcL_law_20 9 96 = true) ∧ (bqT tcL_law_20 10 46 = true) ∧ ((bqT tcL_law_20 11 182 && bqT tcL_law_20 12 0 && bqT tcL_law_20 13 42 && (0 * 256 + 42 == 42)) = true) ∧ (bqT tcL_law_20 14 87 = true) ∧ ((bqT tcL_law_20 15 167 && bqT tcL_law_20 16 2 && bqT tcL_law_20 17 177 && (Reader.signed 16 (2 * 256 + 177) == 689)) = true) ∧ (bqT tcL_law_21 2 43 = true) ∧ (bqT tcL_law_21 3 42 = true) ∧ (bqT tcL_law_21 4 29 = true) ∧ (bqT tcL_law_21 5 4 = true) ∧ (bqT tcL_law_21 6 96 = true) ∧ (bqT tcL_law_21 7 46 = true) ∧ (bqT tcL_law_21 8 42 = true) ∧ (bqT tcL_law_21 9 29 = true) := by decide +kernel
theorem dL_law_316 : decode cL_law 316 = .ok (.aload_n 0, 1) := dt_42 (i := 12) (p := 304) gcL_law_19 pl_decf_6.1
theorem dL_law_317 : decode cL_law 317 = .ok (.iload_n 3, 1) := dt_29 (i := 13) (p := 304) gcL_law_19 pl_decf_6.2.1
theorem dL_law_318 : decode cL_law 318 = .ok (.iconst 1, 1) := dt_4 (i := 14) (p := 304) gcL_law_19 pl_decf_6.2.2.1
theorem dL_law_319 : decode cL_law 319 = .ok (.iadd, 1) := dt_96 (i := 15) (p := 304) gcL_law_19 pl_decf_6.2.2.2.1
theorem dL_law_320 : decode cL_law 320 = .ok (.iaload, 1) := dt_46 (i := 0) (p := 320) gcL_law_20 pl_decf_6.2.2.2.2.1
theorem dL_law_321 : decode cL_law 321 = .ok (.invokevirtual 39, 3) := dt_182 (i := 1) (p := 320) gcL_law_20 0 39 pl_decf_6.2.2.2.2.2.1
theorem dL_law_324 : decode cL_law 324 = .ok (.pop, 1) := dt_87 (i := 4) (p := 320) gcL_law_20 pl_decf_6.2.2.2.2.2.2.1
theorem dL_law_325 : decode cL_law 325 = .ok (.aload_n 2, 1) := dt_44 (i := 5) (p := 320) gcL_law_20 pl_decf_6.2.2.2.2.2.2.2.1
theorem dL_law_326 : decode cL_law 326 = .ok (.aload_n 0, 1) := dt_42 (i := 6) (p := 320) gcL_law_20 pl_decf_6.2.2.2.2.2.2.2.2.1
theorem dL_law_327 : decode cL_law 327 = .ok (.iload_n 3, 1) := dt_29 (i := 7) (p := 320) gcL_law_20 pl_decf_6.2.2.2.2.2.2.2.2.2.1
theorem dL_law_328 : decode cL_law 328 = .ok (.iconst 1, 1) := dt_4 (i := 8) (p := 320) gcL_law_20 pl_decf_6.2.2.2.2.2.2.2.2.2.2.1
theorem dL_law_329 : decode cL_law 329 = .ok (.iadd, 1) := dt_96 (i := 9) (p := 320) gcL_law_20 pl_decf_6.2.2.2.2.2.2.2.2.2.2.2.1
theorem dL_law_330 : decode cL_law 330 = .ok (.iaload, 1) := dt_46 (i := 10) (p := 320) gcL_law_20 pl_decf_6.2.2.2.2.2.2.2.2.2.2.2.2.1
theorem dL_law_331 : decode cL_law 331 = .ok (.invokevirtual 42, 3) := dt_182 (i := 11) (p := 320) gcL_law_20 0 42 pl_decf_6.2.2.2.2.2.2.2.2.2.2.2.2.2.1
theorem dL_law_334 : decode cL_law 334 = .ok (.pop, 1) := dt_87 (i := 14) (p := 320) gcL_law_20 pl_decf_6.2.2.2.2.2.2.2.2.2.2.2.2.2.2.1
theorem dL_law_335 : decode cL_law 335 = .ok (.goto 689, 3) := dt_167 (i := 15) (p := 320) gcL_law_20 2 177 pl_decf_6.2.2.2.2.2.2.2.2.2.2.2.2.2.2.2.1
theorem dL_law_338 : decode cL_law 338 = .ok (.aload_n 1, 1) := dt_43 (i := 2) (p := 336) gcL_law_21 pl_decf_6.2.2.2.2.2.2.2.2.2.2.2.2.2.2.2.2.1
theorem dL_law_339 : decode cL_law 339 = .ok (.aload_n 0, 1) := dt_42 (i := 3) (p := 336) gcL_law_21 pl_decf_6.2.2.2.2.2.2.2.2.2.2.2.2.2.2.2.2.2.1
theorem dL_law_340 : decode cL_law 340 = .ok (.iload_n 3, 1) := dt_29 (i := 4) (p := 336) gcL_law_21 pl_decf_6.2.2.2.2.2.2.2.2.2.2.2.2.2.2.2.2.2.2.1
theorem dL_law_341 : decode cL_law 341 = .ok (.iconst 1, 1) := dt_4 (i := 5) (p := 336) gcL_law_21 pl_decf_6.2.2.2.2.2.2.2.2.2.2.2.2.2.2.2.2.2.2.2.1
theorem dL_law_342 : decode cL_law 342 = .ok (.iadd, 1) := dt_96 (i := 6) (p := 336) gcL_law_21 pl_decf_6.2.2.2.2.2.2.2.2.2.2.2.2.2.2.2.2.2.2.2.2.1
theorem dL_law_343 : decode cL_law 343 = .ok (.iaload, 1) := dt_46 (i := 7) (p := 336) gcL_law_21 pl_decf_6.2.2.2.2.2.2.2.2.2.2.2.2.2.2.2.2.2.2.2.2.2.1
theorem dL_law_344 : decode cL_law 344 = .ok (.aload_n 0, 1) := dt_42 (i := 8) (p := 336) gcL_law_21 pl_decf_6.2.2.2.2.2.2.2.2.2.2.2.2.2.2.2.2.2.2.2.2.2.2.1
theorem dL_law_345 : decode cL_law 345 = .ok (.iload_n 3, 1) := dt_29 (i := 9) (p := 336) gcL_law_21 pl_decf_6.2.2.2.2.2.2.2.2.2.2.2.2.2.2.2.2.2.2.2.2.2.2.2
set_option maxRecDepth 20000 in
theorem pl_decf_7 : (bqT tcL_law_21 10 5 = true) ∧ (bqT tcL_law_21 11 96 = true) ∧ (bqT tcL_law_21 12 46 = true) ∧ ((bqT tcL_law_21 13 182 && bqT tcL_law_21 14 0 && bqT tcL_law_21 15 43 && (0 * 256 + 43 == 43)) = true) ∧ (bqT tcL_law_22 0 87 = true) ∧ (bqT tcL_law_22 1 44 = true) ∧ (bqT tcL_law_22 2 42 = true) ∧ (bqT tcL_law_22 3 29 = true) ∧ (bqT tcL_law_22 4 4 = true) ∧ (bqT tcL_law_22 5 96 = true) ∧ (bqT tcL_law_22 6 46 = true) ∧ (bqT tcL_law_22 7 42 = true) ∧ (bqT tcL_law_22 8 29 = true) ∧ (bqT tcL_law_22 9 5 = true) ∧ (bqT tcL_law_22 10 96 = true) ∧ (bqT tcL_law_22 11 46 = true) ∧ ((bqT tcL_law_22 12 182 && bqT tcL_law_22 13 0 && bqT tcL_law_22 14 46 && (0 * 256 + 46 == 46)) = true) ∧ (bqT tcL_law_22 15 87 = true) ∧ ((bqT tcL_law_23 0 167 && bqT tcL_law_23 1 2 && bqT tcL_law_23 2 144 && (Reader.signed 16 (2 * 256 + 144) == 656)) = true) ∧ (bqT tcL_law_23 3 43 = true) ∧ (bqT tcL_law_23 4 42 = true) ∧ (bqT tcL_law_23 5 29 = true) ∧ (bqT tcL_law_23 6 4 = true) ∧ (bqT tcL_law_23 7 96 = true) := by decide +kernel
theorem dL_law_346 : decode cL_law 346 = .ok (.iconst 2, 1) := dt_5 (i := 10) (p := 336) gcL_law_21 pl_decf_7.1
theorem dL_law_347 : decode cL_law 347 = .ok (.iadd, 1) := dt_96 (i := 11) (p := 336) gcL_law_21 pl_decf_7.2.1
theorem dL_law_348 : decode cL_law 348 = .ok (.iaload, 1) := dt_46 (i := 12) (p := 336) gcL_law_21 pl_decf_7.2.2.1
theorem dL_law_349 : decode cL_law 349 = .ok (.invokevirtual 43, 3) := dt_182 (i := 13) (p := 336) gcL_law_21 0 43 pl_decf_7.2.2.2.1
theorem dL_law_352 : decode cL_law 352 = .ok (.pop, 1) := dt_87 (i := 0) (p := 352) gcL_law_22 pl_decf_7.2.2.2.2.1
theorem dL_law_353 : decode cL_law 353 = .ok (.aload_n 2, 1) := dt_44 (i := 1) (p := 352) gcL_law_22 pl_decf_7.2.2.2.2.2.1
theorem dL_law_354 : decode cL_law 354 = .ok (.aload_n 0, 1) := dt_42 (i := 2) (p := 352) gcL_law_22 pl_decf_7.2.2.2.2.2.2.1
theorem dL_law_355 : decode cL_law 355 = .ok (.iload_n 3, 1) := dt_29 (i := 3) (p := 352) gcL_law_22 pl_decf_7.2.2.2.2.2.2.2.1
theorem dL_law_356 : decode cL_law 356 = .ok (.iconst 1, 1) := dt_4 (i := 4) (p := 352) gcL_law_22 pl_decf_7.2.2.2.2.2.2.2.2.1
theorem dL_law_357 : decode cL_law 357 = .ok (.iadd, 1) := dt_96 (i := 5) (p := 352) gcL_law_22 pl_decf_7.2.2.2.2.2.2.2.2.2.1
theorem dL_law_358 : decode cL_law 358 = .ok (.iaload, 1) := dt_46 (i := 6) (p := 352) gcL_law_22 pl_decf_7.2.2.2.2.2.2.2.2.2.2.1
theorem dL_law_359 : decode cL_law 359 = .ok (.aload_n 0, 1) := dt_42 (i := 7) (p := 352) gcL_law_22 pl_decf_7.2.2.2.2.2.2.2.2.2.2.2.1
theorem dL_law_360 : decode cL_law 360 = .ok (.iload_n 3, 1) := dt_29 (i := 8) (p := 352) gcL_law_22 pl_decf_7.2.2.2.2.2.2.2.2.2.2.2.2.1
theorem dL_law_361 : decode cL_law 361 = .ok (.iconst 2, 1) := dt_5 (i := 9) (p := 352) gcL_law_22 pl_decf_7.2.2.2.2.2.2.2.2.2.2.2.2.2.1
theorem dL_law_362 : decode cL_law 362 = .ok (.iadd, 1) := dt_96 (i := 10) (p := 352) gcL_law_22 pl_decf_7.2.2.2.2.2.2.2.2.2.2.2.2.2.2.1
theorem dL_law_363 : decode cL_law 363 = .ok (.iaload, 1) := dt_46 (i := 11) (p := 352) gcL_law_22 pl_decf_7.2.2.2.2.2.2.2.2.2.2.2.2.2.2.2.1
theorem dL_law_364 : decode cL_law 364 = .ok (.invokevirtual 46, 3) := dt_182 (i := 12) (p := 352) gcL_law_22 0 46 pl_decf_7.2.2.2.2.2.2.2.2.2.2.2.2.2.2.2.2.1
theorem dL_law_367 : decode cL_law 367 = .ok (.pop, 1) := dt_87 (i := 15) (p := 352) gcL_law_22 pl_decf_7.2.2.2.2.2.2.2.2.2.2.2.2.2.2.2.2.2.1
theorem dL_law_368 : decode cL_law 368 = .ok (.goto 656, 3) := dt_167 (i := 0) (p := 368) gcL_law_23 2 144 pl_decf_7.2.2.2.2.2.2.2.2.2.2.2.2.2.2.2.2.2.2.1
theorem dL_law_371 : decode cL_law 371 = .ok (.aload_n 1, 1) := dt_43 (i := 3) (p := 368) gcL_law_23 pl_decf_7.2.2.2.2.2.2.2.2.2.2.2.2.2.2.2.2.2.2.2.1
theorem dL_law_372 : decode cL_law 372 = .ok (.aload_n 0, 1) := dt_42 (i := 4) (p := 368) gcL_law_23 pl_decf_7.2.2.2.2.2.2.2.2.2.2.2.2.2.2.2.2.2.2.2.2.1
theorem dL_law_373 : decode cL_law 373 = .ok (.iload_n 3, 1) := dt_29 (i := 5) (p := 368) gcL_law_23 pl_decf_7.2.2.2.2.2.2.2.2.2.2.2.2.2.2.2.2.2.2.2.2.2.1
theorem dL_law_374 : decode cL_law 374 = .ok (.iconst 1, 1) := dt_4 (i := 6) (p := 368) gcL_law_23 pl_decf_7.2.2.2.2.2.2.2.2.2.2.2.2.2.2.2.2.2.2.2.2.2.2.1
theorem dL_law_375 : decode cL_law 375 = .ok (.iadd, 1) := dt_96 (i := 7) (p := 368) gcL_law_23 pl_decf_7.2.2.2.2.2.2.2.2.2.2.2.2.2.2.2.2.2.2.2.2.2.2.2
set_option maxRecDepth 20000 in
theorem pl_decf_8 : (bqT tcL_law_23 8 46 = true) ∧ (bqT tcL_law_23 9 42 = true) ∧ (bqT tcL_law_23 10 29 = true) ∧ (bqT tcL_law_23 11 5 = true) ∧ (bqT tcL_law_23 12 96 = true) ∧ (bqT tcL_law_23 13 46 = true) ∧ ((bqT tcL_law_23 14 182 && bqT tcL_law_23 15 0 && bqT tcL_law_23 16 47 && (0 * 256 + 47 == 47)) = true) ∧ (bqT tcL_law_24 1 87 = true) ∧ (bqT tcL_law_24 2 44 = true) ∧ (bqT tcL_law_24 3 42 = true) ∧ (bqT tcL_law_24 4 29 = true) ∧ (bqT tcL_law_24 5 4 = true) ∧ (bqT tcL_law_24 6 96 = true) ∧ (bqT tcL_law_24 7 46 = true) ∧ (bqT tcL_law_24 8 42 = true) ∧ (bqT tcL_law_24 9 29 = true) ∧ (bqT tcL_law_24 10 5 = true) ∧ (bqT tcL_law_24 11 96 = true) ∧ (bqT tcL_law_24 12 46 = true) ∧ ((bqT tcL_law_24 13 182 && bqT tcL_law_24 14 0 && bqT tcL_law_24 15 50 && (0 * 256 + 50 == 50)) = true) ∧ (bqT tcL_law_25 0 87 = true) ∧ ((bqT tcL_law_25 1 167 && bqT tcL_law_25 2 2 && bqT tcL_law_25 3 111 && (Reader.signed 16 (2 * 256 + 111) == 623)) = true) ∧ (bqT tcL_law_25 4 43 = true) ∧ (bqT tcL_law_25 5 42 = true) := by decide +kernel
theorem dL_law_376 : decode cL_law 376 = .ok (.iaload, 1) := dt_46 (i := 8) (p := 368) gcL_law_23 pl_decf_8.1
theorem dL_law_377 : decode cL_law 377 = .ok (.aload_n 0, 1) := dt_42 (i := 9) (p := 368) gcL_law_23 pl_decf_8.2.1
theorem dL_law_378 : decode cL_law 378 = .ok (.iload_n 3, 1) := dt_29 (i := 10) (p := 368) gcL_law_23 pl_decf_8.2.2.1
theorem dL_law_379 : decode cL_law 379 = .ok (.iconst 2, 1) := dt_5 (i := 11) (p := 368) gcL_law_23 pl_decf_8.2.2.2.1
theorem dL_law_380 : decode cL_law 380 = .ok (.iadd, 1) := dt_96 (i := 12) (p := 368) gcL_law_23 pl_decf_8.2.2.2.2.1
theorem dL_law_381 : decode cL_law 381 = .ok (.iaload, 1) := dt_46 (i := 13) (p := 368) gcL_law_23 pl_decf_8.2.2.2.2.2.1
theorem dL_law_382 : decode cL_law 382 = .ok (.invokevirtual 47, 3) := dt_182 (i := 14) (p := 368) gcL_law_23 0 47 pl_decf_8.2.2.2.2.2.2.1
theorem dL_law_385 : decode cL_law 385 = .ok (.pop, 1) := dt_87 (i := 1) (p := 384) gcL_law_24 pl_decf_8.2.2.2.2.2.2.2.1
theorem dL_law_386 : decode cL_law 386 = .ok (.aload_n 2, 1) := dt_44 (i := 2) (p := 384) gcL_law_24 pl_decf_8.2.2.2.2.2.2.2.2.1
theorem dL_law_387 : decode cL_law 387 = .ok (.aload_n 0, 1) := dt_42 (i := 3) (p := 384) gcL_law_24 pl_decf_8.2.2.2.2.2.2.2.2.2.1
theorem dL_law_388 : decode cL_law 388 = .ok (.iload_n 3, 1) := dt_29 (i := 4) (p := 384) gcL_law_24 pl_decf_8.2.2.2.2.2.2.2.2.2.2.1
theorem dL_law_389 : decode cL_law 389 = .ok (.iconst 1, 1) := dt_4 (i := 5) (p := 384) gcL_law_24 pl_decf_8.2.2.2.2.2.2.2.2.2.2.2.1
theorem dL_law_390 : decode cL_law 390 = .ok (.iadd, 1) := dt_96 (i := 6) (p := 384) gcL_law_24 pl_decf_8.2.2.2.2.2.2.2.2.2.2.2.2.1
theorem dL_law_391 : decode cL_law 391 = .ok (.iaload, 1) := dt_46 (i := 7) (p := 384) gcL_law_24 pl_decf_8.2.2.2.2.2.2.2.2.2.2.2.2.2.1
theorem dL_law_392 : decode cL_law 392 = .ok (.aload_n 0, 1) := dt_42 (i := 8) (p := 384) gcL_law_24 pl_decf_8.2.2.2.2.2.2.2.2.2.2.2.2.2.2.1
theorem dL_law_393 : decode cL_law 393 = .ok (.iload_n 3, 1) := dt_29 (i := 9) (p := 384) gcL_law_24 pl_decf_8.2.2.2.2.2.2.2.2.2.2.2.2.2.2.2.1
theorem dL_law_394 : decode cL_law 394 = .ok (.iconst 2, 1) := dt_5 (i := 10) (p := 384) gcL_law_24 pl_decf_8.2.2.2.2.2.2.2.2.2.2.2.2.2.2.2.2.1
theorem dL_law_395 : decode cL_law 395 = .ok (.iadd, 1) := dt_96 (i := 11) (p := 384) gcL_law_24 pl_decf_8.2.2.2.2.2.2.2.2.2.2.2.2.2.2.2.2.2.1
theorem dL_law_396 : decode cL_law 396 = .ok (.iaload, 1) := dt_46 (i := 12) (p := 384) gcL_law_24 pl_decf_8.2.2.2.2.2.2.2.2.2.2.2.2.2.2.2.2.2.2.1
theorem dL_law_397 : decode cL_law 397 = .ok (.invokevirtual 50, 3) := dt_182 (i := 13) (p := 384) gcL_law_24 0 50 pl_decf_8.2.2.2.2.2.2.2.2.2.2.2.2.2.2.2.2.2.2.2.1
theorem dL_law_400 : decode cL_law 400 = .ok (.pop, 1) := dt_87 (i := 0) (p := 400) gcL_law_25 pl_decf_8.2.2.2.2.2.2.2.2.2.2.2.2.2.2.2.2.2.2.2.2.1
theorem dL_law_401 : decode cL_law 401 = .ok (.goto 623, 3) := dt_167 (i := 1) (p := 400) gcL_law_25 2 111 pl_decf_8.2.2.2.2.2.2.2.2.2.2.2.2.2.2.2.2.2.2.2.2.2.1
theorem dL_law_404 : decode cL_law 404 = .ok (.aload_n 1, 1) := dt_43 (i := 4) (p := 400) gcL_law_25 pl_decf_8.2.2.2.2.2.2.2.2.2.2.2.2.2.2.2.2.2.2.2.2.2.2.1
theorem dL_law_405 : decode cL_law 405 = .ok (.aload_n 0, 1) := dt_42 (i := 5) (p := 400) gcL_law_25 pl_decf_8.2.2.2.2.2.2.2.2.2.2.2.2.2.2.2.2.2.2.2.2.2.2.2
set_option maxRecDepth 20000 in
theorem pl_decf_9 : (bqT tcL_law_25 6 29 = true) ∧ (bqT tcL_law_25 7 4 = true) ∧ (bqT tcL_law_25 8 96 = true) ∧ (bqT tcL_law_25 9 46 = true) ∧ (bqT tcL_law_25 10 42 = true) ∧ (bqT tcL_law_25 11 29 = true) ∧ (bqT tcL_law_25 12 5 = true) ∧ (bqT tcL_law_25 13 96 = true) ∧ (bqT tcL_law_25 14 46 = true) ∧ (bqT tcL_law_25 15 42 = true) ∧ (bqT tcL_law_26 0 29 = true) ∧ (bqT tcL_law_26 1 6 = true) ∧ (bqT tcL_law_26 2 96 = true) ∧ (bqT tcL_law_26 3 46 = true) ∧ ((bqT tcL_law_26 4 182 && bqT tcL_law_26 5 0 && bqT tcL_law_26 6 51 && (0 * 256 + 51 == 51)) = true) ∧ (bqT tcL_law_26 7 87 = true) ∧ (bqT tcL_law_26 8 44 = true) ∧ (bqT tcL_law_26 9 42 = true) ∧ (bqT tcL_law_26 10 29 = true) ∧ (bqT tcL_law_26 11 4 = true) ∧ (bqT tcL_law_26 12 96 = true) ∧ (bqT tcL_law_26 13 46 = true) ∧ (bqT tcL_law_26 14 42 = true) ∧ (bqT tcL_law_26 15 29 = true) := by decide +kernel
theorem dL_law_406 : decode cL_law 406 = .ok (.iload_n 3, 1) := dt_29 (i := 6) (p := 400) gcL_law_25 pl_decf_9.1
theorem dL_law_407 : decode cL_law 407 = .ok (.iconst 1, 1) := dt_4 (i := 7) (p := 400) gcL_law_25 pl_decf_9.2.1
theorem dL_law_408 : decode cL_law 408 = .ok (.iadd, 1) := dt_96 (i := 8) (p := 400) gcL_law_25 pl_decf_9.2.2.1
theorem dL_law_409 : decode cL_law 409 = .ok (.iaload, 1) := dt_46 (i := 9) (p := 400) gcL_law_25 pl_decf_9.2.2.2.1
theorem dL_law_410 : decode cL_law 410 = .ok (.aload_n 0, 1) := dt_42 (i := 10) (p := 400) gcL_law_25 pl_decf_9.2.2.2.2.1
theorem dL_law_411 : decode cL_law 411 = .ok (.iload_n 3, 1) := dt_29 (i := 11) (p := 400) gcL_law_25 pl_decf_9.2.2.2.2.2.1
theorem dL_law_412 : decode cL_law 412 = .ok (.iconst 2, 1) := dt_5 (i := 12) (p := 400) gcL_law_25 pl_decf_9.2.2.2.2.2.2.1
theorem dL_law_413 : decode cL_law 413 = .ok (.iadd, 1) := dt_96 (i := 13) (p := 400) gcL_law_25 pl_decf_9.2.2.2.2.2.2.2.1
theorem dL_law_414 : decode cL_law 414 = .ok (.iaload, 1) := dt_46 (i := 14) (p := 400) gcL_law_25 pl_decf_9.2.2.2.2.2.2.2.2.1
theorem dL_law_415 : decode cL_law 415 = .ok (.aload_n 0, 1) := dt_42 (i := 15) (p := 400) gcL_law_25 pl_decf_9.2.2.2.2.2.2.2.2.2.1
theorem dL_law_416 : decode cL_law 416 = .ok (.iload_n 3, 1) := dt_29 (i := 0) (p := 416) gcL_law_26 pl_decf_9.2.2.2.2.2.2.2.2.2.2.1
theorem dL_law_417 : decode cL_law 417 = .ok (.iconst 3, 1) := dt_6 (i := 1) (p := 416) gcL_law_26 pl_decf_9.2.2.2.2.2.2.2.2.2.2.2.1
theorem dL_law_418 : decode cL_law 418 = .ok (.iadd, 1) := dt_96 (i := 2) (p := 416) gcL_law_26 pl_decf_9.2.2.2.2.2.2.2.2.2.2.2.2.1
theorem dL_law_419 : decode cL_law 419 = .ok (.iaload, 1) := dt_46 (i := 3) (p := 416) gcL_law_26 pl_decf_9.2.2.2.2.2.2.2.2.2.2.2.2.2.1
theorem dL_law_420 : decode cL_law 420 = .ok (.invokevirtual 51, 3) := dt_182 (i := 4) (p := 416) gcL_law_26 0 51 pl_decf_9.2.2.2.2.2.2.2.2.2.2.2.2.2.2.1
theorem dL_law_423 : decode cL_law 423 = .ok (.pop, 1) := dt_87 (i := 7) (p := 416) gcL_law_26 pl_decf_9.2.2.2.2.2.2.2.2.2.2.2.2.2.2.2.1
theorem dL_law_424 : decode cL_law 424 = .ok (.aload_n 2, 1) := dt_44 (i := 8) (p := 416) gcL_law_26 pl_decf_9.2.2.2.2.2.2.2.2.2.2.2.2.2.2.2.2.1
theorem dL_law_425 : decode cL_law 425 = .ok (.aload_n 0, 1) := dt_42 (i := 9) (p := 416) gcL_law_26 pl_decf_9.2.2.2.2.2.2.2.2.2.2.2.2.2.2.2.2.2.1
theorem dL_law_426 : decode cL_law 426 = .ok (.iload_n 3, 1) := dt_29 (i := 10) (p := 416) gcL_law_26 pl_decf_9.2.2.2.2.2.2.2.2.2.2.2.2.2.2.2.2.2.2.1
theorem dL_law_427 : decode cL_law 427 = .ok (.iconst 1, 1) := dt_4 (i := 11) (p := 416) gcL_law_26 pl_decf_9.2.2.2.2.2.2.2.2.2.2.2.2.2.2.2.2.2.2.2.1
theorem dL_law_428 : decode cL_law 428 = .ok (.iadd, 1) := dt_96 (i := 12) (p := 416) gcL_law_26 pl_decf_9.2.2.2.2.2.2.2.2.2.2.2.2.2.2.2.2.2.2.2.2.1
theorem dL_law_429 : decode cL_law 429 = .ok (.iaload, 1) := dt_46 (i := 13) (p := 416) gcL_law_26 pl_decf_9.2.2.2.2.2.2.2.2.2.2.2.2.2.2.2.2.2.2.2.2.2.1
theorem dL_law_430 : decode cL_law 430 = .ok (.aload_n 0, 1) := dt_42 (i := 14) (p := 416) gcL_law_26 pl_decf_9.2.2.2.2.2.2.2.2.2.2.2.2.2.2.2.2.2.2.2.2.2.2.1
theorem dL_law_431 : decode cL_law 431 = .ok (.iload_n 3, 1) := dt_29 (i := 15) (p := 416) gcL_law_26 pl_decf_9.2.2.2.2.2.2.2.2.2.2.2.2.2.2.2.2.2.2.2.2.2.2.2
set_option maxRecDepth 20000 in
theorem pl_decf_10 : (bqT tcL_law_27 0 5 = true) ∧ (bqT tcL_law_27 1 96 = true) ∧ (bqT tcL_law_27 2 46 = true) ∧ (bqT tcL_law_27 3 42 = true) ∧ (bqT tcL_law_27 4 29 = true) ∧ (bqT tcL_law_27 5 6 = true) ∧ (bqT tcL_law_27 6 96 = true) ∧ (bqT tcL_law_27 7 46 = true) ∧ ((bqT tcL_law_27 8 182 && bqT tcL_law_27 9 0 && bqT tcL_law_27 10 55 && (0 * 256 + 55 == 55)) = true) ∧ (bqT tcL_law_27 11 87 = true) ∧ ((bqT tcL_law_27 12 167 && bqT tcL_law_27 13 2 && bqT tcL_law_27 14 68 && (Reader.signed 16 (2 * 256 + 68) == 580)) = true) ∧ (bqT tcL_law_27 15 43 = true) ∧ (bqT tcL_law_28 0 42 = true) ∧ (bqT tcL_law_28 1 29 = true) ∧ (bqT tcL_law_28 2 4 = true) ∧ (bqT tcL_law_28 3 96 = true) ∧ (bqT tcL_law_28 4 46 = true) ∧ (bqT tcL_law_28 5 42 = true) ∧ (bqT tcL_law_28 6 29 = true) ∧ (bqT tcL_law_28 7 5 = true) ∧ (bqT tcL_law_28 8 96 = true) ∧ (bqT tcL_law_28 9 46 = true) ∧ ((bqT tcL_law_28 10 182 && bqT tcL_law_28 11 0 && bqT tcL_law_28 12 56 && (0 * 256 + 56 == 56)) = true) ∧ (bqT tcL_law_28 13 87 = true) := by decide +kernel
theorem dL_law_432 : decode cL_law 432 = .ok (.iconst 2, 1) := dt_5 (i := 0) (p := 432) gcL_law_27 pl_decf_10.1
theorem dL_law_433 : decode cL_law 433 = .ok (.iadd, 1) := dt_96 (i := 1) (p := 432) gcL_law_27 pl_decf_10.2.1
theorem dL_law_434 : decode cL_law 434 = .ok (.iaload, 1) := dt_46 (i := 2) (p := 432) gcL_law_27 pl_decf_10.2.2.1
theorem dL_law_435 : decode cL_law 435 = .ok (.aload_n 0, 1) := dt_42 (i := 3) (p := 432) gcL_law_27 pl_decf_10.2.2.2.1
theorem dL_law_436 : decode cL_law 436 = .ok (.iload_n 3, 1) := dt_29 (i := 4) (p := 432) gcL_law_27 pl_decf_10.2.2.2.2.1
theorem dL_law_437 : decode cL_law 437 = .ok (.iconst 3, 1) := dt_6 (i := 5) (p := 432) gcL_law_27 pl_decf_10.2.2.2.2.2.1
theorem dL_law_438 : decode cL_law 438 = .ok (.iadd, 1) := dt_96 (i := 6) (p := 432) gcL_law_27 pl_decf_10.2.2.2.2.2.2.1
theorem dL_law_439 : decode cL_law 439 = .ok (.iaload, 1) := dt_46 (i := 7) (p := 432) gcL_law_27 pl_decf_10.2.2.2.2.2.2.2.1
theorem dL_law_440 : decode cL_law 440 = .ok (.invokevirtual 55, 3) := dt_182 (i := 8) (p := 432) gcL_law_27 0 55 pl_decf_10.2.2.2.2.2.2.2.2.1
theorem dL_law_443 : decode cL_law 443 = .ok (.pop, 1) := dt_87 (i := 11) (p := 432) gcL_law_27 pl_decf_10.2.2.2.2.2.2.2.2.2.1
theorem dL_law_444 : decode cL_law 444 = .ok (.goto 580, 3) := dt_167 (i := 12) (p := 432) gcL_law_27 2 68 pl_decf_10.2.2.2.2.2.2.2.2.2.2.1
theorem dL_law_447 : decode cL_law 447 = .ok (.aload_n 1, 1) := dt_43 (i := 15) (p := 432) gcL_law_27 pl_decf_10.2.2.2.2.2.2.2.2.2.2.2.1
theorem dL_law_448 : decode cL_law 448 = .ok (.aload_n 0, 1) := dt_42 (i := 0) (p := 448) gcL_law_28 pl_decf_10.2.2.2.2.2.2.2.2.2.2.2.2.1
theorem dL_law_449 : decode cL_law 449 = .ok (.iload_n 3, 1) := dt_29 (i := 1) (p := 448) gcL_law_28 pl_decf_10.2.2.2.2.2.2.2.2.2.2.2.2.2.1
theorem dL_law_450 : decode cL_law 450 = .ok (.iconst 1, 1) := dt_4 (i := 2) (p := 448) gcL_law_28 pl_decf_10.2.2.2.2.2.2.2.2.2.2.2.2.2.2.1
theorem dL_law_451 : decode cL_law 451 = .ok (.iadd, 1) := dt_96 (i := 3) (p := 448) gcL_law_28 pl_decf_10.2.2.2.2.2.2.2.2.2.2.2.2.2.2.2.1
theorem dL_law_452 : decode cL_law 452 = .ok (.iaload, 1) := dt_46 (i := 4) (p := 448) gcL_law_28 pl_decf_10.2.2.2.2.2.2.2.2.2.2.2.2.2.2.2.2.1
theorem dL_law_453 : decode cL_law 453 = .ok (.aload_n 0, 1) := dt_42 (i := 5) (p := 448) gcL_law_28 pl_decf_10.2.2.2.2.2.2.2.2.2.2.2.2.2.2.2.2.2.1
theorem dL_law_454 : decode cL_law 454 = .ok (.iload_n 3, 1) := dt_29 (i := 6) (p := 448) gcL_law_28 pl_decf_10.2.2.2.2.2.2.2.2.2.2.2.2.2.2.2.2.2.2.1
theorem dL_law_455 : decode cL_law 455 = .ok (.iconst 2, 1) := dt_5 (i := 7) (p := 448) gcL_law_28 pl_decf_10.2.2.2.2.2.2.2.2.2.2.2.2.2.2.2.2.2.2.2.1
theorem dL_law_456 : decode cL_law 456 = .ok (.iadd, 1) := dt_96 (i := 8) (p := 448) gcL_law_28 pl_decf_10.2.2.2.2.2.2.2.2.2.2.2.2.2.2.2.2.2.2.2.2.1
theorem dL_law_457 : decode cL_law 457 = .ok (.iaload, 1) := dt_46 (i := 9) (p := 448) gcL_law_28 pl_decf_10.2.2.2.2.2.2.2.2.2.2.2.2.2.2.2.2.2.2.2.2.2.1
theorem dL_law_458 : decode cL_law 458 = .ok (.invokevirtual 56, 3) := dt_182 (i := 10) (p := 448) gcL_law_28 0 56 pl_decf_10.2.2.2.2.2.2.2.2.2.2.2.2.2.2.2.2.2.2.2.2.2.2.1
theorem dL_law_461 : decode cL_law 461 = .ok (.pop, 1) := dt_87 (i := 13) (p := 448) gcL_law_28 pl_decf_10.2.2.2.2.2.2.2.2.2.2.2.2.2.2.2.2.2.2.2.2.2.2.2
set_option maxRecDepth 20000 in
theorem pl_decf_11 : (bqT tcL_law_28 14 44 = true) ∧ (bqT tcL_law_28 15 42 = true) ∧ (bqT tcL_law_29 0 29 = true) ∧ (bqT tcL_law_29 1 4 = true) ∧ (bqT tcL_law_29 2 96 = true) ∧ (bqT tcL_law_29 3 46 = true) ∧ (bqT tcL_law_29 4 42 = true) ∧ (bqT tcL_law_29 5 29 = true) ∧ (bqT tcL_law_29 6 5 = true) ∧ (bqT tcL_law_29 7 96 = true) ∧ (bqT tcL_law_29 8 46 = true) ∧ ((bqT tcL_law_29 9 182 && bqT tcL_law_29 10 0 && bqT tcL_law_29 11 59 && (0 * 256 + 59 == 59)) = true) ∧ (bqT tcL_law_29 12 87 = true) ∧ ((bqT tcL_law_29 13 167 && bqT tcL_law_29 14 2 && bqT tcL_law_29 15 35 && (Reader.signed 16 (2 * 256 + 35) == 547)) = true) ∧ (bqT tcL_law_30 0 43 = true) ∧ (bqT tcL_law_30 1 42 = true) ∧ (bqT tcL_law_30 2 29 = true) ∧ (bqT tcL_law_30 3 4 = true) ∧ (bqT tcL_law_30 4 96 = true) ∧ (bqT tcL_law_30 5 46 = true) ∧ ((bqT tcL_law_30 6 182 && bqT tcL_law_30 7 0 && bqT tcL_law_30 8 60 && (0 * 256 + 60 == 60)) = true) ∧ (bqT tcL_law_30 9 87 = true) ∧ (bqT tcL_law_30 10 44 = true) ∧ (bqT tcL_law_30 11 42 = true) := by decide +kernel
theorem dL_law_462 : decode cL_law 462 = .ok (.aload_n 2, 1) := dt_44 (i := 14) (p := 448) gcL_law_28 pl_decf_11.1
theorem dL_law_463 : decode cL_law 463 = .ok (.aload_n 0, 1) := dt_42 (i := 15) (p := 448) gcL_law_28 pl_decf_11.2.1
theorem dL_law_464 : decode cL_law 464 = .ok (.iload_n 3, 1) := dt_29 (i := 0) (p := 464) gcL_law_29 pl_decf_11.2.2.1
theorem dL_law_465 : decode cL_law 465 = .ok (.iconst 1, 1) := dt_4 (i := 1) (p := 464) gcL_law_29 pl_decf_11.2.2.2.1
theorem dL_law_466 : decode cL_law 466 = .ok (.iadd, 1) := dt_96 (i := 2) (p := 464) gcL_law_29 pl_decf_11.2.2.2.2.1
theorem dL_law_467 : decode cL_law 467 = .ok (.iaload, 1) := dt_46 (i := 3) (p := 464) gcL_law_29 pl_decf_11.2.2.2.2.2.1
theorem dL_law_468 : decode cL_law 468 = .ok (.aload_n 0, 1) := dt_42 (i := 4) (p := 464) gcL_law_29 pl_decf_11.2.2.2.2.2.2.1
theorem dL_law_469 : decode cL_law 469 = .ok (.iload_n 3, 1) := dt_29 (i := 5) (p := 464) gcL_law_29 pl_decf_11.2.2.2.2.2.2.2.1
theorem dL_law_470 : decode cL_law 470 = .ok (.iconst 2, 1) := dt_5 (i := 6) (p := 464) gcL_law_29 pl_decf_11.2.2.2.2.2.2.2.2.1
theorem dL_law_471 : decode cL_law 471 = .ok (.iadd, 1) := dt_96 (i := 7) (p := 464) gcL_law_29 pl_decf_11.2.2.2.2.2.2.2.2.2.1
theorem dL_law_472 : decode cL_law 472 = .ok (.iaload, 1) := dt_46 (i := 8) (p := 464) gcL_law_29 pl_decf_11.2.2.2.2.2.2.2.2.2.2.1
theorem dL_law_473 : decode cL_law 473 = .ok (.invokevirtual 59, 3) := dt_182 (i := 9) (p := 464) gcL_law_29 0 59 pl_decf_11.2.2.2.2.2.2.2.2.2.2.2.1
theorem dL_law_476 : decode cL_law 476 = .ok (.pop, 1) := dt_87 (i := 12) (p := 464) gcL_law_29 pl_decf_11.2.2.2.2.2.2.2.2.2.2.2.2.1
theorem dL_law_477 : decode cL_law 477 = .ok (.goto 547, 3) := dt_167 (i := 13) (p := 464) gcL_law_29 2 35 pl_decf_11.2.2.2.2.2.2.2.2.2.2.2.2.2.1
theorem dL_law_480 : decode cL_law 480 = .ok (.aload_n 1, 1) := dt_43 (i := 0) (p := 480) gcL_law_30 pl_decf_11.2.2.2.2.2.2.2.2.2.2.2.2.2.2.1
theorem dL_law_481 : decode cL_law 481 = .ok (.aload_n 0, 1) := dt_42 (i := 1) (p := 480) gcL_law_30 pl_decf_11.2.2.2.2.2.2.2.2.2.2.2.2.2.2.2.1
theorem dL_law_482 : decode cL_law 482 = .ok (.iload_n 3, 1) := dt_29 (i := 2) (p := 480) gcL_law_30 pl_decf_11.2.2.2.2.2.2.2.2.2.2.2.2.2.2.2.2.1
theorem dL_law_483 : decode cL_law 483 = .ok (.iconst 1, 1) := dt_4 (i := 3) (p := 480) gcL_law_30 pl_decf_11.2.2.2.2.2.2.2.2.2.2.2.2.2.2.2.2.2.1
theorem dL_law_484 : decode cL_law 484 = .ok (.iadd, 1) := dt_96 (i := 4) (p := 480) gcL_law_30 pl_decf_11.2.2.2.2.2.2.2.2.2.2.2.2.2.2.2.2.2.2.1
theorem dL_law_485 : decode cL_law 485 = .ok (.iaload, 1) := dt_46 (i := 5) (p := 480) gcL_law_30 pl_decf_11.2.2.2.2.2.2.2.2.2.2.2.2.2.2.2.2.2.2.2.1
theorem dL_law_486 : decode cL_law 486 = .ok (.invokevirtual 60, 3) := dt_182 (i := 6) (p := 480) gcL_law_30 0 60 pl_decf_11.2.2.2.2.2.2.2.2.2.2.2.2.2.2.2.2.2.2.2.2.1
theorem dL_law_489 : decode cL_law 489 = .ok (.pop, 1) := dt_87 (i := 9) (p := 480) gcL_law_30 pl_decf_11.2.2.2.2.2.2.2.2.2.2.2.2.2.2.2.2.2.2.2.2.2.1
theorem dL_law_490 : decode cL_law 490 = .ok (.aload_n 2, 1) := dt_44 (i := 10) (p := 480) gcL_law_30 pl_decf_11.2.2.2.2.2.2.2.2.2.2.2.2.2.2.2.2.2.2.2.2.2.2.1
theorem dL_law_491 : decode cL_law 491 = .ok (.aload_n 0, 1) := dt_42 (i := 11) (p := 480) gcL_law_30 pl_decf_11.2.2.2.2.2.2.2.2.2.2.2.2.2.2.2.2.2.2.2.2.2.2.2
set_option maxRecDepth 20000 in
theorem pl_decf_12 : (bqT tcL_law_30 12 29 = true) ∧ (bqT tcL_law_30 13 4 = true) ∧ (bqT tcL_law_30 14 96 = true) ∧ (bqT tcL_law_30 15 46 = true) ∧ ((bqT tcL_law_31 0 182 && bqT tcL_law_31 1 0 && bqT tcL_law_31 2 63 && (0 * 256 + 63 == 63)) = true) ∧ (bqT tcL_law_31 3 87 = true) ∧ ((bqT tcL_law_31 4 167 && bqT tcL_law_31 5 2 && bqT tcL_law_31 6 12 && (Reader.signed 16 (2 * 256 + 12) == 524)) = true) ∧ (bqT tcL_law_31 7 43 = true) ∧ (bqT tcL_law_31 8 42 = true) ∧ (bqT tcL_law_31 9 29 = true) ∧ (bqT tcL_law_31 10 4 = true) ∧ (bqT tcL_law_31 11 96 = true) ∧ (bqT tcL_law_31 12 46 = true) ∧ (bqT tcL_law_31 13 42 = true) ∧ (bqT tcL_law_31 14 29 = true) ∧ (bqT tcL_law_31 15 5 = true) ∧ (bqT tcL_law_32 0 96 = true) ∧ (bqT tcL_law_32 1 46 = true) ∧ ((bqT tcL_law_32 2 182 && bqT tcL_law_32 3 0 && bqT tcL_law_32 4 64 && (0 * 256 + 64 == 64)) = true) ∧ (bqT tcL_law_32 5 87 = true) ∧ (bqT tcL_law_32 6 44 = true) ∧ (bqT tcL_law_32 7 42 = true) ∧ (bqT tcL_law_32 8 29 = true) ∧ (bqT tcL_law_32 9 4 = true) := by decide +kernel
theorem dL_law_492 : decode cL_law 492 = .ok (.iload_n 3, 1) := dt_29 (i := 12) (p := 480) gcL_law_30 pl_decf_12.1
theorem dL_law_493 : decode cL_law 493 = .ok (.iconst 1, 1) := dt_4 (i := 13) (p := 480) gcL_law_30 pl_decf_12.2.1
theorem dL_law_494 : decode cL_law 494 = .ok (.iadd, 1) := dt_96 (i := 14) (p := 480) gcL_law_30 pl_decf_12.2.2.1
theorem dL_law_495 : decode cL_law 495 = .ok (.iaload, 1) := dt_46 (i := 15) (p := 480) gcL_law_30 pl_decf_12.2.2.2.1
theorem dL_law_496 : decode cL_law 496 = .ok (.invokevirtual 63, 3) := dt_182 (i := 0) (p := 496) gcL_law_31 0 63 pl_decf_12.2.2.2.2.1
theorem dL_law_499 : decode cL_law 499 = .ok (.pop, 1) := dt_87 (i := 3) (p := 496) gcL_law_31 pl_decf_12.2.2.2.2.2.1
theorem dL_law_500 : decode cL_law 500 = .ok (.goto 524, 3) := dt_167 (i := 4) (p := 496) gcL_law_31 2 12 pl_decf_12.2.2.2.2.2.2.1
theorem dL_law_503 : decode cL_law 503 = .ok (.aload_n 1, 1) := dt_43 (i := 7) (p := 496) gcL_law_31 pl_decf_12.2.2.2.2.2.2.2.1
theorem dL_law_504 : decode cL_law 504 = .ok (.aload_n 0, 1) := dt_42 (i := 8) (p := 496) gcL_law_31 pl_decf_12.2.2.2.2.2.2.2.2.1
theorem dL_law_505 : decode cL_law 505 = .ok (.iload_n 3, 1) := dt_29 (i := 9) (p := 496) gcL_law_31 pl_decf_12.2.2.2.2.2.2.2.2.2.1
theorem dL_law_506 : decode cL_law 506 = .ok (.iconst 1, 1) := dt_4 (i := 10) (p := 496) gcL_law_31 pl_decf_12.2.2.2.2.2.2.2.2.2.2.1
theorem dL_law_507 : decode cL_law 507 = .ok (.iadd, 1) := dt_96 (i := 11) (p := 496) gcL_law_31 pl_decf_12.2.2.2.2.2.2.2.2.2.2.2.1
theorem dL_law_508 : decode cL_law 508 = .ok (.iaload, 1) := dt_46 (i := 12) (p := 496) gcL_law_31 pl_decf_12.2.2.2.2.2.2.2.2.2.2.2.2.1
theorem dL_law_509 : decode cL_law 509 = .ok (.aload_n 0, 1) := dt_42 (i := 13) (p := 496) gcL_law_31 pl_decf_12.2.2.2.2.2.2.2.2.2.2.2.2.2.1
theorem dL_law_510 : decode cL_law 510 = .ok (.iload_n 3, 1) := dt_29 (i := 14) (p := 496) gcL_law_31 pl_decf_12.2.2.2.2.2.2.2.2.2.2.2.2.2.2.1
theorem dL_law_511 : decode cL_law 511 = .ok (.iconst 2, 1) := dt_5 (i := 15) (p := 496) gcL_law_31 pl_decf_12.2.2.2.2.2.2.2.2.2.2.2.2.2.2.2.1
theorem dL_law_512 : decode cL_law 512 = .ok (.iadd, 1) := dt_96 (i := 0) (p := 512) gcL_law_32 pl_decf_12.2.2.2.2.2.2.2.2.2.2.2.2.2.2.2.2.1
theorem dL_law_513 : decode cL_law 513 = .ok (.iaload, 1) := dt_46 (i := 1) (p := 512) gcL_law_32 pl_decf_12.2.2.2.2.2.2.2.2.2.2.2.2.2.2.2.2.2.1
theorem dL_law_514 : decode cL_law 514 = .ok (.invokevirtual 64, 3) := dt_182 (i := 2) (p := 512) gcL_law_32 0 64 pl_decf_12.2.2.2.2.2.2.2.2.2.2.2.2.2.2.2.2.2.2.1
theorem dL_law_517 : decode cL_law 517 = .ok (.pop, 1) := dt_87 (i := 5) (p := 512) gcL_law_32 pl_decf_12.2.2.2.2.2.2.2.2.2.2.2.2.2.2.2.2.2.2.2.1
theorem dL_law_518 : decode cL_law 518 = .ok (.aload_n 2, 1) := dt_44 (i := 6) (p := 512) gcL_law_32 pl_decf_12.2.2.2.2.2.2.2.2.2.2.2.2.2.2.2.2.2.2.2.2.1
theorem dL_law_519 : decode cL_law 519 = .ok (.aload_n 0, 1) := dt_42 (i := 7) (p := 512) gcL_law_32 pl_decf_12.2.2.2.2.2.2.2.2.2.2.2.2.2.2.2.2.2.2.2.2.2.1
theorem dL_law_520 : decode cL_law 520 = .ok (.iload_n 3, 1) := dt_29 (i := 8) (p := 512) gcL_law_32 pl_decf_12.2.2.2.2.2.2.2.2.2.2.2.2.2.2.2.2.2.2.2.2.2.2.1
theorem dL_law_521 : decode cL_law 521 = .ok (.iconst 1, 1) := dt_4 (i := 9) (p := 512) gcL_law_32 pl_decf_12.2.2.2.2.2.2.2.2.2.2.2.2.2.2.2.2.2.2.2.2.2.2.2
set_option maxRecDepth 20000 in
theorem pl_decf_13 : (bqT tcL_law_32 10 96 = true) ∧ (bqT tcL_law_32 11 46 = true) ∧ (bqT tcL_law_32 12 42 = true) ∧ (bqT tcL_law_32 13 29 = true) ∧ (bqT tcL_law_32 14 5 = true) ∧ (bqT tcL_law_32 15 96 = true) ∧ (bqT tcL_law_33 0 46 = true) ∧ ((bqT tcL_law_33 1 182 && bqT tcL_law_33 2 0 && bqT tcL_law_33 3 67 && (0 * 256 + 67 == 67)) = true) ∧ (bqT tcL_law_33 4 87 = true) ∧ ((bqT tcL_law_33 5 167 && bqT tcL_law_33 6 1 && bqT tcL_law_33 7 235 && (Reader.signed 16 (1 * 256 + 235) == 491)) = true) ∧ (bqT tcL_law_33 8 43 = true) ∧ (bqT tcL_law_33 9 42 = true) ∧ (bqT tcL_law_33 10 29 = true) ∧ (bqT tcL_law_33 11 4 = true) ∧ (bqT tcL_law_33 12 96 = true) ∧ (bqT tcL_law_33 13 46 = true) ∧ ((bqT tcL_law_33 14 182 && bqT tcL_law_33 15 0 && bqT tcL_law_33 16 68 && (0 * 256 + 68 == 68)) = true) ∧ (bqT tcL_law_34 1 87 = true) ∧ (bqT tcL_law_34 2 44 = true) ∧ (bqT tcL_law_34 3 42 = true) ∧ (bqT tcL_law_34 4 29 = true) ∧ (bqT tcL_law_34 5 4 = true) ∧ (bqT tcL_law_34 6 96 = true) ∧ (bqT tcL_law_34 7 46 = true) := by decide +kernel
theorem dL_law_522 : decode cL_law 522 = .ok (.iadd, 1) := dt_96 (i := 10) (p := 512) gcL_law_32 pl_decf_13.1
theorem dL_law_523 : decode cL_law 523 = .ok (.iaload, 1) := dt_46 (i := 11) (p := 512) gcL_law_32 pl_decf_13.2.1
theorem dL_law_524 : decode cL_law 524 = .ok (.aload_n 0, 1) := dt_42 (i := 12) (p := 512) gcL_law_32 pl_decf_13.2.2.1
theorem dL_law_525 : decode cL_law 525 = .ok (.iload_n 3, 1) := dt_29 (i := 13) (p := 512) gcL_law_32 pl_decf_13.2.2.2.1
theorem dL_law_526 : decode cL_law 526 = .ok (.iconst 2, 1) := dt_5 (i := 14) (p := 512) gcL_law_32 pl_decf_13.2.2.2.2.1
theorem dL_law_527 : decode cL_law 527 = .ok (.iadd, 1) := dt_96 (i := 15) (p := 512) gcL_law_32 pl_decf_13.2.2.2.2.2.1
theorem dL_law_528 : decode cL_law 528 = .ok (.iaload, 1) := dt_46 (i := 0) (p := 528) gcL_law_33 pl_decf_13.2.2.2.2.2.2.1
theorem dL_law_529 : decode cL_law 529 = .ok (.invokevirtual 67, 3) := dt_182 (i := 1) (p := 528) gcL_law_33 0 67 pl_decf_13.2.2.2.2.2.2.2.1
theorem dL_law_532 : decode cL_law 532 = .ok (.pop, 1) := dt_87 (i := 4) (p := 528) gcL_law_33 pl_decf_13.2.2.2.2.2.2.2.2.1
theorem dL_law_533 : decode cL_law 533 = .ok (.goto 491, 3) := dt_167 (i := 5) (p := 528) gcL_law_33 1 235 pl_decf_13.2.2.2.2.2.2.2.2.2.1
theorem dL_law_536 : decode cL_law 536 = .ok (.aload_n 1, 1) := dt_43 (i := 8) (p := 528) gcL_law_33 pl_decf_13.2.2.2.2.2.2.2.2.2.2.1
theorem dL_law_537 : decode cL_law 537 = .ok (.aload_n 0, 1) := dt_42 (i := 9) (p := 528) gcL_law_33 pl_decf_13.2.2.2.2.2.2.2.2.2.2.2.1
theorem dL_law_538 : decode cL_law 538 = .ok (.iload_n 3, 1) := dt_29 (i := 10) (p := 528) gcL_law_33 pl_decf_13.2.2.2.2.2.2.2.2.2.2.2.2.1
theorem dL_law_539 : decode cL_law 539 = .ok (.iconst 1, 1) := dt_4 (i := 11) (p := 528) gcL_law_33 pl_decf_13.2.2.2.2.2.2.2.2.2.2.2.2.2.1
theorem dL_law_540 : decode cL_law 540 = .ok (.iadd, 1) := dt_96 (i := 12) (p := 528) gcL_law_33 pl_decf_13.2.2.2.2.2.2.2.2.2.2.2.2.2.2.1
theorem dL_law_541 : decode cL_law 541 = .ok (.iaload, 1) := dt_46 (i := 13) (p := 528) gcL_law_33 pl_decf_13.2.2.2.2.2.2.2.2.2.2.2.2.2.2.2.1
theorem dL_law_542 : decode cL_law 542 = .ok (.invokevirtual 68, 3) := dt_182 (i := 14) (p := 528) gcL_law_33 0 68 pl_decf_13.2.2.2.2.2.2.2.2.2.2.2.2.2.2.2.2.1
theorem dL_law_545 : decode cL_law 545 = .ok (.pop, 1) := dt_87 (i := 1) (p := 544) gcL_law_34 pl_decf_13.2.2.2.2.2.2.2.2.2.2.2.2.2.2.2.2.2.1
theorem dL_law_546 : decode cL_law 546 = .ok (.aload_n 2, 1) := dt_44 (i := 2) (p := 544) gcL_law_34 pl_decf_13.2.2.2.2.2.2.2.2.2.2.2.2.2.2.2.2.2.2.1
theorem dL_law_547 : decode cL_law 547 = .ok (.aload_n 0, 1) := dt_42 (i := 3) (p := 544) gcL_law_34 pl_decf_13.2.2.2.2.2.2.2.2.2.2.2.2.2.2.2.2.2.2.2.1
theorem dL_law_548 : decode cL_law 548 = .ok (.iload_n 3, 1) := dt_29 (i := 4) (p := 544) gcL_law_34 pl_decf_13.2.2.2.2.2.2.2.2.2.2.2.2.2.2.2.2.2.2.2.2.1
theorem dL_law_549 : decode cL_law 549 = .ok (.iconst 1, 1) := dt_4 (i := 5) (p := 544) gcL_law_34 pl_decf_13.2.2.2.2.2.2.2.2.2.2.2.2.2.2.2.2.2.2.2.2.2.1
theorem dL_law_550 : decode cL_law 550 = .ok (.iadd, 1) := dt_96 (i := 6) (p := 544) gcL_law_34 pl_decf_13.2.2.2.2.2.2.2.2.2.2.2.2.2.2.2.2.2.2.2.2.2.2.1
theorem dL_law_551 : decode cL_law 551 = .ok (.iaload, 1) := dt_46 (i := 7) (p := 544) gcL_law_34 pl_decf_13.2.2.2.2.2.2.2.2.2.2.2.2.2.2.2.2.2.2.2.2.2.2.2
set_option maxRecDepth 20000 in
theorem pl_decf_14 : ((bqT tcL_law_34 8 182 && bqT tcL_law_34 9 0 && bqT tcL_law_34 10 71 && (0 * 256 + 71 == 71)) = true) ∧ (bqT tcL_law_34 11 87 = true) ∧ ((bqT tcL_law_34 12 167 && bqT tcL_law_34 13 1 && bqT tcL_law_34 14 212 && (Reader.signed 16 (1 * 256 + 212) == 468)) = true) ∧ (bqT tcL_law_34 15 43 = true) ∧ ((bqT tcL_law_35 0 182 && bqT tcL_law_35 1 0 && bqT tcL_law_35 2 72 && (0 * 256 + 72 == 72)) = true) ∧ (bqT tcL_law_35 3 87 = true) ∧ (bqT tcL_law_35 4 44 = true) ∧ ((bqT tcL_law_35 5 182 && bqT tcL_law_35 6 0 && bqT tcL_law_35 7 75 && (0 * 256 + 75 == 75)) = true) ∧ (bqT tcL_law_35 8 87 = true) ∧ ((bqT tcL_law_35 9 167 && bqT tcL_law_35 10 1 && bqT tcL_law_35 11 199 && (Reader.signed 16 (1 * 256 + 199) == 455)) = true) ∧ (bqT tcL_law_35 12 43 = true) ∧ (bqT tcL_law_35 13 42 = true) ∧ (bqT tcL_law_35 14 29 = true) ∧ (bqT tcL_law_35 15 4 = true) ∧ (bqT tcL_law_36 0 96 = true) ∧ (bqT tcL_law_36 1 46 = true) ∧ (bqT tcL_law_36 2 42 = true) ∧ (bqT tcL_law_36 3 29 = true) ∧ (bqT tcL_law_36 4 5 = true) ∧ (bqT tcL_law_36 5 96 = true) ∧ (bqT tcL_law_36 6 46 = true) ∧ ((bqT tcL_law_36 7 182 && bqT tcL_law_36 8 0 && bqT tcL_law_36 9 76 && (0 * 256 + 76 == 76)) = true) ∧ (bqT tcL_law_36 10 87 = true) ∧ (bqT tcL_law_36 11 44 = true) := by decide +kernel
theorem dL_law_552 : decode cL_law 552 = .ok (.invokevirtual 71, 3) := dt_182 (i := 8) (p := 544) gcL_law_34 0 71 pl_decf_14.1
theorem dL_law_555 : decode cL_law 555 = .ok (.pop, 1) := dt_87 (i := 11) (p := 544) gcL_law_34 pl_decf_14.2.1
theorem dL_law_556 : decode cL_law 556 = .ok (.goto 468, 3) := dt_167 (i := 12) (p := 544) gcL_law_34 1 212 pl_decf_14.2.2.1
theorem dL_law_559 : decode cL_law 559 = .ok (.aload_n 1, 1) := dt_43 (i := 15) (p := 544) gcL_law_34 pl_decf_14.2.2.2.1
theorem dL_law_560 : decode cL_law 560 = .ok (.invokevirtual 72, 3) := dt_182 (i := 0) (p := 560) gcL_law_35 0 72 pl_decf_14.2.2.2.2.1
theorem dL_law_563 : decode cL_law 563 = .ok (.pop, 1) := dt_87 (i := 3) (p := 560) gcL_law_35 pl_decf_14.2.2.2.2.2.1
theorem dL_law_564 : decode cL_law 564 = .ok (.aload_n 2, 1) := dt_44 (i := 4) (p := 560) gcL_law_35 pl_decf_14.2.2.2.2.2.2.1
theorem dL_law_565 : decode cL_law 565 = .ok (.invokevirtual 75, 3) := dt_182 (i := 5) (p := 560) gcL_law_35 0 75 pl_decf_14.2.2.2.2.2.2.2.1
theorem dL_law_568 : decode cL_law 568 = .ok (.pop, 1) := dt_87 (i := 8) (p := 560) gcL_law_35 pl_decf_14.2.2.2.2.2.2.2.2.1
theorem dL_law_569 : decode cL_law 569 = .ok (.goto 455, 3) := dt_167 (i := 9) (p := 560) gcL_law_35 1 199 pl_decf_14.2.2.2.2.2.2.2.2.2.1
theorem dL_law_572 : decode cL_law 572 = .ok (.aload_n 1, 1) := dt_43 (i := 12) (p := 560) gcL_law_35 pl_decf_14.2.2.2.2.2.2.2.2.2.2.1
theorem dL_law_573 : decode cL_law 573 = .ok (.aload_n 0, 1) := dt_42 (i := 13) (p := 560) gcL_law_35 pl_decf_14.2.2.2.2.2.2.2.2.2.2.2.1
theorem dL_law_574 : decode cL_law 574 = .ok (.iload_n 3, 1) := dt_29 (i := 14) (p := 560) gcL_law_35 pl_decf_14.2.2.2.2.2.2.2.2.2.2.2.2.1
theorem dL_law_575 : decode cL_law 575 = .ok (.iconst 1, 1) := dt_4 (i := 15) (p := 560) gcL_law_35 pl_decf_14.2.2.2.2.2.2.2.2.2.2.2.2.2.1
theorem dL_law_576 : decode cL_law 576 = .ok (.iadd, 1) := dt_96 (i := 0) (p := 576) gcL_law_36 pl_decf_14.2.2.2.2.2.2.2.2.2.2.2.2.2.2.1
theorem dL_law_577 : decode cL_law 577 = .ok (.iaload, 1) := dt_46 (i := 1) (p := 576) gcL_law_36 pl_decf_14.2.2.2.2.2.2.2.2.2.2.2.2.2.2.2.1
theorem dL_law_578 : decode cL_law 578 = .ok (.aload_n 0, 1) := dt_42 (i := 2) (p := 576) gcL_law_36 pl_decf_14.2.2.2.2.2.2.2.2.2.2.2.2.2.2.2.2.1
theorem dL_law_579 : decode cL_law 579 = .ok (.iload_n 3, 1) := dt_29 (i := 3) (p := 576) gcL_law_36 pl_decf_14.2.2.2.2.2.2.2.2.2.2.2.2.2.2.2.2.2.1
theorem dL_law_580 : decode cL_law 580 = .ok (.iconst 2, 1) := dt_5 (i := 4) (p := 576) gcL_law_36 pl_decf_14.2.2.2.2.2.2.2.2.2.2.2.2.2.2.2.2.2.2.1
theorem dL_law_581 : decode cL_law 581 = .ok (.iadd, 1) := dt_96 (i := 5) (p := 576) gcL_law_36 pl_decf_14.2.2.2.2.2.2.2.2.2.2.2.2.2.2.2.2.2.2.2.1
theorem dL_law_582 : decode cL_law 582 = .ok (.iaload, 1) := dt_46 (i := 6) (p := 576) gcL_law_36 pl_decf_14.2.2.2.2.2.2.2.2.2.2.2.2.2.2.2.2.2.2.2.2.1
theorem dL_law_583 : decode cL_law 583 = .ok (.invokevirtual 76, 3) := dt_182 (i := 7) (p := 576) gcL_law_36 0 76 pl_decf_14.2.2.2.2.2.2.2.2.2.2.2.2.2.2.2.2.2.2.2.2.2.1
theorem dL_law_586 : decode cL_law 586 = .ok (.pop, 1) := dt_87 (i := 10) (p := 576) gcL_law_36 pl_decf_14.2.2.2.2.2.2.2.2.2.2.2.2.2.2.2.2.2.2.2.2.2.2.1
theorem dL_law_587 : decode cL_law 587 = .ok (.aload_n 2, 1) := dt_44 (i := 11) (p := 576) gcL_law_36 pl_decf_14.2.2.2.2.2.2.2.2.2.2.2.2.2.2.2.2.2.2.2.2.2.2.2
set_option maxRecDepth 20000 in
theorem pl_decf_15 : (bqT tcL_law_36 12 42 = true) ∧ (bqT tcL_law_36 13 29 = true) ∧ (bqT tcL_law_36 14 4 = true) ∧ (bqT tcL_law_36 15 96 = true) ∧ (bqT tcL_law_37 0 46 = true) ∧ (bqT tcL_law_37 1 42 = true) ∧ (bqT tcL_law_37 2 29 = true) ∧ (bqT tcL_law_37 3 5 = true) ∧ (bqT tcL_law_37 4 96 = true) ∧ (bqT tcL_law_37 5 46 = true) ∧ ((bqT tcL_law_37 6 182 && bqT tcL_law_37 7 0 && bqT tcL_law_37 8 79 && (0 * 256 + 79 == 79)) = true) ∧ (bqT tcL_law_37 9 87 = true) ∧ ((bqT tcL_law_37 10 167 && bqT tcL_law_37 11 1 && bqT tcL_law_37 12 166 && (Reader.signed 16 (1 * 256 + 166) == 422)) = true) ∧ (bqT tcL_law_37 13 43 = true) ∧ (bqT tcL_law_37 14 42 = true) ∧ (bqT tcL_law_37 15 29 = true) ∧ (bqT tcL_law_38 0 4 = true) ∧ (bqT tcL_law_38 1 96 = true) ∧ (bqT tcL_law_38 2 46 = true) ∧ (bqT tcL_law_38 3 42 = true) ∧ (bqT tcL_law_38 4 29 = true) ∧ (bqT tcL_law_38 5 5 = true) ∧ (bqT tcL_law_38 6 96 = true) ∧ (bqT tcL_law_38 7 46 = true) := by decide +kernel
theorem dL_law_588 : decode cL_law 588 = .ok (.aload_n 0, 1) := dt_42 (i := 12) (p := 576) gcL_law_36 pl_decf_15.1
theorem dL_law_589 : decode cL_law 589 = .ok (.iload_n 3, 1) := dt_29 (i := 13) (p := 576) gcL_law_36 pl_decf_15.2.1
theorem dL_law_590 : decode cL_law 590 = .ok (.iconst 1, 1) := dt_4 (i := 14) (p := 576) gcL_law_36 pl_decf_15.2.2.1
theorem dL_law_591 : decode cL_law 591 = .ok (.iadd, 1) := dt_96 (i := 15) (p := 576) gcL_law_36 pl_decf_15.2.2.2.1
theorem dL_law_592 : decode cL_law 592 = .ok (.iaload, 1) := dt_46 (i := 0) (p := 592) gcL_law_37 pl_decf_15.2.2.2.2.1
theorem dL_law_593 : decode cL_law 593 = .ok (.aload_n 0, 1) := dt_42 (i := 1) (p := 592) gcL_law_37 pl_decf_15.2.2.2.2.2.1
theorem dL_law_594 : decode cL_law 594 = .ok (.iload_n 3, 1) := dt_29 (i := 2) (p := 592) gcL_law_37 pl_decf_15.2.2.2.2.2.2.1
theorem dL_law_595 : decode cL_law 595 = .ok (.iconst 2, 1) := dt_5 (i := 3) (p := 592) gcL_law_37 pl_decf_15.2.2.2.2.2.2.2.1
theorem dL_law_596 : decode cL_law 596 = .ok (.iadd, 1) := dt_96 (i := 4) (p := 592) gcL_law_37 pl_decf_15.2.2.2.2.2.2.2.2.1
theorem dL_law_597 : decode cL_law 597 = .ok (.iaload, 1) := dt_46 (i := 5) (p := 592) gcL_law_37 pl_decf_15.2.2.2.2.2.2.2.2.2.1
theorem dL_law_598 : decode cL_law 598 = .ok (.invokevirtual 79, 3) := dt_182 (i := 6) (p := 592) gcL_law_37 0 79 pl_decf_15.2.2.2.2.2.2.2.2.2.2.1
theorem dL_law_601 : decode cL_law 601 = .ok (.pop, 1) := dt_87 (i := 9) (p := 592) gcL_law_37 pl_decf_15.2.2.2.2.2.2.2.2.2.2.2.1
theorem dL_law_602 : decode cL_law 602 = .ok (.goto 422, 3) := dt_167 (i := 10) (p := 592) gcL_law_37 1 166 pl_decf_15.2.2.2.2.2.2.2.2.2.2.2.2.1
theorem dL_law_605 : decode cL_law 605 = .ok (.aload_n 1, 1) := dt_43 (i := 13) (p := 592) gcL_law_37 pl_decf_15.2.2.2.2.2.2.2.2.2.2.2.2.2.1
theorem dL_law_606 : decode cL_law 606 = .ok (.aload_n 0, 1) := dt_42 (i := 14) (p := 592) gcL_law_37 pl_decf_15.2.2.2.2.2.2.2.2.2.2.2.2.2.2.1
theorem dL_law_607 : decode cL_law 607 = .ok (.iload_n 3, 1) := dt_29 (i := 15) (p := 592) gcL_law_37 pl_decf_15.2.2.2.2.2.2.2.2.2.2.2.2.2.2.2.1
theorem dL_law_608 : decode cL_law 608 = .ok (.iconst 1, 1) := dt_4 (i := 0) (p := 608) gcL_law_38 pl_decf_15.2.2.2.2.2.2.2.2.2.2.2.2.2.2.2.2.1
theorem dL_law_609 : decode cL_law 609 = .ok (.iadd, 1) := dt_96 (i := 1) (p := 608) gcL_law_38 pl_decf_15.2.2.2.2.2.2.2.2.2.2.2.2.2.2.2.2.2.1
theorem dL_law_610 : decode cL_law 610 = .ok (.iaload, 1) := dt_46 (i := 2) (p := 608) gcL_law_38 pl_decf_15.2.2.2.2.2.2.2.2.2.2.2.2.2.2.2.2.2.2.1
theorem dL_law_611 : decode cL_law 611 = .ok (.aload_n 0, 1) := dt_42 (i := 3) (p := 608) gcL_law_38 pl_decf_15.2.2.2.2.2.2.2.2.2.2.2.2.2.2.2.2.2.2.2.1
theorem dL_law_612 : decode cL_law 612 = .ok (.iload_n 3, 1) := dt_29 (i := 4) (p := 608) gcL_law_38 pl_decf_15.2.2.2.2.2.2.2.2.2.2.2.2.2.2.2.2.2.2.2.2.1
theorem dL_law_613 : decode cL_law 613 = .ok (.iconst 2, 1) := dt_5 (i := 5) (p := 608) gcL_law_38 pl_decf_15.2.2.2.2.2.2.2.2.2.2.2.2.2.2.2.2.2.2.2.2.2.1
theorem dL_law_614 : decode cL_law 614 = .ok (.iadd, 1) := dt_96 (i := 6) (p := 608) gcL_law_38 pl_decf_15.2.2.2.2.2.2.2.2.2.2.2.2.2.2.2.2.2.2.2.2.2.2.1
theorem dL_law_615 : decode cL_law 615 = .ok (.iaload, 1) := dt_46 (i := 7) (p := 608) gcL_law_38 pl_decf_15.2.2.2.2.2.2.2.2.2.2.2.2.2.2.2.2.2.2.2.2.2.2.2
set_option maxRecDepth 20000 in
theorem pl_decf_16 : (bqT tcL_law_38 8 42 = true) ∧ (bqT tcL_law_38 9 29 = true) ∧ (bqT tcL_law_38 10 6 = true) ∧ (bqT tcL_law_38 11 96 = true) ∧ (bqT tcL_law_38 12 46 = true) ∧ ((bqT tcL_law_38 13 182 && bqT tcL_law_38 14 0 && bqT tcL_law_38 15 80 && (0 * 256 + 80 == 80)) = true) ∧ (bqT tcL_law_39 0 87 = true) ∧ (bqT tcL_law_39 1 44 = true) ∧ (bqT tcL_law_39 2 42 = true) ∧ (bqT tcL_law_39 3 29 = true) ∧ (bqT tcL_law_39 4 4 = true) ∧ (bqT tcL_law_39 5 96 = true) ∧ (bqT tcL_law_39 6 46 = true) ∧ (bqT tcL_law_39 7 42 = true) ∧ (bqT tcL_law_39 8 29 = true) ∧ (bqT tcL_law_39 9 5 = true) ∧ (bqT tcL_law_39 10 96 = true) ∧ (bqT tcL_law_39 11 46 = true) := by decide +kernel
theorem dL_law_616 : decode cL_law 616 = .ok (.aload_n 0, 1) := dt_42 (i := 8) (p := 608) gcL_law_38 pl_decf_16.1
theorem dL_law_617 : decode cL_law 617 = .ok (.iload_n 3, 1) := dt_29 (i := 9) (p := 608) gcL_law_38 pl_decf_16.2.1
theorem dL_law_618 : decode cL_law 618 = .ok (.iconst 3, 1) := dt_6 (i := 10) (p := 608) gcL_law_38 pl_decf_16.2.2.1
theorem dL_law_619 : decode cL_law 619 = .ok (.iadd, 1) := dt_96 (i := 11) (p := 608) gcL_law_38 pl_decf_16.2.2.2.1
theorem dL_law_620 : decode cL_law 620 = .ok (.iaload, 1) := dt_46 (i := 12) (p := 608) gcL_law_38 pl_decf_16.2.2.2.2.1
theorem dL_law_621 : decode cL_law 621 = .ok (.invokevirtual 80, 3) := dt_182 (i := 13) (p := 608) gcL_law_38 0 80 pl_decf_16.2.2.2.2.2.1
theorem dL_law_624 : decode cL_law 624 = .ok (.pop, 1) := dt_87 (i := 0) (p := 624) gcL_law_39 pl_decf_16.2.2.2.2.2.2.1
theorem dL_law_625 : decode cL_law 625 = .ok (.aload_n 2, 1) := dt_44 (i := 1) (p := 624) gcL_law_39 pl_decf_16.2.2.2.2.2.2.2.1
theorem dL_law_626 : decode cL_law 626 = .ok (.aload_n 0, 1) := dt_42 (i := 2) (p := 624) gcL_law_39 pl_decf_16.2.2.2.2.2.2.2.2.1
theorem dL_law_627 : decode cL_law 627 = .ok (.iload_n 3, 1) := dt_29 (i := 3) (p := 624) gcL_law_39 pl_decf_16.2.2.2.2.2.2.2.2.2.1
theorem dL_law_628 : decode cL_law 628 = .ok (.iconst 1, 1) := dt_4 (i := 4) (p := 624) gcL_law_39 pl_decf_16.2.2.2.2.2.2.2.2.2.2.1
theorem dL_law_629 : decode cL_law 629 = .ok (.iadd, 1) := dt_96 (i := 5) (p := 624) gcL_law_39 pl_decf_16.2.2.2.2.2.2.2.2.2.2.2.1
theorem dL_law_630 : decode cL_law 630 = .ok (.iaload, 1) := dt_46 (i := 6) (p := 624) gcL_law_39 pl_decf_16.2.2.2.2.2.2.2.2.2.2.2.2.1
theorem dL_law_631 : decode cL_law 631 = .ok (.aload_n 0, 1) := dt_42 (i := 7) (p := 624) gcL_law_39 pl_decf_16.2.2.2.2.2.2.2.2.2.2.2.2.2.1
theorem dL_law_632 : decode cL_law 632 = .ok (.iload_n 3, 1) := dt_29 (i := 8) (p := 624) gcL_law_39 pl_decf_16.2.2.2.2.2.2.2.2.2.2.2.2.2.2.1
theorem dL_law_633 : decode cL_law 633 = .ok (.iconst 2, 1) := dt_5 (i := 9) (p := 624) gcL_law_39 pl_decf_16.2.2.2.2.2.2.2.2.2.2.2.2.2.2.2.1
theorem dL_law_634 : decode cL_law 634 = .ok (.iadd, 1) := dt_96 (i := 10) (p := 624) gcL_law_39 pl_decf_16.2.2.2.2.2.2.2.2.2.2.2.2.2.2.2.2.1
theorem dL_law_635 : decode cL_law 635 = .ok (.iaload, 1) := dt_46 (i := 11) (p := 624) gcL_law_39 pl_decf_16.2.2.2.2.2.2.2.2.2.2.2.2.2.2.2.2.2
