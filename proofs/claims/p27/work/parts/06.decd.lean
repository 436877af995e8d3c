set_option maxRecDepth 20000 in
theorem pk_decd_235 : (bq cX9_readNames 135 79 = true) ∧ ((bq cX9_readNames 136 167 && bq cX9_readNames (136 + 1) 255 && bq cX9_readNames (136 + 2) 158 && (Reader.signed 16 (255 * 256 + 158) == (-98))) = true) ∧ (bq cX9_readNames 139 42 = true) ∧ ((bq cX9_readNames 140 180 && bq cX9_readNames (140 + 1) 0 && bq cX9_readNames (140 + 2) 134 && (0 * 256 + 134 == 134)) = true) ∧ (bq cX9_readNames 143 62 = true) ∧ (bq cX9_readNames 144 42 = true) ∧ (bq cX9_readNames 145 42 = true) ∧ ((bq cX9_readNames 146 180 && bq cX9_readNames (146 + 1) 0 && bq cX9_readNames (146 + 2) 140 && (0 * 256 + 140 == 140)) = true) ∧ (bq cX9_readNames 149 4 = true) ∧ ((bq cX9_readNames 150 160 && bq cX9_readNames (150 + 1) 0 && bq cX9_readNames (150 + 2) 7 && (Reader.signed 16 (0 * 256 + 7) == 7)) = true) ∧ (bq cX9_readNames 153 4 = true) ∧ ((bq cX9_readNames 154 167 && bq cX9_readNames (154 + 1) 0 && bq cX9_readNames (154 + 2) 4 && (Reader.signed 16 (0 * 256 + 4) == 4)) = true) ∧ (bq cX9_readNames 157 3 = true) ∧ ((bq cX9_readNames 158 182 && bq cX9_readNames (158 + 1) 0 && bq cX9_readNames (158 + 2) 150 && (0 * 256 + 150 == 150)) = true) ∧ ((bq cX9_readNames 161 54 && bq cX9_readNames (161 + 1) 4) = true) ∧ (bq cX9_readNames 163 42 = true) ∧ ((bq cX9_readNames 164 180 && bq cX9_readNames (164 + 1) 0 && bq cX9_readNames (164 + 2) 97 && (0 * 256 + 97 == 97)) = true) ∧ ((bq cX9_readNames 167 16 && bq cX9_readNames (167 + 1) 247 && (Reader.signed 8 247 == (-9))) = true) ∧ ((bq cX9_readNames 169 160 && bq cX9_readNames (169 + 1) 0 && bq cX9_readNames (169 + 2) 18 && (Reader.signed 16 (0 * 256 + 18) == 18)) = true) ∧ ((bq cX9_readNames 172 21 && bq cX9_readNames (172 + 1) 4) = true) ∧ ((bq cX9_readNames 174 16 && bq cX9_readNames (174 + 1) 16 && (Reader.signed 8 16 == 16)) = true) ∧ ((bq cX9_readNames 176 162 && bq cX9_readNames (176 + 1) 0 && bq cX9_readNames (176 + 2) 11 && (Reader.signed 16 (0 * 256 + 11) == 11)) = true) ∧ (bq cX9_readNames 179 42 = true) ∧ (bq cX9_readNames 180 28 = true) ∧ ((bq cX9_readNames 181 21 && bq cX9_readNames (181 + 1) 4) = true) ∧ (bq cX9_readNames 183 29 = true) ∧ ((bq cX9_readNames 184 182 && bq cX9_readNames (184 + 1) 0 && bq cX9_readNames (184 + 2) 115 && (0 * 256 + 115 == 115)) = true) ∧ (bq cX9_readNames 187 42 = true) ∧ ((bq cX9_readNames 188 180 && bq cX9_readNames (188 + 1) 0 && bq cX9_readNames (188 + 2) 97 && (0 * 256 + 97 == 97)) = true) ∧ ((bq cX9_readNames 191 16 && bq cX9_readNames (191 + 1) 247 && (Reader.signed 8 247 == (-9))) = true) ∧ ((bq cX9_readNames 193 160 && bq cX9_readNames (193 + 1) 0 && bq cX9_readNames (193 + 2) 91 && (Reader.signed 16 (0 * 256 + 91) == 91)) = true) ∧ ((bq cX9_readNames 196 21 && bq cX9_readNames (196 + 1) 4) = true) := by decide +kernel
theorem dX9_readNames_135 : decode cX9_readNames 135 = .ok (.iastore, 1) := dr_79  pk_decd_235.1
theorem dX9_readNames_136 : decode cX9_readNames 136 = .ok (.goto (-98), 3) := dr_167 255 158  pk_decd_235.2.1
theorem dX9_readNames_139 : decode cX9_readNames 139 = .ok (.aload_n 0, 1) := dr_42  pk_decd_235.2.2.1
theorem dX9_readNames_140 : decode cX9_readNames 140 = .ok (.getfield 134, 3) := dr_180 0 134  pk_decd_235.2.2.2.1
theorem dX9_readNames_143 : decode cX9_readNames 143 = .ok (.istore_n 3, 1) := dr_62  pk_decd_235.2.2.2.2.1
theorem dX9_readNames_144 : decode cX9_readNames 144 = .ok (.aload_n 0, 1) := dr_42  pk_decd_235.2.2.2.2.2.1
theorem dX9_readNames_145 : decode cX9_readNames 145 = .ok (.aload_n 0, 1) := dr_42  pk_decd_235.2.2.2.2.2.2.1
theorem dX9_readNames_146 : decode cX9_readNames 146 = .ok (.getfield 140, 3) := dr_180 0 140  pk_decd_235.2.2.2.2.2.2.2.1
theorem dX9_readNames_149 : decode cX9_readNames 149 = .ok (.iconst 1, 1) := dr_4  pk_decd_235.2.2.2.2.2.2.2.2.1
theorem dX9_readNames_150 : decode cX9_readNames 150 = .ok (.if_icmp .ne 7, 3) := dr_160 0 7  pk_decd_235.2.2.2.2.2.2.2.2.2.1
theorem dX9_readNames_153 : decode cX9_readNames 153 = .ok (.iconst 1, 1) := dr_4  pk_decd_235.2.2.2.2.2.2.2.2.2.2.1
theorem dX9_readNames_154 : decode cX9_readNames 154 = .ok (.goto 4, 3) := dr_167 0 4  pk_decd_235.2.2.2.2.2.2.2.2.2.2.2.1
theorem dX9_readNames_157 : decode cX9_readNames 157 = .ok (.iconst 0, 1) := dr_3  pk_decd_235.2.2.2.2.2.2.2.2.2.2.2.2.1
theorem dX9_readNames_158 : decode cX9_readNames 158 = .ok (.invokevirtual 150, 3) := dr_182 0 150  pk_decd_235.2.2.2.2.2.2.2.2.2.2.2.2.2.1
theorem dX9_readNames_161 : decode cX9_readNames 161 = .ok (.istore 4, 2) := dr_54  pk_decd_235.2.2.2.2.2.2.2.2.2.2.2.2.2.2.1
theorem dX9_readNames_163 : decode cX9_readNames 163 = .ok (.aload_n 0, 1) := dr_42  pk_decd_235.2.2.2.2.2.2.2.2.2.2.2.2.2.2.2.1
theorem dX9_readNames_164 : decode cX9_readNames 164 = .ok (.getfield 97, 3) := dr_180 0 97  pk_decd_235.2.2.2.2.2.2.2.2.2.2.2.2.2.2.2.2.1
theorem dX9_readNames_167 : decode cX9_readNames 167 = .ok (.bipush (-9), 2) := dr_16 247  pk_decd_235.2.2.2.2.2.2.2.2.2.2.2.2.2.2.2.2.2.1
theorem dX9_readNames_169 : decode cX9_readNames 169 = .ok (.if_icmp .ne 18, 3) := dr_160 0 18  pk_decd_235.2.2.2.2.2.2.2.2.2.2.2.2.2.2.2.2.2.2.1
theorem dX9_readNames_172 : decode cX9_readNames 172 = .ok (.iload 4, 2) := dr_21  pk_decd_235.2.2.2.2.2.2.2.2.2.2.2.2.2.2.2.2.2.2.2.1
theorem dX9_readNames_174 : decode cX9_readNames 174 = .ok (.bipush 16, 2) := dr_16 16  pk_decd_235.2.2.2.2.2.2.2.2.2.2.2.2.2.2.2.2.2.2.2.2.1
theorem dX9_readNames_176 : decode cX9_readNames 176 = .ok (.if_icmp .ge 11, 3) := dr_162 0 11  pk_decd_235.2.2.2.2.2.2.2.2.2.2.2.2.2.2.2.2.2.2.2.2.2.1
theorem dX9_readNames_179 : decode cX9_readNames 179 = .ok (.aload_n 0, 1) := dr_42  pk_decd_235.2.2.2.2.2.2.2.2.2.2.2.2.2.2.2.2.2.2.2.2.2.2.1
theorem dX9_readNames_180 : decode cX9_readNames 180 = .ok (.iload_n 2, 1) := dr_28  pk_decd_235.2.2.2.2.2.2.2.2.2.2.2.2.2.2.2.2.2.2.2.2.2.2.2.1
theorem dX9_readNames_181 : decode cX9_readNames 181 = .ok (.iload 4, 2) := dr_21  pk_decd_235.2.2.2.2.2.2.2.2.2.2.2.2.2.2.2.2.2.2.2.2.2.2.2.2.1
theorem dX9_readNames_183 : decode cX9_readNames 183 = .ok (.iload_n 3, 1) := dr_29  pk_decd_235.2.2.2.2.2.2.2.2.2.2.2.2.2.2.2.2.2.2.2.2.2.2.2.2.2.1
theorem dX9_readNames_184 : decode cX9_readNames 184 = .ok (.invokevirtual 115, 3) := dr_182 0 115  pk_decd_235.2.2.2.2.2.2.2.2.2.2.2.2.2.2.2.2.2.2.2.2.2.2.2.2.2.2.1
theorem dX9_readNames_187 : decode cX9_readNames 187 = .ok (.aload_n 0, 1) := dr_42  pk_decd_235.2.2.2.2.2.2.2.2.2.2.2.2.2.2.2.2.2.2.2.2.2.2.2.2.2.2.2.1
theorem dX9_readNames_188 : decode cX9_readNames 188 = .ok (.getfield 97, 3) := dr_180 0 97  pk_decd_235.2.2.2.2.2.2.2.2.2.2.2.2.2.2.2.2.2.2.2.2.2.2.2.2.2.2.2.2.1
theorem dX9_readNames_191 : decode cX9_readNames 191 = .ok (.bipush (-9), 2) := dr_16 247  pk_decd_235.2.2.2.2.2.2.2.2.2.2.2.2.2.2.2.2.2.2.2.2.2.2.2.2.2.2.2.2.2.1
theorem dX9_readNames_193 : decode cX9_readNames 193 = .ok (.if_icmp .ne 91, 3) := dr_160 0 91  pk_decd_235.2.2.2.2.2.2.2.2.2.2.2.2.2.2.2.2.2.2.2.2.2.2.2.2.2.2.2.2.2.2.1
theorem dX9_readNames_196 : decode cX9_readNames 196 = .ok (.iload 4, 2) := dr_21  pk_decd_235.2.2.2.2.2.2.2.2.2.2.2.2.2.2.2.2.2.2.2.2.2.2.2.2.2.2.2.2.2.2.2
set_option maxRecDepth 20000 in
theorem pk_decd_236 : ((bq cX9_readNames 198 16 && bq cX9_readNames (198 + 1) 16 && (Reader.signed 8 16 == 16)) = true) ∧ ((bq cX9_readNames 200 159 && bq cX9_readNames (200 + 1) 0 && bq cX9_readNames (200 + 2) 11 && (Reader.signed 16 (0 * 256 + 11) == 11)) = true) ∧ ((bq cX9_readNames 203 21 && bq cX9_readNames (203 + 1) 4) = true) ∧ ((bq cX9_readNames 205 184 && bq cX9_readNames (205 + 1) 0 && bq cX9_readNames (205 + 2) 154 && (0 * 256 + 154 == 154)) = true) ∧ ((bq cX9_readNames 208 153 && bq cX9_readNames (208 + 1) 0 && bq cX9_readNames (208 + 2) 76 && (Reader.signed 16 (0 * 256 + 76) == 76)) = true) ∧ (bq cX9_readNames 211 42 = true) ∧ ((bq cX9_readNames 212 180 && bq cX9_readNames (212 + 1) 0 && bq cX9_readNames (212 + 2) 134 && (0 * 256 + 134 == 134)) = true) ∧ (bq cX9_readNames 215 62 = true) ∧ (bq cX9_readNames 216 42 = true) ∧ ((bq cX9_readNames 217 180 && bq cX9_readNames (217 + 1) 0 && bq cX9_readNames (217 + 2) 140 && (0 * 256 + 140 == 140)) = true) ∧ (bq cX9_readNames 220 5 = true) ∧ ((bq cX9_readNames 221 160 && bq cX9_readNames (221 + 1) 0 && bq cX9_readNames (221 + 2) 7 && (Reader.signed 16 (0 * 256 + 7) == 7)) = true) ∧ (bq cX9_readNames 224 4 = true) ∧ ((bq cX9_readNames 225 167 && bq cX9_readNames (225 + 1) 0 && bq cX9_readNames (225 + 2) 4 && (Reader.signed 16 (0 * 256 + 4) == 4)) = true) ∧ (bq cX9_readNames 228 3 = true) ∧ ((bq cX9_readNames 229 54 && bq cX9_readNames (229 + 1) 5) = true) ∧ (bq cX9_readNames 231 42 = true) ∧ ((bq cX9_readNames 232 21 && bq cX9_readNames (232 + 1) 5) = true) ∧ ((bq cX9_readNames 234 154 && bq cX9_readNames (234 + 1) 0 && bq cX9_readNames (234 + 2) 11 && (Reader.signed 16 (0 * 256 + 11) == 11)) = true) ∧ (bq cX9_readNames 237 42 = true) ∧ ((bq cX9_readNames 238 180 && bq cX9_readNames (238 + 1) 0 && bq cX9_readNames (238 + 2) 140 && (0 * 256 + 140 == 140)) = true) ∧ (bq cX9_readNames 241 6 = true) ∧ ((bq cX9_readNames 242 160 && bq cX9_readNames (242 + 1) 0 && bq cX9_readNames (242 + 2) 7 && (Reader.signed 16 (0 * 256 + 7) == 7)) = true) ∧ (bq cX9_readNames 245 4 = true) ∧ ((bq cX9_readNames 246 167 && bq cX9_readNames (246 + 1) 0 && bq cX9_readNames (246 + 2) 4 && (Reader.signed 16 (0 * 256 + 4) == 4)) = true) ∧ (bq cX9_readNames 249 3 = true) ∧ ((bq cX9_readNames 250 182 && bq cX9_readNames (250 + 1) 0 && bq cX9_readNames (250 + 2) 150 && (0 * 256 + 150 == 150)) = true) ∧ ((bq cX9_readNames 253 54 && bq cX9_readNames (253 + 1) 6) = true) ∧ (bq cX9_readNames 255 42 = true) ∧ ((bq cX9_readNames 256 180 && bq cX9_readNames (256 + 1) 0 && bq cX9_readNames (256 + 2) 97 && (0 * 256 + 97 == 97)) = true) ∧ ((bq cX9_readNames 259 16 && bq cX9_readNames (259 + 1) 247 && (Reader.signed 8 247 == (-9))) = true) ∧ ((bq cX9_readNames 261 160 && bq cX9_readNames (261 + 1) 0 && bq cX9_readNames (261 + 2) 23 && (Reader.signed 16 (0 * 256 + 23) == 23)) = true) := by decide +kernel
theorem dX9_readNames_198 : decode cX9_readNames 198 = .ok (.bipush 16, 2) := dr_16 16  pk_decd_236.1
theorem dX9_readNames_200 : decode cX9_readNames 200 = .ok (.if_icmp .eq 11, 3) := dr_159 0 11  pk_decd_236.2.1
theorem dX9_readNames_203 : decode cX9_readNames 203 = .ok (.iload 4, 2) := dr_21  pk_decd_236.2.2.1
theorem dX9_readNames_205 : decode cX9_readNames 205 = .ok (.invokestatic 154, 3) := dr_184 0 154  pk_decd_236.2.2.2.1
theorem dX9_readNames_208 : decode cX9_readNames 208 = .ok (.ifCond .eq 76, 3) := dr_153 0 76  pk_decd_236.2.2.2.2.1
theorem dX9_readNames_211 : decode cX9_readNames 211 = .ok (.aload_n 0, 1) := dr_42  pk_decd_236.2.2.2.2.2.1
theorem dX9_readNames_212 : decode cX9_readNames 212 = .ok (.getfield 134, 3) := dr_180 0 134  pk_decd_236.2.2.2.2.2.2.1
theorem dX9_readNames_215 : decode cX9_readNames 215 = .ok (.istore_n 3, 1) := dr_62  pk_decd_236.2.2.2.2.2.2.2.1
theorem dX9_readNames_216 : decode cX9_readNames 216 = .ok (.aload_n 0, 1) := dr_42  pk_decd_236.2.2.2.2.2.2.2.2.1
theorem dX9_readNames_217 : decode cX9_readNames 217 = .ok (.getfield 140, 3) := dr_180 0 140  pk_decd_236.2.2.2.2.2.2.2.2.2.1
theorem dX9_readNames_220 : decode cX9_readNames 220 = .ok (.iconst 2, 1) := dr_5  pk_decd_236.2.2.2.2.2.2.2.2.2.2.1
theorem dX9_readNames_221 : decode cX9_readNames 221 = .ok (.if_icmp .ne 7, 3) := dr_160 0 7  pk_decd_236.2.2.2.2.2.2.2.2.2.2.2.1
theorem dX9_readNames_224 : decode cX9_readNames 224 = .ok (.iconst 1, 1) := dr_4  pk_decd_236.2.2.2.2.2.2.2.2.2.2.2.2.1
theorem dX9_readNames_225 : decode cX9_readNames 225 = .ok (.goto 4, 3) := dr_167 0 4  pk_decd_236.2.2.2.2.2.2.2.2.2.2.2.2.2.1
theorem dX9_readNames_228 : decode cX9_readNames 228 = .ok (.iconst 0, 1) := dr_3  pk_decd_236.2.2.2.2.2.2.2.2.2.2.2.2.2.2.1
theorem dX9_readNames_229 : decode cX9_readNames 229 = .ok (.istore 5, 2) := dr_54  pk_decd_236.2.2.2.2.2.2.2.2.2.2.2.2.2.2.2.1
theorem dX9_readNames_231 : decode cX9_readNames 231 = .ok (.aload_n 0, 1) := dr_42  pk_decd_236.2.2.2.2.2.2.2.2.2.2.2.2.2.2.2.2.1
theorem dX9_readNames_232 : decode cX9_readNames 232 = .ok (.iload 5, 2) := dr_21  pk_decd_236.2.2.2.2.2.2.2.2.2.2.2.2.2.2.2.2.2.1
theorem dX9_readNames_234 : decode cX9_readNames 234 = .ok (.ifCond .ne 11, 3) := dr_154 0 11  pk_decd_236.2.2.2.2.2.2.2.2.2.2.2.2.2.2.2.2.2.2.1
theorem dX9_readNames_237 : decode cX9_readNames 237 = .ok (.aload_n 0, 1) := dr_42  pk_decd_236.2.2.2.2.2.2.2.2.2.2.2.2.2.2.2.2.2.2.2.1
theorem dX9_readNames_238 : decode cX9_readNames 238 = .ok (.getfield 140, 3) := dr_180 0 140  pk_decd_236.2.2.2.2.2.2.2.2.2.2.2.2.2.2.2.2.2.2.2.2.1
theorem dX9_readNames_241 : decode cX9_readNames 241 = .ok (.iconst 3, 1) := dr_6  pk_decd_236.2.2.2.2.2.2.2.2.2.2.2.2.2.2.2.2.2.2.2.2.2.1
theorem dX9_readNames_242 : decode cX9_readNames 242 = .ok (.if_icmp .ne 7, 3) := dr_160 0 7  pk_decd_236.2.2.2.2.2.2.2.2.2.2.2.2.2.2.2.2.2.2.2.2.2.2.1
theorem dX9_readNames_245 : decode cX9_readNames 245 = .ok (.iconst 1, 1) := dr_4  pk_decd_236.2.2.2.2.2.2.2.2.2.2.2.2.2.2.2.2.2.2.2.2.2.2.2.1
theorem dX9_readNames_246 : decode cX9_readNames 246 = .ok (.goto 4, 3) := dr_167 0 4  pk_decd_236.2.2.2.2.2.2.2.2.2.2.2.2.2.2.2.2.2.2.2.2.2.2.2.2.1
theorem dX9_readNames_249 : decode cX9_readNames 249 = .ok (.iconst 0, 1) := dr_3  pk_decd_236.2.2.2.2.2.2.2.2.2.2.2.2.2.2.2.2.2.2.2.2.2.2.2.2.2.1
theorem dX9_readNames_250 : decode cX9_readNames 250 = .ok (.invokevirtual 150, 3) := dr_182 0 150  pk_decd_236.2.2.2.2.2.2.2.2.2.2.2.2.2.2.2.2.2.2.2.2.2.2.2.2.2.2.1
theorem dX9_readNames_253 : decode cX9_readNames 253 = .ok (.istore 6, 2) := dr_54  pk_decd_236.2.2.2.2.2.2.2.2.2.2.2.2.2.2.2.2.2.2.2.2.2.2.2.2.2.2.2.1
theorem dX9_readNames_255 : decode cX9_readNames 255 = .ok (.aload_n 0, 1) := dr_42  pk_decd_236.2.2.2.2.2.2.2.2.2.2.2.2.2.2.2.2.2.2.2.2.2.2.2.2.2.2.2.2.1
theorem dX9_readNames_256 : decode cX9_readNames 256 = .ok (.getfield 97, 3) := dr_180 0 97  pk_decd_236.2.2.2.2.2.2.2.2.2.2.2.2.2.2.2.2.2.2.2.2.2.2.2.2.2.2.2.2.2.1
theorem dX9_readNames_259 : decode cX9_readNames 259 = .ok (.bipush (-9), 2) := dr_16 247  pk_decd_236.2.2.2.2.2.2.2.2.2.2.2.2.2.2.2.2.2.2.2.2.2.2.2.2.2.2.2.2.2.2.1
theorem dX9_readNames_261 : decode cX9_readNames 261 = .ok (.if_icmp .ne 23, 3) := dr_160 0 23  pk_decd_236.2.2.2.2.2.2.2.2.2.2.2.2.2.2.2.2.2.2.2.2.2.2.2.2.2.2.2.2.2.2.2
set_option maxRecDepth 20000 in
theorem pk_decd_237 : (bq cX9_readNames 264 42 = true) ∧ (bq cX9_readNames 265 28 = true) ∧ ((bq cX9_readNames 266 21 && bq cX9_readNames (266 + 1) 5) = true) ∧ ((bq cX9_readNames 268 153 && bq cX9_readNames (268 + 1) 0 && bq cX9_readNames (268 + 2) 10 && (Reader.signed 16 (0 * 256 + 10) == 10)) = true) ∧ (bq cX9_readNames 271 2 = true) ∧ ((bq cX9_readNames 272 21 && bq cX9_readNames (272 + 1) 6) = true) ∧ (bq cX9_readNames 274 100 = true) ∧ ((bq cX9_readNames 275 167 && bq cX9_readNames (275 + 1) 0 && bq cX9_readNames (275 + 2) 5 && (Reader.signed 16 (0 * 256 + 5) == 5)) = true) ∧ ((bq cX9_readNames 278 21 && bq cX9_readNames (278 + 1) 6) = true) ∧ (bq cX9_readNames 280 29 = true) ∧ ((bq cX9_readNames 281 182 && bq cX9_readNames (281 + 1) 0 && bq cX9_readNames (281 + 2) 115 && (0 * 256 + 115 == 115)) = true) ∧ ((bq cX9_readNames 284 167 && bq cX9_readNames (284 + 1) 255 && bq cX9_readNames (284 + 2) 10 && (Reader.signed 16 (255 * 256 + 10) == (-246))) = true) ∧ (bq cX9_readNames 287 42 = true) ∧ ((bq cX9_readNames 288 180 && bq cX9_readNames (288 + 1) 0 && bq cX9_readNames (288 + 2) 97 && (0 * 256 + 97 == 97)) = true) ∧ ((bq cX9_readNames 291 16 && bq cX9_readNames (291 + 1) 247 && (Reader.signed 8 247 == (-9))) = true) ∧ ((bq cX9_readNames 293 160 && bq cX9_readNames (293 + 1) 0 && bq cX9_readNames (293 + 2) 12 && (Reader.signed 16 (0 * 256 + 12) == 12)) = true) ∧ (bq cX9_readNames 296 42 = true) ∧ ((bq cX9_readNames 297 180 && bq cX9_readNames (297 + 1) 0 && bq cX9_readNames (297 + 2) 26 && (0 * 256 + 26 == 26)) = true) ∧ (bq cX9_readNames 300 28 = true) ∧ (bq cX9_readNames 301 46 = true) ∧ ((bq cX9_readNames 302 154 && bq cX9_readNames (302 + 1) 0 && bq cX9_readNames (302 + 2) 24 && (Reader.signed 16 (0 * 256 + 24) == 24)) = true) ∧ (bq cX9_readNames 305 42 = true) ∧ ((bq cX9_readNames 306 180 && bq cX9_readNames (306 + 1) 0 && bq cX9_readNames (306 + 2) 97 && (0 * 256 + 97 == 97)) = true) ∧ ((bq cX9_readNames 309 16 && bq cX9_readNames (309 + 1) 247 && (Reader.signed 8 247 == (-9))) = true) ∧ ((bq cX9_readNames 311 159 && bq cX9_readNames (311 + 1) 0 && bq cX9_readNames (311 + 2) 10 && (Reader.signed 16 (0 * 256 + 10) == 10)) = true) ∧ (bq cX9_readNames 314 42 = true) ∧ ((bq cX9_readNames 315 180 && bq cX9_readNames (315 + 1) 0 && bq cX9_readNames (315 + 2) 97 && (0 * 256 + 97 == 97)) = true) ∧ ((bq cX9_readNames 318 167 && bq cX9_readNames (318 + 1) 0 && bq cX9_readNames (318 + 2) 7 && (Reader.signed 16 (0 * 256 + 7) == 7)) = true) ∧ (bq cX9_readNames 321 42 = true) ∧ ((bq cX9_readNames 322 180 && bq cX9_readNames (322 + 1) 0 && bq cX9_readNames (322 + 2) 91 && (0 * 256 + 91 == 91)) = true) ∧ (bq cX9_readNames 325 172 = true) ∧ (bq cX9_readNames 326 3 = true) := by decide +kernel
theorem dX9_readNames_264 : decode cX9_readNames 264 = .ok (.aload_n 0, 1) := dr_42  pk_decd_237.1
theorem dX9_readNames_265 : decode cX9_readNames 265 = .ok (.iload_n 2, 1) := dr_28  pk_decd_237.2.1
theorem dX9_readNames_266 : decode cX9_readNames 266 = .ok (.iload 5, 2) := dr_21  pk_decd_237.2.2.1
theorem dX9_readNames_268 : decode cX9_readNames 268 = .ok (.ifCond .eq 10, 3) := dr_153 0 10  pk_decd_237.2.2.2.1
theorem dX9_readNames_271 : decode cX9_readNames 271 = .ok (.iconst (-1), 1) := dr_2  pk_decd_237.2.2.2.2.1
theorem dX9_readNames_272 : decode cX9_readNames 272 = .ok (.iload 6, 2) := dr_21  pk_decd_237.2.2.2.2.2.1
theorem dX9_readNames_274 : decode cX9_readNames 274 = .ok (.isub, 1) := dr_100  pk_decd_237.2.2.2.2.2.2.1
theorem dX9_readNames_275 : decode cX9_readNames 275 = .ok (.goto 5, 3) := dr_167 0 5  pk_decd_237.2.2.2.2.2.2.2.1
theorem dX9_readNames_278 : decode cX9_readNames 278 = .ok (.iload 6, 2) := dr_21  pk_decd_237.2.2.2.2.2.2.2.2.1
theorem dX9_readNames_280 : decode cX9_readNames 280 = .ok (.iload_n 3, 1) := dr_29  pk_decd_237.2.2.2.2.2.2.2.2.2.1
theorem dX9_readNames_281 : decode cX9_readNames 281 = .ok (.invokevirtual 115, 3) := dr_182 0 115  pk_decd_237.2.2.2.2.2.2.2.2.2.2.1
theorem dX9_readNames_284 : decode cX9_readNames 284 = .ok (.goto (-246), 3) := dr_167 255 10  pk_decd_237.2.2.2.2.2.2.2.2.2.2.2.1
theorem dX9_readNames_287 : decode cX9_readNames 287 = .ok (.aload_n 0, 1) := dr_42  pk_decd_237.2.2.2.2.2.2.2.2.2.2.2.2.1
theorem dX9_readNames_288 : decode cX9_readNames 288 = .ok (.getfield 97, 3) := dr_180 0 97  pk_decd_237.2.2.2.2.2.2.2.2.2.2.2.2.2.1
theorem dX9_readNames_291 : decode cX9_readNames 291 = .ok (.bipush (-9), 2) := dr_16 247  pk_decd_237.2.2.2.2.2.2.2.2.2.2.2.2.2.2.1
theorem dX9_readNames_293 : decode cX9_readNames 293 = .ok (.if_icmp .ne 12, 3) := dr_160 0 12  pk_decd_237.2.2.2.2.2.2.2.2.2.2.2.2.2.2.2.1
theorem dX9_readNames_296 : decode cX9_readNames 296 = .ok (.aload_n 0, 1) := dr_42  pk_decd_237.2.2.2.2.2.2.2.2.2.2.2.2.2.2.2.2.1
theorem dX9_readNames_297 : decode cX9_readNames 297 = .ok (.getfield 26, 3) := dr_180 0 26  pk_decd_237.2.2.2.2.2.2.2.2.2.2.2.2.2.2.2.2.2.1
theorem dX9_readNames_300 : decode cX9_readNames 300 = .ok (.iload_n 2, 1) := dr_28  pk_decd_237.2.2.2.2.2.2.2.2.2.2.2.2.2.2.2.2.2.2.1
theorem dX9_readNames_301 : decode cX9_readNames 301 = .ok (.iaload, 1) := dr_46  pk_decd_237.2.2.2.2.2.2.2.2.2.2.2.2.2.2.2.2.2.2.2.1
theorem dX9_readNames_302 : decode cX9_readNames 302 = .ok (.ifCond .ne 24, 3) := dr_154 0 24  pk_decd_237.2.2.2.2.2.2.2.2.2.2.2.2.2.2.2.2.2.2.2.2.1
theorem dX9_readNames_305 : decode cX9_readNames 305 = .ok (.aload_n 0, 1) := dr_42  pk_decd_237.2.2.2.2.2.2.2.2.2.2.2.2.2.2.2.2.2.2.2.2.2.1
theorem dX9_readNames_306 : decode cX9_readNames 306 = .ok (.getfield 97, 3) := dr_180 0 97  pk_decd_237.2.2.2.2.2.2.2.2.2.2.2.2.2.2.2.2.2.2.2.2.2.2.1
theorem dX9_readNames_309 : decode cX9_readNames 309 = .ok (.bipush (-9), 2) := dr_16 247  pk_decd_237.2.2.2.2.2.2.2.2.2.2.2.2.2.2.2.2.2.2.2.2.2.2.2.1
theorem dX9_readNames_311 : decode cX9_readNames 311 = .ok (.if_icmp .eq 10, 3) := dr_159 0 10  pk_decd_237.2.2.2.2.2.2.2.2.2.2.2.2.2.2.2.2.2.2.2.2.2.2.2.2.1
theorem dX9_readNames_314 : decode cX9_readNames 314 = .ok (.aload_n 0, 1) := dr_42  pk_decd_237.2.2.2.2.2.2.2.2.2.2.2.2.2.2.2.2.2.2.2.2.2.2.2.2.2.1
theorem dX9_readNames_315 : decode cX9_readNames 315 = .ok (.getfield 97, 3) := dr_180 0 97  pk_decd_237.2.2.2.2.2.2.2.2.2.2.2.2.2.2.2.2.2.2.2.2.2.2.2.2.2.2.1
theorem dX9_readNames_318 : decode cX9_readNames 318 = .ok (.goto 7, 3) := dr_167 0 7  pk_decd_237.2.2.2.2.2.2.2.2.2.2.2.2.2.2.2.2.2.2.2.2.2.2.2.2.2.2.2.1
theorem dX9_readNames_321 : decode cX9_readNames 321 = .ok (.aload_n 0, 1) := dr_42  pk_decd_237.2.2.2.2.2.2.2.2.2.2.2.2.2.2.2.2.2.2.2.2.2.2.2.2.2.2.2.2.1
theorem dX9_readNames_322 : decode cX9_readNames 322 = .ok (.getfield 91, 3) := dr_180 0 91  pk_decd_237.2.2.2.2.2.2.2.2.2.2.2.2.2.2.2.2.2.2.2.2.2.2.2.2.2.2.2.2.2.1
theorem dX9_readNames_325 : decode cX9_readNames 325 = .ok (.ireturn, 1) := dr_172  pk_decd_237.2.2.2.2.2.2.2.2.2.2.2.2.2.2.2.2.2.2.2.2.2.2.2.2.2.2.2.2.2.2.1
theorem dX9_readNames_326 : decode cX9_readNames 326 = .ok (.iconst 0, 1) := dr_3  pk_decd_237.2.2.2.2.2.2.2.2.2.2.2.2.2.2.2.2.2.2.2.2.2.2.2.2.2.2.2.2.2.2.2
set_option maxRecDepth 20000 in
theorem pk_decd_238 : (bq cX9_readNames 327 62 = true) ∧ (bq cX9_readNames 328 29 = true) ∧ (bq cX9_readNames 329 42 = true) ∧ ((bq cX9_readNames 330 180 && bq cX9_readNames (330 + 1) 0 && bq cX9_readNames (330 + 2) 26 && (0 * 256 + 26 == 26)) = true) ∧ (bq cX9_readNames 333 28 = true) ∧ (bq cX9_readNames 334 46 = true) ∧ ((bq cX9_readNames 335 162 && bq cX9_readNames (335 + 1) 0 && bq cX9_readNames (335 + 2) 76 && (Reader.signed 16 (0 * 256 + 76) == 76)) = true) ∧ (bq cX9_readNames 338 42 = true) ∧ ((bq cX9_readNames 339 180 && bq cX9_readNames (339 + 1) 0 && bq cX9_readNames (339 + 2) 20 && (0 * 256 + 20 == 20)) = true) ∧ ((bq cX9_readNames 342 17 && bq cX9_readNames (342 + 1) 1 && bq cX9_readNames (342 + 2) 0 && (Reader.signed 16 (1 * 256 + 0) == 256)) = true) ∧ (bq cX9_readNames 345 28 = true) ∧ (bq cX9_readNames 346 104 = true) ∧ (bq cX9_readNames 347 29 = true) ∧ (bq cX9_readNames 348 96 = true) ∧ (bq cX9_readNames 349 46 = true) ∧ ((bq cX9_readNames 350 54 && bq cX9_readNames (350 + 1) 4) = true) ∧ ((bq cX9_readNames 352 21 && bq cX9_readNames (352 + 1) 4) = true) ∧ ((bq cX9_readNames 354 156 && bq cX9_readNames (354 + 1) 0 && bq cX9_readNames (354 + 2) 51 && (Reader.signed 16 (0 * 256 + 51) == 51)) = true) ∧ (bq cX9_readNames 357 42 = true) ∧ ((bq cX9_readNames 358 180 && bq cX9_readNames (358 + 1) 0 && bq cX9_readNames (358 + 2) 41 && (0 * 256 + 41 == 41)) = true) ∧ (bq cX9_readNames 361 2 = true) ∧ ((bq cX9_readNames 362 21 && bq cX9_readNames (362 + 1) 4) = true) ∧ (bq cX9_readNames 364 100 = true) ∧ (bq cX9_readNames 365 46 = true) ∧ ((bq cX9_readNames 366 16 && bq cX9_readNames (366 + 1) 247 && (Reader.signed 8 247 == (-9))) = true) ∧ ((bq cX9_readNames 368 160 && bq cX9_readNames (368 + 1) 0 && bq cX9_readNames (368 + 2) 16 && (Reader.signed 16 (0 * 256 + 16) == 16)) = true) ∧ (bq cX9_readNames 371 42 = true) ∧ ((bq cX9_readNames 372 180 && bq cX9_readNames (372 + 1) 0 && bq cX9_readNames (372 + 2) 23 && (0 * 256 + 23 == 23)) = true) ∧ ((bq cX9_readNames 375 17 && bq cX9_readNames (375 + 1) 1 && bq cX9_readNames (375 + 2) 0 && (Reader.signed 16 (1 * 256 + 0) == 256)) = true) ∧ (bq cX9_readNames 378 28 = true) ∧ (bq cX9_readNames 379 104 = true) ∧ (bq cX9_readNames 380 29 = true) := by decide +kernel
theorem dX9_readNames_327 : decode cX9_readNames 327 = .ok (.istore_n 3, 1) := dr_62  pk_decd_238.1
theorem dX9_readNames_328 : decode cX9_readNames 328 = .ok (.iload_n 3, 1) := dr_29  pk_decd_238.2.1
theorem dX9_readNames_329 : decode cX9_readNames 329 = .ok (.aload_n 0, 1) := dr_42  pk_decd_238.2.2.1
theorem dX9_readNames_330 : decode cX9_readNames 330 = .ok (.getfield 26, 3) := dr_180 0 26  pk_decd_238.2.2.2.1
theorem dX9_readNames_333 : decode cX9_readNames 333 = .ok (.iload_n 2, 1) := dr_28  pk_decd_238.2.2.2.2.1
theorem dX9_readNames_334 : decode cX9_readNames 334 = .ok (.iaload, 1) := dr_46  pk_decd_238.2.2.2.2.2.1
theorem dX9_readNames_335 : decode cX9_readNames 335 = .ok (.if_icmp .ge 76, 3) := dr_162 0 76  pk_decd_238.2.2.2.2.2.2.1
theorem dX9_readNames_338 : decode cX9_readNames 338 = .ok (.aload_n 0, 1) := dr_42  pk_decd_238.2.2.2.2.2.2.2.1
theorem dX9_readNames_339 : decode cX9_readNames 339 = .ok (.getfield 20, 3) := dr_180 0 20  pk_decd_238.2.2.2.2.2.2.2.2.1
theorem dX9_readNames_342 : decode cX9_readNames 342 = .ok (.sipush 256, 3) := dr_17 1 0  pk_decd_238.2.2.2.2.2.2.2.2.2.1
theorem dX9_readNames_345 : decode cX9_readNames 345 = .ok (.iload_n 2, 1) := dr_28  pk_decd_238.2.2.2.2.2.2.2.2.2.2.1
theorem dX9_readNames_346 : decode cX9_readNames 346 = .ok (.imul, 1) := dr_104  pk_decd_238.2.2.2.2.2.2.2.2.2.2.2.1
theorem dX9_readNames_347 : decode cX9_readNames 347 = .ok (.iload_n 3, 1) := dr_29  pk_decd_238.2.2.2.2.2.2.2.2.2.2.2.2.1
theorem dX9_readNames_348 : decode cX9_readNames 348 = .ok (.iadd, 1) := dr_96  pk_decd_238.2.2.2.2.2.2.2.2.2.2.2.2.2.1
theorem dX9_readNames_349 : decode cX9_readNames 349 = .ok (.iaload, 1) := dr_46  pk_decd_238.2.2.2.2.2.2.2.2.2.2.2.2.2.2.1
theorem dX9_readNames_350 : decode cX9_readNames 350 = .ok (.istore 4, 2) := dr_54  pk_decd_238.2.2.2.2.2.2.2.2.2.2.2.2.2.2.2.1
theorem dX9_readNames_352 : decode cX9_readNames 352 = .ok (.iload 4, 2) := dr_21  pk_decd_238.2.2.2.2.2.2.2.2.2.2.2.2.2.2.2.2.1
theorem dX9_readNames_354 : decode cX9_readNames 354 = .ok (.ifCond .ge 51, 3) := dr_156 0 51  pk_decd_238.2.2.2.2.2.2.2.2.2.2.2.2.2.2.2.2.2.1
theorem dX9_readNames_357 : decode cX9_readNames 357 = .ok (.aload_n 0, 1) := dr_42  pk_decd_238.2.2.2.2.2.2.2.2.2.2.2.2.2.2.2.2.2.2.1
theorem dX9_readNames_358 : decode cX9_readNames 358 = .ok (.getfield 41, 3) := dr_180 0 41  pk_decd_238.2.2.2.2.2.2.2.2.2.2.2.2.2.2.2.2.2.2.2.1
theorem dX9_readNames_361 : decode cX9_readNames 361 = .ok (.iconst (-1), 1) := dr_2  pk_decd_238.2.2.2.2.2.2.2.2.2.2.2.2.2.2.2.2.2.2.2.2.1
theorem dX9_readNames_362 : decode cX9_readNames 362 = .ok (.iload 4, 2) := dr_21  pk_decd_238.2.2.2.2.2.2.2.2.2.2.2.2.2.2.2.2.2.2.2.2.2.1
theorem dX9_readNames_364 : decode cX9_readNames 364 = .ok (.isub, 1) := dr_100  pk_decd_238.2.2.2.2.2.2.2.2.2.2.2.2.2.2.2.2.2.2.2.2.2.2.1
theorem dX9_readNames_365 : decode cX9_readNames 365 = .ok (.iaload, 1) := dr_46  pk_decd_238.2.2.2.2.2.2.2.2.2.2.2.2.2.2.2.2.2.2.2.2.2.2.2.1
theorem dX9_readNames_366 : decode cX9_readNames 366 = .ok (.bipush (-9), 2) := dr_16 247  pk_decd_238.2.2.2.2.2.2.2.2.2.2.2.2.2.2.2.2.2.2.2.2.2.2.2.2.1
theorem dX9_readNames_368 : decode cX9_readNames 368 = .ok (.if_icmp .ne 16, 3) := dr_160 0 16  pk_decd_238.2.2.2.2.2.2.2.2.2.2.2.2.2.2.2.2.2.2.2.2.2.2.2.2.2.1
theorem dX9_readNames_371 : decode cX9_readNames 371 = .ok (.aload_n 0, 1) := dr_42  pk_decd_238.2.2.2.2.2.2.2.2.2.2.2.2.2.2.2.2.2.2.2.2.2.2.2.2.2.2.1
theorem dX9_readNames_372 : decode cX9_readNames 372 = .ok (.getfield 23, 3) := dr_180 0 23  pk_decd_238.2.2.2.2.2.2.2.2.2.2.2.2.2.2.2.2.2.2.2.2.2.2.2.2.2.2.2.1
theorem dX9_readNames_375 : decode cX9_readNames 375 = .ok (.sipush 256, 3) := dr_17 1 0  pk_decd_238.2.2.2.2.2.2.2.2.2.2.2.2.2.2.2.2.2.2.2.2.2.2.2.2.2.2.2.2.1
theorem dX9_readNames_378 : decode cX9_readNames 378 = .ok (.iload_n 2, 1) := dr_28  pk_decd_238.2.2.2.2.2.2.2.2.2.2.2.2.2.2.2.2.2.2.2.2.2.2.2.2.2.2.2.2.2.1
theorem dX9_readNames_379 : decode cX9_readNames 379 = .ok (.imul, 1) := dr_104  pk_decd_238.2.2.2.2.2.2.2.2.2.2.2.2.2.2.2.2.2.2.2.2.2.2.2.2.2.2.2.2.2.2.1
theorem dX9_readNames_380 : decode cX9_readNames 380 = .ok (.iload_n 3, 1) := dr_29  pk_decd_238.2.2.2.2.2.2.2.2.2.2.2.2.2.2.2.2.2.2.2.2.2.2.2.2.2.2.2.2.2.2.2
set_option maxRecDepth 20000 in
theorem pk_decd_239 : (bq cX9_readNames 381 96 = true) ∧ (bq cX9_readNames 382 46 = true) ∧ (bq cX9_readNames 383 172 = true) ∧ (bq cX9_readNames 384 42 = true) ∧ ((bq cX9_readNames 385 180 && bq cX9_readNames (385 + 1) 0 && bq cX9_readNames (385 + 2) 20 && (0 * 256 + 20 == 20)) = true) ∧ ((bq cX9_readNames 388 17 && bq cX9_readNames (388 + 1) 1 && bq cX9_readNames (388 + 2) 0 && (Reader.signed 16 (1 * 256 + 0) == 256)) = true) ∧ (bq cX9_readNames 391 28 = true) ∧ (bq cX9_readNames 392 104 = true) ∧ (bq cX9_readNames 393 29 = true) ∧ (bq cX9_readNames 394 96 = true) ∧ (bq cX9_readNames 395 42 = true) ∧ ((bq cX9_readNames 396 180 && bq cX9_readNames (396 + 1) 0 && bq cX9_readNames (396 + 2) 41 && (0 * 256 + 41 == 41)) = true) ∧ (bq cX9_readNames 399 2 = true) ∧ ((bq cX9_readNames 400 21 && bq cX9_readNames (400 + 1) 4) = true) ∧ (bq cX9_readNames 402 100 = true) ∧ (bq cX9_readNames 403 46 = true) ∧ (bq cX9_readNames 404 79 = true) := by decide +kernel
theorem dX9_readNames_381 : decode cX9_readNames 381 = .ok (.iadd, 1) := dr_96  pk_decd_239.1
theorem dX9_readNames_382 : decode cX9_readNames 382 = .ok (.iaload, 1) := dr_46  pk_decd_239.2.1
theorem dX9_readNames_383 : decode cX9_readNames 383 = .ok (.ireturn, 1) := dr_172  pk_decd_239.2.2.1
theorem dX9_readNames_384 : decode cX9_readNames 384 = .ok (.aload_n 0, 1) := dr_42  pk_decd_239.2.2.2.1
theorem dX9_readNames_385 : decode cX9_readNames 385 = .ok (.getfield 20, 3) := dr_180 0 20  pk_decd_239.2.2.2.2.1
theorem dX9_readNames_388 : decode cX9_readNames 388 = .ok (.sipush 256, 3) := dr_17 1 0  pk_decd_239.2.2.2.2.2.1
theorem dX9_readNames_391 : decode cX9_readNames 391 = .ok (.iload_n 2, 1) := dr_28  pk_decd_239.2.2.2.2.2.2.1
theorem dX9_readNames_392 : decode cX9_readNames 392 = .ok (.imul, 1) := dr_104  pk_decd_239.2.2.2.2.2.2.2.1
theorem dX9_readNames_393 : decode cX9_readNames 393 = .ok (.iload_n 3, 1) := dr_29  pk_decd_239.2.2.2.2.2.2.2.2.1
theorem dX9_readNames_394 : decode cX9_readNames 394 = .ok (.iadd, 1) := dr_96  pk_decd_239.2.2.2.2.2.2.2.2.2.1
theorem dX9_readNames_395 : decode cX9_readNames 395 = .ok (.aload_n 0, 1) := dr_42  pk_decd_239.2.2.2.2.2.2.2.2.2.2.1
theorem dX9_readNames_396 : decode cX9_readNames 396 = .ok (.getfield 41, 3) := dr_180 0 41  pk_decd_239.2.2.2.2.2.2.2.2.2.2.2.1
theorem dX9_readNames_399 : decode cX9_readNames 399 = .ok (.iconst (-1), 1) := dr_2  pk_decd_239.2.2.2.2.2.2.2.2.2.2.2.2.1
theorem dX9_readNames_400 : decode cX9_readNames 400 = .ok (.iload 4, 2) := dr_21  pk_decd_239.2.2.2.2.2.2.2.2.2.2.2.2.2.1
theorem dX9_readNames_402 : decode cX9_readNames 402 = .ok (.isub, 1) := dr_100  pk_decd_239.2.2.2.2.2.2.2.2.2.2.2.2.2.2.1
theorem dX9_readNames_403 : decode cX9_readNames 403 = .ok (.iaload, 1) := dr_46  pk_decd_239.2.2.2.2.2.2.2.2.2.2.2.2.2.2.2.1
theorem dX9_readNames_404 : decode cX9_readNames 404 = .ok (.iastore, 1) := dr_79  pk_decd_239.2.2.2.2.2.2.2.2.2.2.2.2.2.2.2.2
theorem dX9_readNames_405 : decode cX9_readNames 405 = .ok (.iinc 3 1, 3) := by decide +kernel
set_option maxRecDepth 20000 in
theorem pk_decd_240 : ((bq cX9_readNames 408 167 && bq cX9_readNames (408 + 1) 255 && bq cX9_readNames (408 + 2) 176 && (Reader.signed 16 (255 * 256 + 176) == (-80))) = true) ∧ ((bq cX9_readNames 411 16 && bq cX9_readNames (411 + 1) 247 && (Reader.signed 8 247 == (-9))) = true) ∧ (bq cX9_readNames 413 172 = true) := by decide +kernel
theorem dX9_readNames_408 : decode cX9_readNames 408 = .ok (.goto (-80), 3) := dr_167 255 176  pk_decd_240.1
theorem dX9_readNames_411 : decode cX9_readNames 411 = .ok (.bipush (-9), 2) := dr_16 247  pk_decd_240.2.1
theorem dX9_readNames_413 : decode cX9_readNames 413 = .ok (.ireturn, 1) := dr_172  pk_decd_240.2.2
set_option maxRecDepth 20000 in
theorem pk_decd_241 : (bq cX9_newTool 0 42 = true) ∧ ((bq cX9_newTool 1 180 && bq cX9_newTool (1 + 1) 0 && bq cX9_newTool (1 + 2) 85 && (0 * 256 + 85 == 85)) = true) ∧ ((bq cX9_newTool 4 54 && bq cX9_newTool (4 + 1) 4) = true) ∧ (bq cX9_newTool 6 42 = true) ∧ ((bq cX9_newTool 7 180 && bq cX9_newTool (7 + 1) 0 && bq cX9_newTool (7 + 2) 29 && (0 * 256 + 29 == 29)) = true) ∧ ((bq cX9_newTool 10 21 && bq cX9_newTool (10 + 1) 4) = true) ∧ (bq cX9_newTool 12 27 = true) ∧ (bq cX9_newTool 13 79 = true) ∧ (bq cX9_newTool 14 42 = true) ∧ ((bq cX9_newTool 15 180 && bq cX9_newTool (15 + 1) 0 && bq cX9_newTool (15 + 2) 32 && (0 * 256 + 32 == 32)) = true) ∧ ((bq cX9_newTool 18 21 && bq cX9_newTool (18 + 1) 4) = true) ∧ (bq cX9_newTool 20 28 = true) ∧ (bq cX9_newTool 21 79 = true) ∧ (bq cX9_newTool 22 42 = true) ∧ ((bq cX9_newTool 23 180 && bq cX9_newTool (23 + 1) 0 && bq cX9_newTool (23 + 2) 35 && (0 * 256 + 35 == 35)) = true) ∧ ((bq cX9_newTool 26 21 && bq cX9_newTool (26 + 1) 4) = true) ∧ (bq cX9_newTool 28 29 = true) ∧ (bq cX9_newTool 29 79 = true) ∧ (bq cX9_newTool 30 42 = true) ∧ ((bq cX9_newTool 31 180 && bq cX9_newTool (31 + 1) 0 && bq cX9_newTool (31 + 2) 38 && (0 * 256 + 38 == 38)) = true) ∧ ((bq cX9_newTool 34 21 && bq cX9_newTool (34 + 1) 4) = true) ∧ (bq cX9_newTool 36 3 = true) ∧ (bq cX9_newTool 37 79 = true) ∧ (bq cX9_newTool 38 42 = true) ∧ (bq cX9_newTool 39 89 = true) ∧ ((bq cX9_newTool 40 180 && bq cX9_newTool (40 + 1) 0 && bq cX9_newTool (40 + 2) 85 && (0 * 256 + 85 == 85)) = true) ∧ (bq cX9_newTool 43 4 = true) ∧ (bq cX9_newTool 44 96 = true) ∧ ((bq cX9_newTool 45 181 && bq cX9_newTool (45 + 1) 0 && bq cX9_newTool (45 + 2) 85 && (0 * 256 + 85 == 85)) = true) ∧ ((bq cX9_newTool 48 21 && bq cX9_newTool (48 + 1) 4) = true) ∧ (bq cX9_newTool 50 172 = true) := by decide +kernel
theorem dX9_newTool_0 : decode cX9_newTool 0 = .ok (.aload_n 0, 1) := dr_42  pk_decd_241.1
theorem dX9_newTool_1 : decode cX9_newTool 1 = .ok (.getfield 85, 3) := dr_180 0 85  pk_decd_241.2.1
theorem dX9_newTool_4 : decode cX9_newTool 4 = .ok (.istore 4, 2) := dr_54  pk_decd_241.2.2.1
theorem dX9_newTool_6 : decode cX9_newTool 6 = .ok (.aload_n 0, 1) := dr_42  pk_decd_241.2.2.2.1
theorem dX9_newTool_7 : decode cX9_newTool 7 = .ok (.getfield 29, 3) := dr_180 0 29  pk_decd_241.2.2.2.2.1
theorem dX9_newTool_10 : decode cX9_newTool 10 = .ok (.iload 4, 2) := dr_21  pk_decd_241.2.2.2.2.2.1
theorem dX9_newTool_12 : decode cX9_newTool 12 = .ok (.iload_n 1, 1) := dr_27  pk_decd_241.2.2.2.2.2.2.1
theorem dX9_newTool_13 : decode cX9_newTool 13 = .ok (.iastore, 1) := dr_79  pk_decd_241.2.2.2.2.2.2.2.1
theorem dX9_newTool_14 : decode cX9_newTool 14 = .ok (.aload_n 0, 1) := dr_42  pk_decd_241.2.2.2.2.2.2.2.2.1
theorem dX9_newTool_15 : decode cX9_newTool 15 = .ok (.getfield 32, 3) := dr_180 0 32  pk_decd_241.2.2.2.2.2.2.2.2.2.1
theorem dX9_newTool_18 : decode cX9_newTool 18 = .ok (.iload 4, 2) := dr_21  pk_decd_241.2.2.2.2.2.2.2.2.2.2.1
theorem dX9_newTool_20 : decode cX9_newTool 20 = .ok (.iload_n 2, 1) := dr_28  pk_decd_241.2.2.2.2.2.2.2.2.2.2.2.1
theorem dX9_newTool_21 : decode cX9_newTool 21 = .ok (.iastore, 1) := dr_79  pk_decd_241.2.2.2.2.2.2.2.2.2.2.2.2.1
theorem dX9_newTool_22 : decode cX9_newTool 22 = .ok (.aload_n 0, 1) := dr_42  pk_decd_241.2.2.2.2.2.2.2.2.2.2.2.2.2.1
theorem dX9_newTool_23 : decode cX9_newTool 23 = .ok (.getfield 35, 3) := dr_180 0 35  pk_decd_241.2.2.2.2.2.2.2.2.2.2.2.2.2.2.1
theorem dX9_newTool_26 : decode cX9_newTool 26 = .ok (.iload 4, 2) := dr_21  pk_decd_241.2.2.2.2.2.2.2.2.2.2.2.2.2.2.2.1
theorem dX9_newTool_28 : decode cX9_newTool 28 = .ok (.iload_n 3, 1) := dr_29  pk_decd_241.2.2.2.2.2.2.2.2.2.2.2.2.2.2.2.2.1
theorem dX9_newTool_29 : decode cX9_newTool 29 = .ok (.iastore, 1) := dr_79  pk_decd_241.2.2.2.2.2.2.2.2.2.2.2.2.2.2.2.2.2.1
theorem dX9_newTool_30 : decode cX9_newTool 30 = .ok (.aload_n 0, 1) := dr_42  pk_decd_241.2.2.2.2.2.2.2.2.2.2.2.2.2.2.2.2.2.2.1
theorem dX9_newTool_31 : decode cX9_newTool 31 = .ok (.getfield 38, 3) := dr_180 0 38  pk_decd_241.2.2.2.2.2.2.2.2.2.2.2.2.2.2.2.2.2.2.2.1
theorem dX9_newTool_34 : decode cX9_newTool 34 = .ok (.iload 4, 2) := dr_21  pk_decd_241.2.2.2.2.2.2.2.2.2.2.2.2.2.2.2.2.2.2.2.2.1
theorem dX9_newTool_36 : decode cX9_newTool 36 = .ok (.iconst 0, 1) := dr_3  pk_decd_241.2.2.2.2.2.2.2.2.2.2.2.2.2.2.2.2.2.2.2.2.2.1
theorem dX9_newTool_37 : decode cX9_newTool 37 = .ok (.iastore, 1) := dr_79  pk_decd_241.2.2.2.2.2.2.2.2.2.2.2.2.2.2.2.2.2.2.2.2.2.2.1
theorem dX9_newTool_38 : decode cX9_newTool 38 = .ok (.aload_n 0, 1) := dr_42  pk_decd_241.2.2.2.2.2.2.2.2.2.2.2.2.2.2.2.2.2.2.2.2.2.2.2.1
theorem dX9_newTool_39 : decode cX9_newTool 39 = .ok (.dup, 1) := dr_89  pk_decd_241.2.2.2.2.2.2.2.2.2.2.2.2.2.2.2.2.2.2.2.2.2.2.2.2.1
theorem dX9_newTool_40 : decode cX9_newTool 40 = .ok (.getfield 85, 3) := dr_180 0 85  pk_decd_241.2.2.2.2.2.2.2.2.2.2.2.2.2.2.2.2.2.2.2.2.2.2.2.2.2.1
theorem dX9_newTool_43 : decode cX9_newTool 43 = .ok (.iconst 1, 1) := dr_4  pk_decd_241.2.2.2.2.2.2.2.2.2.2.2.2.2.2.2.2.2.2.2.2.2.2.2.2.2.2.1
theorem dX9_newTool_44 : decode cX9_newTool 44 = .ok (.iadd, 1) := dr_96  pk_decd_241.2.2.2.2.2.2.2.2.2.2.2.2.2.2.2.2.2.2.2.2.2.2.2.2.2.2.2.1
theorem dX9_newTool_45 : decode cX9_newTool 45 = .ok (.putfield 85, 3) := dr_181 0 85  pk_decd_241.2.2.2.2.2.2.2.2.2.2.2.2.2.2.2.2.2.2.2.2.2.2.2.2.2.2.2.2.1
theorem dX9_newTool_48 : decode cX9_newTool 48 = .ok (.iload 4, 2) := dr_21  pk_decd_241.2.2.2.2.2.2.2.2.2.2.2.2.2.2.2.2.2.2.2.2.2.2.2.2.2.2.2.2.2.1
theorem dX9_newTool_50 : decode cX9_newTool 50 = .ok (.ireturn, 1) := dr_172  pk_decd_241.2.2.2.2.2.2.2.2.2.2.2.2.2.2.2.2.2.2.2.2.2.2.2.2.2.2.2.2.2.2
set_option maxRecDepth 20000 in
theorem pk_decd_242 : (bq cX9_copy 0 3 = true) ∧ (bq cX9_copy 1 62 = true) ∧ (bq cX9_copy 2 29 = true) ∧ ((bq cX9_copy 3 17 && bq cX9_copy (3 + 1) 1 && bq cX9_copy (3 + 2) 0 && (Reader.signed 16 (1 * 256 + 0) == 256)) = true) ∧ ((bq cX9_copy 6 162 && bq cX9_copy (6 + 1) 0 && bq cX9_copy (6 + 2) 27 && (Reader.signed 16 (0 * 256 + 27) == 27)) = true) ∧ (bq cX9_copy 9 42 = true) ∧ ((bq cX9_copy 10 17 && bq cX9_copy (10 + 1) 1 && bq cX9_copy (10 + 2) 0 && (Reader.signed 16 (1 * 256 + 0) == 256)) = true) ∧ (bq cX9_copy 13 28 = true) ∧ (bq cX9_copy 14 104 = true) ∧ (bq cX9_copy 15 29 = true) ∧ (bq cX9_copy 16 96 = true) ∧ (bq cX9_copy 17 42 = true) ∧ ((bq cX9_copy 18 17 && bq cX9_copy (18 + 1) 1 && bq cX9_copy (18 + 2) 0 && (Reader.signed 16 (1 * 256 + 0) == 256)) = true) ∧ (bq cX9_copy 21 27 = true) ∧ (bq cX9_copy 22 104 = true) ∧ (bq cX9_copy 23 29 = true) ∧ (bq cX9_copy 24 96 = true) ∧ (bq cX9_copy 25 46 = true) ∧ (bq cX9_copy 26 79 = true) := by decide +kernel
theorem dX9_copy_0 : decode cX9_copy 0 = .ok (.iconst 0, 1) := dr_3  pk_decd_242.1
theorem dX9_copy_1 : decode cX9_copy 1 = .ok (.istore_n 3, 1) := dr_62  pk_decd_242.2.1
theorem dX9_copy_2 : decode cX9_copy 2 = .ok (.iload_n 3, 1) := dr_29  pk_decd_242.2.2.1
theorem dX9_copy_3 : decode cX9_copy 3 = .ok (.sipush 256, 3) := dr_17 1 0  pk_decd_242.2.2.2.1
theorem dX9_copy_6 : decode cX9_copy 6 = .ok (.if_icmp .ge 27, 3) := dr_162 0 27  pk_decd_242.2.2.2.2.1
theorem dX9_copy_9 : decode cX9_copy 9 = .ok (.aload_n 0, 1) := dr_42  pk_decd_242.2.2.2.2.2.1
theorem dX9_copy_10 : decode cX9_copy 10 = .ok (.sipush 256, 3) := dr_17 1 0  pk_decd_242.2.2.2.2.2.2.1
theorem dX9_copy_13 : decode cX9_copy 13 = .ok (.iload_n 2, 1) := dr_28  pk_decd_242.2.2.2.2.2.2.2.1
theorem dX9_copy_14 : decode cX9_copy 14 = .ok (.imul, 1) := dr_104  pk_decd_242.2.2.2.2.2.2.2.2.1
theorem dX9_copy_15 : decode cX9_copy 15 = .ok (.iload_n 3, 1) := dr_29  pk_decd_242.2.2.2.2.2.2.2.2.2.1
theorem dX9_copy_16 : decode cX9_copy 16 = .ok (.iadd, 1) := dr_96  pk_decd_242.2.2.2.2.2.2.2.2.2.2.1
theorem dX9_copy_17 : decode cX9_copy 17 = .ok (.aload_n 0, 1) := dr_42  pk_decd_242.2.2.2.2.2.2.2.2.2.2.2.1
theorem dX9_copy_18 : decode cX9_copy 18 = .ok (.sipush 256, 3) := dr_17 1 0  pk_decd_242.2.2.2.2.2.2.2.2.2.2.2.2.1
theorem dX9_copy_21 : decode cX9_copy 21 = .ok (.iload_n 1, 1) := dr_27  pk_decd_242.2.2.2.2.2.2.2.2.2.2.2.2.2.1
theorem dX9_copy_22 : decode cX9_copy 22 = .ok (.imul, 1) := dr_104  pk_decd_242.2.2.2.2.2.2.2.2.2.2.2.2.2.2.1
theorem dX9_copy_23 : decode cX9_copy 23 = .ok (.iload_n 3, 1) := dr_29  pk_decd_242.2.2.2.2.2.2.2.2.2.2.2.2.2.2.2.1
theorem dX9_copy_24 : decode cX9_copy 24 = .ok (.iadd, 1) := dr_96  pk_decd_242.2.2.2.2.2.2.2.2.2.2.2.2.2.2.2.2.1
theorem dX9_copy_25 : decode cX9_copy 25 = .ok (.iaload, 1) := dr_46  pk_decd_242.2.2.2.2.2.2.2.2.2.2.2.2.2.2.2.2.2.1
theorem dX9_copy_26 : decode cX9_copy 26 = .ok (.iastore, 1) := dr_79  pk_decd_242.2.2.2.2.2.2.2.2.2.2.2.2.2.2.2.2.2.2
theorem dX9_copy_27 : decode cX9_copy 27 = .ok (.iinc 3 1, 3) := by decide +kernel
set_option maxRecDepth 20000 in
theorem pk_decd_243 : ((bq cX9_copy 30 167 && bq cX9_copy (30 + 1) 255 && bq cX9_copy (30 + 2) 228 && (Reader.signed 16 (255 * 256 + 228) == (-28))) = true) ∧ (bq cX9_copy 33 177 = true) := by decide +kernel
theorem dX9_copy_30 : decode cX9_copy 30 = .ok (.goto (-28), 3) := dr_167 255 228  pk_decd_243.1
theorem dX9_copy_33 : decode cX9_copy 33 = .ok (.return_, 1) := dr_177  pk_decd_243.2
set_option maxRecDepth 20000 in
theorem pk_decd_244 : (bq cX9_move 0 42 = true) ∧ ((bq cX9_move 1 180 && bq cX9_move (1 + 1) 0 && bq cX9_move (1 + 2) 20 && (0 * 256 + 20 == 20)) = true) ∧ (bq cX9_move 4 27 = true) ∧ (bq cX9_move 5 28 = true) ∧ ((bq cX9_move 6 184 && bq cX9_move (6 + 1) 0 && bq cX9_move (6 + 2) 157 && (0 * 256 + 157 == 157)) = true) ∧ (bq cX9_move 9 42 = true) ∧ ((bq cX9_move 10 180 && bq cX9_move (10 + 1) 0 && bq cX9_move (10 + 2) 23 && (0 * 256 + 23 == 23)) = true) ∧ (bq cX9_move 13 27 = true) ∧ (bq cX9_move 14 28 = true) ∧ ((bq cX9_move 15 184 && bq cX9_move (15 + 1) 0 && bq cX9_move (15 + 2) 157 && (0 * 256 + 157 == 157)) = true) ∧ (bq cX9_move 18 42 = true) ∧ ((bq cX9_move 19 180 && bq cX9_move (19 + 1) 0 && bq cX9_move (19 + 2) 26 && (0 * 256 + 26 == 26)) = true) ∧ (bq cX9_move 22 28 = true) ∧ (bq cX9_move 23 42 = true) ∧ ((bq cX9_move 24 180 && bq cX9_move (24 + 1) 0 && bq cX9_move (24 + 2) 26 && (0 * 256 + 26 == 26)) = true) ∧ (bq cX9_move 27 27 = true) ∧ (bq cX9_move 28 46 = true) ∧ (bq cX9_move 29 79 = true) ∧ (bq cX9_move 30 177 = true) := by decide +kernel
theorem dX9_move_0 : decode cX9_move 0 = .ok (.aload_n 0, 1) := dr_42  pk_decd_244.1
theorem dX9_move_1 : decode cX9_move 1 = .ok (.getfield 20, 3) := dr_180 0 20  pk_decd_244.2.1
theorem dX9_move_4 : decode cX9_move 4 = .ok (.iload_n 1, 1) := dr_27  pk_decd_244.2.2.1
theorem dX9_move_5 : decode cX9_move 5 = .ok (.iload_n 2, 1) := dr_28  pk_decd_244.2.2.2.1
theorem dX9_move_6 : decode cX9_move 6 = .ok (.invokestatic 157, 3) := dr_184 0 157  pk_decd_244.2.2.2.2.1
theorem dX9_move_9 : decode cX9_move 9 = .ok (.aload_n 0, 1) := dr_42  pk_decd_244.2.2.2.2.2.1
theorem dX9_move_10 : decode cX9_move 10 = .ok (.getfield 23, 3) := dr_180 0 23  pk_decd_244.2.2.2.2.2.2.1
theorem dX9_move_13 : decode cX9_move 13 = .ok (.iload_n 1, 1) := dr_27  pk_decd_244.2.2.2.2.2.2.2.1
theorem dX9_move_14 : decode cX9_move 14 = .ok (.iload_n 2, 1) := dr_28  pk_decd_244.2.2.2.2.2.2.2.2.1
theorem dX9_move_15 : decode cX9_move 15 = .ok (.invokestatic 157, 3) := dr_184 0 157  pk_decd_244.2.2.2.2.2.2.2.2.2.1
theorem dX9_move_18 : decode cX9_move 18 = .ok (.aload_n 0, 1) := dr_42  pk_decd_244.2.2.2.2.2.2.2.2.2.2.1
theorem dX9_move_19 : decode cX9_move 19 = .ok (.getfield 26, 3) := dr_180 0 26  pk_decd_244.2.2.2.2.2.2.2.2.2.2.2.1
theorem dX9_move_22 : decode cX9_move 22 = .ok (.iload_n 2, 1) := dr_28  pk_decd_244.2.2.2.2.2.2.2.2.2.2.2.2.1
theorem dX9_move_23 : decode cX9_move 23 = .ok (.aload_n 0, 1) := dr_42  pk_decd_244.2.2.2.2.2.2.2.2.2.2.2.2.2.1
theorem dX9_move_24 : decode cX9_move 24 = .ok (.getfield 26, 3) := dr_180 0 26  pk_decd_244.2.2.2.2.2.2.2.2.2.2.2.2.2.2.1
theorem dX9_move_27 : decode cX9_move 27 = .ok (.iload_n 1, 1) := dr_27  pk_decd_244.2.2.2.2.2.2.2.2.2.2.2.2.2.2.2.1
theorem dX9_move_28 : decode cX9_move 28 = .ok (.iaload, 1) := dr_46  pk_decd_244.2.2.2.2.2.2.2.2.2.2.2.2.2.2.2.2.1
theorem dX9_move_29 : decode cX9_move 29 = .ok (.iastore, 1) := dr_79  pk_decd_244.2.2.2.2.2.2.2.2.2.2.2.2.2.2.2.2.2.1
theorem dX9_move_30 : decode cX9_move 30 = .ok (.return_, 1) := dr_177  pk_decd_244.2.2.2.2.2.2.2.2.2.2.2.2.2.2.2.2.2.2
set_option maxRecDepth 20000 in
theorem pk_decd_245 : (bq cX9_make 0 27 = true) ∧ ((bq cX9_make 1 184 && bq cX9_make (1 + 1) 0 && bq cX9_make (1 + 2) 81 && (0 * 256 + 81 == 81)) = true) ∧ ((bq cX9_make 4 154 && bq cX9_make (4 + 1) 0 && bq cX9_make (4 + 2) 5 && (Reader.signed 16 (0 * 256 + 5) == 5)) = true) ∧ (bq cX9_make 7 2 = true) ∧ (bq cX9_make 8 172 = true) ∧ (bq cX9_make 9 28 = true) ∧ ((bq cX9_make 10 154 && bq cX9_make (10 + 1) 0 && bq cX9_make (10 + 2) 13 && (Reader.signed 16 (0 * 256 + 13) == 13)) = true) ∧ (bq cX9_make 13 42 = true) ∧ (bq cX9_make 14 27 = true) ∧ ((bq cX9_make 15 16 && bq cX9_make (15 + 1) 12 && (Reader.signed 8 12 == 12)) = true) ∧ ((bq cX9_make 17 182 && bq cX9_make (17 + 1) 0 && bq cX9_make (17 + 2) 161 && (0 * 256 + 161 == 161)) = true) ∧ ((bq cX9_make 20 167 && bq cX9_make (20 + 1) 0 && bq cX9_make (20 + 2) 10 && (Reader.signed 16 (0 * 256 + 10) == 10)) = true) ∧ (bq cX9_make 23 42 = true) ∧ (bq cX9_make 24 27 = true) ∧ ((bq cX9_make 25 16 && bq cX9_make (25 + 1) 12 && (Reader.signed 8 12 == 12)) = true) ∧ ((bq cX9_make 27 182 && bq cX9_make (27 + 1) 0 && bq cX9_make (27 + 2) 164 && (0 * 256 + 164 == 164)) = true) ∧ (bq cX9_make 30 62 = true) ∧ (bq cX9_make 31 29 = true) ∧ ((bq cX9_make 32 16 && bq cX9_make (32 + 1) 247 && (Reader.signed 8 247 == (-9))) = true) ∧ ((bq cX9_make 34 159 && bq cX9_make (34 + 1) 0 && bq cX9_make (34 + 2) 8 && (Reader.signed 16 (0 * 256 + 8) == 8)) = true) ∧ ((bq cX9_make 37 16 && bq cX9_make (37 + 1) 246 && (Reader.signed 8 246 == (-10))) = true) ∧ (bq cX9_make 39 29 = true) ∧ (bq cX9_make 40 100 = true) ∧ (bq cX9_make 41 172 = true) ∧ (bq cX9_make 42 42 = true) ∧ ((bq cX9_make 43 180 && bq cX9_make (43 + 1) 0 && bq cX9_make (43 + 2) 85 && (0 * 256 + 85 == 85)) = true) ∧ ((bq cX9_make 46 16 && bq cX9_make (46 + 1) 12 && (Reader.signed 8 12 == 12)) = true) ∧ ((bq cX9_make 48 160 && bq cX9_make (48 + 1) 0 && bq cX9_make (48 + 2) 6 && (Reader.signed 16 (0 * 256 + 6) == 6)) = true) ∧ ((bq cX9_make 51 16 && bq cX9_make (51 + 1) 253 && (Reader.signed 8 253 == (-3))) = true) ∧ (bq cX9_make 53 172 = true) ∧ (bq cX9_make 54 42 = true) ∧ ((bq cX9_make 55 16 && bq cX9_make (55 + 1) 12 && (Reader.signed 8 12 == 12)) = true) := by decide +kernel
theorem dX9_make_0 : decode cX9_make 0 = .ok (.iload_n 1, 1) := dr_27  pk_decd_245.1
theorem dX9_make_1 : decode cX9_make 1 = .ok (.invokestatic 81, 3) := dr_184 0 81  pk_decd_245.2.1
theorem dX9_make_4 : decode cX9_make 4 = .ok (.ifCond .ne 5, 3) := dr_154 0 5  pk_decd_245.2.2.1
theorem dX9_make_7 : decode cX9_make 7 = .ok (.iconst (-1), 1) := dr_2  pk_decd_245.2.2.2.1
theorem dX9_make_8 : decode cX9_make 8 = .ok (.ireturn, 1) := dr_172  pk_decd_245.2.2.2.2.1
theorem dX9_make_9 : decode cX9_make 9 = .ok (.iload_n 2, 1) := dr_28  pk_decd_245.2.2.2.2.2.1
theorem dX9_make_10 : decode cX9_make 10 = .ok (.ifCond .ne 13, 3) := dr_154 0 13  pk_decd_245.2.2.2.2.2.2.1
theorem dX9_make_13 : decode cX9_make 13 = .ok (.aload_n 0, 1) := dr_42  pk_decd_245.2.2.2.2.2.2.2.1
theorem dX9_make_14 : decode cX9_make 14 = .ok (.iload_n 1, 1) := dr_27  pk_decd_245.2.2.2.2.2.2.2.2.1
theorem dX9_make_15 : decode cX9_make 15 = .ok (.bipush 12, 2) := dr_16 12  pk_decd_245.2.2.2.2.2.2.2.2.2.1
theorem dX9_make_17 : decode cX9_make 17 = .ok (.invokevirtual 161, 3) := dr_182 0 161  pk_decd_245.2.2.2.2.2.2.2.2.2.2.1
theorem dX9_make_20 : decode cX9_make 20 = .ok (.goto 10, 3) := dr_167 0 10  pk_decd_245.2.2.2.2.2.2.2.2.2.2.2.1
theorem dX9_make_23 : decode cX9_make 23 = .ok (.aload_n 0, 1) := dr_42  pk_decd_245.2.2.2.2.2.2.2.2.2.2.2.2.1
theorem dX9_make_24 : decode cX9_make 24 = .ok (.iload_n 1, 1) := dr_27  pk_decd_245.2.2.2.2.2.2.2.2.2.2.2.2.2.1
theorem dX9_make_25 : decode cX9_make 25 = .ok (.bipush 12, 2) := dr_16 12  pk_decd_245.2.2.2.2.2.2.2.2.2.2.2.2.2.2.1
theorem dX9_make_27 : decode cX9_make 27 = .ok (.invokevirtual 164, 3) := dr_182 0 164  pk_decd_245.2.2.2.2.2.2.2.2.2.2.2.2.2.2.2.1
theorem dX9_make_30 : decode cX9_make 30 = .ok (.istore_n 3, 1) := dr_62  pk_decd_245.2.2.2.2.2.2.2.2.2.2.2.2.2.2.2.2.1
theorem dX9_make_31 : decode cX9_make 31 = .ok (.iload_n 3, 1) := dr_29  pk_decd_245.2.2.2.2.2.2.2.2.2.2.2.2.2.2.2.2.2.1
theorem dX9_make_32 : decode cX9_make 32 = .ok (.bipush (-9), 2) := dr_16 247  pk_decd_245.2.2.2.2.2.2.2.2.2.2.2.2.2.2.2.2.2.2.1
theorem dX9_make_34 : decode cX9_make 34 = .ok (.if_icmp .eq 8, 3) := dr_159 0 8  pk_decd_245.2.2.2.2.2.2.2.2.2.2.2.2.2.2.2.2.2.2.2.1
theorem dX9_make_37 : decode cX9_make 37 = .ok (.bipush (-10), 2) := dr_16 246  pk_decd_245.2.2.2.2.2.2.2.2.2.2.2.2.2.2.2.2.2.2.2.2.1
theorem dX9_make_39 : decode cX9_make 39 = .ok (.iload_n 3, 1) := dr_29  pk_decd_245.2.2.2.2.2.2.2.2.2.2.2.2.2.2.2.2.2.2.2.2.2.1
theorem dX9_make_40 : decode cX9_make 40 = .ok (.isub, 1) := dr_100  pk_decd_245.2.2.2.2.2.2.2.2.2.2.2.2.2.2.2.2.2.2.2.2.2.2.1
theorem dX9_make_41 : decode cX9_make 41 = .ok (.ireturn, 1) := dr_172  pk_decd_245.2.2.2.2.2.2.2.2.2.2.2.2.2.2.2.2.2.2.2.2.2.2.2.1
theorem dX9_make_42 : decode cX9_make 42 = .ok (.aload_n 0, 1) := dr_42  pk_decd_245.2.2.2.2.2.2.2.2.2.2.2.2.2.2.2.2.2.2.2.2.2.2.2.2.1
theorem dX9_make_43 : decode cX9_make 43 = .ok (.getfield 85, 3) := dr_180 0 85  pk_decd_245.2.2.2.2.2.2.2.2.2.2.2.2.2.2.2.2.2.2.2.2.2.2.2.2.2.1
theorem dX9_make_46 : decode cX9_make 46 = .ok (.bipush 12, 2) := dr_16 12  pk_decd_245.2.2.2.2.2.2.2.2.2.2.2.2.2.2.2.2.2.2.2.2.2.2.2.2.2.2.1
theorem dX9_make_48 : decode cX9_make 48 = .ok (.if_icmp .ne 6, 3) := dr_160 0 6  pk_decd_245.2.2.2.2.2.2.2.2.2.2.2.2.2.2.2.2.2.2.2.2.2.2.2.2.2.2.2.1
theorem dX9_make_51 : decode cX9_make 51 = .ok (.bipush (-3), 2) := dr_16 253  pk_decd_245.2.2.2.2.2.2.2.2.2.2.2.2.2.2.2.2.2.2.2.2.2.2.2.2.2.2.2.2.1
theorem dX9_make_53 : decode cX9_make 53 = .ok (.ireturn, 1) := dr_172  pk_decd_245.2.2.2.2.2.2.2.2.2.2.2.2.2.2.2.2.2.2.2.2.2.2.2.2.2.2.2.2.2.1
theorem dX9_make_54 : decode cX9_make 54 = .ok (.aload_n 0, 1) := dr_42  pk_decd_245.2.2.2.2.2.2.2.2.2.2.2.2.2.2.2.2.2.2.2.2.2.2.2.2.2.2.2.2.2.2.1
theorem dX9_make_55 : decode cX9_make 55 = .ok (.bipush 12, 2) := dr_16 12  pk_decd_245.2.2.2.2.2.2.2.2.2.2.2.2.2.2.2.2.2.2.2.2.2.2.2.2.2.2.2.2.2.2.2
set_option maxRecDepth 20000 in
theorem pk_decd_246 : (bq cX9_make 57 42 = true) ∧ ((bq cX9_make 58 180 && bq cX9_make (58 + 1) 0 && bq cX9_make (58 + 2) 85 && (0 * 256 + 85 == 85)) = true) ∧ ((bq cX9_make 61 182 && bq cX9_make (61 + 1) 0 && bq cX9_make (61 + 2) 167 && (0 * 256 + 167 == 167)) = true) ∧ (bq cX9_make 64 42 = true) ∧ (bq cX9_make 65 28 = true) ∧ (bq cX9_make 66 27 = true) ∧ ((bq cX9_make 67 16 && bq cX9_make (67 + 1) 247 && (Reader.signed 8 247 == (-9))) = true) ∧ ((bq cX9_make 69 182 && bq cX9_make (69 + 1) 0 && bq cX9_make (69 + 2) 171 && (0 * 256 + 171 == 171)) = true) ∧ (bq cX9_make 72 172 = true) := by decide +kernel
theorem dX9_make_57 : decode cX9_make 57 = .ok (.aload_n 0, 1) := dr_42  pk_decd_246.1
theorem dX9_make_58 : decode cX9_make 58 = .ok (.getfield 85, 3) := dr_180 0 85  pk_decd_246.2.1
theorem dX9_make_61 : decode cX9_make 61 = .ok (.invokevirtual 167, 3) := dr_182 0 167  pk_decd_246.2.2.1
theorem dX9_make_64 : decode cX9_make 64 = .ok (.aload_n 0, 1) := dr_42  pk_decd_246.2.2.2.1
theorem dX9_make_65 : decode cX9_make 65 = .ok (.iload_n 2, 1) := dr_28  pk_decd_246.2.2.2.2.1
theorem dX9_make_66 : decode cX9_make 66 = .ok (.iload_n 1, 1) := dr_27  pk_decd_246.2.2.2.2.2.1
theorem dX9_make_67 : decode cX9_make 67 = .ok (.bipush (-9), 2) := dr_16 247  pk_decd_246.2.2.2.2.2.2.1
theorem dX9_make_69 : decode cX9_make 69 = .ok (.invokevirtual 171, 3) := dr_182 0 171  pk_decd_246.2.2.2.2.2.2.2.1
theorem dX9_make_72 : decode cX9_make 72 = .ok (.ireturn, 1) := dr_172  pk_decd_246.2.2.2.2.2.2.2.2
set_option maxRecDepth 20000 in
theorem pk_decd_247 : (bq cX9_pairs 0 42 = true) ∧ (bq cX9_pairs 1 27 = true) ∧ (bq cX9_pairs 2 3 = true) ∧ ((bq cX9_pairs 3 182 && bq cX9_pairs (3 + 1) 0 && bq cX9_pairs (3 + 2) 175 && (0 * 256 + 175 == 175)) = true) ∧ (bq cX9_pairs 6 172 = true) := by decide +kernel
theorem dX9_pairs_0 : decode cX9_pairs 0 = .ok (.aload_n 0, 1) := dr_42  pk_decd_247.1
theorem dX9_pairs_1 : decode cX9_pairs 1 = .ok (.iload_n 1, 1) := dr_27  pk_decd_247.2.1
theorem dX9_pairs_2 : decode cX9_pairs 2 = .ok (.iconst 0, 1) := dr_3  pk_decd_247.2.2.1
theorem dX9_pairs_3 : decode cX9_pairs 3 = .ok (.invokevirtual 175, 3) := dr_182 0 175  pk_decd_247.2.2.2.1
theorem dX9_pairs_6 : decode cX9_pairs 6 = .ok (.ireturn, 1) := dr_172  pk_decd_247.2.2.2.2
set_option maxRecDepth 20000 in
theorem pk_decd_248 : (bq cX9_named 0 42 = true) ∧ (bq cX9_named 1 27 = true) ∧ (bq cX9_named 2 4 = true) ∧ ((bq cX9_named 3 182 && bq cX9_named (3 + 1) 0 && bq cX9_named (3 + 2) 175 && (0 * 256 + 175 == 175)) = true) ∧ (bq cX9_named 6 172 = true) := by decide +kernel
theorem dX9_named_0 : decode cX9_named 0 = .ok (.aload_n 0, 1) := dr_42  pk_decd_248.1
theorem dX9_named_1 : decode cX9_named 1 = .ok (.iload_n 1, 1) := dr_27  pk_decd_248.2.1
theorem dX9_named_2 : decode cX9_named 2 = .ok (.iconst 1, 1) := dr_4  pk_decd_248.2.2.1
theorem dX9_named_3 : decode cX9_named 3 = .ok (.invokevirtual 175, 3) := dr_182 0 175  pk_decd_248.2.2.2.1
theorem dX9_named_6 : decode cX9_named 6 = .ok (.ireturn, 1) := dr_172  pk_decd_248.2.2.2.2
set_option maxRecDepth 20000 in
theorem pk_decd_249 : (bq cX9_tool 0 42 = true) ∧ (bq cX9_tool 1 27 = true) ∧ ((bq cX9_tool 2 182 && bq cX9_tool (2 + 1) 0 && bq cX9_tool (2 + 2) 178 && (0 * 256 + 178 == 178)) = true) ∧ ((bq cX9_tool 5 154 && bq cX9_tool (5 + 1) 0 && bq cX9_tool (5 + 2) 5 && (Reader.signed 16 (0 * 256 + 5) == 5)) = true) ∧ (bq cX9_tool 8 2 = true) ∧ (bq cX9_tool 9 172 = true) ∧ (bq cX9_tool 10 28 = true) := by decide +kernel
theorem dX9_tool_0 : decode cX9_tool 0 = .ok (.aload_n 0, 1) := dr_42  pk_decd_249.1
theorem dX9_tool_1 : decode cX9_tool 1 = .ok (.iload_n 1, 1) := dr_27  pk_decd_249.2.1
theorem dX9_tool_2 : decode cX9_tool 2 = .ok (.invokevirtual 178, 3) := dr_182 0 178  pk_decd_249.2.2.1
theorem dX9_tool_5 : decode cX9_tool 5 = .ok (.ifCond .ne 5, 3) := dr_154 0 5  pk_decd_249.2.2.2.1
theorem dX9_tool_8 : decode cX9_tool 8 = .ok (.iconst (-1), 1) := dr_2  pk_decd_249.2.2.2.2.1
theorem dX9_tool_9 : decode cX9_tool 9 = .ok (.ireturn, 1) := dr_172  pk_decd_249.2.2.2.2.2.1
theorem dX9_tool_10 : decode cX9_tool 10 = .ok (.iload_n 2, 1) := dr_28  pk_decd_249.2.2.2.2.2.2
theorem dX9_tool_11 : decode cX9_tool 11 = .ok (.tableswitch 68 0 4 #[33, 40, 47, 54, 61], 33) := by decide +kernel
set_option maxRecDepth 20000 in
theorem pk_decd_250 : (bq cX9_tool 44 42 = true) ∧ ((bq cX9_tool 45 180 && bq cX9_tool (45 + 1) 0 && bq cX9_tool (45 + 2) 26 && (0 * 256 + 26 == 26)) = true) ∧ (bq cX9_tool 48 27 = true) ∧ (bq cX9_tool 49 46 = true) ∧ (bq cX9_tool 50 172 = true) ∧ (bq cX9_tool 51 42 = true) ∧ ((bq cX9_tool 52 180 && bq cX9_tool (52 + 1) 0 && bq cX9_tool (52 + 2) 29 && (0 * 256 + 29 == 29)) = true) ∧ (bq cX9_tool 55 27 = true) ∧ (bq cX9_tool 56 46 = true) ∧ (bq cX9_tool 57 172 = true) ∧ (bq cX9_tool 58 42 = true) ∧ ((bq cX9_tool 59 180 && bq cX9_tool (59 + 1) 0 && bq cX9_tool (59 + 2) 32 && (0 * 256 + 32 == 32)) = true) ∧ (bq cX9_tool 62 27 = true) ∧ (bq cX9_tool 63 46 = true) ∧ (bq cX9_tool 64 172 = true) ∧ (bq cX9_tool 65 42 = true) ∧ ((bq cX9_tool 66 180 && bq cX9_tool (66 + 1) 0 && bq cX9_tool (66 + 2) 35 && (0 * 256 + 35 == 35)) = true) ∧ (bq cX9_tool 69 27 = true) ∧ (bq cX9_tool 70 46 = true) ∧ (bq cX9_tool 71 172 = true) ∧ (bq cX9_tool 72 42 = true) ∧ ((bq cX9_tool 73 180 && bq cX9_tool (73 + 1) 0 && bq cX9_tool (73 + 2) 38 && (0 * 256 + 38 == 38)) = true) ∧ (bq cX9_tool 76 27 = true) ∧ (bq cX9_tool 77 46 = true) ∧ (bq cX9_tool 78 172 = true) ∧ (bq cX9_tool 79 2 = true) ∧ (bq cX9_tool 80 172 = true) := by decide +kernel
theorem dX9_tool_44 : decode cX9_tool 44 = .ok (.aload_n 0, 1) := dr_42  pk_decd_250.1
theorem dX9_tool_45 : decode cX9_tool 45 = .ok (.getfield 26, 3) := dr_180 0 26  pk_decd_250.2.1
theorem dX9_tool_48 : decode cX9_tool 48 = .ok (.iload_n 1, 1) := dr_27  pk_decd_250.2.2.1
theorem dX9_tool_49 : decode cX9_tool 49 = .ok (.iaload, 1) := dr_46  pk_decd_250.2.2.2.1
theorem dX9_tool_50 : decode cX9_tool 50 = .ok (.ireturn, 1) := dr_172  pk_decd_250.2.2.2.2.1
theorem dX9_tool_51 : decode cX9_tool 51 = .ok (.aload_n 0, 1) := dr_42  pk_decd_250.2.2.2.2.2.1
theorem dX9_tool_52 : decode cX9_tool 52 = .ok (.getfield 29, 3) := dr_180 0 29  pk_decd_250.2.2.2.2.2.2.1
theorem dX9_tool_55 : decode cX9_tool 55 = .ok (.iload_n 1, 1) := dr_27  pk_decd_250.2.2.2.2.2.2.2.1
theorem dX9_tool_56 : decode cX9_tool 56 = .ok (.iaload, 1) := dr_46  pk_decd_250.2.2.2.2.2.2.2.2.1
theorem dX9_tool_57 : decode cX9_tool 57 = .ok (.ireturn, 1) := dr_172  pk_decd_250.2.2.2.2.2.2.2.2.2.1
theorem dX9_tool_58 : decode cX9_tool 58 = .ok (.aload_n 0, 1) := dr_42  pk_decd_250.2.2.2.2.2.2.2.2.2.2.1
theorem dX9_tool_59 : decode cX9_tool 59 = .ok (.getfield 32, 3) := dr_180 0 32  pk_decd_250.2.2.2.2.2.2.2.2.2.2.2.1
theorem dX9_tool_62 : decode cX9_tool 62 = .ok (.iload_n 1, 1) := dr_27  pk_decd_250.2.2.2.2.2.2.2.2.2.2.2.2.1
theorem dX9_tool_63 : decode cX9_tool 63 = .ok (.iaload, 1) := dr_46  pk_decd_250.2.2.2.2.2.2.2.2.2.2.2.2.2.1
theorem dX9_tool_64 : decode cX9_tool 64 = .ok (.ireturn, 1) := dr_172  pk_decd_250.2.2.2.2.2.2.2.2.2.2.2.2.2.2.1
theorem dX9_tool_65 : decode cX9_tool 65 = .ok (.aload_n 0, 1) := dr_42  pk_decd_250.2.2.2.2.2.2.2.2.2.2.2.2.2.2.2.1
theorem dX9_tool_66 : decode cX9_tool 66 = .ok (.getfield 35, 3) := dr_180 0 35  pk_decd_250.2.2.2.2.2.2.2.2.2.2.2.2.2.2.2.2.1
theorem dX9_tool_69 : decode cX9_tool 69 = .ok (.iload_n 1, 1) := dr_27  pk_decd_250.2.2.2.2.2.2.2.2.2.2.2.2.2.2.2.2.2.1
theorem dX9_tool_70 : decode cX9_tool 70 = .ok (.iaload, 1) := dr_46  pk_decd_250.2.2.2.2.2.2.2.2.2.2.2.2.2.2.2.2.2.2.1
theorem dX9_tool_71 : decode cX9_tool 71 = .ok (.ireturn, 1) := dr_172  pk_decd_250.2.2.2.2.2.2.2.2.2.2.2.2.2.2.2.2.2.2.2.1
theorem dX9_tool_72 : decode cX9_tool 72 = .ok (.aload_n 0, 1) := dr_42  pk_decd_250.2.2.2.2.2.2.2.2.2.2.2.2.2.2.2.2.2.2.2.2.1
theorem dX9_tool_73 : decode cX9_tool 73 = .ok (.getfield 38, 3) := dr_180 0 38  pk_decd_250.2.2.2.2.2.2.2.2.2.2.2.2.2.2.2.2.2.2.2.2.2.1
theorem dX9_tool_76 : decode cX9_tool 76 = .ok (.iload_n 1, 1) := dr_27  pk_decd_250.2.2.2.2.2.2.2.2.2.2.2.2.2.2.2.2.2.2.2.2.2.2.1
theorem dX9_tool_77 : decode cX9_tool 77 = .ok (.iaload, 1) := dr_46  pk_decd_250.2.2.2.2.2.2.2.2.2.2.2.2.2.2.2.2.2.2.2.2.2.2.2.1
theorem dX9_tool_78 : decode cX9_tool 78 = .ok (.ireturn, 1) := dr_172  pk_decd_250.2.2.2.2.2.2.2.2.2.2.2.2.2.2.2.2.2.2.2.2.2.2.2.2.1
theorem dX9_tool_79 : decode cX9_tool 79 = .ok (.iconst (-1), 1) := dr_2  pk_decd_250.2.2.2.2.2.2.2.2.2.2.2.2.2.2.2.2.2.2.2.2.2.2.2.2.2.1
theorem dX9_tool_80 : decode cX9_tool 80 = .ok (.ireturn, 1) := dr_172  pk_decd_250.2.2.2.2.2.2.2.2.2.2.2.2.2.2.2.2.2.2.2.2.2.2.2.2.2.2
set_option maxRecDepth 20000 in
theorem pk_decd_251 : (bq cX9_code 0 42 = true) ∧ (bq cX9_code 1 27 = true) ∧ ((bq cX9_code 2 182 && bq cX9_code (2 + 1) 0 && bq cX9_code (2 + 2) 178 && (0 * 256 + 178 == 178)) = true) ∧ ((bq cX9_code 5 153 && bq cX9_code (5 + 1) 0 && bq cX9_code (5 + 2) 28 && (Reader.signed 16 (0 * 256 + 28) == 28)) = true) ∧ (bq cX9_code 8 28 = true) ∧ (bq cX9_code 9 3 = true) ∧ (bq cX9_code 10 42 = true) ∧ ((bq cX9_code 11 180 && bq cX9_code (11 + 1) 0 && bq cX9_code (11 + 2) 26 && (0 * 256 + 26 == 26)) = true) ∧ (bq cX9_code 14 27 = true) ∧ (bq cX9_code 15 46 = true) ∧ (bq cX9_code 16 4 = true) ∧ (bq cX9_code 17 100 = true) ∧ ((bq cX9_code 18 184 && bq cX9_code (18 + 1) 0 && bq cX9_code (18 + 2) 75 && (0 * 256 + 75 == 75)) = true) ∧ ((bq cX9_code 21 153 && bq cX9_code (21 + 1) 0 && bq cX9_code (21 + 2) 12 && (Reader.signed 16 (0 * 256 + 12) == 12)) = true) ∧ (bq cX9_code 24 29 = true) ∧ (bq cX9_code 25 3 = true) ∧ (bq cX9_code 26 4 = true) ∧ ((bq cX9_code 27 184 && bq cX9_code (27 + 1) 0 && bq cX9_code (27 + 2) 75 && (0 * 256 + 75 == 75)) = true) ∧ ((bq cX9_code 30 154 && bq cX9_code (30 + 1) 0 && bq cX9_code (30 + 2) 5 && (Reader.signed 16 (0 * 256 + 5) == 5)) = true) ∧ (bq cX9_code 33 2 = true) ∧ (bq cX9_code 34 172 = true) ∧ (bq cX9_code 35 29 = true) ∧ ((bq cX9_code 36 154 && bq cX9_code (36 + 1) 0 && bq cX9_code (36 + 2) 18 && (Reader.signed 16 (0 * 256 + 18) == 18)) = true) ∧ (bq cX9_code 39 42 = true) ∧ ((bq cX9_code 40 180 && bq cX9_code (40 + 1) 0 && bq cX9_code (40 + 2) 20 && (0 * 256 + 20 == 20)) = true) ∧ ((bq cX9_code 43 17 && bq cX9_code (43 + 1) 1 && bq cX9_code (43 + 2) 0 && (Reader.signed 16 (1 * 256 + 0) == 256)) = true) ∧ (bq cX9_code 46 27 = true) ∧ (bq cX9_code 47 104 = true) ∧ (bq cX9_code 48 28 = true) ∧ (bq cX9_code 49 96 = true) ∧ (bq cX9_code 50 46 = true) ∧ ((bq cX9_code 51 167 && bq cX9_code (51 + 1) 0 && bq cX9_code (51 + 2) 15 && (Reader.signed 16 (0 * 256 + 15) == 15)) = true) := by decide +kernel
theorem dX9_code_0 : decode cX9_code 0 = .ok (.aload_n 0, 1) := dr_42  pk_decd_251.1
theorem dX9_code_1 : decode cX9_code 1 = .ok (.iload_n 1, 1) := dr_27  pk_decd_251.2.1
theorem dX9_code_2 : decode cX9_code 2 = .ok (.invokevirtual 178, 3) := dr_182 0 178  pk_decd_251.2.2.1
theorem dX9_code_5 : decode cX9_code 5 = .ok (.ifCond .eq 28, 3) := dr_153 0 28  pk_decd_251.2.2.2.1
theorem dX9_code_8 : decode cX9_code 8 = .ok (.iload_n 2, 1) := dr_28  pk_decd_251.2.2.2.2.1
theorem dX9_code_9 : decode cX9_code 9 = .ok (.iconst 0, 1) := dr_3  pk_decd_251.2.2.2.2.2.1
theorem dX9_code_10 : decode cX9_code 10 = .ok (.aload_n 0, 1) := dr_42  pk_decd_251.2.2.2.2.2.2.1
theorem dX9_code_11 : decode cX9_code 11 = .ok (.getfield 26, 3) := dr_180 0 26  pk_decd_251.2.2.2.2.2.2.2.1
theorem dX9_code_14 : decode cX9_code 14 = .ok (.iload_n 1, 1) := dr_27  pk_decd_251.2.2.2.2.2.2.2.2.1
theorem dX9_code_15 : decode cX9_code 15 = .ok (.iaload, 1) := dr_46  pk_decd_251.2.2.2.2.2.2.2.2.2.1
theorem dX9_code_16 : decode cX9_code 16 = .ok (.iconst 1, 1) := dr_4  pk_decd_251.2.2.2.2.2.2.2.2.2.2.1
theorem dX9_code_17 : decode cX9_code 17 = .ok (.isub, 1) := dr_100  pk_decd_251.2.2.2.2.2.2.2.2.2.2.2.1
theorem dX9_code_18 : decode cX9_code 18 = .ok (.invokestatic 75, 3) := dr_184 0 75  pk_decd_251.2.2.2.2.2.2.2.2.2.2.2.2.1
theorem dX9_code_21 : decode cX9_code 21 = .ok (.ifCond .eq 12, 3) := dr_153 0 12  pk_decd_251.2.2.2.2.2.2.2.2.2.2.2.2.2.1
theorem dX9_code_24 : decode cX9_code 24 = .ok (.iload_n 3, 1) := dr_29  pk_decd_251.2.2.2.2.2.2.2.2.2.2.2.2.2.2.1
theorem dX9_code_25 : decode cX9_code 25 = .ok (.iconst 0, 1) := dr_3  pk_decd_251.2.2.2.2.2.2.2.2.2.2.2.2.2.2.2.1
theorem dX9_code_26 : decode cX9_code 26 = .ok (.iconst 1, 1) := dr_4  pk_decd_251.2.2.2.2.2.2.2.2.2.2.2.2.2.2.2.2.1
theorem dX9_code_27 : decode cX9_code 27 = .ok (.invokestatic 75, 3) := dr_184 0 75  pk_decd_251.2.2.2.2.2.2.2.2.2.2.2.2.2.2.2.2.2.1
theorem dX9_code_30 : decode cX9_code 30 = .ok (.ifCond .ne 5, 3) := dr_154 0 5  pk_decd_251.2.2.2.2.2.2.2.2.2.2.2.2.2.2.2.2.2.2.1
theorem dX9_code_33 : decode cX9_code 33 = .ok (.iconst (-1), 1) := dr_2  pk_decd_251.2.2.2.2.2.2.2.2.2.2.2.2.2.2.2.2.2.2.2.1
theorem dX9_code_34 : decode cX9_code 34 = .ok (.ireturn, 1) := dr_172  pk_decd_251.2.2.2.2.2.2.2.2.2.2.2.2.2.2.2.2.2.2.2.2.1
theorem dX9_code_35 : decode cX9_code 35 = .ok (.iload_n 3, 1) := dr_29  pk_decd_251.2.2.2.2.2.2.2.2.2.2.2.2.2.2.2.2.2.2.2.2.2.1
theorem dX9_code_36 : decode cX9_code 36 = .ok (.ifCond .ne 18, 3) := dr_154 0 18  pk_decd_251.2.2.2.2.2.2.2.2.2.2.2.2.2.2.2.2.2.2.2.2.2.2.1
theorem dX9_code_39 : decode cX9_code 39 = .ok (.aload_n 0, 1) := dr_42  pk_decd_251.2.2.2.2.2.2.2.2.2.2.2.2.2.2.2.2.2.2.2.2.2.2.2.1
theorem dX9_code_40 : decode cX9_code 40 = .ok (.getfield 20, 3) := dr_180 0 20  pk_decd_251.2.2.2.2.2.2.2.2.2.2.2.2.2.2.2.2.2.2.2.2.2.2.2.2.1
theorem dX9_code_43 : decode cX9_code 43 = .ok (.sipush 256, 3) := dr_17 1 0  pk_decd_251.2.2.2.2.2.2.2.2.2.2.2.2.2.2.2.2.2.2.2.2.2.2.2.2.2.1
theorem dX9_code_46 : decode cX9_code 46 = .ok (.iload_n 1, 1) := dr_27  pk_decd_251.2.2.2.2.2.2.2.2.2.2.2.2.2.2.2.2.2.2.2.2.2.2.2.2.2.2.1
theorem dX9_code_47 : decode cX9_code 47 = .ok (.imul, 1) := dr_104  pk_decd_251.2.2.2.2.2.2.2.2.2.2.2.2.2.2.2.2.2.2.2.2.2.2.2.2.2.2.2.1
theorem dX9_code_48 : decode cX9_code 48 = .ok (.iload_n 2, 1) := dr_28  pk_decd_251.2.2.2.2.2.2.2.2.2.2.2.2.2.2.2.2.2.2.2.2.2.2.2.2.2.2.2.2.1
theorem dX9_code_49 : decode cX9_code 49 = .ok (.iadd, 1) := dr_96  pk_decd_251.2.2.2.2.2.2.2.2.2.2.2.2.2.2.2.2.2.2.2.2.2.2.2.2.2.2.2.2.2.1
theorem dX9_code_50 : decode cX9_code 50 = .ok (.iaload, 1) := dr_46  pk_decd_251.2.2.2.2.2.2.2.2.2.2.2.2.2.2.2.2.2.2.2.2.2.2.2.2.2.2.2.2.2.2.1
theorem dX9_code_51 : decode cX9_code 51 = .ok (.goto 15, 3) := dr_167 0 15  pk_decd_251.2.2.2.2.2.2.2.2.2.2.2.2.2.2.2.2.2.2.2.2.2.2.2.2.2.2.2.2.2.2.2
set_option maxRecDepth 20000 in
theorem pk_decd_252 : (bq cX9_code 54 42 = true) ∧ ((bq cX9_code 55 180 && bq cX9_code (55 + 1) 0 && bq cX9_code (55 + 2) 23 && (0 * 256 + 23 == 23)) = true) ∧ ((bq cX9_code 58 17 && bq cX9_code (58 + 1) 1 && bq cX9_code (58 + 2) 0 && (Reader.signed 16 (1 * 256 + 0) == 256)) = true) ∧ (bq cX9_code 61 27 = true) ∧ (bq cX9_code 62 104 = true) ∧ (bq cX9_code 63 28 = true) ∧ (bq cX9_code 64 96 = true) ∧ (bq cX9_code 65 46 = true) ∧ (bq cX9_code 66 172 = true) := by decide +kernel
theorem dX9_code_54 : decode cX9_code 54 = .ok (.aload_n 0, 1) := dr_42  pk_decd_252.1
theorem dX9_code_55 : decode cX9_code 55 = .ok (.getfield 23, 3) := dr_180 0 23  pk_decd_252.2.1
theorem dX9_code_58 : decode cX9_code 58 = .ok (.sipush 256, 3) := dr_17 1 0  pk_decd_252.2.2.1
theorem dX9_code_61 : decode cX9_code 61 = .ok (.iload_n 1, 1) := dr_27  pk_decd_252.2.2.2.1
theorem dX9_code_62 : decode cX9_code 62 = .ok (.imul, 1) := dr_104  pk_decd_252.2.2.2.2.1
theorem dX9_code_63 : decode cX9_code 63 = .ok (.iload_n 2, 1) := dr_28  pk_decd_252.2.2.2.2.2.1
theorem dX9_code_64 : decode cX9_code 64 = .ok (.iadd, 1) := dr_96  pk_decd_252.2.2.2.2.2.2.1
theorem dX9_code_65 : decode cX9_code 65 = .ok (.iaload, 1) := dr_46  pk_decd_252.2.2.2.2.2.2.2.1
theorem dX9_code_66 : decode cX9_code 66 = .ok (.ireturn, 1) := dr_172  pk_decd_252.2.2.2.2.2.2.2.2
set_option maxRecDepth 20000 in
theorem pk_decd_253 : (bq cX9_step 0 42 = true) ∧ ((bq cX9_step 1 180 && bq cX9_step (1 + 1) 0 && bq cX9_step (1 + 2) 44 && (0 * 256 + 44 == 44)) = true) ∧ (bq cX9_step 4 42 = true) ∧ ((bq cX9_step 5 180 && bq cX9_step (5 + 1) 0 && bq cX9_step (5 + 2) 181 && (0 * 256 + 181 == 181)) = true) ∧ (bq cX9_step 8 46 = true) ∧ (bq cX9_step 9 61 = true) ∧ (bq cX9_step 10 28 = true) ∧ ((bq cX9_step 11 16 && bq cX9_step (11 + 1) 15 && (Reader.signed 8 15 == 15)) = true) ∧ ((bq cX9_step 13 164 && bq cX9_step (13 + 1) 0 && bq cX9_step (13 + 2) 5 && (Reader.signed 16 (0 * 256 + 5) == 5)) = true) ∧ (bq cX9_step 16 4 = true) ∧ (bq cX9_step 17 172 = true) ∧ (bq cX9_step 18 28 = true) ∧ (bq cX9_step 19 5 = true) ∧ ((bq cX9_step 20 160 && bq cX9_step (20 + 1) 0 && bq cX9_step (20 + 2) 15 && (Reader.signed 16 (0 * 256 + 15) == 15)) = true) ∧ (bq cX9_step 23 42 = true) ∧ ((bq cX9_step 24 180 && bq cX9_step (24 + 1) 0 && bq cX9_step (24 + 2) 184 && (0 * 256 + 184 == 184)) = true) ∧ ((bq cX9_step 27 17 && bq cX9_step (27 + 1) 1 && bq cX9_step (27 + 2) 0 && (Reader.signed 16 (1 * 256 + 0) == 256)) = true) ∧ ((bq cX9_step 30 160 && bq cX9_step (30 + 1) 0 && bq cX9_step (30 + 2) 5 && (Reader.signed 16 (0 * 256 + 5) == 5)) = true) ∧ (bq cX9_step 33 5 = true) ∧ (bq cX9_step 34 172 = true) ∧ (bq cX9_step 35 42 = true) ∧ ((bq cX9_step 36 180 && bq cX9_step (36 + 1) 0 && bq cX9_step (36 + 2) 44 && (0 * 256 + 44 == 44)) = true) ∧ (bq cX9_step 39 42 = true) ∧ ((bq cX9_step 40 180 && bq cX9_step (40 + 1) 0 && bq cX9_step (40 + 2) 181 && (0 * 256 + 181 == 181)) = true) ∧ (bq cX9_step 43 4 = true) ∧ (bq cX9_step 44 96 = true) ∧ ((bq cX9_step 45 17 && bq cX9_step (45 + 1) 0 && bq cX9_step (45 + 2) 255 && (Reader.signed 16 (0 * 256 + 255) == 255)) = true) ∧ (bq cX9_step 48 126 = true) ∧ (bq cX9_step 49 46 = true) ∧ (bq cX9_step 50 62 = true) ∧ (bq cX9_step 51 42 = true) ∧ (bq cX9_step 52 42 = true) := by decide +kernel
theorem dX9_step_0 : decode cX9_step 0 = .ok (.aload_n 0, 1) := dr_42  pk_decd_253.1
theorem dX9_step_1 : decode cX9_step 1 = .ok (.getfield 44, 3) := dr_180 0 44  pk_decd_253.2.1
theorem dX9_step_4 : decode cX9_step 4 = .ok (.aload_n 0, 1) := dr_42  pk_decd_253.2.2.1
theorem dX9_step_5 : decode cX9_step 5 = .ok (.getfield 181, 3) := dr_180 0 181  pk_decd_253.2.2.2.1
theorem dX9_step_8 : decode cX9_step 8 = .ok (.iaload, 1) := dr_46  pk_decd_253.2.2.2.2.1
theorem dX9_step_9 : decode cX9_step 9 = .ok (.istore_n 2, 1) := dr_61  pk_decd_253.2.2.2.2.2.1
theorem dX9_step_10 : decode cX9_step 10 = .ok (.iload_n 2, 1) := dr_28  pk_decd_253.2.2.2.2.2.2.1
theorem dX9_step_11 : decode cX9_step 11 = .ok (.bipush 15, 2) := dr_16 15  pk_decd_253.2.2.2.2.2.2.2.1
theorem dX9_step_13 : decode cX9_step 13 = .ok (.if_icmp .le 5, 3) := dr_164 0 5  pk_decd_253.2.2.2.2.2.2.2.2.1
theorem dX9_step_16 : decode cX9_step 16 = .ok (.iconst 1, 1) := dr_4  pk_decd_253.2.2.2.2.2.2.2.2.2.1
theorem dX9_step_17 : decode cX9_step 17 = .ok (.ireturn, 1) := dr_172  pk_decd_253.2.2.2.2.2.2.2.2.2.2.1
theorem dX9_step_18 : decode cX9_step 18 = .ok (.iload_n 2, 1) := dr_28  pk_decd_253.2.2.2.2.2.2.2.2.2.2.2.1
theorem dX9_step_19 : decode cX9_step 19 = .ok (.iconst 2, 1) := dr_5  pk_decd_253.2.2.2.2.2.2.2.2.2.2.2.2.1
theorem dX9_step_20 : decode cX9_step 20 = .ok (.if_icmp .ne 15, 3) := dr_160 0 15  pk_decd_253.2.2.2.2.2.2.2.2.2.2.2.2.2.1
theorem dX9_step_23 : decode cX9_step 23 = .ok (.aload_n 0, 1) := dr_42  pk_decd_253.2.2.2.2.2.2.2.2.2.2.2.2.2.2.1
theorem dX9_step_24 : decode cX9_step 24 = .ok (.getfield 184, 3) := dr_180 0 184  pk_decd_253.2.2.2.2.2.2.2.2.2.2.2.2.2.2.2.1
theorem dX9_step_27 : decode cX9_step 27 = .ok (.sipush 256, 3) := dr_17 1 0  pk_decd_253.2.2.2.2.2.2.2.2.2.2.2.2.2.2.2.2.1
theorem dX9_step_30 : decode cX9_step 30 = .ok (.if_icmp .ne 5, 3) := dr_160 0 5  pk_decd_253.2.2.2.2.2.2.2.2.2.2.2.2.2.2.2.2.2.1
theorem dX9_step_33 : decode cX9_step 33 = .ok (.iconst 2, 1) := dr_5  pk_decd_253.2.2.2.2.2.2.2.2.2.2.2.2.2.2.2.2.2.2.1
theorem dX9_step_34 : decode cX9_step 34 = .ok (.ireturn, 1) := dr_172  pk_decd_253.2.2.2.2.2.2.2.2.2.2.2.2.2.2.2.2.2.2.2.1
theorem dX9_step_35 : decode cX9_step 35 = .ok (.aload_n 0, 1) := dr_42  pk_decd_253.2.2.2.2.2.2.2.2.2.2.2.2.2.2.2.2.2.2.2.2.1
theorem dX9_step_36 : decode cX9_step 36 = .ok (.getfield 44, 3) := dr_180 0 44  pk_decd_253.2.2.2.2.2.2.2.2.2.2.2.2.2.2.2.2.2.2.2.2.2.1
theorem dX9_step_39 : decode cX9_step 39 = .ok (.aload_n 0, 1) := dr_42  pk_decd_253.2.2.2.2.2.2.2.2.2.2.2.2.2.2.2.2.2.2.2.2.2.2.1
theorem dX9_step_40 : decode cX9_step 40 = .ok (.getfield 181, 3) := dr_180 0 181  pk_decd_253.2.2.2.2.2.2.2.2.2.2.2.2.2.2.2.2.2.2.2.2.2.2.2.1
theorem dX9_step_43 : decode cX9_step 43 = .ok (.iconst 1, 1) := dr_4  pk_decd_253.2.2.2.2.2.2.2.2.2.2.2.2.2.2.2.2.2.2.2.2.2.2.2.2.1
theorem dX9_step_44 : decode cX9_step 44 = .ok (.iadd, 1) := dr_96  pk_decd_253.2.2.2.2.2.2.2.2.2.2.2.2.2.2.2.2.2.2.2.2.2.2.2.2.2.1
theorem dX9_step_45 : decode cX9_step 45 = .ok (.sipush 255, 3) := dr_17 0 255  pk_decd_253.2.2.2.2.2.2.2.2.2.2.2.2.2.2.2.2.2.2.2.2.2.2.2.2.2.2.1
theorem dX9_step_48 : decode cX9_step 48 = .ok (.iand, 1) := dr_126  pk_decd_253.2.2.2.2.2.2.2.2.2.2.2.2.2.2.2.2.2.2.2.2.2.2.2.2.2.2.2.1
theorem dX9_step_49 : decode cX9_step 49 = .ok (.iaload, 1) := dr_46  pk_decd_253.2.2.2.2.2.2.2.2.2.2.2.2.2.2.2.2.2.2.2.2.2.2.2.2.2.2.2.2.1
theorem dX9_step_50 : decode cX9_step 50 = .ok (.istore_n 3, 1) := dr_62  pk_decd_253.2.2.2.2.2.2.2.2.2.2.2.2.2.2.2.2.2.2.2.2.2.2.2.2.2.2.2.2.2.1
theorem dX9_step_51 : decode cX9_step 51 = .ok (.aload_n 0, 1) := dr_42  pk_decd_253.2.2.2.2.2.2.2.2.2.2.2.2.2.2.2.2.2.2.2.2.2.2.2.2.2.2.2.2.2.2.1
theorem dX9_step_52 : decode cX9_step 52 = .ok (.aload_n 0, 1) := dr_42  pk_decd_253.2.2.2.2.2.2.2.2.2.2.2.2.2.2.2.2.2.2.2.2.2.2.2.2.2.2.2.2.2.2.2
set_option maxRecDepth 20000 in
theorem pk_decd_254 : ((bq cX9_step 53 180 && bq cX9_step (53 + 1) 0 && bq cX9_step (53 + 2) 181 && (0 * 256 + 181 == 181)) = true) ∧ (bq cX9_step 56 28 = true) ∧ ((bq cX9_step 57 184 && bq cX9_step (57 + 1) 0 && bq cX9_step (57 + 2) 154 && (0 * 256 + 154 == 154)) = true) ∧ ((bq cX9_step 60 153 && bq cX9_step (60 + 1) 0 && bq cX9_step (60 + 2) 7 && (Reader.signed 16 (0 * 256 + 7) == 7)) = true) ∧ (bq cX9_step 63 5 = true) ∧ ((bq cX9_step 64 167 && bq cX9_step (64 + 1) 0 && bq cX9_step (64 + 2) 4 && (Reader.signed 16 (0 * 256 + 4) == 4)) = true) ∧ (bq cX9_step 67 4 = true) ∧ (bq cX9_step 68 96 = true) ∧ ((bq cX9_step 69 17 && bq cX9_step (69 + 1) 0 && bq cX9_step (69 + 2) 255 && (Reader.signed 16 (0 * 256 + 255) == 255)) = true) ∧ (bq cX9_step 72 126 = true) ∧ ((bq cX9_step 73 181 && bq cX9_step (73 + 1) 0 && bq cX9_step (73 + 2) 181 && (0 * 256 + 181 == 181)) = true) ∧ (bq cX9_step 76 42 = true) ∧ (bq cX9_step 77 89 = true) ∧ ((bq cX9_step 78 180 && bq cX9_step (78 + 1) 0 && bq cX9_step (78 + 2) 187 && (0 * 256 + 187 == 187)) = true) ∧ (bq cX9_step 81 4 = true) ∧ (bq cX9_step 82 96 = true) ∧ ((bq cX9_step 83 181 && bq cX9_step (83 + 1) 0 && bq cX9_step (83 + 2) 187 && (0 * 256 + 187 == 187)) = true) ∧ (bq cX9_step 86 28 = true) := by decide +kernel
theorem dX9_step_53 : decode cX9_step 53 = .ok (.getfield 181, 3) := dr_180 0 181  pk_decd_254.1
theorem dX9_step_56 : decode cX9_step 56 = .ok (.iload_n 2, 1) := dr_28  pk_decd_254.2.1
theorem dX9_step_57 : decode cX9_step 57 = .ok (.invokestatic 154, 3) := dr_184 0 154  pk_decd_254.2.2.1
theorem dX9_step_60 : decode cX9_step 60 = .ok (.ifCond .eq 7, 3) := dr_153 0 7  pk_decd_254.2.2.2.1
theorem dX9_step_63 : decode cX9_step 63 = .ok (.iconst 2, 1) := dr_5  pk_decd_254.2.2.2.2.1
theorem dX9_step_64 : decode cX9_step 64 = .ok (.goto 4, 3) := dr_167 0 4  pk_decd_254.2.2.2.2.2.1
theorem dX9_step_67 : decode cX9_step 67 = .ok (.iconst 1, 1) := dr_4  pk_decd_254.2.2.2.2.2.2.1
theorem dX9_step_68 : decode cX9_step 68 = .ok (.iadd, 1) := dr_96  pk_decd_254.2.2.2.2.2.2.2.1
theorem dX9_step_69 : decode cX9_step 69 = .ok (.sipush 255, 3) := dr_17 0 255  pk_decd_254.2.2.2.2.2.2.2.2.1
theorem dX9_step_72 : decode cX9_step 72 = .ok (.iand, 1) := dr_126  pk_decd_254.2.2.2.2.2.2.2.2.2.1
theorem dX9_step_73 : decode cX9_step 73 = .ok (.putfield 181, 3) := dr_181 0 181  pk_decd_254.2.2.2.2.2.2.2.2.2.2.1
theorem dX9_step_76 : decode cX9_step 76 = .ok (.aload_n 0, 1) := dr_42  pk_decd_254.2.2.2.2.2.2.2.2.2.2.2.1
theorem dX9_step_77 : decode cX9_step 77 = .ok (.dup, 1) := dr_89  pk_decd_254.2.2.2.2.2.2.2.2.2.2.2.2.1
theorem dX9_step_78 : decode cX9_step 78 = .ok (.getfield 187, 3) := dr_180 0 187  pk_decd_254.2.2.2.2.2.2.2.2.2.2.2.2.2.1
theorem dX9_step_81 : decode cX9_step 81 = .ok (.iconst 1, 1) := dr_4  pk_decd_254.2.2.2.2.2.2.2.2.2.2.2.2.2.2.1
theorem dX9_step_82 : decode cX9_step 82 = .ok (.iadd, 1) := dr_96  pk_decd_254.2.2.2.2.2.2.2.2.2.2.2.2.2.2.2.1
theorem dX9_step_83 : decode cX9_step 83 = .ok (.putfield 187, 3) := dr_181 0 187  pk_decd_254.2.2.2.2.2.2.2.2.2.2.2.2.2.2.2.2.1
theorem dX9_step_86 : decode cX9_step 86 = .ok (.iload_n 2, 1) := dr_28  pk_decd_254.2.2.2.2.2.2.2.2.2.2.2.2.2.2.2.2.2
theorem dX9_step_87 : decode cX9_step 87 = .ok (.tableswitch 409 0 14 #[73, 75, 166, 218, 226, 239, 252, 274, 296, 312, 328, 339, 347, 369, 392], 73) := by decide +kernel
set_option maxRecDepth 20000 in
theorem pk_decd_255 : (bq cX9_step 160 2 = true) ∧ (bq cX9_step 161 172 = true) ∧ (bq cX9_step 162 42 = true) ∧ ((bq cX9_step 163 180 && bq cX9_step (163 + 1) 0 && bq cX9_step (163 + 2) 190 && (0 * 256 + 190 == 190)) = true) ∧ (bq cX9_step 166 42 = true) ∧ ((bq cX9_step 167 180 && bq cX9_step (167 + 1) 0 && bq cX9_step (167 + 2) 16 && (0 * 256 + 16 == 16)) = true) ∧ (bq cX9_step 170 27 = true) ∧ (bq cX9_step 171 46 = true) ∧ ((bq cX9_step 172 162 && bq cX9_step (172 + 1) 0 && bq cX9_step (172 + 2) 7 && (Reader.signed 16 (0 * 256 + 7) == 7)) = true) ∧ (bq cX9_step 175 4 = true) ∧ ((bq cX9_step 176 167 && bq cX9_step (176 + 1) 0 && bq cX9_step (176 + 2) 4 && (Reader.signed 16 (0 * 256 + 4) == 4)) = true) ∧ (bq cX9_step 179 3 = true) ∧ ((bq cX9_step 180 54 && bq cX9_step (180 + 1) 4) = true) ∧ (bq cX9_step 182 42 = true) ∧ ((bq cX9_step 183 21 && bq cX9_step (183 + 1) 4) = true) ∧ ((bq cX9_step 185 153 && bq cX9_step (185 + 1) 0 && bq cX9_step (185 + 2) 25 && (Reader.signed 16 (0 * 256 + 25) == 25)) = true) ∧ (bq cX9_step 188 42 = true) ∧ ((bq cX9_step 189 180 && bq cX9_step (189 + 1) 0 && bq cX9_step (189 + 2) 13 && (0 * 256 + 13 == 13)) = true) ∧ ((bq cX9_step 192 17 && bq cX9_step (192 + 1) 0 && bq cX9_step (192 + 2) 200 && (Reader.signed 16 (0 * 256 + 200) == 200)) = true) ∧ (bq cX9_step 195 27 = true) ∧ (bq cX9_step 196 104 = true) ∧ (bq cX9_step 197 42 = true) ∧ ((bq cX9_step 198 180 && bq cX9_step (198 + 1) 0 && bq cX9_step (198 + 2) 190 && (0 * 256 + 190 == 190)) = true) ∧ (bq cX9_step 201 96 = true) ∧ (bq cX9_step 202 51 = true) ∧ ((bq cX9_step 203 17 && bq cX9_step (203 + 1) 0 && bq cX9_step (203 + 2) 255 && (Reader.signed 16 (0 * 256 + 255) == 255)) = true) ∧ (bq cX9_step 206 126 = true) ∧ ((bq cX9_step 207 167 && bq cX9_step (207 + 1) 0 && bq cX9_step (207 + 2) 4 && (Reader.signed 16 (0 * 256 + 4) == 4)) = true) ∧ (bq cX9_step 210 3 = true) ∧ ((bq cX9_step 211 181 && bq cX9_step (211 + 1) 0 && bq cX9_step (211 + 2) 193 && (0 * 256 + 193 == 193)) = true) ∧ (bq cX9_step 214 42 = true) ∧ (bq cX9_step 215 89 = true) := by decide +kernel
theorem dX9_step_160 : decode cX9_step 160 = .ok (.iconst (-1), 1) := dr_2  pk_decd_255.1
theorem dX9_step_161 : decode cX9_step 161 = .ok (.ireturn, 1) := dr_172  pk_decd_255.2.1
theorem dX9_step_162 : decode cX9_step 162 = .ok (.aload_n 0, 1) := dr_42  pk_decd_255.2.2.1
theorem dX9_step_163 : decode cX9_step 163 = .ok (.getfield 190, 3) := dr_180 0 190  pk_decd_255.2.2.2.1
theorem dX9_step_166 : decode cX9_step 166 = .ok (.aload_n 0, 1) := dr_42  pk_decd_255.2.2.2.2.1
theorem dX9_step_167 : decode cX9_step 167 = .ok (.getfield 16, 3) := dr_180 0 16  pk_decd_255.2.2.2.2.2.1
theorem dX9_step_170 : decode cX9_step 170 = .ok (.iload_n 1, 1) := dr_27  pk_decd_255.2.2.2.2.2.2.1
theorem dX9_step_171 : decode cX9_step 171 = .ok (.iaload, 1) := dr_46  pk_decd_255.2.2.2.2.2.2.2.1
theorem dX9_step_172 : decode cX9_step 172 = .ok (.if_icmp .ge 7, 3) := dr_162 0 7  pk_decd_255.2.2.2.2.2.2.2.2.1
theorem dX9_step_175 : decode cX9_step 175 = .ok (.iconst 1, 1) := dr_4  pk_decd_255.2.2.2.2.2.2.2.2.2.1
theorem dX9_step_176 : decode cX9_step 176 = .ok (.goto 4, 3) := dr_167 0 4  pk_decd_255.2.2.2.2.2.2.2.2.2.2.1
theorem dX9_step_179 : decode cX9_step 179 = .ok (.iconst 0, 1) := dr_3  pk_decd_255.2.2.2.2.2.2.2.2.2.2.2.1
theorem dX9_step_180 : decode cX9_step 180 = .ok (.istore 4, 2) := dr_54  pk_decd_255.2.2.2.2.2.2.2.2.2.2.2.2.1
theorem dX9_step_182 : decode cX9_step 182 = .ok (.aload_n 0, 1) := dr_42  pk_decd_255.2.2.2.2.2.2.2.2.2.2.2.2.2.1
theorem dX9_step_183 : decode cX9_step 183 = .ok (.iload 4, 2) := dr_21  pk_decd_255.2.2.2.2.2.2.2.2.2.2.2.2.2.2.1
theorem dX9_step_185 : decode cX9_step 185 = .ok (.ifCond .eq 25, 3) := dr_153 0 25  pk_decd_255.2.2.2.2.2.2.2.2.2.2.2.2.2.2.2.1
theorem dX9_step_188 : decode cX9_step 188 = .ok (.aload_n 0, 1) := dr_42  pk_decd_255.2.2.2.2.2.2.2.2.2.2.2.2.2.2.2.2.1
theorem dX9_step_189 : decode cX9_step 189 = .ok (.getfield 13, 3) := dr_180 0 13  pk_decd_255.2.2.2.2.2.2.2.2.2.2.2.2.2.2.2.2.2.1
theorem dX9_step_192 : decode cX9_step 192 = .ok (.sipush 200, 3) := dr_17 0 200  pk_decd_255.2.2.2.2.2.2.2.2.2.2.2.2.2.2.2.2.2.2.1
theorem dX9_step_195 : decode cX9_step 195 = .ok (.iload_n 1, 1) := dr_27  pk_decd_255.2.2.2.2.2.2.2.2.2.2.2.2.2.2.2.2.2.2.2.1
theorem dX9_step_196 : decode cX9_step 196 = .ok (.imul, 1) := dr_104  pk_decd_255.2.2.2.2.2.2.2.2.2.2.2.2.2.2.2.2.2.2.2.2.1
theorem dX9_step_197 : decode cX9_step 197 = .ok (.aload_n 0, 1) := dr_42  pk_decd_255.2.2.2.2.2.2.2.2.2.2.2.2.2.2.2.2.2.2.2.2.2.1
theorem dX9_step_198 : decode cX9_step 198 = .ok (.getfield 190, 3) := dr_180 0 190  pk_decd_255.2.2.2.2.2.2.2.2.2.2.2.2.2.2.2.2.2.2.2.2.2.2.1
theorem dX9_step_201 : decode cX9_step 201 = .ok (.iadd, 1) := dr_96  pk_decd_255.2.2.2.2.2.2.2.2.2.2.2.2.2.2.2.2.2.2.2.2.2.2.2.1
theorem dX9_step_202 : decode cX9_step 202 = .ok (.baload, 1) := dr_51  pk_decd_255.2.2.2.2.2.2.2.2.2.2.2.2.2.2.2.2.2.2.2.2.2.2.2.2.1
theorem dX9_step_203 : decode cX9_step 203 = .ok (.sipush 255, 3) := dr_17 0 255  pk_decd_255.2.2.2.2.2.2.2.2.2.2.2.2.2.2.2.2.2.2.2.2.2.2.2.2.2.1
theorem dX9_step_206 : decode cX9_step 206 = .ok (.iand, 1) := dr_126  pk_decd_255.2.2.2.2.2.2.2.2.2.2.2.2.2.2.2.2.2.2.2.2.2.2.2.2.2.2.1
theorem dX9_step_207 : decode cX9_step 207 = .ok (.goto 4, 3) := dr_167 0 4  pk_decd_255.2.2.2.2.2.2.2.2.2.2.2.2.2.2.2.2.2.2.2.2.2.2.2.2.2.2.2.1
theorem dX9_step_210 : decode cX9_step 210 = .ok (.iconst 0, 1) := dr_3  pk_decd_255.2.2.2.2.2.2.2.2.2.2.2.2.2.2.2.2.2.2.2.2.2.2.2.2.2.2.2.2.1
theorem dX9_step_211 : decode cX9_step 211 = .ok (.putfield 193, 3) := dr_181 0 193  pk_decd_255.2.2.2.2.2.2.2.2.2.2.2.2.2.2.2.2.2.2.2.2.2.2.2.2.2.2.2.2.2.1
theorem dX9_step_214 : decode cX9_step 214 = .ok (.aload_n 0, 1) := dr_42  pk_decd_255.2.2.2.2.2.2.2.2.2.2.2.2.2.2.2.2.2.2.2.2.2.2.2.2.2.2.2.2.2.2.1
theorem dX9_step_215 : decode cX9_step 215 = .ok (.dup, 1) := dr_89  pk_decd_255.2.2.2.2.2.2.2.2.2.2.2.2.2.2.2.2.2.2.2.2.2.2.2.2.2.2.2.2.2.2.2
set_option maxRecDepth 20000 in
theorem pk_decd_256 : ((bq cX9_step 216 180 && bq cX9_step (216 + 1) 0 && bq cX9_step (216 + 2) 190 && (0 * 256 + 190 == 190)) = true) ∧ ((bq cX9_step 219 21 && bq cX9_step (219 + 1) 4) = true) ∧ ((bq cX9_step 221 153 && bq cX9_step (221 + 1) 0 && bq cX9_step (221 + 2) 7 && (Reader.signed 16 (0 * 256 + 7) == 7)) = true) ∧ (bq cX9_step 224 4 = true) ∧ ((bq cX9_step 225 167 && bq cX9_step (225 + 1) 0 && bq cX9_step (225 + 2) 4 && (Reader.signed 16 (0 * 256 + 4) == 4)) = true) ∧ (bq cX9_step 228 3 = true) ∧ (bq cX9_step 229 96 = true) ∧ ((bq cX9_step 230 181 && bq cX9_step (230 + 1) 0 && bq cX9_step (230 + 2) 190 && (0 * 256 + 190 == 190)) = true) ∧ (bq cX9_step 233 42 = true) ∧ ((bq cX9_step 234 21 && bq cX9_step (234 + 1) 4) = true) ∧ ((bq cX9_step 236 153 && bq cX9_step (236 + 1) 0 && bq cX9_step (236 + 2) 10 && (Reader.signed 16 (0 * 256 + 10) == 10)) = true) ∧ (bq cX9_step 239 42 = true) ∧ ((bq cX9_step 240 180 && bq cX9_step (240 + 1) 0 && bq cX9_step (240 + 2) 196 && (0 * 256 + 196 == 196)) = true) ∧ ((bq cX9_step 243 167 && bq cX9_step (243 + 1) 0 && bq cX9_step (243 + 2) 4 && (Reader.signed 16 (0 * 256 + 4) == 4)) = true) ∧ (bq cX9_step 246 4 = true) ∧ ((bq cX9_step 247 181 && bq cX9_step (247 + 1) 0 && bq cX9_step (247 + 2) 196 && (0 * 256 + 196 == 196)) = true) ∧ ((bq cX9_step 250 167 && bq cX9_step (250 + 1) 1 && bq cX9_step (250 + 2) 12 && (Reader.signed 16 (1 * 256 + 12) == 268)) = true) ∧ (bq cX9_step 253 42 = true) ∧ ((bq cX9_step 254 180 && bq cX9_step (254 + 1) 0 && bq cX9_step (254 + 2) 47 && (0 * 256 + 47 == 47)) = true) ∧ (bq cX9_step 257 42 = true) ∧ ((bq cX9_step 258 180 && bq cX9_step (258 + 1) 0 && bq cX9_step (258 + 2) 184 && (0 * 256 + 184 == 184)) = true) ∧ (bq cX9_step 261 42 = true) ∧ ((bq cX9_step 262 180 && bq cX9_step (262 + 1) 0 && bq cX9_step (262 + 2) 193 && (0 * 256 + 193 == 193)) = true) ∧ (bq cX9_step 265 79 = true) ∧ (bq cX9_step 266 42 = true) ∧ ((bq cX9_step 267 180 && bq cX9_step (267 + 1) 0 && bq cX9_step (267 + 2) 50 && (0 * 256 + 50 == 50)) = true) ∧ (bq cX9_step 270 42 = true) ∧ ((bq cX9_step 271 180 && bq cX9_step (271 + 1) 0 && bq cX9_step (271 + 2) 184 && (0 * 256 + 184 == 184)) = true) ∧ (bq cX9_step 274 42 = true) ∧ ((bq cX9_step 275 180 && bq cX9_step (275 + 1) 0 && bq cX9_step (275 + 2) 190 && (0 * 256 + 190 == 190)) = true) ∧ ((bq cX9_step 278 154 && bq cX9_step (278 + 1) 0 && bq cX9_step (278 + 2) 7 && (Reader.signed 16 (0 * 256 + 7) == 7)) = true) ∧ (bq cX9_step 281 3 = true) := by decide +kernel
theorem dX9_step_216 : decode cX9_step 216 = .ok (.getfield 190, 3) := dr_180 0 190  pk_decd_256.1
theorem dX9_step_219 : decode cX9_step 219 = .ok (.iload 4, 2) := dr_21  pk_decd_256.2.1
theorem dX9_step_221 : decode cX9_step 221 = .ok (.ifCond .eq 7, 3) := dr_153 0 7  pk_decd_256.2.2.1
theorem dX9_step_224 : decode cX9_step 224 = .ok (.iconst 1, 1) := dr_4  pk_decd_256.2.2.2.1
theorem dX9_step_225 : decode cX9_step 225 = .ok (.goto 4, 3) := dr_167 0 4  pk_decd_256.2.2.2.2.1
theorem dX9_step_228 : decode cX9_step 228 = .ok (.iconst 0, 1) := dr_3  pk_decd_256.2.2.2.2.2.1
theorem dX9_step_229 : decode cX9_step 229 = .ok (.iadd, 1) := dr_96  pk_decd_256.2.2.2.2.2.2.1
theorem dX9_step_230 : decode cX9_step 230 = .ok (.putfield 190, 3) := dr_181 0 190  pk_decd_256.2.2.2.2.2.2.2.1
theorem dX9_step_233 : decode cX9_step 233 = .ok (.aload_n 0, 1) := dr_42  pk_decd_256.2.2.2.2.2.2.2.2.1
theorem dX9_step_234 : decode cX9_step 234 = .ok (.iload 4, 2) := dr_21  pk_decd_256.2.2.2.2.2.2.2.2.2.1
theorem dX9_step_236 : decode cX9_step 236 = .ok (.ifCond .eq 10, 3) := dr_153 0 10  pk_decd_256.2.2.2.2.2.2.2.2.2.2.1
theorem dX9_step_239 : decode cX9_step 239 = .ok (.aload_n 0, 1) := dr_42  pk_decd_256.2.2.2.2.2.2.2.2.2.2.2.1
theorem dX9_step_240 : decode cX9_step 240 = .ok (.getfield 196, 3) := dr_180 0 196  pk_decd_256.2.2.2.2.2.2.2.2.2.2.2.2.1
theorem dX9_step_243 : decode cX9_step 243 = .ok (.goto 4, 3) := dr_167 0 4  pk_decd_256.2.2.2.2.2.2.2.2.2.2.2.2.2.1
theorem dX9_step_246 : decode cX9_step 246 = .ok (.iconst 1, 1) := dr_4  pk_decd_256.2.2.2.2.2.2.2.2.2.2.2.2.2.2.1
theorem dX9_step_247 : decode cX9_step 247 = .ok (.putfield 196, 3) := dr_181 0 196  pk_decd_256.2.2.2.2.2.2.2.2.2.2.2.2.2.2.2.1
theorem dX9_step_250 : decode cX9_step 250 = .ok (.goto 268, 3) := dr_167 1 12  pk_decd_256.2.2.2.2.2.2.2.2.2.2.2.2.2.2.2.2.1
theorem dX9_step_253 : decode cX9_step 253 = .ok (.aload_n 0, 1) := dr_42  pk_decd_256.2.2.2.2.2.2.2.2.2.2.2.2.2.2.2.2.2.1
theorem dX9_step_254 : decode cX9_step 254 = .ok (.getfield 47, 3) := dr_180 0 47  pk_decd_256.2.2.2.2.2.2.2.2.2.2.2.2.2.2.2.2.2.2.1
theorem dX9_step_257 : decode cX9_step 257 = .ok (.aload_n 0, 1) := dr_42  pk_decd_256.2.2.2.2.2.2.2.2.2.2.2.2.2.2.2.2.2.2.2.1
theorem dX9_step_258 : decode cX9_step 258 = .ok (.getfield 184, 3) := dr_180 0 184  pk_decd_256.2.2.2.2.2.2.2.2.2.2.2.2.2.2.2.2.2.2.2.2.1
theorem dX9_step_261 : decode cX9_step 261 = .ok (.aload_n 0, 1) := dr_42  pk_decd_256.2.2.2.2.2.2.2.2.2.2.2.2.2.2.2.2.2.2.2.2.2.1
theorem dX9_step_262 : decode cX9_step 262 = .ok (.getfield 193, 3) := dr_180 0 193  pk_decd_256.2.2.2.2.2.2.2.2.2.2.2.2.2.2.2.2.2.2.2.2.2.2.1
theorem dX9_step_265 : decode cX9_step 265 = .ok (.iastore, 1) := dr_79  pk_decd_256.2.2.2.2.2.2.2.2.2.2.2.2.2.2.2.2.2.2.2.2.2.2.2.1
theorem dX9_step_266 : decode cX9_step 266 = .ok (.aload_n 0, 1) := dr_42  pk_decd_256.2.2.2.2.2.2.2.2.2.2.2.2.2.2.2.2.2.2.2.2.2.2.2.2.1
theorem dX9_step_267 : decode cX9_step 267 = .ok (.getfield 50, 3) := dr_180 0 50  pk_decd_256.2.2.2.2.2.2.2.2.2.2.2.2.2.2.2.2.2.2.2.2.2.2.2.2.2.1
theorem dX9_step_270 : decode cX9_step 270 = .ok (.aload_n 0, 1) := dr_42  pk_decd_256.2.2.2.2.2.2.2.2.2.2.2.2.2.2.2.2.2.2.2.2.2.2.2.2.2.2.1
theorem dX9_step_271 : decode cX9_step 271 = .ok (.getfield 184, 3) := dr_180 0 184  pk_decd_256.2.2.2.2.2.2.2.2.2.2.2.2.2.2.2.2.2.2.2.2.2.2.2.2.2.2.2.1
theorem dX9_step_274 : decode cX9_step 274 = .ok (.aload_n 0, 1) := dr_42  pk_decd_256.2.2.2.2.2.2.2.2.2.2.2.2.2.2.2.2.2.2.2.2.2.2.2.2.2.2.2.2.1
theorem dX9_step_275 : decode cX9_step 275 = .ok (.getfield 190, 3) := dr_180 0 190  pk_decd_256.2.2.2.2.2.2.2.2.2.2.2.2.2.2.2.2.2.2.2.2.2.2.2.2.2.2.2.2.2.1
theorem dX9_step_278 : decode cX9_step 278 = .ok (.ifCond .ne 7, 3) := dr_154 0 7  pk_decd_256.2.2.2.2.2.2.2.2.2.2.2.2.2.2.2.2.2.2.2.2.2.2.2.2.2.2.2.2.2.2.1
theorem dX9_step_281 : decode cX9_step 281 = .ok (.iconst 0, 1) := dr_3  pk_decd_256.2.2.2.2.2.2.2.2.2.2.2.2.2.2.2.2.2.2.2.2.2.2.2.2.2.2.2.2.2.2.2
set_option maxRecDepth 20000 in
theorem pk_decd_257 : ((bq cX9_step 282 167 && bq cX9_step (282 + 1) 0 && bq cX9_step (282 + 2) 9 && (Reader.signed 16 (0 * 256 + 9) == 9)) = true) ∧ (bq cX9_step 285 42 = true) ∧ ((bq cX9_step 286 180 && bq cX9_step (286 + 1) 0 && bq cX9_step (286 + 2) 190 && (0 * 256 + 190 == 190)) = true) ∧ (bq cX9_step 289 4 = true) ∧ (bq cX9_step 290 100 = true) ∧ (bq cX9_step 291 79 = true) ∧ (bq cX9_step 292 42 = true) ∧ (bq cX9_step 293 89 = true) ∧ ((bq cX9_step 294 180 && bq cX9_step (294 + 1) 0 && bq cX9_step (294 + 2) 184 && (0 * 256 + 184 == 184)) = true) ∧ (bq cX9_step 297 4 = true) ∧ (bq cX9_step 298 96 = true) ∧ ((bq cX9_step 299 181 && bq cX9_step (299 + 1) 0 && bq cX9_step (299 + 2) 184 && (0 * 256 + 184 == 184)) = true) ∧ ((bq cX9_step 302 167 && bq cX9_step (302 + 1) 0 && bq cX9_step (302 + 2) 216 && (Reader.signed 16 (0 * 256 + 216) == 216)) = true) ∧ (bq cX9_step 305 42 = true) ∧ (bq cX9_step 306 29 = true) ∧ ((bq cX9_step 307 181 && bq cX9_step (307 + 1) 0 && bq cX9_step (307 + 2) 193 && (0 * 256 + 193 == 193)) = true) ∧ ((bq cX9_step 310 167 && bq cX9_step (310 + 1) 0 && bq cX9_step (310 + 2) 208 && (Reader.signed 16 (0 * 256 + 208) == 208)) = true) ∧ (bq cX9_step 313 42 = true) ∧ (bq cX9_step 314 42 = true) ∧ ((bq cX9_step 315 180 && bq cX9_step (315 + 1) 0 && bq cX9_step (315 + 2) 44 && (0 * 256 + 44 == 44)) = true) ∧ (bq cX9_step 318 29 = true) ∧ (bq cX9_step 319 46 = true) ∧ ((bq cX9_step 320 181 && bq cX9_step (320 + 1) 0 && bq cX9_step (320 + 2) 193 && (0 * 256 + 193 == 193)) = true) ∧ ((bq cX9_step 323 167 && bq cX9_step (323 + 1) 0 && bq cX9_step (323 + 2) 195 && (Reader.signed 16 (0 * 256 + 195) == 195)) = true) ∧ (bq cX9_step 326 42 = true) ∧ ((bq cX9_step 327 180 && bq cX9_step (327 + 1) 0 && bq cX9_step (327 + 2) 44 && (0 * 256 + 44 == 44)) = true) ∧ (bq cX9_step 330 29 = true) ∧ (bq cX9_step 331 42 = true) ∧ ((bq cX9_step 332 180 && bq cX9_step (332 + 1) 0 && bq cX9_step (332 + 2) 193 && (0 * 256 + 193 == 193)) = true) ∧ (bq cX9_step 335 79 = true) ∧ ((bq cX9_step 336 167 && bq cX9_step (336 + 1) 0 && bq cX9_step (336 + 2) 182 && (Reader.signed 16 (0 * 256 + 182) == 182)) = true) ∧ (bq cX9_step 339 42 = true) := by decide +kernel
theorem dX9_step_282 : decode cX9_step 282 = .ok (.goto 9, 3) := dr_167 0 9  pk_decd_257.1
theorem dX9_step_285 : decode cX9_step 285 = .ok (.aload_n 0, 1) := dr_42  pk_decd_257.2.1
theorem dX9_step_286 : decode cX9_step 286 = .ok (.getfield 190, 3) := dr_180 0 190  pk_decd_257.2.2.1
theorem dX9_step_289 : decode cX9_step 289 = .ok (.iconst 1, 1) := dr_4  pk_decd_257.2.2.2.1
theorem dX9_step_290 : decode cX9_step 290 = .ok (.isub, 1) := dr_100  pk_decd_257.2.2.2.2.1
theorem dX9_step_291 : decode cX9_step 291 = .ok (.iastore, 1) := dr_79  pk_decd_257.2.2.2.2.2.1
theorem dX9_step_292 : decode cX9_step 292 = .ok (.aload_n 0, 1) := dr_42  pk_decd_257.2.2.2.2.2.2.1
theorem dX9_step_293 : decode cX9_step 293 = .ok (.dup, 1) := dr_89  pk_decd_257.2.2.2.2.2.2.2.1
theorem dX9_step_294 : decode cX9_step 294 = .ok (.getfield 184, 3) := dr_180 0 184  pk_decd_257.2.2.2.2.2.2.2.2.1
theorem dX9_step_297 : decode cX9_step 297 = .ok (.iconst 1, 1) := dr_4  pk_decd_257.2.2.2.2.2.2.2.2.2.1
theorem dX9_step_298 : decode cX9_step 298 = .ok (.iadd, 1) := dr_96  pk_decd_257.2.2.2.2.2.2.2.2.2.2.1
theorem dX9_step_299 : decode cX9_step 299 = .ok (.putfield 184, 3) := dr_181 0 184  pk_decd_257.2.2.2.2.2.2.2.2.2.2.2.1
theorem dX9_step_302 : decode cX9_step 302 = .ok (.goto 216, 3) := dr_167 0 216  pk_decd_257.2.2.2.2.2.2.2.2.2.2.2.2.1
theorem dX9_step_305 : decode cX9_step 305 = .ok (.aload_n 0, 1) := dr_42  pk_decd_257.2.2.2.2.2.2.2.2.2.2.2.2.2.1
theorem dX9_step_306 : decode cX9_step 306 = .ok (.iload_n 3, 1) := dr_29  pk_decd_257.2.2.2.2.2.2.2.2.2.2.2.2.2.2.1
theorem dX9_step_307 : decode cX9_step 307 = .ok (.putfield 193, 3) := dr_181 0 193  pk_decd_257.2.2.2.2.2.2.2.2.2.2.2.2.2.2.2.1
theorem dX9_step_310 : decode cX9_step 310 = .ok (.goto 208, 3) := dr_167 0 208  pk_decd_257.2.2.2.2.2.2.2.2.2.2.2.2.2.2.2.2.1
theorem dX9_step_313 : decode cX9_step 313 = .ok (.aload_n 0, 1) := dr_42  pk_decd_257.2.2.2.2.2.2.2.2.2.2.2.2.2.2.2.2.2.1
theorem dX9_step_314 : decode cX9_step 314 = .ok (.aload_n 0, 1) := dr_42  pk_decd_257.2.2.2.2.2.2.2.2.2.2.2.2.2.2.2.2.2.2.1
theorem dX9_step_315 : decode cX9_step 315 = .ok (.getfield 44, 3) := dr_180 0 44  pk_decd_257.2.2.2.2.2.2.2.2.2.2.2.2.2.2.2.2.2.2.2.1
theorem dX9_step_318 : decode cX9_step 318 = .ok (.iload_n 3, 1) := dr_29  pk_decd_257.2.2.2.2.2.2.2.2.2.2.2.2.2.2.2.2.2.2.2.2.1
theorem dX9_step_319 : decode cX9_step 319 = .ok (.iaload, 1) := dr_46  pk_decd_257.2.2.2.2.2.2.2.2.2.2.2.2.2.2.2.2.2.2.2.2.2.1
theorem dX9_step_320 : decode cX9_step 320 = .ok (.putfield 193, 3) := dr_181 0 193  pk_decd_257.2.2.2.2.2.2.2.2.2.2.2.2.2.2.2.2.2.2.2.2.2.2.1
theorem dX9_step_323 : decode cX9_step 323 = .ok (.goto 195, 3) := dr_167 0 195  pk_decd_257.2.2.2.2.2.2.2.2.2.2.2.2.2.2.2.2.2.2.2.2.2.2.2.1
theorem dX9_step_326 : decode cX9_step 326 = .ok (.aload_n 0, 1) := dr_42  pk_decd_257.2.2.2.2.2.2.2.2.2.2.2.2.2.2.2.2.2.2.2.2.2.2.2.2.1
theorem dX9_step_327 : decode cX9_step 327 = .ok (.getfield 44, 3) := dr_180 0 44  pk_decd_257.2.2.2.2.2.2.2.2.2.2.2.2.2.2.2.2.2.2.2.2.2.2.2.2.2.1
theorem dX9_step_330 : decode cX9_step 330 = .ok (.iload_n 3, 1) := dr_29  pk_decd_257.2.2.2.2.2.2.2.2.2.2.2.2.2.2.2.2.2.2.2.2.2.2.2.2.2.2.1
theorem dX9_step_331 : decode cX9_step 331 = .ok (.aload_n 0, 1) := dr_42  pk_decd_257.2.2.2.2.2.2.2.2.2.2.2.2.2.2.2.2.2.2.2.2.2.2.2.2.2.2.2.1
theorem dX9_step_332 : decode cX9_step 332 = .ok (.getfield 193, 3) := dr_180 0 193  pk_decd_257.2.2.2.2.2.2.2.2.2.2.2.2.2.2.2.2.2.2.2.2.2.2.2.2.2.2.2.2.1
theorem dX9_step_335 : decode cX9_step 335 = .ok (.iastore, 1) := dr_79  pk_decd_257.2.2.2.2.2.2.2.2.2.2.2.2.2.2.2.2.2.2.2.2.2.2.2.2.2.2.2.2.2.1
theorem dX9_step_336 : decode cX9_step 336 = .ok (.goto 182, 3) := dr_167 0 182  pk_decd_257.2.2.2.2.2.2.2.2.2.2.2.2.2.2.2.2.2.2.2.2.2.2.2.2.2.2.2.2.2.2.1
theorem dX9_step_339 : decode cX9_step 339 = .ok (.aload_n 0, 1) := dr_42  pk_decd_257.2.2.2.2.2.2.2.2.2.2.2.2.2.2.2.2.2.2.2.2.2.2.2.2.2.2.2.2.2.2.2
set_option maxRecDepth 20000 in
theorem pk_decd_258 : (bq cX9_step 340 42 = true) ∧ ((bq cX9_step 341 180 && bq cX9_step (341 + 1) 0 && bq cX9_step (341 + 2) 193 && (0 * 256 + 193 == 193)) = true) ∧ (bq cX9_step 344 42 = true) ∧ ((bq cX9_step 345 180 && bq cX9_step (345 + 1) 0 && bq cX9_step (345 + 2) 44 && (0 * 256 + 44 == 44)) = true) ∧ (bq cX9_step 348 29 = true) ∧ (bq cX9_step 349 46 = true) ∧ (bq cX9_step 350 96 = true) ∧ ((bq cX9_step 351 17 && bq cX9_step (351 + 1) 0 && bq cX9_step (351 + 2) 255 && (Reader.signed 16 (0 * 256 + 255) == 255)) = true) ∧ (bq cX9_step 354 126 = true) ∧ ((bq cX9_step 355 181 && bq cX9_step (355 + 1) 0 && bq cX9_step (355 + 2) 193 && (0 * 256 + 193 == 193)) = true) ∧ ((bq cX9_step 358 167 && bq cX9_step (358 + 1) 0 && bq cX9_step (358 + 2) 160 && (Reader.signed 16 (0 * 256 + 160) == 160)) = true) ∧ (bq cX9_step 361 42 = true) ∧ (bq cX9_step 362 42 = true) ∧ ((bq cX9_step 363 180 && bq cX9_step (363 + 1) 0 && bq cX9_step (363 + 2) 193 && (0 * 256 + 193 == 193)) = true) ∧ (bq cX9_step 366 42 = true) ∧ ((bq cX9_step 367 180 && bq cX9_step (367 + 1) 0 && bq cX9_step (367 + 2) 44 && (0 * 256 + 44 == 44)) = true) ∧ (bq cX9_step 370 29 = true) ∧ (bq cX9_step 371 46 = true) ∧ (bq cX9_step 372 100 = true) ∧ ((bq cX9_step 373 17 && bq cX9_step (373 + 1) 0 && bq cX9_step (373 + 2) 255 && (Reader.signed 16 (0 * 256 + 255) == 255)) = true) ∧ (bq cX9_step 376 126 = true) ∧ ((bq cX9_step 377 181 && bq cX9_step (377 + 1) 0 && bq cX9_step (377 + 2) 193 && (0 * 256 + 193 == 193)) = true) ∧ ((bq cX9_step 380 167 && bq cX9_step (380 + 1) 0 && bq cX9_step (380 + 2) 138 && (Reader.signed 16 (0 * 256 + 138) == 138)) = true) ∧ (bq cX9_step 383 42 = true) ∧ (bq cX9_step 384 42 = true) ∧ ((bq cX9_step 385 180 && bq cX9_step (385 + 1) 0 && bq cX9_step (385 + 2) 44 && (0 * 256 + 44 == 44)) = true) ∧ (bq cX9_step 388 42 = true) ∧ ((bq cX9_step 389 180 && bq cX9_step (389 + 1) 0 && bq cX9_step (389 + 2) 199 && (0 * 256 + 199 == 199)) = true) ∧ (bq cX9_step 392 46 = true) ∧ ((bq cX9_step 393 181 && bq cX9_step (393 + 1) 0 && bq cX9_step (393 + 2) 193 && (0 * 256 + 193 == 193)) = true) ∧ ((bq cX9_step 396 167 && bq cX9_step (396 + 1) 0 && bq cX9_step (396 + 2) 122 && (Reader.signed 16 (0 * 256 + 122) == 122)) = true) ∧ (bq cX9_step 399 42 = true) := by decide +kernel
theorem dX9_step_340 : decode cX9_step 340 = .ok (.aload_n 0, 1) := dr_42  pk_decd_258.1
theorem dX9_step_341 : decode cX9_step 341 = .ok (.getfield 193, 3) := dr_180 0 193  pk_decd_258.2.1
theorem dX9_step_344 : decode cX9_step 344 = .ok (.aload_n 0, 1) := dr_42  pk_decd_258.2.2.1
theorem dX9_step_345 : decode cX9_step 345 = .ok (.getfield 44, 3) := dr_180 0 44  pk_decd_258.2.2.2.1
theorem dX9_step_348 : decode cX9_step 348 = .ok (.iload_n 3, 1) := dr_29  pk_decd_258.2.2.2.2.1
theorem dX9_step_349 : decode cX9_step 349 = .ok (.iaload, 1) := dr_46  pk_decd_258.2.2.2.2.2.1
theorem dX9_step_350 : decode cX9_step 350 = .ok (.iadd, 1) := dr_96  pk_decd_258.2.2.2.2.2.2.1
theorem dX9_step_351 : decode cX9_step 351 = .ok (.sipush 255, 3) := dr_17 0 255  pk_decd_258.2.2.2.2.2.2.2.1
theorem dX9_step_354 : decode cX9_step 354 = .ok (.iand, 1) := dr_126  pk_decd_258.2.2.2.2.2.2.2.2.1
theorem dX9_step_355 : decode cX9_step 355 = .ok (.putfield 193, 3) := dr_181 0 193  pk_decd_258.2.2.2.2.2.2.2.2.2.1
theorem dX9_step_358 : decode cX9_step 358 = .ok (.goto 160, 3) := dr_167 0 160  pk_decd_258.2.2.2.2.2.2.2.2.2.2.1
theorem dX9_step_361 : decode cX9_step 361 = .ok (.aload_n 0, 1) := dr_42  pk_decd_258.2.2.2.2.2.2.2.2.2.2.2.1
theorem dX9_step_362 : decode cX9_step 362 = .ok (.aload_n 0, 1) := dr_42  pk_decd_258.2.2.2.2.2.2.2.2.2.2.2.2.1
theorem dX9_step_363 : decode cX9_step 363 = .ok (.getfield 193, 3) := dr_180 0 193  pk_decd_258.2.2.2.2.2.2.2.2.2.2.2.2.2.1
theorem dX9_step_366 : decode cX9_step 366 = .ok (.aload_n 0, 1) := dr_42  pk_decd_258.2.2.2.2.2.2.2.2.2.2.2.2.2.2.1
theorem dX9_step_367 : decode cX9_step 367 = .ok (.getfield 44, 3) := dr_180 0 44  pk_decd_258.2.2.2.2.2.2.2.2.2.2.2.2.2.2.2.1
theorem dX9_step_370 : decode cX9_step 370 = .ok (.iload_n 3, 1) := dr_29  pk_decd_258.2.2.2.2.2.2.2.2.2.2.2.2.2.2.2.2.1
theorem dX9_step_371 : decode cX9_step 371 = .ok (.iaload, 1) := dr_46  pk_decd_258.2.2.2.2.2.2.2.2.2.2.2.2.2.2.2.2.2.1
theorem dX9_step_372 : decode cX9_step 372 = .ok (.isub, 1) := dr_100  pk_decd_258.2.2.2.2.2.2.2.2.2.2.2.2.2.2.2.2.2.2.1
theorem dX9_step_373 : decode cX9_step 373 = .ok (.sipush 255, 3) := dr_17 0 255  pk_decd_258.2.2.2.2.2.2.2.2.2.2.2.2.2.2.2.2.2.2.2.1
theorem dX9_step_376 : decode cX9_step 376 = .ok (.iand, 1) := dr_126  pk_decd_258.2.2.2.2.2.2.2.2.2.2.2.2.2.2.2.2.2.2.2.2.1
theorem dX9_step_377 : decode cX9_step 377 = .ok (.putfield 193, 3) := dr_181 0 193  pk_decd_258.2.2.2.2.2.2.2.2.2.2.2.2.2.2.2.2.2.2.2.2.2.1
theorem dX9_step_380 : decode cX9_step 380 = .ok (.goto 138, 3) := dr_167 0 138  pk_decd_258.2.2.2.2.2.2.2.2.2.2.2.2.2.2.2.2.2.2.2.2.2.2.1
theorem dX9_step_383 : decode cX9_step 383 = .ok (.aload_n 0, 1) := dr_42  pk_decd_258.2.2.2.2.2.2.2.2.2.2.2.2.2.2.2.2.2.2.2.2.2.2.2.1
theorem dX9_step_384 : decode cX9_step 384 = .ok (.aload_n 0, 1) := dr_42  pk_decd_258.2.2.2.2.2.2.2.2.2.2.2.2.2.2.2.2.2.2.2.2.2.2.2.2.1
theorem dX9_step_385 : decode cX9_step 385 = .ok (.getfield 44, 3) := dr_180 0 44  pk_decd_258.2.2.2.2.2.2.2.2.2.2.2.2.2.2.2.2.2.2.2.2.2.2.2.2.2.1
theorem dX9_step_388 : decode cX9_step 388 = .ok (.aload_n 0, 1) := dr_42  pk_decd_258.2.2.2.2.2.2.2.2.2.2.2.2.2.2.2.2.2.2.2.2.2.2.2.2.2.2.1
theorem dX9_step_389 : decode cX9_step 389 = .ok (.getfield 199, 3) := dr_180 0 199  pk_decd_258.2.2.2.2.2.2.2.2.2.2.2.2.2.2.2.2.2.2.2.2.2.2.2.2.2.2.2.1
theorem dX9_step_392 : decode cX9_step 392 = .ok (.iaload, 1) := dr_46  pk_decd_258.2.2.2.2.2.2.2.2.2.2.2.2.2.2.2.2.2.2.2.2.2.2.2.2.2.2.2.2.1
theorem dX9_step_393 : decode cX9_step 393 = .ok (.putfield 193, 3) := dr_181 0 193  pk_decd_258.2.2.2.2.2.2.2.2.2.2.2.2.2.2.2.2.2.2.2.2.2.2.2.2.2.2.2.2.2.1
theorem dX9_step_396 : decode cX9_step 396 = .ok (.goto 122, 3) := dr_167 0 122  pk_decd_258.2.2.2.2.2.2.2.2.2.2.2.2.2.2.2.2.2.2.2.2.2.2.2.2.2.2.2.2.2.2.1
theorem dX9_step_399 : decode cX9_step 399 = .ok (.aload_n 0, 1) := dr_42  pk_decd_258.2.2.2.2.2.2.2.2.2.2.2.2.2.2.2.2.2.2.2.2.2.2.2.2.2.2.2.2.2.2.2
set_option maxRecDepth 20000 in
theorem pk_decd_259 : ((bq cX9_step 400 180 && bq cX9_step (400 + 1) 0 && bq cX9_step (400 + 2) 44 && (0 * 256 + 44 == 44)) = true) ∧ (bq cX9_step 403 42 = true) ∧ ((bq cX9_step 404 180 && bq cX9_step (404 + 1) 0 && bq cX9_step (404 + 2) 199 && (0 * 256 + 199 == 199)) = true) ∧ (bq cX9_step 407 42 = true) ∧ ((bq cX9_step 408 180 && bq cX9_step (408 + 1) 0 && bq cX9_step (408 + 2) 193 && (0 * 256 + 193 == 193)) = true) ∧ (bq cX9_step 411 79 = true) ∧ ((bq cX9_step 412 167 && bq cX9_step (412 + 1) 0 && bq cX9_step (412 + 2) 106 && (Reader.signed 16 (0 * 256 + 106) == 106)) = true) ∧ (bq cX9_step 415 42 = true) ∧ (bq cX9_step 416 42 = true) ∧ ((bq cX9_step 417 180 && bq cX9_step (417 + 1) 0 && bq cX9_step (417 + 2) 193 && (0 * 256 + 193 == 193)) = true) ∧ ((bq cX9_step 420 181 && bq cX9_step (420 + 1) 0 && bq cX9_step (420 + 2) 199 && (0 * 256 + 199 == 199)) = true) ∧ ((bq cX9_step 423 167 && bq cX9_step (423 + 1) 0 && bq cX9_step (423 + 2) 95 && (Reader.signed 16 (0 * 256 + 95) == 95)) = true) ∧ (bq cX9_step 426 42 = true) ∧ (bq cX9_step 427 29 = true) ∧ ((bq cX9_step 428 181 && bq cX9_step (428 + 1) 0 && bq cX9_step (428 + 2) 181 && (0 * 256 + 181 == 181)) = true) ∧ ((bq cX9_step 431 167 && bq cX9_step (431 + 1) 0 && bq cX9_step (431 + 2) 87 && (Reader.signed 16 (0 * 256 + 87) == 87)) = true) ∧ (bq cX9_step 434 42 = true) ∧ (bq cX9_step 435 42 = true) ∧ ((bq cX9_step 436 180 && bq cX9_step (436 + 1) 0 && bq cX9_step (436 + 2) 193 && (0 * 256 + 193 == 193)) = true) ∧ ((bq cX9_step 439 154 && bq cX9_step (439 + 1) 0 && bq cX9_step (439 + 2) 7 && (Reader.signed 16 (0 * 256 + 7) == 7)) = true) ∧ (bq cX9_step 442 29 = true) ∧ ((bq cX9_step 443 167 && bq cX9_step (443 + 1) 0 && bq cX9_step (443 + 2) 7 && (Reader.signed 16 (0 * 256 + 7) == 7)) = true) ∧ (bq cX9_step 446 42 = true) ∧ ((bq cX9_step 447 180 && bq cX9_step (447 + 1) 0 && bq cX9_step (447 + 2) 181 && (0 * 256 + 181 == 181)) = true) ∧ ((bq cX9_step 450 181 && bq cX9_step (450 + 1) 0 && bq cX9_step (450 + 2) 181 && (0 * 256 + 181 == 181)) = true) ∧ ((bq cX9_step 453 167 && bq cX9_step (453 + 1) 0 && bq cX9_step (453 + 2) 65 && (Reader.signed 16 (0 * 256 + 65) == 65)) = true) ∧ (bq cX9_step 456 42 = true) ∧ (bq cX9_step 457 42 = true) ∧ ((bq cX9_step 458 180 && bq cX9_step (458 + 1) 0 && bq cX9_step (458 + 2) 196 && (0 * 256 + 196 == 196)) = true) ∧ (bq cX9_step 461 4 = true) ∧ ((bq cX9_step 462 160 && bq cX9_step (462 + 1) 0 && bq cX9_step (462 + 2) 7 && (Reader.signed 16 (0 * 256 + 7) == 7)) = true) ∧ (bq cX9_step 465 29 = true) := by decide +kernel
theorem dX9_step_400 : decode cX9_step 400 = .ok (.getfield 44, 3) := dr_180 0 44  pk_decd_259.1
theorem dX9_step_403 : decode cX9_step 403 = .ok (.aload_n 0, 1) := dr_42  pk_decd_259.2.1
theorem dX9_step_404 : decode cX9_step 404 = .ok (.getfield 199, 3) := dr_180 0 199  pk_decd_259.2.2.1
theorem dX9_step_407 : decode cX9_step 407 = .ok (.aload_n 0, 1) := dr_42  pk_decd_259.2.2.2.1
theorem dX9_step_408 : decode cX9_step 408 = .ok (.getfield 193, 3) := dr_180 0 193  pk_decd_259.2.2.2.2.1
theorem dX9_step_411 : decode cX9_step 411 = .ok (.iastore, 1) := dr_79  pk_decd_259.2.2.2.2.2.1
theorem dX9_step_412 : decode cX9_step 412 = .ok (.goto 106, 3) := dr_167 0 106  pk_decd_259.2.2.2.2.2.2.1
theorem dX9_step_415 : decode cX9_step 415 = .ok (.aload_n 0, 1) := dr_42  pk_decd_259.2.2.2.2.2.2.2.1
theorem dX9_step_416 : decode cX9_step 416 = .ok (.aload_n 0, 1) := dr_42  pk_decd_259.2.2.2.2.2.2.2.2.1
theorem dX9_step_417 : decode cX9_step 417 = .ok (.getfield 193, 3) := dr_180 0 193  pk_decd_259.2.2.2.2.2.2.2.2.2.1
theorem dX9_step_420 : decode cX9_step 420 = .ok (.putfield 199, 3) := dr_181 0 199  pk_decd_259.2.2.2.2.2.2.2.2.2.2.1
theorem dX9_step_423 : decode cX9_step 423 = .ok (.goto 95, 3) := dr_167 0 95  pk_decd_259.2.2.2.2.2.2.2.2.2.2.2.1
theorem dX9_step_426 : decode cX9_step 426 = .ok (.aload_n 0, 1) := dr_42  pk_decd_259.2.2.2.2.2.2.2.2.2.2.2.2.1
theorem dX9_step_427 : decode cX9_step 427 = .ok (.iload_n 3, 1) := dr_29  pk_decd_259.2.2.2.2.2.2.2.2.2.2.2.2.2.1
theorem dX9_step_428 : decode cX9_step 428 = .ok (.putfield 181, 3) := dr_181 0 181  pk_decd_259.2.2.2.2.2.2.2.2.2.2.2.2.2.2.1
theorem dX9_step_431 : decode cX9_step 431 = .ok (.goto 87, 3) := dr_167 0 87  pk_decd_259.2.2.2.2.2.2.2.2.2.2.2.2.2.2.2.1
theorem dX9_step_434 : decode cX9_step 434 = .ok (.aload_n 0, 1) := dr_42  pk_decd_259.2.2.2.2.2.2.2.2.2.2.2.2.2.2.2.2.1
theorem dX9_step_435 : decode cX9_step 435 = .ok (.aload_n 0, 1) := dr_42  pk_decd_259.2.2.2.2.2.2.2.2.2.2.2.2.2.2.2.2.2.1
theorem dX9_step_436 : decode cX9_step 436 = .ok (.getfield 193, 3) := dr_180 0 193  pk_decd_259.2.2.2.2.2.2.2.2.2.2.2.2.2.2.2.2.2.2.1
theorem dX9_step_439 : decode cX9_step 439 = .ok (.ifCond .ne 7, 3) := dr_154 0 7  pk_decd_259.2.2.2.2.2.2.2.2.2.2.2.2.2.2.2.2.2.2.2.1
theorem dX9_step_442 : decode cX9_step 442 = .ok (.iload_n 3, 1) := dr_29  pk_decd_259.2.2.2.2.2.2.2.2.2.2.2.2.2.2.2.2.2.2.2.2.1
theorem dX9_step_443 : decode cX9_step 443 = .ok (.goto 7, 3) := dr_167 0 7  pk_decd_259.2.2.2.2.2.2.2.2.2.2.2.2.2.2.2.2.2.2.2.2.2.1
theorem dX9_step_446 : decode cX9_step 446 = .ok (.aload_n 0, 1) := dr_42  pk_decd_259.2.2.2.2.2.2.2.2.2.2.2.2.2.2.2.2.2.2.2.2.2.2.1
theorem dX9_step_447 : decode cX9_step 447 = .ok (.getfield 181, 3) := dr_180 0 181  pk_decd_259.2.2.2.2.2.2.2.2.2.2.2.2.2.2.2.2.2.2.2.2.2.2.2.1
theorem dX9_step_450 : decode cX9_step 450 = .ok (.putfield 181, 3) := dr_181 0 181  pk_decd_259.2.2.2.2.2.2.2.2.2.2.2.2.2.2.2.2.2.2.2.2.2.2.2.2.1
theorem dX9_step_453 : decode cX9_step 453 = .ok (.goto 65, 3) := dr_167 0 65  pk_decd_259.2.2.2.2.2.2.2.2.2.2.2.2.2.2.2.2.2.2.2.2.2.2.2.2.2.1
theorem dX9_step_456 : decode cX9_step 456 = .ok (.aload_n 0, 1) := dr_42  pk_decd_259.2.2.2.2.2.2.2.2.2.2.2.2.2.2.2.2.2.2.2.2.2.2.2.2.2.2.1
theorem dX9_step_457 : decode cX9_step 457 = .ok (.aload_n 0, 1) := dr_42  pk_decd_259.2.2.2.2.2.2.2.2.2.2.2.2.2.2.2.2.2.2.2.2.2.2.2.2.2.2.2.1
theorem dX9_step_458 : decode cX9_step 458 = .ok (.getfield 196, 3) := dr_180 0 196  pk_decd_259.2.2.2.2.2.2.2.2.2.2.2.2.2.2.2.2.2.2.2.2.2.2.2.2.2.2.2.2.1
theorem dX9_step_461 : decode cX9_step 461 = .ok (.iconst 1, 1) := dr_4  pk_decd_259.2.2.2.2.2.2.2.2.2.2.2.2.2.2.2.2.2.2.2.2.2.2.2.2.2.2.2.2.2.1
theorem dX9_step_462 : decode cX9_step 462 = .ok (.if_icmp .ne 7, 3) := dr_160 0 7  pk_decd_259.2.2.2.2.2.2.2.2.2.2.2.2.2.2.2.2.2.2.2.2.2.2.2.2.2.2.2.2.2.2.1
theorem dX9_step_465 : decode cX9_step 465 = .ok (.iload_n 3, 1) := dr_29  pk_decd_259.2.2.2.2.2.2.2.2.2.2.2.2.2.2.2.2.2.2.2.2.2.2.2.2.2.2.2.2.2.2.2
set_option maxRecDepth 20000 in
theorem pk_decd_260 : ((bq cX9_step 466 167 && bq cX9_step (466 + 1) 0 && bq cX9_step (466 + 2) 7 && (Reader.signed 16 (0 * 256 + 7) == 7)) = true) ∧ (bq cX9_step 469 42 = true) ∧ ((bq cX9_step 470 180 && bq cX9_step (470 + 1) 0 && bq cX9_step (470 + 2) 181 && (0 * 256 + 181 == 181)) = true) ∧ ((bq cX9_step 473 181 && bq cX9_step (473 + 1) 0 && bq cX9_step (473 + 2) 181 && (0 * 256 + 181 == 181)) = true) ∧ ((bq cX9_step 476 167 && bq cX9_step (476 + 1) 0 && bq cX9_step (476 + 2) 42 && (Reader.signed 16 (0 * 256 + 42) == 42)) = true) ∧ (bq cX9_step 479 42 = true) ∧ (bq cX9_step 480 42 = true) ∧ ((bq cX9_step 481 180 && bq cX9_step (481 + 1) 0 && bq cX9_step (481 + 2) 193 && (0 * 256 + 193 == 193)) = true) ∧ (bq cX9_step 484 29 = true) ∧ (bq cX9_step 485 96 = true) ∧ ((bq cX9_step 486 17 && bq cX9_step (486 + 1) 0 && bq cX9_step (486 + 2) 255 && (Reader.signed 16 (0 * 256 + 255) == 255)) = true) ∧ (bq cX9_step 489 126 = true) ∧ ((bq cX9_step 490 181 && bq cX9_step (490 + 1) 0 && bq cX9_step (490 + 2) 193 && (0 * 256 + 193 == 193)) = true) ∧ ((bq cX9_step 493 167 && bq cX9_step (493 + 1) 0 && bq cX9_step (493 + 2) 25 && (Reader.signed 16 (0 * 256 + 25) == 25)) = true) ∧ (bq cX9_step 496 42 = true) ∧ (bq cX9_step 497 42 = true) ∧ ((bq cX9_step 498 180 && bq cX9_step (498 + 1) 0 && bq cX9_step (498 + 2) 193 && (0 * 256 + 193 == 193)) = true) ∧ ((bq cX9_step 501 17 && bq cX9_step (501 + 1) 0 && bq cX9_step (501 + 2) 128 && (Reader.signed 16 (0 * 256 + 128) == 128)) = true) ∧ ((bq cX9_step 504 161 && bq cX9_step (504 + 1) 0 && bq cX9_step (504 + 2) 7 && (Reader.signed 16 (0 * 256 + 7) == 7)) = true) ∧ (bq cX9_step 507 29 = true) ∧ ((bq cX9_step 508 167 && bq cX9_step (508 + 1) 0 && bq cX9_step (508 + 2) 7 && (Reader.signed 16 (0 * 256 + 7) == 7)) = true) ∧ (bq cX9_step 511 42 = true) ∧ ((bq cX9_step 512 180 && bq cX9_step (512 + 1) 0 && bq cX9_step (512 + 2) 181 && (0 * 256 + 181 == 181)) = true) ∧ ((bq cX9_step 515 181 && bq cX9_step (515 + 1) 0 && bq cX9_step (515 + 2) 181 && (0 * 256 + 181 == 181)) = true) ∧ (bq cX9_step 518 3 = true) ∧ (bq cX9_step 519 172 = true) := by decide +kernel
theorem dX9_step_466 : decode cX9_step 466 = .ok (.goto 7, 3) := dr_167 0 7  pk_decd_260.1
theorem dX9_step_469 : decode cX9_step 469 = .ok (.aload_n 0, 1) := dr_42  pk_decd_260.2.1
theorem dX9_step_470 : decode cX9_step 470 = .ok (.getfield 181, 3) := dr_180 0 181  pk_decd_260.2.2.1
theorem dX9_step_473 : decode cX9_step 473 = .ok (.putfield 181, 3) := dr_181 0 181  pk_decd_260.2.2.2.1
theorem dX9_step_476 : decode cX9_step 476 = .ok (.goto 42, 3) := dr_167 0 42  pk_decd_260.2.2.2.2.1
theorem dX9_step_479 : decode cX9_step 479 = .ok (.aload_n 0, 1) := dr_42  pk_decd_260.2.2.2.2.2.1
theorem dX9_step_480 : decode cX9_step 480 = .ok (.aload_n 0, 1) := dr_42  pk_decd_260.2.2.2.2.2.2.1
theorem dX9_step_481 : decode cX9_step 481 = .ok (.getfield 193, 3) := dr_180 0 193  pk_decd_260.2.2.2.2.2.2.2.1
theorem dX9_step_484 : decode cX9_step 484 = .ok (.iload_n 3, 1) := dr_29  pk_decd_260.2.2.2.2.2.2.2.2.1
theorem dX9_step_485 : decode cX9_step 485 = .ok (.iadd, 1) := dr_96  pk_decd_260.2.2.2.2.2.2.2.2.2.1
theorem dX9_step_486 : decode cX9_step 486 = .ok (.sipush 255, 3) := dr_17 0 255  pk_decd_260.2.2.2.2.2.2.2.2.2.2.1
theorem dX9_step_489 : decode cX9_step 489 = .ok (.iand, 1) := dr_126  pk_decd_260.2.2.2.2.2.2.2.2.2.2.2.1
theorem dX9_step_490 : decode cX9_step 490 = .ok (.putfield 193, 3) := dr_181 0 193  pk_decd_260.2.2.2.2.2.2.2.2.2.2.2.2.1
theorem dX9_step_493 : decode cX9_step 493 = .ok (.goto 25, 3) := dr_167 0 25  pk_decd_260.2.2.2.2.2.2.2.2.2.2.2.2.2.1
theorem dX9_step_496 : decode cX9_step 496 = .ok (.aload_n 0, 1) := dr_42  pk_decd_260.2.2.2.2.2.2.2.2.2.2.2.2.2.2.1
theorem dX9_step_497 : decode cX9_step 497 = .ok (.aload_n 0, 1) := dr_42  pk_decd_260.2.2.2.2.2.2.2.2.2.2.2.2.2.2.2.1
theorem dX9_step_498 : decode cX9_step 498 = .ok (.getfield 193, 3) := dr_180 0 193  pk_decd_260.2.2.2.2.2.2.2.2.2.2.2.2.2.2.2.2.1
theorem dX9_step_501 : decode cX9_step 501 = .ok (.sipush 128, 3) := dr_17 0 128  pk_decd_260.2.2.2.2.2.2.2.2.2.2.2.2.2.2.2.2.2.1
theorem dX9_step_504 : decode cX9_step 504 = .ok (.if_icmp .lt 7, 3) := dr_161 0 7  pk_decd_260.2.2.2.2.2.2.2.2.2.2.2.2.2.2.2.2.2.2.1
theorem dX9_step_507 : decode cX9_step 507 = .ok (.iload_n 3, 1) := dr_29  pk_decd_260.2.2.2.2.2.2.2.2.2.2.2.2.2.2.2.2.2.2.2.1
theorem dX9_step_508 : decode cX9_step 508 = .ok (.goto 7, 3) := dr_167 0 7  pk_decd_260.2.2.2.2.2.2.2.2.2.2.2.2.2.2.2.2.2.2.2.2.1
theorem dX9_step_511 : decode cX9_step 511 = .ok (.aload_n 0, 1) := dr_42  pk_decd_260.2.2.2.2.2.2.2.2.2.2.2.2.2.2.2.2.2.2.2.2.2.1
theorem dX9_step_512 : decode cX9_step 512 = .ok (.getfield 181, 3) := dr_180 0 181  pk_decd_260.2.2.2.2.2.2.2.2.2.2.2.2.2.2.2.2.2.2.2.2.2.2.1
theorem dX9_step_515 : decode cX9_step 515 = .ok (.putfield 181, 3) := dr_181 0 181  pk_decd_260.2.2.2.2.2.2.2.2.2.2.2.2.2.2.2.2.2.2.2.2.2.2.2.1
theorem dX9_step_518 : decode cX9_step 518 = .ok (.iconst 0, 1) := dr_3  pk_decd_260.2.2.2.2.2.2.2.2.2.2.2.2.2.2.2.2.2.2.2.2.2.2.2.2.1
theorem dX9_step_519 : decode cX9_step 519 = .ok (.ireturn, 1) := dr_172  pk_decd_260.2.2.2.2.2.2.2.2.2.2.2.2.2.2.2.2.2.2.2.2.2.2.2.2.2
set_option maxRecDepth 20000 in
theorem pk_decd_261 : (bq cX9_go 0 3 = true) ∧ (bq cX9_go 1 62 = true) ∧ (bq cX9_go 2 29 = true) ∧ ((bq cX9_go 3 17 && bq cX9_go (3 + 1) 1 && bq cX9_go (3 + 2) 0 && (Reader.signed 16 (1 * 256 + 0) == 256)) = true) ∧ ((bq cX9_go 6 162 && bq cX9_go (6 + 1) 0 && bq cX9_go (6 + 2) 41 && (Reader.signed 16 (0 * 256 + 41) == 41)) = true) ∧ (bq cX9_go 9 42 = true) ∧ ((bq cX9_go 10 180 && bq cX9_go (10 + 1) 0 && bq cX9_go (10 + 2) 44 && (0 * 256 + 44 == 44)) = true) ∧ (bq cX9_go 13 29 = true) ∧ (bq cX9_go 14 29 = true) ∧ (bq cX9_go 15 42 = true) ∧ ((bq cX9_go 16 180 && bq cX9_go (16 + 1) 0 && bq cX9_go (16 + 2) 26 && (0 * 256 + 26 == 26)) = true) ∧ (bq cX9_go 19 27 = true) ∧ (bq cX9_go 20 46 = true) ∧ ((bq cX9_go 21 162 && bq cX9_go (21 + 1) 0 && bq cX9_go (21 + 2) 18 && (Reader.signed 16 (0 * 256 + 18) == 18)) = true) ∧ (bq cX9_go 24 42 = true) ∧ ((bq cX9_go 25 180 && bq cX9_go (25 + 1) 0 && bq cX9_go (25 + 2) 20 && (0 * 256 + 20 == 20)) = true) ∧ ((bq cX9_go 28 17 && bq cX9_go (28 + 1) 1 && bq cX9_go (28 + 2) 0 && (Reader.signed 16 (1 * 256 + 0) == 256)) = true) ∧ (bq cX9_go 31 27 = true) ∧ (bq cX9_go 32 104 = true) ∧ (bq cX9_go 33 29 = true) ∧ (bq cX9_go 34 96 = true) ∧ (bq cX9_go 35 46 = true) ∧ ((bq cX9_go 36 167 && bq cX9_go (36 + 1) 0 && bq cX9_go (36 + 2) 4 && (Reader.signed 16 (0 * 256 + 4) == 4)) = true) ∧ (bq cX9_go 39 3 = true) ∧ (bq cX9_go 40 79 = true) := by decide +kernel
theorem dX9_go_0 : decode cX9_go 0 = .ok (.iconst 0, 1) := dr_3  pk_decd_261.1
theorem dX9_go_1 : decode cX9_go 1 = .ok (.istore_n 3, 1) := dr_62  pk_decd_261.2.1
theorem dX9_go_2 : decode cX9_go 2 = .ok (.iload_n 3, 1) := dr_29  pk_decd_261.2.2.1
theorem dX9_go_3 : decode cX9_go 3 = .ok (.sipush 256, 3) := dr_17 1 0  pk_decd_261.2.2.2.1
theorem dX9_go_6 : decode cX9_go 6 = .ok (.if_icmp .ge 41, 3) := dr_162 0 41  pk_decd_261.2.2.2.2.1
theorem dX9_go_9 : decode cX9_go 9 = .ok (.aload_n 0, 1) := dr_42  pk_decd_261.2.2.2.2.2.1
theorem dX9_go_10 : decode cX9_go 10 = .ok (.getfield 44, 3) := dr_180 0 44  pk_decd_261.2.2.2.2.2.2.1
theorem dX9_go_13 : decode cX9_go 13 = .ok (.iload_n 3, 1) := dr_29  pk_decd_261.2.2.2.2.2.2.2.1
theorem dX9_go_14 : decode cX9_go 14 = .ok (.iload_n 3, 1) := dr_29  pk_decd_261.2.2.2.2.2.2.2.2.1
theorem dX9_go_15 : decode cX9_go 15 = .ok (.aload_n 0, 1) := dr_42  pk_decd_261.2.2.2.2.2.2.2.2.2.1
theorem dX9_go_16 : decode cX9_go 16 = .ok (.getfield 26, 3) := dr_180 0 26  pk_decd_261.2.2.2.2.2.2.2.2.2.2.1
theorem dX9_go_19 : decode cX9_go 19 = .ok (.iload_n 1, 1) := dr_27  pk_decd_261.2.2.2.2.2.2.2.2.2.2.2.1
theorem dX9_go_20 : decode cX9_go 20 = .ok (.iaload, 1) := dr_46  pk_decd_261.2.2.2.2.2.2.2.2.2.2.2.2.1
theorem dX9_go_21 : decode cX9_go 21 = .ok (.if_icmp .ge 18, 3) := dr_162 0 18  pk_decd_261.2.2.2.2.2.2.2.2.2.2.2.2.2.1
theorem dX9_go_24 : decode cX9_go 24 = .ok (.aload_n 0, 1) := dr_42  pk_decd_261.2.2.2.2.2.2.2.2.2.2.2.2.2.2.1
theorem dX9_go_25 : decode cX9_go 25 = .ok (.getfield 20, 3) := dr_180 0 20  pk_decd_261.2.2.2.2.2.2.2.2.2.2.2.2.2.2.2.1
theorem dX9_go_28 : decode cX9_go 28 = .ok (.sipush 256, 3) := dr_17 1 0  pk_decd_261.2.2.2.2.2.2.2.2.2.2.2.2.2.2.2.2.1
theorem dX9_go_31 : decode cX9_go 31 = .ok (.iload_n 1, 1) := dr_27  pk_decd_261.2.2.2.2.2.2.2.2.2.2.2.2.2.2.2.2.2.1
theorem dX9_go_32 : decode cX9_go 32 = .ok (.imul, 1) := dr_104  pk_decd_261.2.2.2.2.2.2.2.2.2.2.2.2.2.2.2.2.2.2.1
theorem dX9_go_33 : decode cX9_go 33 = .ok (.iload_n 3, 1) := dr_29  pk_decd_261.2.2.2.2.2.2.2.2.2.2.2.2.2.2.2.2.2.2.2.1
theorem dX9_go_34 : decode cX9_go 34 = .ok (.iadd, 1) := dr_96  pk_decd_261.2.2.2.2.2.2.2.2.2.2.2.2.2.2.2.2.2.2.2.2.1
theorem dX9_go_35 : decode cX9_go 35 = .ok (.iaload, 1) := dr_46  pk_decd_261.2.2.2.2.2.2.2.2.2.2.2.2.2.2.2.2.2.2.2.2.2.1
theorem dX9_go_36 : decode cX9_go 36 = .ok (.goto 4, 3) := dr_167 0 4  pk_decd_261.2.2.2.2.2.2.2.2.2.2.2.2.2.2.2.2.2.2.2.2.2.2.1
theorem dX9_go_39 : decode cX9_go 39 = .ok (.iconst 0, 1) := dr_3  pk_decd_261.2.2.2.2.2.2.2.2.2.2.2.2.2.2.2.2.2.2.2.2.2.2.2.1
theorem dX9_go_40 : decode cX9_go 40 = .ok (.iastore, 1) := dr_79  pk_decd_261.2.2.2.2.2.2.2.2.2.2.2.2.2.2.2.2.2.2.2.2.2.2.2.2
theorem dX9_go_41 : decode cX9_go 41 = .ok (.iinc 3 1, 3) := by decide +kernel
set_option maxRecDepth 20000 in
theorem pk_decd_262 : ((bq cX9_go 44 167 && bq cX9_go (44 + 1) 255 && bq cX9_go (44 + 2) 214 && (Reader.signed 16 (255 * 256 + 214) == (-42))) = true) ∧ (bq cX9_go 47 42 = true) ∧ (bq cX9_go 48 3 = true) ∧ ((bq cX9_go 49 181 && bq cX9_go (49 + 1) 0 && bq cX9_go (49 + 2) 193 && (0 * 256 + 193 == 193)) = true) ∧ (bq cX9_go 52 42 = true) ∧ (bq cX9_go 53 3 = true) ∧ ((bq cX9_go 54 181 && bq cX9_go (54 + 1) 0 && bq cX9_go (54 + 2) 199 && (0 * 256 + 199 == 199)) = true) ∧ (bq cX9_go 57 42 = true) ∧ (bq cX9_go 58 3 = true) ∧ ((bq cX9_go 59 181 && bq cX9_go (59 + 1) 0 && bq cX9_go (59 + 2) 181 && (0 * 256 + 181 == 181)) = true) ∧ (bq cX9_go 62 42 = true) ∧ (bq cX9_go 63 3 = true) ∧ ((bq cX9_go 64 181 && bq cX9_go (64 + 1) 0 && bq cX9_go (64 + 2) 187 && (0 * 256 + 187 == 187)) = true) ∧ (bq cX9_go 67 42 = true) ∧ (bq cX9_go 68 3 = true) ∧ ((bq cX9_go 69 181 && bq cX9_go (69 + 1) 0 && bq cX9_go (69 + 2) 190 && (0 * 256 + 190 == 190)) = true) ∧ (bq cX9_go 72 42 = true) ∧ (bq cX9_go 73 3 = true) ∧ ((bq cX9_go 74 181 && bq cX9_go (74 + 1) 0 && bq cX9_go (74 + 2) 196 && (0 * 256 + 196 == 196)) = true) ∧ (bq cX9_go 77 42 = true) ∧ (bq cX9_go 78 3 = true) ∧ ((bq cX9_go 79 181 && bq cX9_go (79 + 1) 0 && bq cX9_go (79 + 2) 184 && (0 * 256 + 184 == 184)) = true) ∧ (bq cX9_go 82 3 = true) ∧ (bq cX9_go 83 62 = true) ∧ (bq cX9_go 84 29 = true) ∧ ((bq cX9_go 85 154 && bq cX9_go (85 + 1) 0 && bq cX9_go (85 + 2) 26 && (Reader.signed 16 (0 * 256 + 26) == 26)) = true) ∧ (bq cX9_go 88 42 = true) ∧ ((bq cX9_go 89 180 && bq cX9_go (89 + 1) 0 && bq cX9_go (89 + 2) 187 && (0 * 256 + 187 == 187)) = true) ∧ ((bq cX9_go 92 17 && bq cX9_go (92 + 1) 19 && bq cX9_go (92 + 2) 136 && (Reader.signed 16 (19 * 256 + 136) == 5000)) = true) ∧ ((bq cX9_go 95 160 && bq cX9_go (95 + 1) 0 && bq cX9_go (95 + 2) 7 && (Reader.signed 16 (0 * 256 + 7) == 7)) = true) ∧ (bq cX9_go 98 6 = true) ∧ ((bq cX9_go 99 167 && bq cX9_go (99 + 1) 0 && bq cX9_go (99 + 2) 8 && (Reader.signed 16 (0 * 256 + 8) == 8)) = true) := by decide +kernel
theorem dX9_go_44 : decode cX9_go 44 = .ok (.goto (-42), 3) := dr_167 255 214  pk_decd_262.1
theorem dX9_go_47 : decode cX9_go 47 = .ok (.aload_n 0, 1) := dr_42  pk_decd_262.2.1
theorem dX9_go_48 : decode cX9_go 48 = .ok (.iconst 0, 1) := dr_3  pk_decd_262.2.2.1
theorem dX9_go_49 : decode cX9_go 49 = .ok (.putfield 193, 3) := dr_181 0 193  pk_decd_262.2.2.2.1
theorem dX9_go_52 : decode cX9_go 52 = .ok (.aload_n 0, 1) := dr_42  pk_decd_262.2.2.2.2.1
theorem dX9_go_53 : decode cX9_go 53 = .ok (.iconst 0, 1) := dr_3  pk_decd_262.2.2.2.2.2.1
theorem dX9_go_54 : decode cX9_go 54 = .ok (.putfield 199, 3) := dr_181 0 199  pk_decd_262.2.2.2.2.2.2.1
theorem dX9_go_57 : decode cX9_go 57 = .ok (.aload_n 0, 1) := dr_42  pk_decd_262.2.2.2.2.2.2.2.1
theorem dX9_go_58 : decode cX9_go 58 = .ok (.iconst 0, 1) := dr_3  pk_decd_262.2.2.2.2.2.2.2.2.1
theorem dX9_go_59 : decode cX9_go 59 = .ok (.putfield 181, 3) := dr_181 0 181  pk_decd_262.2.2.2.2.2.2.2.2.2.1
theorem dX9_go_62 : decode cX9_go 62 = .ok (.aload_n 0, 1) := dr_42  pk_decd_262.2.2.2.2.2.2.2.2.2.2.1
theorem dX9_go_63 : decode cX9_go 63 = .ok (.iconst 0, 1) := dr_3  pk_decd_262.2.2.2.2.2.2.2.2.2.2.2.1
theorem dX9_go_64 : decode cX9_go 64 = .ok (.putfield 187, 3) := dr_181 0 187  pk_decd_262.2.2.2.2.2.2.2.2.2.2.2.2.1
theorem dX9_go_67 : decode cX9_go 67 = .ok (.aload_n 0, 1) := dr_42  pk_decd_262.2.2.2.2.2.2.2.2.2.2.2.2.2.1
theorem dX9_go_68 : decode cX9_go 68 = .ok (.iconst 0, 1) := dr_3  pk_decd_262.2.2.2.2.2.2.2.2.2.2.2.2.2.2.1
theorem dX9_go_69 : decode cX9_go 69 = .ok (.putfield 190, 3) := dr_181 0 190  pk_decd_262.2.2.2.2.2.2.2.2.2.2.2.2.2.2.2.1
theorem dX9_go_72 : decode cX9_go 72 = .ok (.aload_n 0, 1) := dr_42  pk_decd_262.2.2.2.2.2.2.2.2.2.2.2.2.2.2.2.2.1
theorem dX9_go_73 : decode cX9_go 73 = .ok (.iconst 0, 1) := dr_3  pk_decd_262.2.2.2.2.2.2.2.2.2.2.2.2.2.2.2.2.2.1
theorem dX9_go_74 : decode cX9_go 74 = .ok (.putfield 196, 3) := dr_181 0 196  pk_decd_262.2.2.2.2.2.2.2.2.2.2.2.2.2.2.2.2.2.2.1
theorem dX9_go_77 : decode cX9_go 77 = .ok (.aload_n 0, 1) := dr_42  pk_decd_262.2.2.2.2.2.2.2.2.2.2.2.2.2.2.2.2.2.2.2.1
theorem dX9_go_78 : decode cX9_go 78 = .ok (.iconst 0, 1) := dr_3  pk_decd_262.2.2.2.2.2.2.2.2.2.2.2.2.2.2.2.2.2.2.2.2.1
theorem dX9_go_79 : decode cX9_go 79 = .ok (.putfield 184, 3) := dr_181 0 184  pk_decd_262.2.2.2.2.2.2.2.2.2.2.2.2.2.2.2.2.2.2.2.2.2.1
theorem dX9_go_82 : decode cX9_go 82 = .ok (.iconst 0, 1) := dr_3  pk_decd_262.2.2.2.2.2.2.2.2.2.2.2.2.2.2.2.2.2.2.2.2.2.2.1
theorem dX9_go_83 : decode cX9_go 83 = .ok (.istore_n 3, 1) := dr_62  pk_decd_262.2.2.2.2.2.2.2.2.2.2.2.2.2.2.2.2.2.2.2.2.2.2.2.1
theorem dX9_go_84 : decode cX9_go 84 = .ok (.iload_n 3, 1) := dr_29  pk_decd_262.2.2.2.2.2.2.2.2.2.2.2.2.2.2.2.2.2.2.2.2.2.2.2.2.1
theorem dX9_go_85 : decode cX9_go 85 = .ok (.ifCond .ne 26, 3) := dr_154 0 26  pk_decd_262.2.2.2.2.2.2.2.2.2.2.2.2.2.2.2.2.2.2.2.2.2.2.2.2.2.1
theorem dX9_go_88 : decode cX9_go 88 = .ok (.aload_n 0, 1) := dr_42  pk_decd_262.2.2.2.2.2.2.2.2.2.2.2.2.2.2.2.2.2.2.2.2.2.2.2.2.2.2.1
theorem dX9_go_89 : decode cX9_go 89 = .ok (.getfield 187, 3) := dr_180 0 187  pk_decd_262.2.2.2.2.2.2.2.2.2.2.2.2.2.2.2.2.2.2.2.2.2.2.2.2.2.2.2.1
theorem dX9_go_92 : decode cX9_go 92 = .ok (.sipush 5000, 3) := dr_17 19 136  pk_decd_262.2.2.2.2.2.2.2.2.2.2.2.2.2.2.2.2.2.2.2.2.2.2.2.2.2.2.2.2.1
theorem dX9_go_95 : decode cX9_go 95 = .ok (.if_icmp .ne 7, 3) := dr_160 0 7  pk_decd_262.2.2.2.2.2.2.2.2.2.2.2.2.2.2.2.2.2.2.2.2.2.2.2.2.2.2.2.2.2.1
theorem dX9_go_98 : decode cX9_go 98 = .ok (.iconst 3, 1) := dr_6  pk_decd_262.2.2.2.2.2.2.2.2.2.2.2.2.2.2.2.2.2.2.2.2.2.2.2.2.2.2.2.2.2.2.1
theorem dX9_go_99 : decode cX9_go 99 = .ok (.goto 8, 3) := dr_167 0 8  pk_decd_262.2.2.2.2.2.2.2.2.2.2.2.2.2.2.2.2.2.2.2.2.2.2.2.2.2.2.2.2.2.2.2
set_option maxRecDepth 20000 in
theorem pk_decd_263 : (bq cX9_go 102 42 = true) ∧ (bq cX9_go 103 28 = true) ∧ ((bq cX9_go 104 182 && bq cX9_go (104 + 1) 0 && bq cX9_go (104 + 2) 202 && (0 * 256 + 202 == 202)) = true) ∧ (bq cX9_go 107 62 = true) ∧ ((bq cX9_go 108 167 && bq cX9_go (108 + 1) 255 && bq cX9_go (108 + 2) 232 && (Reader.signed 16 (255 * 256 + 232) == (-24))) = true) ∧ (bq cX9_go 111 29 = true) ∧ ((bq cX9_go 112 156 && bq cX9_go (112 + 1) 0 && bq cX9_go (112 + 2) 7 && (Reader.signed 16 (0 * 256 + 7) == 7)) = true) ∧ (bq cX9_go 115 3 = true) ∧ ((bq cX9_go 116 167 && bq cX9_go (116 + 1) 0 && bq cX9_go (116 + 2) 4 && (Reader.signed 16 (0 * 256 + 4) == 4)) = true) ∧ (bq cX9_go 119 29 = true) ∧ (bq cX9_go 120 172 = true) := by decide +kernel
theorem dX9_go_102 : decode cX9_go 102 = .ok (.aload_n 0, 1) := dr_42  pk_decd_263.1
theorem dX9_go_103 : decode cX9_go 103 = .ok (.iload_n 2, 1) := dr_28  pk_decd_263.2.1
theorem dX9_go_104 : decode cX9_go 104 = .ok (.invokevirtual 202, 3) := dr_182 0 202  pk_decd_263.2.2.1
theorem dX9_go_107 : decode cX9_go 107 = .ok (.istore_n 3, 1) := dr_62  pk_decd_263.2.2.2.1
theorem dX9_go_108 : decode cX9_go 108 = .ok (.goto (-24), 3) := dr_167 255 232  pk_decd_263.2.2.2.2.1
theorem dX9_go_111 : decode cX9_go 111 = .ok (.iload_n 3, 1) := dr_29  pk_decd_263.2.2.2.2.2.1
theorem dX9_go_112 : decode cX9_go 112 = .ok (.ifCond .ge 7, 3) := dr_156 0 7  pk_decd_263.2.2.2.2.2.2.1
theorem dX9_go_115 : decode cX9_go 115 = .ok (.iconst 0, 1) := dr_3  pk_decd_263.2.2.2.2.2.2.2.1
theorem dX9_go_116 : decode cX9_go 116 = .ok (.goto 4, 3) := dr_167 0 4  pk_decd_263.2.2.2.2.2.2.2.2.1
theorem dX9_go_119 : decode cX9_go 119 = .ok (.iload_n 3, 1) := dr_29  pk_decd_263.2.2.2.2.2.2.2.2.2.1
theorem dX9_go_120 : decode cX9_go 120 = .ok (.ireturn, 1) := dr_172  pk_decd_263.2.2.2.2.2.2.2.2.2.2
set_option maxRecDepth 20000 in
theorem pk_decd_264 : (bq cX9_take 0 3 = true) ∧ (bq cX9_take 1 61 = true) ∧ (bq cX9_take 2 28 = true) ∧ (bq cX9_take 3 42 = true) ∧ ((bq cX9_take 4 180 && bq cX9_take (4 + 1) 0 && bq cX9_take (4 + 2) 184 && (0 * 256 + 184 == 184)) = true) ∧ ((bq cX9_take 7 162 && bq cX9_take (7 + 1) 0 && bq cX9_take (7 + 2) 45 && (Reader.signed 16 (0 * 256 + 45) == 45)) = true) ∧ (bq cX9_take 10 42 = true) ∧ ((bq cX9_take 11 180 && bq cX9_take (11 + 1) 0 && bq cX9_take (11 + 2) 20 && (0 * 256 + 20 == 20)) = true) ∧ ((bq cX9_take 14 17 && bq cX9_take (14 + 1) 1 && bq cX9_take (14 + 2) 0 && (Reader.signed 16 (1 * 256 + 0) == 256)) = true) ∧ (bq cX9_take 17 27 = true) ∧ (bq cX9_take 18 104 = true) ∧ (bq cX9_take 19 28 = true) ∧ (bq cX9_take 20 96 = true) ∧ (bq cX9_take 21 42 = true) ∧ ((bq cX9_take 22 180 && bq cX9_take (22 + 1) 0 && bq cX9_take (22 + 2) 47 && (0 * 256 + 47 == 47)) = true) ∧ (bq cX9_take 25 28 = true) ∧ (bq cX9_take 26 46 = true) ∧ (bq cX9_take 27 79 = true) ∧ (bq cX9_take 28 42 = true) ∧ ((bq cX9_take 29 180 && bq cX9_take (29 + 1) 0 && bq cX9_take (29 + 2) 23 && (0 * 256 + 23 == 23)) = true) ∧ ((bq cX9_take 32 17 && bq cX9_take (32 + 1) 1 && bq cX9_take (32 + 2) 0 && (Reader.signed 16 (1 * 256 + 0) == 256)) = true) ∧ (bq cX9_take 35 27 = true) ∧ (bq cX9_take 36 104 = true) ∧ (bq cX9_take 37 28 = true) ∧ (bq cX9_take 38 96 = true) ∧ (bq cX9_take 39 42 = true) ∧ ((bq cX9_take 40 180 && bq cX9_take (40 + 1) 0 && bq cX9_take (40 + 2) 50 && (0 * 256 + 50 == 50)) = true) ∧ (bq cX9_take 43 28 = true) ∧ (bq cX9_take 44 46 = true) ∧ (bq cX9_take 45 79 = true) := by decide +kernel
theorem dX9_take_0 : decode cX9_take 0 = .ok (.iconst 0, 1) := dr_3  pk_decd_264.1
theorem dX9_take_1 : decode cX9_take 1 = .ok (.istore_n 2, 1) := dr_61  pk_decd_264.2.1
theorem dX9_take_2 : decode cX9_take 2 = .ok (.iload_n 2, 1) := dr_28  pk_decd_264.2.2.1
theorem dX9_take_3 : decode cX9_take 3 = .ok (.aload_n 0, 1) := dr_42  pk_decd_264.2.2.2.1
theorem dX9_take_4 : decode cX9_take 4 = .ok (.getfield 184, 3) := dr_180 0 184  pk_decd_264.2.2.2.2.1
theorem dX9_take_7 : decode cX9_take 7 = .ok (.if_icmp .ge 45, 3) := dr_162 0 45  pk_decd_264.2.2.2.2.2.1
theorem dX9_take_10 : decode cX9_take 10 = .ok (.aload_n 0, 1) := dr_42  pk_decd_264.2.2.2.2.2.2.1
theorem dX9_take_11 : decode cX9_take 11 = .ok (.getfield 20, 3) := dr_180 0 20  pk_decd_264.2.2.2.2.2.2.2.1
theorem dX9_take_14 : decode cX9_take 14 = .ok (.sipush 256, 3) := dr_17 1 0  pk_decd_264.2.2.2.2.2.2.2.2.1
theorem dX9_take_17 : decode cX9_take 17 = .ok (.iload_n 1, 1) := dr_27  pk_decd_264.2.2.2.2.2.2.2.2.2.1
theorem dX9_take_18 : decode cX9_take 18 = .ok (.imul, 1) := dr_104  pk_decd_264.2.2.2.2.2.2.2.2.2.2.1
theorem dX9_take_19 : decode cX9_take 19 = .ok (.iload_n 2, 1) := dr_28  pk_decd_264.2.2.2.2.2.2.2.2.2.2.2.1
theorem dX9_take_20 : decode cX9_take 20 = .ok (.iadd, 1) := dr_96  pk_decd_264.2.2.2.2.2.2.2.2.2.2.2.2.1
theorem dX9_take_21 : decode cX9_take 21 = .ok (.aload_n 0, 1) := dr_42  pk_decd_264.2.2.2.2.2.2.2.2.2.2.2.2.2.1
theorem dX9_take_22 : decode cX9_take 22 = .ok (.getfield 47, 3) := dr_180 0 47  pk_decd_264.2.2.2.2.2.2.2.2.2.2.2.2.2.2.1
theorem dX9_take_25 : decode cX9_take 25 = .ok (.iload_n 2, 1) := dr_28  pk_decd_264.2.2.2.2.2.2.2.2.2.2.2.2.2.2.2.1
theorem dX9_take_26 : decode cX9_take 26 = .ok (.iaload, 1) := dr_46  pk_decd_264.2.2.2.2.2.2.2.2.2.2.2.2.2.2.2.2.1
theorem dX9_take_27 : decode cX9_take 27 = .ok (.iastore, 1) := dr_79  pk_decd_264.2.2.2.2.2.2.2.2.2.2.2.2.2.2.2.2.2.1
theorem dX9_take_28 : decode cX9_take 28 = .ok (.aload_n 0, 1) := dr_42  pk_decd_264.2.2.2.2.2.2.2.2.2.2.2.2.2.2.2.2.2.2.1
theorem dX9_take_29 : decode cX9_take 29 = .ok (.getfield 23, 3) := dr_180 0 23  pk_decd_264.2.2.2.2.2.2.2.2.2.2.2.2.2.2.2.2.2.2.2.1
theorem dX9_take_32 : decode cX9_take 32 = .ok (.sipush 256, 3) := dr_17 1 0  pk_decd_264.2.2.2.2.2.2.2.2.2.2.2.2.2.2.2.2.2.2.2.2.1
theorem dX9_take_35 : decode cX9_take 35 = .ok (.iload_n 1, 1) := dr_27  pk_decd_264.2.2.2.2.2.2.2.2.2.2.2.2.2.2.2.2.2.2.2.2.2.1
theorem dX9_take_36 : decode cX9_take 36 = .ok (.imul, 1) := dr_104  pk_decd_264.2.2.2.2.2.2.2.2.2.2.2.2.2.2.2.2.2.2.2.2.2.2.1
theorem dX9_take_37 : decode cX9_take 37 = .ok (.iload_n 2, 1) := dr_28  pk_decd_264.2.2.2.2.2.2.2.2.2.2.2.2.2.2.2.2.2.2.2.2.2.2.2.1
theorem dX9_take_38 : decode cX9_take 38 = .ok (.iadd, 1) := dr_96  pk_decd_264.2.2.2.2.2.2.2.2.2.2.2.2.2.2.2.2.2.2.2.2.2.2.2.2.1
theorem dX9_take_39 : decode cX9_take 39 = .ok (.aload_n 0, 1) := dr_42  pk_decd_264.2.2.2.2.2.2.2.2.2.2.2.2.2.2.2.2.2.2.2.2.2.2.2.2.2.1
theorem dX9_take_40 : decode cX9_take 40 = .ok (.getfield 50, 3) := dr_180 0 50  pk_decd_264.2.2.2.2.2.2.2.2.2.2.2.2.2.2.2.2.2.2.2.2.2.2.2.2.2.2.1
theorem dX9_take_43 : decode cX9_take 43 = .ok (.iload_n 2, 1) := dr_28  pk_decd_264.2.2.2.2.2.2.2.2.2.2.2.2.2.2.2.2.2.2.2.2.2.2.2.2.2.2.2.1
theorem dX9_take_44 : decode cX9_take 44 = .ok (.iaload, 1) := dr_46  pk_decd_264.2.2.2.2.2.2.2.2.2.2.2.2.2.2.2.2.2.2.2.2.2.2.2.2.2.2.2.2.1
theorem dX9_take_45 : decode cX9_take 45 = .ok (.iastore, 1) := dr_79  pk_decd_264.2.2.2.2.2.2.2.2.2.2.2.2.2.2.2.2.2.2.2.2.2.2.2.2.2.2.2.2.2
theorem dX9_take_46 : decode cX9_take 46 = .ok (.iinc 2 1, 3) := by decide +kernel
set_option maxRecDepth 20000 in
theorem pk_decd_265 : ((bq cX9_take 49 167 && bq cX9_take (49 + 1) 255 && bq cX9_take (49 + 2) 209 && (Reader.signed 16 (255 * 256 + 209) == (-47))) = true) ∧ (bq cX9_take 52 42 = true) ∧ ((bq cX9_take 53 180 && bq cX9_take (53 + 1) 0 && bq cX9_take (53 + 2) 26 && (0 * 256 + 26 == 26)) = true) ∧ (bq cX9_take 56 27 = true) ∧ (bq cX9_take 57 42 = true) ∧ ((bq cX9_take 58 180 && bq cX9_take (58 + 1) 0 && bq cX9_take (58 + 2) 184 && (0 * 256 + 184 == 184)) = true) ∧ (bq cX9_take 61 79 = true) ∧ (bq cX9_take 62 177 = true) := by decide +kernel
theorem dX9_take_49 : decode cX9_take 49 = .ok (.goto (-47), 3) := dr_167 255 209  pk_decd_265.1
theorem dX9_take_52 : decode cX9_take 52 = .ok (.aload_n 0, 1) := dr_42  pk_decd_265.2.1
theorem dX9_take_53 : decode cX9_take 53 = .ok (.getfield 26, 3) := dr_180 0 26  pk_decd_265.2.2.1
theorem dX9_take_56 : decode cX9_take 56 = .ok (.iload_n 1, 1) := dr_27  pk_decd_265.2.2.2.1
theorem dX9_take_57 : decode cX9_take 57 = .ok (.aload_n 0, 1) := dr_42  pk_decd_265.2.2.2.2.1
theorem dX9_take_58 : decode cX9_take 58 = .ok (.getfield 184, 3) := dr_180 0 184  pk_decd_265.2.2.2.2.2.1
theorem dX9_take_61 : decode cX9_take 61 = .ok (.iastore, 1) := dr_79  pk_decd_265.2.2.2.2.2.2.1
theorem dX9_take_62 : decode cX9_take 62 = .ok (.return_, 1) := dr_177  pk_decd_265.2.2.2.2.2.2.2
set_option maxRecDepth 20000 in
theorem pk_decd_266 : (bq cX9_builds 0 42 = true) ∧ (bq cX9_builds 1 27 = true) ∧ (bq cX9_builds 2 28 = true) ∧ ((bq cX9_builds 3 182 && bq cX9_builds (3 + 1) 0 && bq cX9_builds (3 + 2) 205 && (0 * 256 + 205 == 205)) = true) ∧ ((bq cX9_builds 6 54 && bq cX9_builds (6 + 1) 4) = true) ∧ ((bq cX9_builds 8 21 && bq cX9_builds (8 + 1) 4) = true) ∧ ((bq cX9_builds 10 154 && bq cX9_builds (10 + 1) 0 && bq cX9_builds (10 + 2) 15 && (Reader.signed 16 (0 * 256 + 15) == 15)) = true) ∧ (bq cX9_builds 13 42 = true) ∧ ((bq cX9_builds 14 180 && bq cX9_builds (14 + 1) 0 && bq cX9_builds (14 + 2) 184 && (0 * 256 + 184 == 184)) = true) ∧ ((bq cX9_builds 17 158 && bq cX9_builds (17 + 1) 0 && bq cX9_builds (17 + 2) 8 && (Reader.signed 16 (0 * 256 + 8) == 8)) = true) ∧ (bq cX9_builds 20 42 = true) ∧ (bq cX9_builds 21 29 = true) ∧ ((bq cX9_builds 22 182 && bq cX9_builds (22 + 1) 0 && bq cX9_builds (22 + 2) 208 && (0 * 256 + 208 == 208)) = true) ∧ ((bq cX9_builds 25 21 && bq cX9_builds (25 + 1) 4) = true) ∧ ((bq cX9_builds 27 158 && bq cX9_builds (27 + 1) 0 && bq cX9_builds (27 + 2) 8 && (Reader.signed 16 (0 * 256 + 8) == 8)) = true) ∧ ((bq cX9_builds 30 21 && bq cX9_builds (30 + 1) 4) = true) ∧ ((bq cX9_builds 32 167 && bq cX9_builds (32 + 1) 0 && bq cX9_builds (32 + 2) 15 && (Reader.signed 16 (0 * 256 + 15) == 15)) = true) ∧ (bq cX9_builds 35 42 = true) ∧ ((bq cX9_builds 36 180 && bq cX9_builds (36 + 1) 0 && bq cX9_builds (36 + 2) 184 && (0 * 256 + 184 == 184)) = true) ∧ ((bq cX9_builds 39 154 && bq cX9_builds (39 + 1) 0 && bq cX9_builds (39 + 2) 7 && (Reader.signed 16 (0 * 256 + 7) == 7)) = true) ∧ (bq cX9_builds 42 7 = true) ∧ ((bq cX9_builds 43 167 && bq cX9_builds (43 + 1) 0 && bq cX9_builds (43 + 2) 4 && (Reader.signed 16 (0 * 256 + 4) == 4)) = true) ∧ (bq cX9_builds 46 3 = true) ∧ (bq cX9_builds 47 172 = true) := by decide +kernel
theorem dX9_builds_0 : decode cX9_builds 0 = .ok (.aload_n 0, 1) := dr_42  pk_decd_266.1
theorem dX9_builds_1 : decode cX9_builds 1 = .ok (.iload_n 1, 1) := dr_27  pk_decd_266.2.1
theorem dX9_builds_2 : decode cX9_builds 2 = .ok (.iload_n 2, 1) := dr_28  pk_decd_266.2.2.1
theorem dX9_builds_3 : decode cX9_builds 3 = .ok (.invokevirtual 205, 3) := dr_182 0 205  pk_decd_266.2.2.2.1
theorem dX9_builds_6 : decode cX9_builds 6 = .ok (.istore 4, 2) := dr_54  pk_decd_266.2.2.2.2.1
theorem dX9_builds_8 : decode cX9_builds 8 = .ok (.iload 4, 2) := dr_21  pk_decd_266.2.2.2.2.2.1
theorem dX9_builds_10 : decode cX9_builds 10 = .ok (.ifCond .ne 15, 3) := dr_154 0 15  pk_decd_266.2.2.2.2.2.2.1
theorem dX9_builds_13 : decode cX9_builds 13 = .ok (.aload_n 0, 1) := dr_42  pk_decd_266.2.2.2.2.2.2.2.1
theorem dX9_builds_14 : decode cX9_builds 14 = .ok (.getfield 184, 3) := dr_180 0 184  pk_decd_266.2.2.2.2.2.2.2.2.1
theorem dX9_builds_17 : decode cX9_builds 17 = .ok (.ifCond .le 8, 3) := dr_158 0 8  pk_decd_266.2.2.2.2.2.2.2.2.2.1
theorem dX9_builds_20 : decode cX9_builds 20 = .ok (.aload_n 0, 1) := dr_42  pk_decd_266.2.2.2.2.2.2.2.2.2.2.1
theorem dX9_builds_21 : decode cX9_builds 21 = .ok (.iload_n 3, 1) := dr_29  pk_decd_266.2.2.2.2.2.2.2.2.2.2.2.1
theorem dX9_builds_22 : decode cX9_builds 22 = .ok (.invokevirtual 208, 3) := dr_182 0 208  pk_decd_266.2.2.2.2.2.2.2.2.2.2.2.2.1
theorem dX9_builds_25 : decode cX9_builds 25 = .ok (.iload 4, 2) := dr_21  pk_decd_266.2.2.2.2.2.2.2.2.2.2.2.2.2.1
theorem dX9_builds_27 : decode cX9_builds 27 = .ok (.ifCond .le 8, 3) := dr_158 0 8  pk_decd_266.2.2.2.2.2.2.2.2.2.2.2.2.2.2.1
theorem dX9_builds_30 : decode cX9_builds 30 = .ok (.iload 4, 2) := dr_21  pk_decd_266.2.2.2.2.2.2.2.2.2.2.2.2.2.2.2.1
theorem dX9_builds_32 : decode cX9_builds 32 = .ok (.goto 15, 3) := dr_167 0 15  pk_decd_266.2.2.2.2.2.2.2.2.2.2.2.2.2.2.2.2.1
theorem dX9_builds_35 : decode cX9_builds 35 = .ok (.aload_n 0, 1) := dr_42  pk_decd_266.2.2.2.2.2.2.2.2.2.2.2.2.2.2.2.2.2.1
theorem dX9_builds_36 : decode cX9_builds 36 = .ok (.getfield 184, 3) := dr_180 0 184  pk_decd_266.2.2.2.2.2.2.2.2.2.2.2.2.2.2.2.2.2.2.1
theorem dX9_builds_39 : decode cX9_builds 39 = .ok (.ifCond .ne 7, 3) := dr_154 0 7  pk_decd_266.2.2.2.2.2.2.2.2.2.2.2.2.2.2.2.2.2.2.2.1
theorem dX9_builds_42 : decode cX9_builds 42 = .ok (.iconst 4, 1) := dr_7  pk_decd_266.2.2.2.2.2.2.2.2.2.2.2.2.2.2.2.2.2.2.2.2.1
theorem dX9_builds_43 : decode cX9_builds 43 = .ok (.goto 4, 3) := dr_167 0 4  pk_decd_266.2.2.2.2.2.2.2.2.2.2.2.2.2.2.2.2.2.2.2.2.2.1
theorem dX9_builds_46 : decode cX9_builds 46 = .ok (.iconst 0, 1) := dr_3  pk_decd_266.2.2.2.2.2.2.2.2.2.2.2.2.2.2.2.2.2.2.2.2.2.2.1
theorem dX9_builds_47 : decode cX9_builds 47 = .ok (.ireturn, 1) := dr_172  pk_decd_266.2.2.2.2.2.2.2.2.2.2.2.2.2.2.2.2.2.2.2.2.2.2.2
set_option maxRecDepth 20000 in
theorem pk_decd_267 : (bq cX9_run 0 42 = true) ∧ (bq cX9_run 1 27 = true) ∧ ((bq cX9_run 2 182 && bq cX9_run (2 + 1) 0 && bq cX9_run (2 + 2) 178 && (0 * 256 + 178 == 178)) = true) ∧ ((bq cX9_run 5 153 && bq cX9_run (5 + 1) 0 && bq cX9_run (5 + 2) 10 && (Reader.signed 16 (0 * 256 + 10) == 10)) = true) ∧ (bq cX9_run 8 28 = true) ∧ ((bq cX9_run 9 184 && bq cX9_run (9 + 1) 0 && bq cX9_run (9 + 2) 81 && (0 * 256 + 81 == 81)) = true) ∧ ((bq cX9_run 12 154 && bq cX9_run (12 + 1) 0 && bq cX9_run (12 + 2) 5 && (Reader.signed 16 (0 * 256 + 5) == 5)) = true) ∧ (bq cX9_run 15 2 = true) ∧ (bq cX9_run 16 172 = true) ∧ (bq cX9_run 17 42 = true) ∧ (bq cX9_run 18 27 = true) ∧ (bq cX9_run 19 28 = true) ∧ ((bq cX9_run 20 182 && bq cX9_run (20 + 1) 0 && bq cX9_run (20 + 2) 205 && (0 * 256 + 205 == 205)) = true) ∧ (bq cX9_run 23 62 = true) ∧ (bq cX9_run 24 42 = true) ∧ ((bq cX9_run 25 180 && bq cX9_run (25 + 1) 0 && bq cX9_run (25 + 2) 53 && (0 * 256 + 53 == 53)) = true) ∧ (bq cX9_run 28 3 = true) ∧ (bq cX9_run 29 42 = true) ∧ ((bq cX9_run 30 180 && bq cX9_run (30 + 1) 0 && bq cX9_run (30 + 2) 187 && (0 * 256 + 187 == 187)) = true) ∧ (bq cX9_run 33 79 = true) ∧ (bq cX9_run 34 42 = true) ∧ ((bq cX9_run 35 180 && bq cX9_run (35 + 1) 0 && bq cX9_run (35 + 2) 53 && (0 * 256 + 53 == 53)) = true) ∧ (bq cX9_run 38 4 = true) ∧ (bq cX9_run 39 42 = true) ∧ ((bq cX9_run 40 180 && bq cX9_run (40 + 1) 0 && bq cX9_run (40 + 2) 190 && (0 * 256 + 190 == 190)) = true) ∧ (bq cX9_run 43 79 = true) ∧ (bq cX9_run 44 42 = true) ∧ ((bq cX9_run 45 180 && bq cX9_run (45 + 1) 0 && bq cX9_run (45 + 2) 53 && (0 * 256 + 53 == 53)) = true) ∧ (bq cX9_run 48 5 = true) ∧ (bq cX9_run 49 42 = true) ∧ ((bq cX9_run 50 180 && bq cX9_run (50 + 1) 0 && bq cX9_run (50 + 2) 193 && (0 * 256 + 193 == 193)) = true) ∧ (bq cX9_run 53 79 = true) := by decide +kernel
theorem dX9_run_0 : decode cX9_run 0 = .ok (.aload_n 0, 1) := dr_42  pk_decd_267.1
theorem dX9_run_1 : decode cX9_run 1 = .ok (.iload_n 1, 1) := dr_27  pk_decd_267.2.1
theorem dX9_run_2 : decode cX9_run 2 = .ok (.invokevirtual 178, 3) := dr_182 0 178  pk_decd_267.2.2.1
theorem dX9_run_5 : decode cX9_run 5 = .ok (.ifCond .eq 10, 3) := dr_153 0 10  pk_decd_267.2.2.2.1
theorem dX9_run_8 : decode cX9_run 8 = .ok (.iload_n 2, 1) := dr_28  pk_decd_267.2.2.2.2.1
theorem dX9_run_9 : decode cX9_run 9 = .ok (.invokestatic 81, 3) := dr_184 0 81  pk_decd_267.2.2.2.2.2.1
theorem dX9_run_12 : decode cX9_run 12 = .ok (.ifCond .ne 5, 3) := dr_154 0 5  pk_decd_267.2.2.2.2.2.2.1
theorem dX9_run_15 : decode cX9_run 15 = .ok (.iconst (-1), 1) := dr_2  pk_decd_267.2.2.2.2.2.2.2.1
theorem dX9_run_16 : decode cX9_run 16 = .ok (.ireturn, 1) := dr_172  pk_decd_267.2.2.2.2.2.2.2.2.1
theorem dX9_run_17 : decode cX9_run 17 = .ok (.aload_n 0, 1) := dr_42  pk_decd_267.2.2.2.2.2.2.2.2.2.1
theorem dX9_run_18 : decode cX9_run 18 = .ok (.iload_n 1, 1) := dr_27  pk_decd_267.2.2.2.2.2.2.2.2.2.2.1
theorem dX9_run_19 : decode cX9_run 19 = .ok (.iload_n 2, 1) := dr_28  pk_decd_267.2.2.2.2.2.2.2.2.2.2.2.1
theorem dX9_run_20 : decode cX9_run 20 = .ok (.invokevirtual 205, 3) := dr_182 0 205  pk_decd_267.2.2.2.2.2.2.2.2.2.2.2.2.1
theorem dX9_run_23 : decode cX9_run 23 = .ok (.istore_n 3, 1) := dr_62  pk_decd_267.2.2.2.2.2.2.2.2.2.2.2.2.2.1
theorem dX9_run_24 : decode cX9_run 24 = .ok (.aload_n 0, 1) := dr_42  pk_decd_267.2.2.2.2.2.2.2.2.2.2.2.2.2.2.1
theorem dX9_run_25 : decode cX9_run 25 = .ok (.getfield 53, 3) := dr_180 0 53  pk_decd_267.2.2.2.2.2.2.2.2.2.2.2.2.2.2.2.1
theorem dX9_run_28 : decode cX9_run 28 = .ok (.iconst 0, 1) := dr_3  pk_decd_267.2.2.2.2.2.2.2.2.2.2.2.2.2.2.2.2.1
theorem dX9_run_29 : decode cX9_run 29 = .ok (.aload_n 0, 1) := dr_42  pk_decd_267.2.2.2.2.2.2.2.2.2.2.2.2.2.2.2.2.2.1
theorem dX9_run_30 : decode cX9_run 30 = .ok (.getfield 187, 3) := dr_180 0 187  pk_decd_267.2.2.2.2.2.2.2.2.2.2.2.2.2.2.2.2.2.2.1
theorem dX9_run_33 : decode cX9_run 33 = .ok (.iastore, 1) := dr_79  pk_decd_267.2.2.2.2.2.2.2.2.2.2.2.2.2.2.2.2.2.2.2.1
theorem dX9_run_34 : decode cX9_run 34 = .ok (.aload_n 0, 1) := dr_42  pk_decd_267.2.2.2.2.2.2.2.2.2.2.2.2.2.2.2.2.2.2.2.2.1
theorem dX9_run_35 : decode cX9_run 35 = .ok (.getfield 53, 3) := dr_180 0 53  pk_decd_267.2.2.2.2.2.2.2.2.2.2.2.2.2.2.2.2.2.2.2.2.2.1
theorem dX9_run_38 : decode cX9_run 38 = .ok (.iconst 1, 1) := dr_4  pk_decd_267.2.2.2.2.2.2.2.2.2.2.2.2.2.2.2.2.2.2.2.2.2.2.1
theorem dX9_run_39 : decode cX9_run 39 = .ok (.aload_n 0, 1) := dr_42  pk_decd_267.2.2.2.2.2.2.2.2.2.2.2.2.2.2.2.2.2.2.2.2.2.2.2.1
theorem dX9_run_40 : decode cX9_run 40 = .ok (.getfield 190, 3) := dr_180 0 190  pk_decd_267.2.2.2.2.2.2.2.2.2.2.2.2.2.2.2.2.2.2.2.2.2.2.2.2.1
theorem dX9_run_43 : decode cX9_run 43 = .ok (.iastore, 1) := dr_79  pk_decd_267.2.2.2.2.2.2.2.2.2.2.2.2.2.2.2.2.2.2.2.2.2.2.2.2.2.1
theorem dX9_run_44 : decode cX9_run 44 = .ok (.aload_n 0, 1) := dr_42  pk_decd_267.2.2.2.2.2.2.2.2.2.2.2.2.2.2.2.2.2.2.2.2.2.2.2.2.2.2.1
theorem dX9_run_45 : decode cX9_run 45 = .ok (.getfield 53, 3) := dr_180 0 53  pk_decd_267.2.2.2.2.2.2.2.2.2.2.2.2.2.2.2.2.2.2.2.2.2.2.2.2.2.2.2.1
theorem dX9_run_48 : decode cX9_run 48 = .ok (.iconst 2, 1) := dr_5  pk_decd_267.2.2.2.2.2.2.2.2.2.2.2.2.2.2.2.2.2.2.2.2.2.2.2.2.2.2.2.2.1
theorem dX9_run_49 : decode cX9_run 49 = .ok (.aload_n 0, 1) := dr_42  pk_decd_267.2.2.2.2.2.2.2.2.2.2.2.2.2.2.2.2.2.2.2.2.2.2.2.2.2.2.2.2.2.1
theorem dX9_run_50 : decode cX9_run 50 = .ok (.getfield 193, 3) := dr_180 0 193  pk_decd_267.2.2.2.2.2.2.2.2.2.2.2.2.2.2.2.2.2.2.2.2.2.2.2.2.2.2.2.2.2.2.1
theorem dX9_run_53 : decode cX9_run 53 = .ok (.iastore, 1) := dr_79  pk_decd_267.2.2.2.2.2.2.2.2.2.2.2.2.2.2.2.2.2.2.2.2.2.2.2.2.2.2.2.2.2.2.2
set_option maxRecDepth 20000 in
theorem pk_decd_268 : (bq cX9_run 54 42 = true) ∧ ((bq cX9_run 55 180 && bq cX9_run (55 + 1) 0 && bq cX9_run (55 + 2) 53 && (0 * 256 + 53 == 53)) = true) ∧ (bq cX9_run 58 6 = true) ∧ (bq cX9_run 59 42 = true) ∧ ((bq cX9_run 60 180 && bq cX9_run (60 + 1) 0 && bq cX9_run (60 + 2) 199 && (0 * 256 + 199 == 199)) = true) ∧ (bq cX9_run 63 79 = true) ∧ (bq cX9_run 64 42 = true) ∧ ((bq cX9_run 65 180 && bq cX9_run (65 + 1) 0 && bq cX9_run (65 + 2) 53 && (0 * 256 + 53 == 53)) = true) ∧ (bq cX9_run 68 7 = true) ∧ (bq cX9_run 69 42 = true) ∧ ((bq cX9_run 70 180 && bq cX9_run (70 + 1) 0 && bq cX9_run (70 + 2) 181 && (0 * 256 + 181 == 181)) = true) ∧ (bq cX9_run 73 79 = true) ∧ (bq cX9_run 74 42 = true) ∧ ((bq cX9_run 75 180 && bq cX9_run (75 + 1) 0 && bq cX9_run (75 + 2) 53 && (0 * 256 + 53 == 53)) = true) ∧ (bq cX9_run 78 8 = true) ∧ (bq cX9_run 79 42 = true) ∧ ((bq cX9_run 80 180 && bq cX9_run (80 + 1) 0 && bq cX9_run (80 + 2) 184 && (0 * 256 + 184 == 184)) = true) ∧ (bq cX9_run 83 79 = true) ∧ (bq cX9_run 84 3 = true) ∧ ((bq cX9_run 85 54 && bq cX9_run (85 + 1) 4) = true) ∧ ((bq cX9_run 87 21 && bq cX9_run (87 + 1) 4) = true) ∧ ((bq cX9_run 89 17 && bq cX9_run (89 + 1) 1 && bq cX9_run (89 + 2) 0 && (Reader.signed 16 (1 * 256 + 0) == 256)) = true) ∧ ((bq cX9_run 92 162 && bq cX9_run (92 + 1) 0 && bq cX9_run (92 + 2) 50 && (Reader.signed 16 (0 * 256 + 50) == 50)) = true) ∧ (bq cX9_run 95 42 = true) ∧ ((bq cX9_run 96 180 && bq cX9_run (96 + 1) 0 && bq cX9_run (96 + 2) 56 && (0 * 256 + 56 == 56)) = true) ∧ ((bq cX9_run 99 21 && bq cX9_run (99 + 1) 4) = true) ∧ ((bq cX9_run 101 21 && bq cX9_run (101 + 1) 4) = true) ∧ (bq cX9_run 103 42 = true) ∧ ((bq cX9_run 104 180 && bq cX9_run (104 + 1) 0 && bq cX9_run (104 + 2) 184 && (0 * 256 + 184 == 184)) = true) ∧ ((bq cX9_run 107 162 && bq cX9_run (107 + 1) 0 && bq cX9_run (107 + 2) 13 && (Reader.signed 16 (0 * 256 + 13) == 13)) = true) ∧ (bq cX9_run 110 42 = true) ∧ ((bq cX9_run 111 180 && bq cX9_run (111 + 1) 0 && bq cX9_run (111 + 2) 47 && (0 * 256 + 47 == 47)) = true) := by decide +kernel
theorem dX9_run_54 : decode cX9_run 54 = .ok (.aload_n 0, 1) := dr_42  pk_decd_268.1
theorem dX9_run_55 : decode cX9_run 55 = .ok (.getfield 53, 3) := dr_180 0 53  pk_decd_268.2.1
theorem dX9_run_58 : decode cX9_run 58 = .ok (.iconst 3, 1) := dr_6  pk_decd_268.2.2.1
theorem dX9_run_59 : decode cX9_run 59 = .ok (.aload_n 0, 1) := dr_42  pk_decd_268.2.2.2.1
theorem dX9_run_60 : decode cX9_run 60 = .ok (.getfield 199, 3) := dr_180 0 199  pk_decd_268.2.2.2.2.1
theorem dX9_run_63 : decode cX9_run 63 = .ok (.iastore, 1) := dr_79  pk_decd_268.2.2.2.2.2.1
theorem dX9_run_64 : decode cX9_run 64 = .ok (.aload_n 0, 1) := dr_42  pk_decd_268.2.2.2.2.2.2.1
theorem dX9_run_65 : decode cX9_run 65 = .ok (.getfield 53, 3) := dr_180 0 53  pk_decd_268.2.2.2.2.2.2.2.1
theorem dX9_run_68 : decode cX9_run 68 = .ok (.iconst 4, 1) := dr_7  pk_decd_268.2.2.2.2.2.2.2.2.1
theorem dX9_run_69 : decode cX9_run 69 = .ok (.aload_n 0, 1) := dr_42  pk_decd_268.2.2.2.2.2.2.2.2.2.1
theorem dX9_run_70 : decode cX9_run 70 = .ok (.getfield 181, 3) := dr_180 0 181  pk_decd_268.2.2.2.2.2.2.2.2.2.2.1
theorem dX9_run_73 : decode cX9_run 73 = .ok (.iastore, 1) := dr_79  pk_decd_268.2.2.2.2.2.2.2.2.2.2.2.1
theorem dX9_run_74 : decode cX9_run 74 = .ok (.aload_n 0, 1) := dr_42  pk_decd_268.2.2.2.2.2.2.2.2.2.2.2.2.1
theorem dX9_run_75 : decode cX9_run 75 = .ok (.getfield 53, 3) := dr_180 0 53  pk_decd_268.2.2.2.2.2.2.2.2.2.2.2.2.2.1
theorem dX9_run_78 : decode cX9_run 78 = .ok (.iconst 5, 1) := dr_8  pk_decd_268.2.2.2.2.2.2.2.2.2.2.2.2.2.2.1
theorem dX9_run_79 : decode cX9_run 79 = .ok (.aload_n 0, 1) := dr_42  pk_decd_268.2.2.2.2.2.2.2.2.2.2.2.2.2.2.2.1
theorem dX9_run_80 : decode cX9_run 80 = .ok (.getfield 184, 3) := dr_180 0 184  pk_decd_268.2.2.2.2.2.2.2.2.2.2.2.2.2.2.2.2.1
theorem dX9_run_83 : decode cX9_run 83 = .ok (.iastore, 1) := dr_79  pk_decd_268.2.2.2.2.2.2.2.2.2.2.2.2.2.2.2.2.2.1
theorem dX9_run_84 : decode cX9_run 84 = .ok (.iconst 0, 1) := dr_3  pk_decd_268.2.2.2.2.2.2.2.2.2.2.2.2.2.2.2.2.2.2.1
theorem dX9_run_85 : decode cX9_run 85 = .ok (.istore 4, 2) := dr_54  pk_decd_268.2.2.2.2.2.2.2.2.2.2.2.2.2.2.2.2.2.2.2.1
theorem dX9_run_87 : decode cX9_run 87 = .ok (.iload 4, 2) := dr_21  pk_decd_268.2.2.2.2.2.2.2.2.2.2.2.2.2.2.2.2.2.2.2.2.1
theorem dX9_run_89 : decode cX9_run 89 = .ok (.sipush 256, 3) := dr_17 1 0  pk_decd_268.2.2.2.2.2.2.2.2.2.2.2.2.2.2.2.2.2.2.2.2.2.1
theorem dX9_run_92 : decode cX9_run 92 = .ok (.if_icmp .ge 50, 3) := dr_162 0 50  pk_decd_268.2.2.2.2.2.2.2.2.2.2.2.2.2.2.2.2.2.2.2.2.2.2.1
theorem dX9_run_95 : decode cX9_run 95 = .ok (.aload_n 0, 1) := dr_42  pk_decd_268.2.2.2.2.2.2.2.2.2.2.2.2.2.2.2.2.2.2.2.2.2.2.2.1
theorem dX9_run_96 : decode cX9_run 96 = .ok (.getfield 56, 3) := dr_180 0 56  pk_decd_268.2.2.2.2.2.2.2.2.2.2.2.2.2.2.2.2.2.2.2.2.2.2.2.2.1
theorem dX9_run_99 : decode cX9_run 99 = .ok (.iload 4, 2) := dr_21  pk_decd_268.2.2.2.2.2.2.2.2.2.2.2.2.2.2.2.2.2.2.2.2.2.2.2.2.2.1
theorem dX9_run_101 : decode cX9_run 101 = .ok (.iload 4, 2) := dr_21  pk_decd_268.2.2.2.2.2.2.2.2.2.2.2.2.2.2.2.2.2.2.2.2.2.2.2.2.2.2.1
theorem dX9_run_103 : decode cX9_run 103 = .ok (.aload_n 0, 1) := dr_42  pk_decd_268.2.2.2.2.2.2.2.2.2.2.2.2.2.2.2.2.2.2.2.2.2.2.2.2.2.2.2.1
theorem dX9_run_104 : decode cX9_run 104 = .ok (.getfield 184, 3) := dr_180 0 184  pk_decd_268.2.2.2.2.2.2.2.2.2.2.2.2.2.2.2.2.2.2.2.2.2.2.2.2.2.2.2.2.1
theorem dX9_run_107 : decode cX9_run 107 = .ok (.if_icmp .ge 13, 3) := dr_162 0 13  pk_decd_268.2.2.2.2.2.2.2.2.2.2.2.2.2.2.2.2.2.2.2.2.2.2.2.2.2.2.2.2.2.1
theorem dX9_run_110 : decode cX9_run 110 = .ok (.aload_n 0, 1) := dr_42  pk_decd_268.2.2.2.2.2.2.2.2.2.2.2.2.2.2.2.2.2.2.2.2.2.2.2.2.2.2.2.2.2.2.1
theorem dX9_run_111 : decode cX9_run 111 = .ok (.getfield 47, 3) := dr_180 0 47  pk_decd_268.2.2.2.2.2.2.2.2.2.2.2.2.2.2.2.2.2.2.2.2.2.2.2.2.2.2.2.2.2.2.2
set_option maxRecDepth 20000 in
theorem pk_decd_269 : ((bq cX9_run 114 21 && bq cX9_run (114 + 1) 4) = true) ∧ (bq cX9_run 116 46 = true) ∧ ((bq cX9_run 117 167 && bq cX9_run (117 + 1) 0 && bq cX9_run (117 + 2) 4 && (Reader.signed 16 (0 * 256 + 4) == 4)) = true) ∧ (bq cX9_run 120 3 = true) ∧ (bq cX9_run 121 79 = true) ∧ (bq cX9_run 122 42 = true) ∧ ((bq cX9_run 123 180 && bq cX9_run (123 + 1) 0 && bq cX9_run (123 + 2) 59 && (0 * 256 + 59 == 59)) = true) ∧ ((bq cX9_run 126 21 && bq cX9_run (126 + 1) 4) = true) ∧ (bq cX9_run 128 42 = true) ∧ ((bq cX9_run 129 180 && bq cX9_run (129 + 1) 0 && bq cX9_run (129 + 2) 44 && (0 * 256 + 44 == 44)) = true) ∧ ((bq cX9_run 132 21 && bq cX9_run (132 + 1) 4) = true) ∧ (bq cX9_run 134 46 = true) ∧ (bq cX9_run 135 79 = true) := by decide +kernel
theorem dX9_run_114 : decode cX9_run 114 = .ok (.iload 4, 2) := dr_21  pk_decd_269.1
theorem dX9_run_116 : decode cX9_run 116 = .ok (.iaload, 1) := dr_46  pk_decd_269.2.1
theorem dX9_run_117 : decode cX9_run 117 = .ok (.goto 4, 3) := dr_167 0 4  pk_decd_269.2.2.1
theorem dX9_run_120 : decode cX9_run 120 = .ok (.iconst 0, 1) := dr_3  pk_decd_269.2.2.2.1
theorem dX9_run_121 : decode cX9_run 121 = .ok (.iastore, 1) := dr_79  pk_decd_269.2.2.2.2.1
theorem dX9_run_122 : decode cX9_run 122 = .ok (.aload_n 0, 1) := dr_42  pk_decd_269.2.2.2.2.2.1
theorem dX9_run_123 : decode cX9_run 123 = .ok (.getfield 59, 3) := dr_180 0 59  pk_decd_269.2.2.2.2.2.2.1
theorem dX9_run_126 : decode cX9_run 126 = .ok (.iload 4, 2) := dr_21  pk_decd_269.2.2.2.2.2.2.2.1
theorem dX9_run_128 : decode cX9_run 128 = .ok (.aload_n 0, 1) := dr_42  pk_decd_269.2.2.2.2.2.2.2.2.1
theorem dX9_run_129 : decode cX9_run 129 = .ok (.getfield 44, 3) := dr_180 0 44  pk_decd_269.2.2.2.2.2.2.2.2.2.1
theorem dX9_run_132 : decode cX9_run 132 = .ok (.iload 4, 2) := dr_21  pk_decd_269.2.2.2.2.2.2.2.2.2.2.1
theorem dX9_run_134 : decode cX9_run 134 = .ok (.iaload, 1) := dr_46  pk_decd_269.2.2.2.2.2.2.2.2.2.2.2.1
theorem dX9_run_135 : decode cX9_run 135 = .ok (.iastore, 1) := dr_79  pk_decd_269.2.2.2.2.2.2.2.2.2.2.2.2
theorem dX9_run_136 : decode cX9_run 136 = .ok (.iinc 4 1, 3) := by decide +kernel
set_option maxRecDepth 20000 in
theorem pk_decd_270 : ((bq cX9_run 139 167 && bq cX9_run (139 + 1) 255 && bq cX9_run (139 + 2) 204 && (Reader.signed 16 (255 * 256 + 204) == (-52))) = true) ∧ (bq cX9_run 142 29 = true) ∧ ((bq cX9_run 143 154 && bq cX9_run (143 + 1) 0 && bq cX9_run (143 + 2) 10 && (Reader.signed 16 (0 * 256 + 10) == 10)) = true) ∧ (bq cX9_run 146 42 = true) ∧ ((bq cX9_run 147 180 && bq cX9_run (147 + 1) 0 && bq cX9_run (147 + 2) 184 && (0 * 256 + 184 == 184)) = true) ∧ ((bq cX9_run 150 167 && bq cX9_run (150 + 1) 0 && bq cX9_run (150 + 2) 7 && (Reader.signed 16 (0 * 256 + 7) == 7)) = true) ∧ ((bq cX9_run 153 16 && bq cX9_run (153 + 1) 246 && (Reader.signed 8 246 == (-10))) = true) ∧ (bq cX9_run 155 29 = true) ∧ (bq cX9_run 156 100 = true) ∧ (bq cX9_run 157 172 = true) := by decide +kernel
theorem dX9_run_139 : decode cX9_run 139 = .ok (.goto (-52), 3) := dr_167 255 204  pk_decd_270.1
theorem dX9_run_142 : decode cX9_run 142 = .ok (.iload_n 3, 1) := dr_29  pk_decd_270.2.1
theorem dX9_run_143 : decode cX9_run 143 = .ok (.ifCond .ne 10, 3) := dr_154 0 10  pk_decd_270.2.2.1
theorem dX9_run_146 : decode cX9_run 146 = .ok (.aload_n 0, 1) := dr_42  pk_decd_270.2.2.2.1
theorem dX9_run_147 : decode cX9_run 147 = .ok (.getfield 184, 3) := dr_180 0 184  pk_decd_270.2.2.2.2.1
theorem dX9_run_150 : decode cX9_run 150 = .ok (.goto 7, 3) := dr_167 0 7  pk_decd_270.2.2.2.2.2.1
theorem dX9_run_153 : decode cX9_run 153 = .ok (.bipush (-10), 2) := dr_16 246  pk_decd_270.2.2.2.2.2.2.1
theorem dX9_run_155 : decode cX9_run 155 = .ok (.iload_n 3, 1) := dr_29  pk_decd_270.2.2.2.2.2.2.2.1
theorem dX9_run_156 : decode cX9_run 156 = .ok (.isub, 1) := dr_100  pk_decd_270.2.2.2.2.2.2.2.2.1
theorem dX9_run_157 : decode cX9_run 157 = .ok (.ireturn, 1) := dr_172  pk_decd_270.2.2.2.2.2.2.2.2.2
set_option maxRecDepth 20000 in
theorem pk_decd_271 : (bq cX9_ran 0 27 = true) ∧ (bq cX9_ran 1 3 = true) ∧ (bq cX9_ran 2 8 = true) ∧ ((bq cX9_ran 3 184 && bq cX9_ran (3 + 1) 0 && bq cX9_ran (3 + 2) 75 && (0 * 256 + 75 == 75)) = true) ∧ ((bq cX9_ran 6 153 && bq cX9_ran (6 + 1) 0 && bq cX9_ran (6 + 2) 12 && (Reader.signed 16 (0 * 256 + 12) == 12)) = true) ∧ (bq cX9_ran 9 42 = true) ∧ ((bq cX9_ran 10 180 && bq cX9_ran (10 + 1) 0 && bq cX9_ran (10 + 2) 53 && (0 * 256 + 53 == 53)) = true) ∧ (bq cX9_ran 13 27 = true) ∧ (bq cX9_ran 14 46 = true) ∧ ((bq cX9_ran 15 167 && bq cX9_ran (15 + 1) 0 && bq cX9_ran (15 + 2) 4 && (Reader.signed 16 (0 * 256 + 4) == 4)) = true) ∧ (bq cX9_ran 18 2 = true) ∧ (bq cX9_ran 19 172 = true) := by decide +kernel
theorem dX9_ran_0 : decode cX9_ran 0 = .ok (.iload_n 1, 1) := dr_27  pk_decd_271.1
theorem dX9_ran_1 : decode cX9_ran 1 = .ok (.iconst 0, 1) := dr_3  pk_decd_271.2.1
theorem dX9_ran_2 : decode cX9_ran 2 = .ok (.iconst 5, 1) := dr_8  pk_decd_271.2.2.1
theorem dX9_ran_3 : decode cX9_ran 3 = .ok (.invokestatic 75, 3) := dr_184 0 75  pk_decd_271.2.2.2.1
theorem dX9_ran_6 : decode cX9_ran 6 = .ok (.ifCond .eq 12, 3) := dr_153 0 12  pk_decd_271.2.2.2.2.1
theorem dX9_ran_9 : decode cX9_ran 9 = .ok (.aload_n 0, 1) := dr_42  pk_decd_271.2.2.2.2.2.1
theorem dX9_ran_10 : decode cX9_ran 10 = .ok (.getfield 53, 3) := dr_180 0 53  pk_decd_271.2.2.2.2.2.2.1
theorem dX9_ran_13 : decode cX9_ran 13 = .ok (.iload_n 1, 1) := dr_27  pk_decd_271.2.2.2.2.2.2.2.1
theorem dX9_ran_14 : decode cX9_ran 14 = .ok (.iaload, 1) := dr_46  pk_decd_271.2.2.2.2.2.2.2.2.1
theorem dX9_ran_15 : decode cX9_ran 15 = .ok (.goto 4, 3) := dr_167 0 4  pk_decd_271.2.2.2.2.2.2.2.2.2.1
theorem dX9_ran_18 : decode cX9_ran 18 = .ok (.iconst (-1), 1) := dr_2  pk_decd_271.2.2.2.2.2.2.2.2.2.2.1
theorem dX9_ran_19 : decode cX9_ran 19 = .ok (.ireturn, 1) := dr_172  pk_decd_271.2.2.2.2.2.2.2.2.2.2.2
set_option maxRecDepth 20000 in
theorem pk_decd_272 : (bq cX9_tape 0 28 = true) ∧ (bq cX9_tape 1 3 = true) ∧ (bq cX9_tape 2 4 = true) ∧ ((bq cX9_tape 3 184 && bq cX9_tape (3 + 1) 0 && bq cX9_tape (3 + 2) 75 && (0 * 256 + 75 == 75)) = true) ∧ ((bq cX9_tape 6 153 && bq cX9_tape (6 + 1) 0 && bq cX9_tape (6 + 2) 29 && (Reader.signed 16 (0 * 256 + 29) == 29)) = true) ∧ (bq cX9_tape 9 27 = true) ∧ (bq cX9_tape 10 3 = true) ∧ (bq cX9_tape 11 28 = true) ∧ ((bq cX9_tape 12 154 && bq cX9_tape (12 + 1) 0 && bq cX9_tape (12 + 2) 14 && (Reader.signed 16 (0 * 256 + 14) == 14)) = true) ∧ (bq cX9_tape 15 42 = true) ∧ ((bq cX9_tape 16 180 && bq cX9_tape (16 + 1) 0 && bq cX9_tape (16 + 2) 53 && (0 * 256 + 53 == 53)) = true) ∧ (bq cX9_tape 19 8 = true) ∧ (bq cX9_tape 20 46 = true) ∧ (bq cX9_tape 21 4 = true) ∧ (bq cX9_tape 22 100 = true) ∧ ((bq cX9_tape 23 167 && bq cX9_tape (23 + 1) 0 && bq cX9_tape (23 + 2) 6 && (Reader.signed 16 (0 * 256 + 6) == 6)) = true) ∧ ((bq cX9_tape 26 17 && bq cX9_tape (26 + 1) 0 && bq cX9_tape (26 + 2) 255 && (Reader.signed 16 (0 * 256 + 255) == 255)) = true) ∧ ((bq cX9_tape 29 184 && bq cX9_tape (29 + 1) 0 && bq cX9_tape (29 + 2) 75 && (0 * 256 + 75 == 75)) = true) ∧ ((bq cX9_tape 32 154 && bq cX9_tape (32 + 1) 0 && bq cX9_tape (32 + 2) 5 && (Reader.signed 16 (0 * 256 + 5) == 5)) = true) ∧ (bq cX9_tape 35 2 = true) ∧ (bq cX9_tape 36 172 = true) ∧ (bq cX9_tape 37 28 = true) ∧ ((bq cX9_tape 38 154 && bq cX9_tape (38 + 1) 0 && bq cX9_tape (38 + 2) 12 && (Reader.signed 16 (0 * 256 + 12) == 12)) = true) ∧ (bq cX9_tape 41 42 = true) ∧ ((bq cX9_tape 42 180 && bq cX9_tape (42 + 1) 0 && bq cX9_tape (42 + 2) 56 && (0 * 256 + 56 == 56)) = true) ∧ (bq cX9_tape 45 27 = true) ∧ (bq cX9_tape 46 46 = true) ∧ ((bq cX9_tape 47 167 && bq cX9_tape (47 + 1) 0 && bq cX9_tape (47 + 2) 9 && (Reader.signed 16 (0 * 256 + 9) == 9)) = true) ∧ (bq cX9_tape 50 42 = true) ∧ ((bq cX9_tape 51 180 && bq cX9_tape (51 + 1) 0 && bq cX9_tape (51 + 2) 59 && (0 * 256 + 59 == 59)) = true) ∧ (bq cX9_tape 54 27 = true) ∧ (bq cX9_tape 55 46 = true) := by decide +kernel
theorem dX9_tape_0 : decode cX9_tape 0 = .ok (.iload_n 2, 1) := dr_28  pk_decd_272.1
theorem dX9_tape_1 : decode cX9_tape 1 = .ok (.iconst 0, 1) := dr_3  pk_decd_272.2.1
theorem dX9_tape_2 : decode cX9_tape 2 = .ok (.iconst 1, 1) := dr_4  pk_decd_272.2.2.1
theorem dX9_tape_3 : decode cX9_tape 3 = .ok (.invokestatic 75, 3) := dr_184 0 75  pk_decd_272.2.2.2.1
theorem dX9_tape_6 : decode cX9_tape 6 = .ok (.ifCond .eq 29, 3) := dr_153 0 29  pk_decd_272.2.2.2.2.1
theorem dX9_tape_9 : decode cX9_tape 9 = .ok (.iload_n 1, 1) := dr_27  pk_decd_272.2.2.2.2.2.1
theorem dX9_tape_10 : decode cX9_tape 10 = .ok (.iconst 0, 1) := dr_3  pk_decd_272.2.2.2.2.2.2.1
theorem dX9_tape_11 : decode cX9_tape 11 = .ok (.iload_n 2, 1) := dr_28  pk_decd_272.2.2.2.2.2.2.2.1
theorem dX9_tape_12 : decode cX9_tape 12 = .ok (.ifCond .ne 14, 3) := dr_154 0 14  pk_decd_272.2.2.2.2.2.2.2.2.1
theorem dX9_tape_15 : decode cX9_tape 15 = .ok (.aload_n 0, 1) := dr_42  pk_decd_272.2.2.2.2.2.2.2.2.2.1
theorem dX9_tape_16 : decode cX9_tape 16 = .ok (.getfield 53, 3) := dr_180 0 53  pk_decd_272.2.2.2.2.2.2.2.2.2.2.1
theorem dX9_tape_19 : decode cX9_tape 19 = .ok (.iconst 5, 1) := dr_8  pk_decd_272.2.2.2.2.2.2.2.2.2.2.2.1
theorem dX9_tape_20 : decode cX9_tape 20 = .ok (.iaload, 1) := dr_46  pk_decd_272.2.2.2.2.2.2.2.2.2.2.2.2.1
theorem dX9_tape_21 : decode cX9_tape 21 = .ok (.iconst 1, 1) := dr_4  pk_decd_272.2.2.2.2.2.2.2.2.2.2.2.2.2.1
theorem dX9_tape_22 : decode cX9_tape 22 = .ok (.isub, 1) := dr_100  pk_decd_272.2.2.2.2.2.2.2.2.2.2.2.2.2.2.1
theorem dX9_tape_23 : decode cX9_tape 23 = .ok (.goto 6, 3) := dr_167 0 6  pk_decd_272.2.2.2.2.2.2.2.2.2.2.2.2.2.2.2.1
theorem dX9_tape_26 : decode cX9_tape 26 = .ok (.sipush 255, 3) := dr_17 0 255  pk_decd_272.2.2.2.2.2.2.2.2.2.2.2.2.2.2.2.2.1
theorem dX9_tape_29 : decode cX9_tape 29 = .ok (.invokestatic 75, 3) := dr_184 0 75  pk_decd_272.2.2.2.2.2.2.2.2.2.2.2.2.2.2.2.2.2.1
theorem dX9_tape_32 : decode cX9_tape 32 = .ok (.ifCond .ne 5, 3) := dr_154 0 5  pk_decd_272.2.2.2.2.2.2.2.2.2.2.2.2.2.2.2.2.2.2.1
theorem dX9_tape_35 : decode cX9_tape 35 = .ok (.iconst (-1), 1) := dr_2  pk_decd_272.2.2.2.2.2.2.2.2.2.2.2.2.2.2.2.2.2.2.2.1
theorem dX9_tape_36 : decode cX9_tape 36 = .ok (.ireturn, 1) := dr_172  pk_decd_272.2.2.2.2.2.2.2.2.2.2.2.2.2.2.2.2.2.2.2.2.1
theorem dX9_tape_37 : decode cX9_tape 37 = .ok (.iload_n 2, 1) := dr_28  pk_decd_272.2.2.2.2.2.2.2.2.2.2.2.2.2.2.2.2.2.2.2.2.2.1
theorem dX9_tape_38 : decode cX9_tape 38 = .ok (.ifCond .ne 12, 3) := dr_154 0 12  pk_decd_272.2.2.2.2.2.2.2.2.2.2.2.2.2.2.2.2.2.2.2.2.2.2.1
theorem dX9_tape_41 : decode cX9_tape 41 = .ok (.aload_n 0, 1) := dr_42  pk_decd_272.2.2.2.2.2.2.2.2.2.2.2.2.2.2.2.2.2.2.2.2.2.2.2.1
theorem dX9_tape_42 : decode cX9_tape 42 = .ok (.getfield 56, 3) := dr_180 0 56  pk_decd_272.2.2.2.2.2.2.2.2.2.2.2.2.2.2.2.2.2.2.2.2.2.2.2.2.1
theorem dX9_tape_45 : decode cX9_tape 45 = .ok (.iload_n 1, 1) := dr_27  pk_decd_272.2.2.2.2.2.2.2.2.2.2.2.2.2.2.2.2.2.2.2.2.2.2.2.2.2.1
theorem dX9_tape_46 : decode cX9_tape 46 = .ok (.iaload, 1) := dr_46  pk_decd_272.2.2.2.2.2.2.2.2.2.2.2.2.2.2.2.2.2.2.2.2.2.2.2.2.2.2.1
theorem dX9_tape_47 : decode cX9_tape 47 = .ok (.goto 9, 3) := dr_167 0 9  pk_decd_272.2.2.2.2.2.2.2.2.2.2.2.2.2.2.2.2.2.2.2.2.2.2.2.2.2.2.2.1
theorem dX9_tape_50 : decode cX9_tape 50 = .ok (.aload_n 0, 1) := dr_42  pk_decd_272.2.2.2.2.2.2.2.2.2.2.2.2.2.2.2.2.2.2.2.2.2.2.2.2.2.2.2.2.1
theorem dX9_tape_51 : decode cX9_tape 51 = .ok (.getfield 59, 3) := dr_180 0 59  pk_decd_272.2.2.2.2.2.2.2.2.2.2.2.2.2.2.2.2.2.2.2.2.2.2.2.2.2.2.2.2.2.1
theorem dX9_tape_54 : decode cX9_tape 54 = .ok (.iload_n 1, 1) := dr_27  pk_decd_272.2.2.2.2.2.2.2.2.2.2.2.2.2.2.2.2.2.2.2.2.2.2.2.2.2.2.2.2.2.2.1
theorem dX9_tape_55 : decode cX9_tape 55 = .ok (.iaload, 1) := dr_46  pk_decd_272.2.2.2.2.2.2.2.2.2.2.2.2.2.2.2.2.2.2.2.2.2.2.2.2.2.2.2.2.2.2.2
set_option maxRecDepth 20000 in
theorem pk_decd_273 : (bq cX9_tape 56 172 = true) := by decide +kernel
theorem dX9_tape_56 : decode cX9_tape 56 = .ok (.ireturn, 1) := dr_172  pk_decd_273
set_option maxRecDepth 20000 in
theorem pk_decd_274 : (bq cX9_build 0 42 = true) ∧ (bq cX9_build 1 27 = true) ∧ ((bq cX9_build 2 182 && bq cX9_build (2 + 1) 0 && bq cX9_build (2 + 2) 178 && (0 * 256 + 178 == 178)) = true) ∧ ((bq cX9_build 5 153 && bq cX9_build (5 + 1) 0 && bq cX9_build (5 + 2) 10 && (Reader.signed 16 (0 * 256 + 10) == 10)) = true) ∧ (bq cX9_build 8 28 = true) ∧ ((bq cX9_build 9 184 && bq cX9_build (9 + 1) 0 && bq cX9_build (9 + 2) 81 && (0 * 256 + 81 == 81)) = true) ∧ ((bq cX9_build 12 154 && bq cX9_build (12 + 1) 0 && bq cX9_build (12 + 2) 5 && (Reader.signed 16 (0 * 256 + 5) == 5)) = true) ∧ (bq cX9_build 15 2 = true) ∧ (bq cX9_build 16 172 = true) ∧ (bq cX9_build 17 42 = true) ∧ (bq cX9_build 18 27 = true) ∧ (bq cX9_build 19 28 = true) ∧ ((bq cX9_build 20 16 && bq cX9_build (20 + 1) 12 && (Reader.signed 8 12 == 12)) = true) ∧ ((bq cX9_build 22 182 && bq cX9_build (22 + 1) 0 && bq cX9_build (22 + 2) 211 && (0 * 256 + 211 == 211)) = true) ∧ ((bq cX9_build 25 153 && bq cX9_build (25 + 1) 0 && bq cX9_build (25 + 2) 6 && (Reader.signed 16 (0 * 256 + 6) == 6)) = true) ∧ ((bq cX9_build 28 16 && bq cX9_build (28 + 1) 254 && (Reader.signed 8 254 == (-2))) = true) ∧ (bq cX9_build 30 172 = true) ∧ (bq cX9_build 31 42 = true) ∧ ((bq cX9_build 32 180 && bq cX9_build (32 + 1) 0 && bq cX9_build (32 + 2) 85 && (0 * 256 + 85 == 85)) = true) ∧ ((bq cX9_build 35 16 && bq cX9_build (35 + 1) 12 && (Reader.signed 8 12 == 12)) = true) ∧ ((bq cX9_build 37 160 && bq cX9_build (37 + 1) 0 && bq cX9_build (37 + 2) 6 && (Reader.signed 16 (0 * 256 + 6) == 6)) = true) ∧ ((bq cX9_build 40 16 && bq cX9_build (40 + 1) 253 && (Reader.signed 8 253 == (-3))) = true) ∧ (bq cX9_build 42 172 = true) ∧ (bq cX9_build 43 42 = true) ∧ ((bq cX9_build 44 16 && bq cX9_build (44 + 1) 12 && (Reader.signed 8 12 == 12)) = true) ∧ (bq cX9_build 46 42 = true) ∧ ((bq cX9_build 47 180 && bq cX9_build (47 + 1) 0 && bq cX9_build (47 + 2) 85 && (0 * 256 + 85 == 85)) = true) ∧ ((bq cX9_build 50 182 && bq cX9_build (50 + 1) 0 && bq cX9_build (50 + 2) 167 && (0 * 256 + 167 == 167)) = true) ∧ (bq cX9_build 53 42 = true) ∧ (bq cX9_build 54 5 = true) ∧ (bq cX9_build 55 28 = true) ∧ (bq cX9_build 56 27 = true) := by decide +kernel
theorem dX9_build_0 : decode cX9_build 0 = .ok (.aload_n 0, 1) := dr_42  pk_decd_274.1
theorem dX9_build_1 : decode cX9_build 1 = .ok (.iload_n 1, 1) := dr_27  pk_decd_274.2.1
theorem dX9_build_2 : decode cX9_build 2 = .ok (.invokevirtual 178, 3) := dr_182 0 178  pk_decd_274.2.2.1
theorem dX9_build_5 : decode cX9_build 5 = .ok (.ifCond .eq 10, 3) := dr_153 0 10  pk_decd_274.2.2.2.1
theorem dX9_build_8 : decode cX9_build 8 = .ok (.iload_n 2, 1) := dr_28  pk_decd_274.2.2.2.2.1
theorem dX9_build_9 : decode cX9_build 9 = .ok (.invokestatic 81, 3) := dr_184 0 81  pk_decd_274.2.2.2.2.2.1
theorem dX9_build_12 : decode cX9_build 12 = .ok (.ifCond .ne 5, 3) := dr_154 0 5  pk_decd_274.2.2.2.2.2.2.1
theorem dX9_build_15 : decode cX9_build 15 = .ok (.iconst (-1), 1) := dr_2  pk_decd_274.2.2.2.2.2.2.2.1
theorem dX9_build_16 : decode cX9_build 16 = .ok (.ireturn, 1) := dr_172  pk_decd_274.2.2.2.2.2.2.2.2.1
theorem dX9_build_17 : decode cX9_build 17 = .ok (.aload_n 0, 1) := dr_42  pk_decd_274.2.2.2.2.2.2.2.2.2.1
theorem dX9_build_18 : decode cX9_build 18 = .ok (.iload_n 1, 1) := dr_27  pk_decd_274.2.2.2.2.2.2.2.2.2.2.1
theorem dX9_build_19 : decode cX9_build 19 = .ok (.iload_n 2, 1) := dr_28  pk_decd_274.2.2.2.2.2.2.2.2.2.2.2.1
theorem dX9_build_20 : decode cX9_build 20 = .ok (.bipush 12, 2) := dr_16 12  pk_decd_274.2.2.2.2.2.2.2.2.2.2.2.2.1
theorem dX9_build_22 : decode cX9_build 22 = .ok (.invokevirtual 211, 3) := dr_182 0 211  pk_decd_274.2.2.2.2.2.2.2.2.2.2.2.2.2.1
theorem dX9_build_25 : decode cX9_build 25 = .ok (.ifCond .eq 6, 3) := dr_153 0 6  pk_decd_274.2.2.2.2.2.2.2.2.2.2.2.2.2.2.1
theorem dX9_build_28 : decode cX9_build 28 = .ok (.bipush (-2), 2) := dr_16 254  pk_decd_274.2.2.2.2.2.2.2.2.2.2.2.2.2.2.2.1
theorem dX9_build_30 : decode cX9_build 30 = .ok (.ireturn, 1) := dr_172  pk_decd_274.2.2.2.2.2.2.2.2.2.2.2.2.2.2.2.2.1
theorem dX9_build_31 : decode cX9_build 31 = .ok (.aload_n 0, 1) := dr_42  pk_decd_274.2.2.2.2.2.2.2.2.2.2.2.2.2.2.2.2.2.1
theorem dX9_build_32 : decode cX9_build 32 = .ok (.getfield 85, 3) := dr_180 0 85  pk_decd_274.2.2.2.2.2.2.2.2.2.2.2.2.2.2.2.2.2.2.1
theorem dX9_build_35 : decode cX9_build 35 = .ok (.bipush 12, 2) := dr_16 12  pk_decd_274.2.2.2.2.2.2.2.2.2.2.2.2.2.2.2.2.2.2.2.1
theorem dX9_build_37 : decode cX9_build 37 = .ok (.if_icmp .ne 6, 3) := dr_160 0 6  pk_decd_274.2.2.2.2.2.2.2.2.2.2.2.2.2.2.2.2.2.2.2.2.1
theorem dX9_build_40 : decode cX9_build 40 = .ok (.bipush (-3), 2) := dr_16 253  pk_decd_274.2.2.2.2.2.2.2.2.2.2.2.2.2.2.2.2.2.2.2.2.2.1
theorem dX9_build_42 : decode cX9_build 42 = .ok (.ireturn, 1) := dr_172  pk_decd_274.2.2.2.2.2.2.2.2.2.2.2.2.2.2.2.2.2.2.2.2.2.2.1
theorem dX9_build_43 : decode cX9_build 43 = .ok (.aload_n 0, 1) := dr_42  pk_decd_274.2.2.2.2.2.2.2.2.2.2.2.2.2.2.2.2.2.2.2.2.2.2.2.1
theorem dX9_build_44 : decode cX9_build 44 = .ok (.bipush 12, 2) := dr_16 12  pk_decd_274.2.2.2.2.2.2.2.2.2.2.2.2.2.2.2.2.2.2.2.2.2.2.2.2.1
theorem dX9_build_46 : decode cX9_build 46 = .ok (.aload_n 0, 1) := dr_42  pk_decd_274.2.2.2.2.2.2.2.2.2.2.2.2.2.2.2.2.2.2.2.2.2.2.2.2.2.1
theorem dX9_build_47 : decode cX9_build 47 = .ok (.getfield 85, 3) := dr_180 0 85  pk_decd_274.2.2.2.2.2.2.2.2.2.2.2.2.2.2.2.2.2.2.2.2.2.2.2.2.2.2.1
theorem dX9_build_50 : decode cX9_build 50 = .ok (.invokevirtual 167, 3) := dr_182 0 167  pk_decd_274.2.2.2.2.2.2.2.2.2.2.2.2.2.2.2.2.2.2.2.2.2.2.2.2.2.2.2.1
theorem dX9_build_53 : decode cX9_build 53 = .ok (.aload_n 0, 1) := dr_42  pk_decd_274.2.2.2.2.2.2.2.2.2.2.2.2.2.2.2.2.2.2.2.2.2.2.2.2.2.2.2.2.1
theorem dX9_build_54 : decode cX9_build 54 = .ok (.iconst 2, 1) := dr_5  pk_decd_274.2.2.2.2.2.2.2.2.2.2.2.2.2.2.2.2.2.2.2.2.2.2.2.2.2.2.2.2.2.1
theorem dX9_build_55 : decode cX9_build 55 = .ok (.iload_n 2, 1) := dr_28  pk_decd_274.2.2.2.2.2.2.2.2.2.2.2.2.2.2.2.2.2.2.2.2.2.2.2.2.2.2.2.2.2.2.1
theorem dX9_build_56 : decode cX9_build 56 = .ok (.iload_n 1, 1) := dr_27  pk_decd_274.2.2.2.2.2.2.2.2.2.2.2.2.2.2.2.2.2.2.2.2.2.2.2.2.2.2.2.2.2.2.2
set_option maxRecDepth 20000 in
theorem pk_decd_275 : ((bq cX9_build 57 182 && bq cX9_build (57 + 1) 0 && bq cX9_build (57 + 2) 171 && (0 * 256 + 171 == 171)) = true) ∧ (bq cX9_build 60 172 = true) := by decide +kernel
theorem dX9_build_57 : decode cX9_build 57 = .ok (.invokevirtual 171, 3) := dr_182 0 171  pk_decd_275.1
theorem dX9_build_60 : decode cX9_build 60 = .ok (.ireturn, 1) := dr_172  pk_decd_275.2
set_option maxRecDepth 20000 in
theorem pk_decd_276 : (bq cX9_unlike 0 42 = true) ∧ ((bq cX9_unlike 1 180 && bq cX9_unlike (1 + 1) 0 && bq cX9_unlike (1 + 2) 26 && (0 * 256 + 26 == 26)) = true) ∧ (bq cX9_unlike 4 27 = true) ∧ (bq cX9_unlike 5 46 = true) ∧ (bq cX9_unlike 6 42 = true) ∧ ((bq cX9_unlike 7 180 && bq cX9_unlike (7 + 1) 0 && bq cX9_unlike (7 + 2) 26 && (0 * 256 + 26 == 26)) = true) ∧ (bq cX9_unlike 10 28 = true) ∧ (bq cX9_unlike 11 46 = true) ∧ ((bq cX9_unlike 12 162 && bq cX9_unlike (12 + 1) 0 && bq cX9_unlike (12 + 2) 12 && (Reader.signed 16 (0 * 256 + 12) == 12)) = true) ∧ (bq cX9_unlike 15 42 = true) ∧ ((bq cX9_unlike 16 180 && bq cX9_unlike (16 + 1) 0 && bq cX9_unlike (16 + 2) 26 && (0 * 256 + 26 == 26)) = true) ∧ (bq cX9_unlike 19 27 = true) ∧ (bq cX9_unlike 20 46 = true) ∧ ((bq cX9_unlike 21 167 && bq cX9_unlike (21 + 1) 0 && bq cX9_unlike (21 + 2) 9 && (Reader.signed 16 (0 * 256 + 9) == 9)) = true) ∧ (bq cX9_unlike 24 42 = true) ∧ ((bq cX9_unlike 25 180 && bq cX9_unlike (25 + 1) 0 && bq cX9_unlike (25 + 2) 26 && (0 * 256 + 26 == 26)) = true) ∧ (bq cX9_unlike 28 28 = true) ∧ (bq cX9_unlike 29 46 = true) ∧ (bq cX9_unlike 30 62 = true) ∧ (bq cX9_unlike 31 3 = true) ∧ ((bq cX9_unlike 32 54 && bq cX9_unlike (32 + 1) 4) = true) ∧ ((bq cX9_unlike 34 21 && bq cX9_unlike (34 + 1) 4) = true) ∧ (bq cX9_unlike 36 29 = true) ∧ ((bq cX9_unlike 37 162 && bq cX9_unlike (37 + 1) 0 && bq cX9_unlike (37 + 2) 43 && (Reader.signed 16 (0 * 256 + 43) == 43)) = true) ∧ (bq cX9_unlike 40 42 = true) ∧ ((bq cX9_unlike 41 180 && bq cX9_unlike (41 + 1) 0 && bq cX9_unlike (41 + 2) 20 && (0 * 256 + 20 == 20)) = true) ∧ ((bq cX9_unlike 44 17 && bq cX9_unlike (44 + 1) 1 && bq cX9_unlike (44 + 2) 0 && (Reader.signed 16 (1 * 256 + 0) == 256)) = true) ∧ (bq cX9_unlike 47 27 = true) ∧ (bq cX9_unlike 48 104 = true) ∧ ((bq cX9_unlike 49 21 && bq cX9_unlike (49 + 1) 4) = true) ∧ (bq cX9_unlike 51 96 = true) ∧ (bq cX9_unlike 52 46 = true) := by decide +kernel
theorem dX9_unlike_0 : decode cX9_unlike 0 = .ok (.aload_n 0, 1) := dr_42  pk_decd_276.1
theorem dX9_unlike_1 : decode cX9_unlike 1 = .ok (.getfield 26, 3) := dr_180 0 26  pk_decd_276.2.1
theorem dX9_unlike_4 : decode cX9_unlike 4 = .ok (.iload_n 1, 1) := dr_27  pk_decd_276.2.2.1
theorem dX9_unlike_5 : decode cX9_unlike 5 = .ok (.iaload, 1) := dr_46  pk_decd_276.2.2.2.1
theorem dX9_unlike_6 : decode cX9_unlike 6 = .ok (.aload_n 0, 1) := dr_42  pk_decd_276.2.2.2.2.1
theorem dX9_unlike_7 : decode cX9_unlike 7 = .ok (.getfield 26, 3) := dr_180 0 26  pk_decd_276.2.2.2.2.2.1
theorem dX9_unlike_10 : decode cX9_unlike 10 = .ok (.iload_n 2, 1) := dr_28  pk_decd_276.2.2.2.2.2.2.1
theorem dX9_unlike_11 : decode cX9_unlike 11 = .ok (.iaload, 1) := dr_46  pk_decd_276.2.2.2.2.2.2.2.1
theorem dX9_unlike_12 : decode cX9_unlike 12 = .ok (.if_icmp .ge 12, 3) := dr_162 0 12  pk_decd_276.2.2.2.2.2.2.2.2.1
theorem dX9_unlike_15 : decode cX9_unlike 15 = .ok (.aload_n 0, 1) := dr_42  pk_decd_276.2.2.2.2.2.2.2.2.2.1
theorem dX9_unlike_16 : decode cX9_unlike 16 = .ok (.getfield 26, 3) := dr_180 0 26  pk_decd_276.2.2.2.2.2.2.2.2.2.2.1
theorem dX9_unlike_19 : decode cX9_unlike 19 = .ok (.iload_n 1, 1) := dr_27  pk_decd_276.2.2.2.2.2.2.2.2.2.2.2.1
theorem dX9_unlike_20 : decode cX9_unlike 20 = .ok (.iaload, 1) := dr_46  pk_decd_276.2.2.2.2.2.2.2.2.2.2.2.2.1
theorem dX9_unlike_21 : decode cX9_unlike 21 = .ok (.goto 9, 3) := dr_167 0 9  pk_decd_276.2.2.2.2.2.2.2.2.2.2.2.2.2.1
theorem dX9_unlike_24 : decode cX9_unlike 24 = .ok (.aload_n 0, 1) := dr_42  pk_decd_276.2.2.2.2.2.2.2.2.2.2.2.2.2.2.1
theorem dX9_unlike_25 : decode cX9_unlike 25 = .ok (.getfield 26, 3) := dr_180 0 26  pk_decd_276.2.2.2.2.2.2.2.2.2.2.2.2.2.2.2.1
theorem dX9_unlike_28 : decode cX9_unlike 28 = .ok (.iload_n 2, 1) := dr_28  pk_decd_276.2.2.2.2.2.2.2.2.2.2.2.2.2.2.2.2.1
theorem dX9_unlike_29 : decode cX9_unlike 29 = .ok (.iaload, 1) := dr_46  pk_decd_276.2.2.2.2.2.2.2.2.2.2.2.2.2.2.2.2.2.1
theorem dX9_unlike_30 : decode cX9_unlike 30 = .ok (.istore_n 3, 1) := dr_62  pk_decd_276.2.2.2.2.2.2.2.2.2.2.2.2.2.2.2.2.2.2.1
theorem dX9_unlike_31 : decode cX9_unlike 31 = .ok (.iconst 0, 1) := dr_3  pk_decd_276.2.2.2.2.2.2.2.2.2.2.2.2.2.2.2.2.2.2.2.1
theorem dX9_unlike_32 : decode cX9_unlike 32 = .ok (.istore 4, 2) := dr_54  pk_decd_276.2.2.2.2.2.2.2.2.2.2.2.2.2.2.2.2.2.2.2.2.1
theorem dX9_unlike_34 : decode cX9_unlike 34 = .ok (.iload 4, 2) := dr_21  pk_decd_276.2.2.2.2.2.2.2.2.2.2.2.2.2.2.2.2.2.2.2.2.2.1
theorem dX9_unlike_36 : decode cX9_unlike 36 = .ok (.iload_n 3, 1) := dr_29  pk_decd_276.2.2.2.2.2.2.2.2.2.2.2.2.2.2.2.2.2.2.2.2.2.2.1
theorem dX9_unlike_37 : decode cX9_unlike 37 = .ok (.if_icmp .ge 43, 3) := dr_162 0 43  pk_decd_276.2.2.2.2.2.2.2.2.2.2.2.2.2.2.2.2.2.2.2.2.2.2.2.1
theorem dX9_unlike_40 : decode cX9_unlike 40 = .ok (.aload_n 0, 1) := dr_42  pk_decd_276.2.2.2.2.2.2.2.2.2.2.2.2.2.2.2.2.2.2.2.2.2.2.2.2.1
theorem dX9_unlike_41 : decode cX9_unlike 41 = .ok (.getfield 20, 3) := dr_180 0 20  pk_decd_276.2.2.2.2.2.2.2.2.2.2.2.2.2.2.2.2.2.2.2.2.2.2.2.2.2.1
theorem dX9_unlike_44 : decode cX9_unlike 44 = .ok (.sipush 256, 3) := dr_17 1 0  pk_decd_276.2.2.2.2.2.2.2.2.2.2.2.2.2.2.2.2.2.2.2.2.2.2.2.2.2.2.1
theorem dX9_unlike_47 : decode cX9_unlike 47 = .ok (.iload_n 1, 1) := dr_27  pk_decd_276.2.2.2.2.2.2.2.2.2.2.2.2.2.2.2.2.2.2.2.2.2.2.2.2.2.2.2.1
theorem dX9_unlike_48 : decode cX9_unlike 48 = .ok (.imul, 1) := dr_104  pk_decd_276.2.2.2.2.2.2.2.2.2.2.2.2.2.2.2.2.2.2.2.2.2.2.2.2.2.2.2.2.1
theorem dX9_unlike_49 : decode cX9_unlike 49 = .ok (.iload 4, 2) := dr_21  pk_decd_276.2.2.2.2.2.2.2.2.2.2.2.2.2.2.2.2.2.2.2.2.2.2.2.2.2.2.2.2.2.1
theorem dX9_unlike_51 : decode cX9_unlike 51 = .ok (.iadd, 1) := dr_96  pk_decd_276.2.2.2.2.2.2.2.2.2.2.2.2.2.2.2.2.2.2.2.2.2.2.2.2.2.2.2.2.2.2.1
theorem dX9_unlike_52 : decode cX9_unlike 52 = .ok (.iaload, 1) := dr_46  pk_decd_276.2.2.2.2.2.2.2.2.2.2.2.2.2.2.2.2.2.2.2.2.2.2.2.2.2.2.2.2.2.2.2
set_option maxRecDepth 20000 in
theorem pk_decd_277 : (bq cX9_unlike 53 42 = true) ∧ ((bq cX9_unlike 54 180 && bq cX9_unlike (54 + 1) 0 && bq cX9_unlike (54 + 2) 20 && (0 * 256 + 20 == 20)) = true) ∧ ((bq cX9_unlike 57 17 && bq cX9_unlike (57 + 1) 1 && bq cX9_unlike (57 + 2) 0 && (Reader.signed 16 (1 * 256 + 0) == 256)) = true) ∧ (bq cX9_unlike 60 28 = true) ∧ (bq cX9_unlike 61 104 = true) ∧ ((bq cX9_unlike 62 21 && bq cX9_unlike (62 + 1) 4) = true) ∧ (bq cX9_unlike 64 96 = true) ∧ (bq cX9_unlike 65 46 = true) ∧ ((bq cX9_unlike 66 159 && bq cX9_unlike (66 + 1) 0 && bq cX9_unlike (66 + 2) 8 && (Reader.signed 16 (0 * 256 + 8) == 8)) = true) ∧ (bq cX9_unlike 69 4 = true) ∧ ((bq cX9_unlike 70 21 && bq cX9_unlike (70 + 1) 4) = true) ∧ (bq cX9_unlike 72 96 = true) ∧ (bq cX9_unlike 73 172 = true) := by decide +kernel
theorem dX9_unlike_53 : decode cX9_unlike 53 = .ok (.aload_n 0, 1) := dr_42  pk_decd_277.1
theorem dX9_unlike_54 : decode cX9_unlike 54 = .ok (.getfield 20, 3) := dr_180 0 20  pk_decd_277.2.1
theorem dX9_unlike_57 : decode cX9_unlike 57 = .ok (.sipush 256, 3) := dr_17 1 0  pk_decd_277.2.2.1
theorem dX9_unlike_60 : decode cX9_unlike 60 = .ok (.iload_n 2, 1) := dr_28  pk_decd_277.2.2.2.1
theorem dX9_unlike_61 : decode cX9_unlike 61 = .ok (.imul, 1) := dr_104  pk_decd_277.2.2.2.2.1
theorem dX9_unlike_62 : decode cX9_unlike 62 = .ok (.iload 4, 2) := dr_21  pk_decd_277.2.2.2.2.2.1
theorem dX9_unlike_64 : decode cX9_unlike 64 = .ok (.iadd, 1) := dr_96  pk_decd_277.2.2.2.2.2.2.1
theorem dX9_unlike_65 : decode cX9_unlike 65 = .ok (.iaload, 1) := dr_46  pk_decd_277.2.2.2.2.2.2.2.1
theorem dX9_unlike_66 : decode cX9_unlike 66 = .ok (.if_icmp .eq 8, 3) := dr_159 0 8  pk_decd_277.2.2.2.2.2.2.2.2.1
theorem dX9_unlike_69 : decode cX9_unlike 69 = .ok (.iconst 1, 1) := dr_4  pk_decd_277.2.2.2.2.2.2.2.2.2.1
theorem dX9_unlike_70 : decode cX9_unlike 70 = .ok (.iload 4, 2) := dr_21  pk_decd_277.2.2.2.2.2.2.2.2.2.2.1
theorem dX9_unlike_72 : decode cX9_unlike 72 = .ok (.iadd, 1) := dr_96  pk_decd_277.2.2.2.2.2.2.2.2.2.2.2.1
theorem dX9_unlike_73 : decode cX9_unlike 73 = .ok (.ireturn, 1) := dr_172  pk_decd_277.2.2.2.2.2.2.2.2.2.2.2.2
theorem dX9_unlike_74 : decode cX9_unlike 74 = .ok (.iinc 4 1, 3) := by decide +kernel
set_option maxRecDepth 20000 in
theorem pk_decd_278 : ((bq cX9_unlike 77 167 && bq cX9_unlike (77 + 1) 255 && bq cX9_unlike (77 + 2) 213 && (Reader.signed 16 (255 * 256 + 213) == (-43))) = true) ∧ (bq cX9_unlike 80 42 = true) ∧ ((bq cX9_unlike 81 180 && bq cX9_unlike (81 + 1) 0 && bq cX9_unlike (81 + 2) 26 && (0 * 256 + 26 == 26)) = true) ∧ (bq cX9_unlike 84 27 = true) ∧ (bq cX9_unlike 85 46 = true) ∧ (bq cX9_unlike 86 42 = true) ∧ ((bq cX9_unlike 87 180 && bq cX9_unlike (87 + 1) 0 && bq cX9_unlike (87 + 2) 26 && (0 * 256 + 26 == 26)) = true) ∧ (bq cX9_unlike 90 28 = true) ∧ (bq cX9_unlike 91 46 = true) ∧ ((bq cX9_unlike 92 160 && bq cX9_unlike (92 + 1) 0 && bq cX9_unlike (92 + 2) 7 && (Reader.signed 16 (0 * 256 + 7) == 7)) = true) ∧ (bq cX9_unlike 95 3 = true) ∧ ((bq cX9_unlike 96 167 && bq cX9_unlike (96 + 1) 0 && bq cX9_unlike (96 + 2) 6 && (Reader.signed 16 (0 * 256 + 6) == 6)) = true) ∧ (bq cX9_unlike 99 4 = true) ∧ (bq cX9_unlike 100 29 = true) ∧ (bq cX9_unlike 101 96 = true) ∧ (bq cX9_unlike 102 172 = true) := by decide +kernel
theorem dX9_unlike_77 : decode cX9_unlike 77 = .ok (.goto (-43), 3) := dr_167 255 213  pk_decd_278.1
theorem dX9_unlike_80 : decode cX9_unlike 80 = .ok (.aload_n 0, 1) := dr_42  pk_decd_278.2.1
theorem dX9_unlike_81 : decode cX9_unlike 81 = .ok (.getfield 26, 3) := dr_180 0 26  pk_decd_278.2.2.1
theorem dX9_unlike_84 : decode cX9_unlike 84 = .ok (.iload_n 1, 1) := dr_27  pk_decd_278.2.2.2.1
theorem dX9_unlike_85 : decode cX9_unlike 85 = .ok (.iaload, 1) := dr_46  pk_decd_278.2.2.2.2.1
theorem dX9_unlike_86 : decode cX9_unlike 86 = .ok (.aload_n 0, 1) := dr_42  pk_decd_278.2.2.2.2.2.1
theorem dX9_unlike_87 : decode cX9_unlike 87 = .ok (.getfield 26, 3) := dr_180 0 26  pk_decd_278.2.2.2.2.2.2.1
theorem dX9_unlike_90 : decode cX9_unlike 90 = .ok (.iload_n 2, 1) := dr_28  pk_decd_278.2.2.2.2.2.2.2.1
theorem dX9_unlike_91 : decode cX9_unlike 91 = .ok (.iaload, 1) := dr_46  pk_decd_278.2.2.2.2.2.2.2.2.1
theorem dX9_unlike_92 : decode cX9_unlike 92 = .ok (.if_icmp .ne 7, 3) := dr_160 0 7  pk_decd_278.2.2.2.2.2.2.2.2.2.1
theorem dX9_unlike_95 : decode cX9_unlike 95 = .ok (.iconst 0, 1) := dr_3  pk_decd_278.2.2.2.2.2.2.2.2.2.2.1
theorem dX9_unlike_96 : decode cX9_unlike 96 = .ok (.goto 6, 3) := dr_167 0 6  pk_decd_278.2.2.2.2.2.2.2.2.2.2.2.1
theorem dX9_unlike_99 : decode cX9_unlike 99 = .ok (.iconst 1, 1) := dr_4  pk_decd_278.2.2.2.2.2.2.2.2.2.2.2.2.1
theorem dX9_unlike_100 : decode cX9_unlike 100 = .ok (.iload_n 3, 1) := dr_29  pk_decd_278.2.2.2.2.2.2.2.2.2.2.2.2.2.1
theorem dX9_unlike_101 : decode cX9_unlike 101 = .ok (.iadd, 1) := dr_96  pk_decd_278.2.2.2.2.2.2.2.2.2.2.2.2.2.2.1
theorem dX9_unlike_102 : decode cX9_unlike 102 = .ok (.ireturn, 1) := dr_172  pk_decd_278.2.2.2.2.2.2.2.2.2.2.2.2.2.2.2
set_option maxRecDepth 20000 in
theorem pk_decd_279 : (bq cX9_again 0 42 = true) ∧ ((bq cX9_again 1 180 && bq cX9_again (1 + 1) 0 && bq cX9_again (1 + 2) 29 && (0 * 256 + 29 == 29)) = true) ∧ (bq cX9_again 4 27 = true) ∧ (bq cX9_again 5 46 = true) ∧ (bq cX9_again 6 5 = true) ∧ ((bq cX9_again 7 160 && bq cX9_again (7 + 1) 0 && bq cX9_again (7 + 2) 51 && (Reader.signed 16 (0 * 256 + 51) == 51)) = true) ∧ (bq cX9_again 10 42 = true) ∧ (bq cX9_again 11 42 = true) ∧ ((bq cX9_again 12 180 && bq cX9_again (12 + 1) 0 && bq cX9_again (12 + 2) 35 && (0 * 256 + 35 == 35)) = true) ∧ (bq cX9_again 15 27 = true) ∧ (bq cX9_again 16 46 = true) ∧ (bq cX9_again 17 42 = true) ∧ ((bq cX9_again 18 180 && bq cX9_again (18 + 1) 0 && bq cX9_again (18 + 2) 32 && (0 * 256 + 32 == 32)) = true) ∧ (bq cX9_again 21 27 = true) ∧ (bq cX9_again 22 46 = true) ∧ ((bq cX9_again 23 16 && bq cX9_again (23 + 1) 12 && (Reader.signed 8 12 == 12)) = true) ∧ ((bq cX9_again 25 182 && bq cX9_again (25 + 1) 0 && bq cX9_again (25 + 2) 211 && (0 * 256 + 211 == 211)) = true) ∧ (bq cX9_again 28 61 = true) ∧ (bq cX9_again 29 28 = true) := by decide +kernel
theorem dX9_again_0 : decode cX9_again 0 = .ok (.aload_n 0, 1) := dr_42  pk_decd_279.1
theorem dX9_again_1 : decode cX9_again 1 = .ok (.getfield 29, 3) := dr_180 0 29  pk_decd_279.2.1
theorem dX9_again_4 : decode cX9_again 4 = .ok (.iload_n 1, 1) := dr_27  pk_decd_279.2.2.1
theorem dX9_again_5 : decode cX9_again 5 = .ok (.iaload, 1) := dr_46  pk_decd_279.2.2.2.1
theorem dX9_again_6 : decode cX9_again 6 = .ok (.iconst 2, 1) := dr_5  pk_decd_279.2.2.2.2.1
theorem dX9_again_7 : decode cX9_again 7 = .ok (.if_icmp .ne 51, 3) := dr_160 0 51  pk_decd_279.2.2.2.2.2.1
theorem dX9_again_10 : decode cX9_again 10 = .ok (.aload_n 0, 1) := dr_42  pk_decd_279.2.2.2.2.2.2.1
theorem dX9_again_11 : decode cX9_again 11 = .ok (.aload_n 0, 1) := dr_42  pk_decd_279.2.2.2.2.2.2.2.1
theorem dX9_again_12 : decode cX9_again 12 = .ok (.getfield 35, 3) := dr_180 0 35  pk_decd_279.2.2.2.2.2.2.2.2.1
theorem dX9_again_15 : decode cX9_again 15 = .ok (.iload_n 1, 1) := dr_27  pk_decd_279.2.2.2.2.2.2.2.2.2.1
theorem dX9_again_16 : decode cX9_again 16 = .ok (.iaload, 1) := dr_46  pk_decd_279.2.2.2.2.2.2.2.2.2.2.1
theorem dX9_again_17 : decode cX9_again 17 = .ok (.aload_n 0, 1) := dr_42  pk_decd_279.2.2.2.2.2.2.2.2.2.2.2.1
theorem dX9_again_18 : decode cX9_again 18 = .ok (.getfield 32, 3) := dr_180 0 32  pk_decd_279.2.2.2.2.2.2.2.2.2.2.2.2.1
theorem dX9_again_21 : decode cX9_again 21 = .ok (.iload_n 1, 1) := dr_27  pk_decd_279.2.2.2.2.2.2.2.2.2.2.2.2.2.1
theorem dX9_again_22 : decode cX9_again 22 = .ok (.iaload, 1) := dr_46  pk_decd_279.2.2.2.2.2.2.2.2.2.2.2.2.2.2.1
theorem dX9_again_23 : decode cX9_again 23 = .ok (.bipush 12, 2) := dr_16 12  pk_decd_279.2.2.2.2.2.2.2.2.2.2.2.2.2.2.2.1
theorem dX9_again_25 : decode cX9_again 25 = .ok (.invokevirtual 211, 3) := dr_182 0 211  pk_decd_279.2.2.2.2.2.2.2.2.2.2.2.2.2.2.2.2.1
theorem dX9_again_28 : decode cX9_again 28 = .ok (.istore_n 2, 1) := dr_61  pk_decd_279.2.2.2.2.2.2.2.2.2.2.2.2.2.2.2.2.2.1
theorem dX9_again_29 : decode cX9_again 29 = .ok (.iload_n 2, 1) := dr_28  pk_decd_279.2.2.2.2.2.2.2.2.2.2.2.2.2.2.2.2.2.2
