set_option maxRecDepth 20000 in
theorem pk_decc_173 : (bq cX9_init 0 42 = true) ∧ ((bq cX9_init 1 183 && bq cX9_init (1 + 1) 0 && bq cX9_init (1 + 2) 1 && (0 * 256 + 1 == 1)) = true) ∧ (bq cX9_init 4 42 = true) ∧ ((bq cX9_init 5 17 && bq cX9_init (5 + 1) 0 && bq cX9_init (5 + 2) 200 && (Reader.signed 16 (0 * 256 + 200) == 200)) = true) := by decide +kernel
theorem dX9_init_0 : decode cX9_init 0 = .ok (.aload_n 0, 1) := dr_42  pk_decc_173.1
theorem dX9_init_1 : decode cX9_init 1 = .ok (.invokespecial 1, 3) := dr_183 0 1  pk_decc_173.2.1
theorem dX9_init_4 : decode cX9_init 4 = .ok (.aload_n 0, 1) := dr_42  pk_decc_173.2.2.1
theorem dX9_init_5 : decode cX9_init 5 = .ok (.sipush 200, 3) := dr_17 0 200  pk_decc_173.2.2.2
theorem dX9_init_8 : decode cX9_init 8 = .ok (.newarray .byte, 2) := by decide +kernel
set_option maxRecDepth 20000 in
theorem pk_decc_174 : ((bq cX9_init 10 181 && bq cX9_init (10 + 1) 0 && bq cX9_init (10 + 2) 7 && (0 * 256 + 7 == 7)) = true) ∧ (bq cX9_init 13 42 = true) ∧ ((bq cX9_init 14 17 && bq cX9_init (14 + 1) 6 && bq cX9_init (14 + 2) 64 && (Reader.signed 16 (6 * 256 + 64) == 1600)) = true) := by decide +kernel
theorem dX9_init_10 : decode cX9_init 10 = .ok (.putfield 7, 3) := dr_181 0 7  pk_decc_174.1
theorem dX9_init_13 : decode cX9_init 13 = .ok (.aload_n 0, 1) := dr_42  pk_decc_174.2.1
theorem dX9_init_14 : decode cX9_init 14 = .ok (.sipush 1600, 3) := dr_17 6 64  pk_decc_174.2.2
theorem dX9_init_17 : decode cX9_init 17 = .ok (.newarray .byte, 2) := by decide +kernel
set_option maxRecDepth 20000 in
theorem pk_decc_175 : ((bq cX9_init 19 181 && bq cX9_init (19 + 1) 0 && bq cX9_init (19 + 2) 13 && (0 * 256 + 13 == 13)) = true) ∧ (bq cX9_init 22 42 = true) ∧ ((bq cX9_init 23 16 && bq cX9_init (23 + 1) 8 && (Reader.signed 8 8 == 8)) = true) := by decide +kernel
theorem dX9_init_19 : decode cX9_init 19 = .ok (.putfield 13, 3) := dr_181 0 13  pk_decc_175.1
theorem dX9_init_22 : decode cX9_init 22 = .ok (.aload_n 0, 1) := dr_42  pk_decc_175.2.1
theorem dX9_init_23 : decode cX9_init 23 = .ok (.bipush 8, 2) := dr_16 8  pk_decc_175.2.2
theorem dX9_init_25 : decode cX9_init 25 = .ok (.newarray .int, 2) := by decide +kernel
set_option maxRecDepth 20000 in
theorem pk_decc_176 : ((bq cX9_init 27 181 && bq cX9_init (27 + 1) 0 && bq cX9_init (27 + 2) 16 && (0 * 256 + 16 == 16)) = true) ∧ (bq cX9_init 30 42 = true) ∧ ((bq cX9_init 31 17 && bq cX9_init (31 + 1) 16 && bq cX9_init (31 + 2) 0 && (Reader.signed 16 (16 * 256 + 0) == 4096)) = true) := by decide +kernel
theorem dX9_init_27 : decode cX9_init 27 = .ok (.putfield 16, 3) := dr_181 0 16  pk_decc_176.1
theorem dX9_init_30 : decode cX9_init 30 = .ok (.aload_n 0, 1) := dr_42  pk_decc_176.2.1
theorem dX9_init_31 : decode cX9_init 31 = .ok (.sipush 4096, 3) := dr_17 16 0  pk_decc_176.2.2
theorem dX9_init_34 : decode cX9_init 34 = .ok (.newarray .int, 2) := by decide +kernel
set_option maxRecDepth 20000 in
theorem pk_decc_177 : ((bq cX9_init 36 181 && bq cX9_init (36 + 1) 0 && bq cX9_init (36 + 2) 20 && (0 * 256 + 20 == 20)) = true) ∧ (bq cX9_init 39 42 = true) ∧ ((bq cX9_init 40 17 && bq cX9_init (40 + 1) 16 && bq cX9_init (40 + 2) 0 && (Reader.signed 16 (16 * 256 + 0) == 4096)) = true) := by decide +kernel
theorem dX9_init_36 : decode cX9_init 36 = .ok (.putfield 20, 3) := dr_181 0 20  pk_decc_177.1
theorem dX9_init_39 : decode cX9_init 39 = .ok (.aload_n 0, 1) := dr_42  pk_decc_177.2.1
theorem dX9_init_40 : decode cX9_init 40 = .ok (.sipush 4096, 3) := dr_17 16 0  pk_decc_177.2.2
theorem dX9_init_43 : decode cX9_init 43 = .ok (.newarray .int, 2) := by decide +kernel
set_option maxRecDepth 20000 in
theorem pk_decc_178 : ((bq cX9_init 45 181 && bq cX9_init (45 + 1) 0 && bq cX9_init (45 + 2) 23 && (0 * 256 + 23 == 23)) = true) ∧ (bq cX9_init 48 42 = true) ∧ ((bq cX9_init 49 16 && bq cX9_init (49 + 1) 16 && (Reader.signed 8 16 == 16)) = true) := by decide +kernel
theorem dX9_init_45 : decode cX9_init 45 = .ok (.putfield 23, 3) := dr_181 0 23  pk_decc_178.1
theorem dX9_init_48 : decode cX9_init 48 = .ok (.aload_n 0, 1) := dr_42  pk_decc_178.2.1
theorem dX9_init_49 : decode cX9_init 49 = .ok (.bipush 16, 2) := dr_16 16  pk_decc_178.2.2
theorem dX9_init_51 : decode cX9_init 51 = .ok (.newarray .int, 2) := by decide +kernel
set_option maxRecDepth 20000 in
theorem pk_decc_179 : ((bq cX9_init 53 181 && bq cX9_init (53 + 1) 0 && bq cX9_init (53 + 2) 26 && (0 * 256 + 26 == 26)) = true) ∧ (bq cX9_init 56 42 = true) ∧ ((bq cX9_init 57 16 && bq cX9_init (57 + 1) 12 && (Reader.signed 8 12 == 12)) = true) := by decide +kernel
theorem dX9_init_53 : decode cX9_init 53 = .ok (.putfield 26, 3) := dr_181 0 26  pk_decc_179.1
theorem dX9_init_56 : decode cX9_init 56 = .ok (.aload_n 0, 1) := dr_42  pk_decc_179.2.1
theorem dX9_init_57 : decode cX9_init 57 = .ok (.bipush 12, 2) := dr_16 12  pk_decc_179.2.2
theorem dX9_init_59 : decode cX9_init 59 = .ok (.newarray .int, 2) := by decide +kernel
set_option maxRecDepth 20000 in
theorem pk_decc_180 : ((bq cX9_init 61 181 && bq cX9_init (61 + 1) 0 && bq cX9_init (61 + 2) 29 && (0 * 256 + 29 == 29)) = true) ∧ (bq cX9_init 64 42 = true) ∧ ((bq cX9_init 65 16 && bq cX9_init (65 + 1) 12 && (Reader.signed 8 12 == 12)) = true) := by decide +kernel
theorem dX9_init_61 : decode cX9_init 61 = .ok (.putfield 29, 3) := dr_181 0 29  pk_decc_180.1
theorem dX9_init_64 : decode cX9_init 64 = .ok (.aload_n 0, 1) := dr_42  pk_decc_180.2.1
theorem dX9_init_65 : decode cX9_init 65 = .ok (.bipush 12, 2) := dr_16 12  pk_decc_180.2.2
theorem dX9_init_67 : decode cX9_init 67 = .ok (.newarray .int, 2) := by decide +kernel
set_option maxRecDepth 20000 in
theorem pk_decc_181 : ((bq cX9_init 69 181 && bq cX9_init (69 + 1) 0 && bq cX9_init (69 + 2) 32 && (0 * 256 + 32 == 32)) = true) ∧ (bq cX9_init 72 42 = true) ∧ ((bq cX9_init 73 16 && bq cX9_init (73 + 1) 12 && (Reader.signed 8 12 == 12)) = true) := by decide +kernel
theorem dX9_init_69 : decode cX9_init 69 = .ok (.putfield 32, 3) := dr_181 0 32  pk_decc_181.1
theorem dX9_init_72 : decode cX9_init 72 = .ok (.aload_n 0, 1) := dr_42  pk_decc_181.2.1
theorem dX9_init_73 : decode cX9_init 73 = .ok (.bipush 12, 2) := dr_16 12  pk_decc_181.2.2
theorem dX9_init_75 : decode cX9_init 75 = .ok (.newarray .int, 2) := by decide +kernel
set_option maxRecDepth 20000 in
theorem pk_decc_182 : ((bq cX9_init 77 181 && bq cX9_init (77 + 1) 0 && bq cX9_init (77 + 2) 35 && (0 * 256 + 35 == 35)) = true) ∧ (bq cX9_init 80 42 = true) ∧ ((bq cX9_init 81 16 && bq cX9_init (81 + 1) 12 && (Reader.signed 8 12 == 12)) = true) := by decide +kernel
theorem dX9_init_77 : decode cX9_init 77 = .ok (.putfield 35, 3) := dr_181 0 35  pk_decc_182.1
theorem dX9_init_80 : decode cX9_init 80 = .ok (.aload_n 0, 1) := dr_42  pk_decc_182.2.1
theorem dX9_init_81 : decode cX9_init 81 = .ok (.bipush 12, 2) := dr_16 12  pk_decc_182.2.2
theorem dX9_init_83 : decode cX9_init 83 = .ok (.newarray .int, 2) := by decide +kernel
set_option maxRecDepth 20000 in
theorem pk_decc_183 : ((bq cX9_init 85 181 && bq cX9_init (85 + 1) 0 && bq cX9_init (85 + 2) 38 && (0 * 256 + 38 == 38)) = true) ∧ (bq cX9_init 88 42 = true) ∧ ((bq cX9_init 89 16 && bq cX9_init (89 + 1) 26 && (Reader.signed 8 26 == 26)) = true) := by decide +kernel
theorem dX9_init_85 : decode cX9_init 85 = .ok (.putfield 38, 3) := dr_181 0 38  pk_decc_183.1
theorem dX9_init_88 : decode cX9_init 88 = .ok (.aload_n 0, 1) := dr_42  pk_decc_183.2.1
theorem dX9_init_89 : decode cX9_init 89 = .ok (.bipush 26, 2) := dr_16 26  pk_decc_183.2.2
theorem dX9_init_91 : decode cX9_init 91 = .ok (.newarray .int, 2) := by decide +kernel
set_option maxRecDepth 20000 in
theorem pk_decc_184 : ((bq cX9_init 93 181 && bq cX9_init (93 + 1) 0 && bq cX9_init (93 + 2) 41 && (0 * 256 + 41 == 41)) = true) ∧ (bq cX9_init 96 42 = true) ∧ ((bq cX9_init 97 17 && bq cX9_init (97 + 1) 1 && bq cX9_init (97 + 2) 0 && (Reader.signed 16 (1 * 256 + 0) == 256)) = true) := by decide +kernel
theorem dX9_init_93 : decode cX9_init 93 = .ok (.putfield 41, 3) := dr_181 0 41  pk_decc_184.1
theorem dX9_init_96 : decode cX9_init 96 = .ok (.aload_n 0, 1) := dr_42  pk_decc_184.2.1
theorem dX9_init_97 : decode cX9_init 97 = .ok (.sipush 256, 3) := dr_17 1 0  pk_decc_184.2.2
theorem dX9_init_100 : decode cX9_init 100 = .ok (.newarray .int, 2) := by decide +kernel
set_option maxRecDepth 20000 in
theorem pk_decc_185 : ((bq cX9_init 102 181 && bq cX9_init (102 + 1) 0 && bq cX9_init (102 + 2) 44 && (0 * 256 + 44 == 44)) = true) ∧ (bq cX9_init 105 42 = true) ∧ ((bq cX9_init 106 17 && bq cX9_init (106 + 1) 1 && bq cX9_init (106 + 2) 0 && (Reader.signed 16 (1 * 256 + 0) == 256)) = true) := by decide +kernel
theorem dX9_init_102 : decode cX9_init 102 = .ok (.putfield 44, 3) := dr_181 0 44  pk_decc_185.1
theorem dX9_init_105 : decode cX9_init 105 = .ok (.aload_n 0, 1) := dr_42  pk_decc_185.2.1
theorem dX9_init_106 : decode cX9_init 106 = .ok (.sipush 256, 3) := dr_17 1 0  pk_decc_185.2.2
theorem dX9_init_109 : decode cX9_init 109 = .ok (.newarray .int, 2) := by decide +kernel
set_option maxRecDepth 20000 in
theorem pk_decc_186 : ((bq cX9_init 111 181 && bq cX9_init (111 + 1) 0 && bq cX9_init (111 + 2) 47 && (0 * 256 + 47 == 47)) = true) ∧ (bq cX9_init 114 42 = true) ∧ ((bq cX9_init 115 17 && bq cX9_init (115 + 1) 1 && bq cX9_init (115 + 2) 0 && (Reader.signed 16 (1 * 256 + 0) == 256)) = true) := by decide +kernel
theorem dX9_init_111 : decode cX9_init 111 = .ok (.putfield 47, 3) := dr_181 0 47  pk_decc_186.1
theorem dX9_init_114 : decode cX9_init 114 = .ok (.aload_n 0, 1) := dr_42  pk_decc_186.2.1
theorem dX9_init_115 : decode cX9_init 115 = .ok (.sipush 256, 3) := dr_17 1 0  pk_decc_186.2.2
theorem dX9_init_118 : decode cX9_init 118 = .ok (.newarray .int, 2) := by decide +kernel
set_option maxRecDepth 20000 in
theorem pk_decc_187 : ((bq cX9_init 120 181 && bq cX9_init (120 + 1) 0 && bq cX9_init (120 + 2) 50 && (0 * 256 + 50 == 50)) = true) ∧ (bq cX9_init 123 42 = true) ∧ ((bq cX9_init 124 16 && bq cX9_init (124 + 1) 6 && (Reader.signed 8 6 == 6)) = true) := by decide +kernel
theorem dX9_init_120 : decode cX9_init 120 = .ok (.putfield 50, 3) := dr_181 0 50  pk_decc_187.1
theorem dX9_init_123 : decode cX9_init 123 = .ok (.aload_n 0, 1) := dr_42  pk_decc_187.2.1
theorem dX9_init_124 : decode cX9_init 124 = .ok (.bipush 6, 2) := dr_16 6  pk_decc_187.2.2
theorem dX9_init_126 : decode cX9_init 126 = .ok (.newarray .int, 2) := by decide +kernel
set_option maxRecDepth 20000 in
theorem pk_decc_188 : ((bq cX9_init 128 181 && bq cX9_init (128 + 1) 0 && bq cX9_init (128 + 2) 53 && (0 * 256 + 53 == 53)) = true) ∧ (bq cX9_init 131 42 = true) ∧ ((bq cX9_init 132 17 && bq cX9_init (132 + 1) 1 && bq cX9_init (132 + 2) 0 && (Reader.signed 16 (1 * 256 + 0) == 256)) = true) := by decide +kernel
theorem dX9_init_128 : decode cX9_init 128 = .ok (.putfield 53, 3) := dr_181 0 53  pk_decc_188.1
theorem dX9_init_131 : decode cX9_init 131 = .ok (.aload_n 0, 1) := dr_42  pk_decc_188.2.1
theorem dX9_init_132 : decode cX9_init 132 = .ok (.sipush 256, 3) := dr_17 1 0  pk_decc_188.2.2
theorem dX9_init_135 : decode cX9_init 135 = .ok (.newarray .int, 2) := by decide +kernel
set_option maxRecDepth 20000 in
theorem pk_decc_189 : ((bq cX9_init 137 181 && bq cX9_init (137 + 1) 0 && bq cX9_init (137 + 2) 56 && (0 * 256 + 56 == 56)) = true) ∧ (bq cX9_init 140 42 = true) ∧ ((bq cX9_init 141 17 && bq cX9_init (141 + 1) 1 && bq cX9_init (141 + 2) 0 && (Reader.signed 16 (1 * 256 + 0) == 256)) = true) := by decide +kernel
theorem dX9_init_137 : decode cX9_init 137 = .ok (.putfield 56, 3) := dr_181 0 56  pk_decc_189.1
theorem dX9_init_140 : decode cX9_init 140 = .ok (.aload_n 0, 1) := dr_42  pk_decc_189.2.1
theorem dX9_init_141 : decode cX9_init 141 = .ok (.sipush 256, 3) := dr_17 1 0  pk_decc_189.2.2
theorem dX9_init_144 : decode cX9_init 144 = .ok (.newarray .int, 2) := by decide +kernel
set_option maxRecDepth 20000 in
theorem pk_decc_190 : ((bq cX9_init 146 181 && bq cX9_init (146 + 1) 0 && bq cX9_init (146 + 2) 59 && (0 * 256 + 59 == 59)) = true) ∧ (bq cX9_init 149 42 = true) ∧ ((bq cX9_init 150 16 && bq cX9_init (150 + 1) 12 && (Reader.signed 8 12 == 12)) = true) := by decide +kernel
theorem dX9_init_146 : decode cX9_init 146 = .ok (.putfield 59, 3) := dr_181 0 59  pk_decc_190.1
theorem dX9_init_149 : decode cX9_init 149 = .ok (.aload_n 0, 1) := dr_42  pk_decc_190.2.1
theorem dX9_init_150 : decode cX9_init 150 = .ok (.bipush 12, 2) := dr_16 12  pk_decc_190.2.2
theorem dX9_init_152 : decode cX9_init 152 = .ok (.newarray .int, 2) := by decide +kernel
set_option maxRecDepth 20000 in
theorem pk_decc_191 : ((bq cX9_init 154 181 && bq cX9_init (154 + 1) 0 && bq cX9_init (154 + 2) 62 && (0 * 256 + 62 == 62)) = true) ∧ (bq cX9_init 157 42 = true) ∧ ((bq cX9_init 158 16 && bq cX9_init (158 + 1) 12 && (Reader.signed 8 12 == 12)) = true) := by decide +kernel
theorem dX9_init_154 : decode cX9_init 154 = .ok (.putfield 62, 3) := dr_181 0 62  pk_decc_191.1
theorem dX9_init_157 : decode cX9_init 157 = .ok (.aload_n 0, 1) := dr_42  pk_decc_191.2.1
theorem dX9_init_158 : decode cX9_init 158 = .ok (.bipush 12, 2) := dr_16 12  pk_decc_191.2.2
theorem dX9_init_160 : decode cX9_init 160 = .ok (.newarray .int, 2) := by decide +kernel
set_option maxRecDepth 20000 in
theorem pk_decc_192 : ((bq cX9_init 162 181 && bq cX9_init (162 + 1) 0 && bq cX9_init (162 + 2) 65 && (0 * 256 + 65 == 65)) = true) ∧ (bq cX9_init 165 42 = true) ∧ ((bq cX9_init 166 16 && bq cX9_init (166 + 1) 12 && (Reader.signed 8 12 == 12)) = true) := by decide +kernel
theorem dX9_init_162 : decode cX9_init 162 = .ok (.putfield 65, 3) := dr_181 0 65  pk_decc_192.1
theorem dX9_init_165 : decode cX9_init 165 = .ok (.aload_n 0, 1) := dr_42  pk_decc_192.2.1
theorem dX9_init_166 : decode cX9_init 166 = .ok (.bipush 12, 2) := dr_16 12  pk_decc_192.2.2
theorem dX9_init_168 : decode cX9_init 168 = .ok (.newarray .int, 2) := by decide +kernel
set_option maxRecDepth 20000 in
theorem pk_decc_193 : ((bq cX9_init 170 181 && bq cX9_init (170 + 1) 0 && bq cX9_init (170 + 2) 68 && (0 * 256 + 68 == 68)) = true) ∧ (bq cX9_init 173 42 = true) ∧ (bq cX9_init 174 3 = true) ∧ ((bq cX9_init 175 181 && bq cX9_init (175 + 1) 0 && bq cX9_init (175 + 2) 71 && (0 * 256 + 71 == 71)) = true) ∧ (bq cX9_init 178 177 = true) := by decide +kernel
theorem dX9_init_170 : decode cX9_init 170 = .ok (.putfield 68, 3) := dr_181 0 68  pk_decc_193.1
theorem dX9_init_173 : decode cX9_init 173 = .ok (.aload_n 0, 1) := dr_42  pk_decc_193.2.1
theorem dX9_init_174 : decode cX9_init 174 = .ok (.iconst 0, 1) := dr_3  pk_decc_193.2.2.1
theorem dX9_init_175 : decode cX9_init 175 = .ok (.putfield 71, 3) := dr_181 0 71  pk_decc_193.2.2.2.1
theorem dX9_init_178 : decode cX9_init 178 = .ok (.return_, 1) := dr_177  pk_decc_193.2.2.2.2
set_option maxRecDepth 20000 in
theorem pk_decc_194 : (bq cX9_in 0 26 = true) ∧ (bq cX9_in 1 27 = true) ∧ ((bq cX9_in 2 161 && bq cX9_in (2 + 1) 0 && bq cX9_in (2 + 2) 12 && (Reader.signed 16 (0 * 256 + 12) == 12)) = true) ∧ (bq cX9_in 5 26 = true) ∧ (bq cX9_in 6 28 = true) ∧ ((bq cX9_in 7 163 && bq cX9_in (7 + 1) 0 && bq cX9_in (7 + 2) 7 && (Reader.signed 16 (0 * 256 + 7) == 7)) = true) ∧ (bq cX9_in 10 4 = true) ∧ ((bq cX9_in 11 167 && bq cX9_in (11 + 1) 0 && bq cX9_in (11 + 2) 4 && (Reader.signed 16 (0 * 256 + 4) == 4)) = true) ∧ (bq cX9_in 14 3 = true) ∧ (bq cX9_in 15 172 = true) := by decide +kernel
theorem dX9_in_0 : decode cX9_in 0 = .ok (.iload_n 0, 1) := dr_26  pk_decc_194.1
theorem dX9_in_1 : decode cX9_in 1 = .ok (.iload_n 1, 1) := dr_27  pk_decc_194.2.1
theorem dX9_in_2 : decode cX9_in 2 = .ok (.if_icmp .lt 12, 3) := dr_161 0 12  pk_decc_194.2.2.1
theorem dX9_in_5 : decode cX9_in 5 = .ok (.iload_n 0, 1) := dr_26  pk_decc_194.2.2.2.1
theorem dX9_in_6 : decode cX9_in 6 = .ok (.iload_n 2, 1) := dr_28  pk_decc_194.2.2.2.2.1
theorem dX9_in_7 : decode cX9_in 7 = .ok (.if_icmp .gt 7, 3) := dr_163 0 7  pk_decc_194.2.2.2.2.2.1
theorem dX9_in_10 : decode cX9_in 10 = .ok (.iconst 1, 1) := dr_4  pk_decc_194.2.2.2.2.2.2.1
theorem dX9_in_11 : decode cX9_in 11 = .ok (.goto 4, 3) := dr_167 0 4  pk_decc_194.2.2.2.2.2.2.2.1
theorem dX9_in_14 : decode cX9_in 14 = .ok (.iconst 0, 1) := dr_3  pk_decc_194.2.2.2.2.2.2.2.2.1
theorem dX9_in_15 : decode cX9_in 15 = .ok (.ireturn, 1) := dr_172  pk_decc_194.2.2.2.2.2.2.2.2.2
set_option maxRecDepth 20000 in
theorem pk_decc_195 : (bq cX9_type 0 29 = true) ∧ (bq cX9_type 1 4 = true) ∧ ((bq cX9_type 2 16 && bq cX9_type (2 + 1) 8 && (Reader.signed 8 8 == 8)) = true) ∧ ((bq cX9_type 4 184 && bq cX9_type (4 + 1) 0 && bq cX9_type (4 + 2) 75 && (0 * 256 + 75 == 75)) = true) ∧ ((bq cX9_type 7 154 && bq cX9_type (7 + 1) 0 && bq cX9_type (7 + 2) 5 && (Reader.signed 16 (0 * 256 + 5) == 5)) = true) ∧ (bq cX9_type 10 2 = true) ∧ (bq cX9_type 11 172 = true) ∧ (bq cX9_type 12 42 = true) ∧ ((bq cX9_type 13 180 && bq cX9_type (13 + 1) 0 && bq cX9_type (13 + 2) 71 && (0 * 256 + 71 == 71)) = true) ∧ (bq cX9_type 16 29 = true) ∧ (bq cX9_type 17 96 = true) ∧ ((bq cX9_type 18 17 && bq cX9_type (18 + 1) 0 && bq cX9_type (18 + 2) 200 && (Reader.signed 16 (0 * 256 + 200) == 200)) = true) ∧ ((bq cX9_type 21 164 && bq cX9_type (21 + 1) 0 && bq cX9_type (21 + 2) 6 && (Reader.signed 16 (0 * 256 + 6) == 6)) = true) ∧ ((bq cX9_type 24 16 && bq cX9_type (24 + 1) 253 && (Reader.signed 8 253 == (-3))) = true) ∧ (bq cX9_type 26 172 = true) ∧ (bq cX9_type 27 29 = true) ∧ (bq cX9_type 28 4 = true) ∧ (bq cX9_type 29 100 = true) ∧ ((bq cX9_type 30 54 && bq cX9_type (30 + 1) 4) = true) ∧ ((bq cX9_type 32 21 && bq cX9_type (32 + 1) 4) = true) ∧ ((bq cX9_type 34 155 && bq cX9_type (34 + 1) 0 && bq cX9_type (34 + 2) 41 && (Reader.signed 16 (0 * 256 + 41) == 41)) = true) ∧ (bq cX9_type 37 42 = true) ∧ ((bq cX9_type 38 180 && bq cX9_type (38 + 1) 0 && bq cX9_type (38 + 2) 7 && (0 * 256 + 7 == 7)) = true) ∧ (bq cX9_type 41 42 = true) ∧ ((bq cX9_type 42 180 && bq cX9_type (42 + 1) 0 && bq cX9_type (42 + 2) 71 && (0 * 256 + 71 == 71)) = true) ∧ (bq cX9_type 45 31 = true) ∧ ((bq cX9_type 46 16 && bq cX9_type (46 + 1) 8 && (Reader.signed 8 8 == 8)) = true) ∧ ((bq cX9_type 48 21 && bq cX9_type (48 + 1) 4) = true) ∧ (bq cX9_type 50 104 = true) ∧ (bq cX9_type 51 123 = true) ∧ ((bq cX9_type 52 20 && bq cX9_type (52 + 1) 0 && bq cX9_type (52 + 2) 79 && (0 * 256 + 79 == 79)) = true) ∧ (bq cX9_type 55 127 = true) := by decide +kernel
theorem dX9_type_0 : decode cX9_type 0 = .ok (.iload_n 3, 1) := dr_29  pk_decc_195.1
theorem dX9_type_1 : decode cX9_type 1 = .ok (.iconst 1, 1) := dr_4  pk_decc_195.2.1
theorem dX9_type_2 : decode cX9_type 2 = .ok (.bipush 8, 2) := dr_16 8  pk_decc_195.2.2.1
theorem dX9_type_4 : decode cX9_type 4 = .ok (.invokestatic 75, 3) := dr_184 0 75  pk_decc_195.2.2.2.1
theorem dX9_type_7 : decode cX9_type 7 = .ok (.ifCond .ne 5, 3) := dr_154 0 5  pk_decc_195.2.2.2.2.1
theorem dX9_type_10 : decode cX9_type 10 = .ok (.iconst (-1), 1) := dr_2  pk_decc_195.2.2.2.2.2.1
theorem dX9_type_11 : decode cX9_type 11 = .ok (.ireturn, 1) := dr_172  pk_decc_195.2.2.2.2.2.2.1
theorem dX9_type_12 : decode cX9_type 12 = .ok (.aload_n 0, 1) := dr_42  pk_decc_195.2.2.2.2.2.2.2.1
theorem dX9_type_13 : decode cX9_type 13 = .ok (.getfield 71, 3) := dr_180 0 71  pk_decc_195.2.2.2.2.2.2.2.2.1
theorem dX9_type_16 : decode cX9_type 16 = .ok (.iload_n 3, 1) := dr_29  pk_decc_195.2.2.2.2.2.2.2.2.2.1
theorem dX9_type_17 : decode cX9_type 17 = .ok (.iadd, 1) := dr_96  pk_decc_195.2.2.2.2.2.2.2.2.2.2.1
theorem dX9_type_18 : decode cX9_type 18 = .ok (.sipush 200, 3) := dr_17 0 200  pk_decc_195.2.2.2.2.2.2.2.2.2.2.2.1
theorem dX9_type_21 : decode cX9_type 21 = .ok (.if_icmp .le 6, 3) := dr_164 0 6  pk_decc_195.2.2.2.2.2.2.2.2.2.2.2.2.1
theorem dX9_type_24 : decode cX9_type 24 = .ok (.bipush (-3), 2) := dr_16 253  pk_decc_195.2.2.2.2.2.2.2.2.2.2.2.2.2.1
theorem dX9_type_26 : decode cX9_type 26 = .ok (.ireturn, 1) := dr_172  pk_decc_195.2.2.2.2.2.2.2.2.2.2.2.2.2.2.1
theorem dX9_type_27 : decode cX9_type 27 = .ok (.iload_n 3, 1) := dr_29  pk_decc_195.2.2.2.2.2.2.2.2.2.2.2.2.2.2.2.1
theorem dX9_type_28 : decode cX9_type 28 = .ok (.iconst 1, 1) := dr_4  pk_decc_195.2.2.2.2.2.2.2.2.2.2.2.2.2.2.2.2.1
theorem dX9_type_29 : decode cX9_type 29 = .ok (.isub, 1) := dr_100  pk_decc_195.2.2.2.2.2.2.2.2.2.2.2.2.2.2.2.2.2.1
theorem dX9_type_30 : decode cX9_type 30 = .ok (.istore 4, 2) := dr_54  pk_decc_195.2.2.2.2.2.2.2.2.2.2.2.2.2.2.2.2.2.2.1
theorem dX9_type_32 : decode cX9_type 32 = .ok (.iload 4, 2) := dr_21  pk_decc_195.2.2.2.2.2.2.2.2.2.2.2.2.2.2.2.2.2.2.2.1
theorem dX9_type_34 : decode cX9_type 34 = .ok (.ifCond .lt 41, 3) := dr_155 0 41  pk_decc_195.2.2.2.2.2.2.2.2.2.2.2.2.2.2.2.2.2.2.2.2.1
theorem dX9_type_37 : decode cX9_type 37 = .ok (.aload_n 0, 1) := dr_42  pk_decc_195.2.2.2.2.2.2.2.2.2.2.2.2.2.2.2.2.2.2.2.2.2.1
theorem dX9_type_38 : decode cX9_type 38 = .ok (.getfield 7, 3) := dr_180 0 7  pk_decc_195.2.2.2.2.2.2.2.2.2.2.2.2.2.2.2.2.2.2.2.2.2.2.1
theorem dX9_type_41 : decode cX9_type 41 = .ok (.aload_n 0, 1) := dr_42  pk_decc_195.2.2.2.2.2.2.2.2.2.2.2.2.2.2.2.2.2.2.2.2.2.2.2.1
theorem dX9_type_42 : decode cX9_type 42 = .ok (.getfield 71, 3) := dr_180 0 71  pk_decc_195.2.2.2.2.2.2.2.2.2.2.2.2.2.2.2.2.2.2.2.2.2.2.2.2.1
theorem dX9_type_45 : decode cX9_type 45 = .ok (.lload_n 1, 1) := dr_31  pk_decc_195.2.2.2.2.2.2.2.2.2.2.2.2.2.2.2.2.2.2.2.2.2.2.2.2.2.1
theorem dX9_type_46 : decode cX9_type 46 = .ok (.bipush 8, 2) := dr_16 8  pk_decc_195.2.2.2.2.2.2.2.2.2.2.2.2.2.2.2.2.2.2.2.2.2.2.2.2.2.2.1
theorem dX9_type_48 : decode cX9_type 48 = .ok (.iload 4, 2) := dr_21  pk_decc_195.2.2.2.2.2.2.2.2.2.2.2.2.2.2.2.2.2.2.2.2.2.2.2.2.2.2.2.1
theorem dX9_type_50 : decode cX9_type 50 = .ok (.imul, 1) := dr_104  pk_decc_195.2.2.2.2.2.2.2.2.2.2.2.2.2.2.2.2.2.2.2.2.2.2.2.2.2.2.2.2.1
theorem dX9_type_51 : decode cX9_type 51 = .ok (.lshr, 1) := dr_123  pk_decc_195.2.2.2.2.2.2.2.2.2.2.2.2.2.2.2.2.2.2.2.2.2.2.2.2.2.2.2.2.2.1
theorem dX9_type_52 : decode cX9_type 52 = .ok (.ldc2_w 79, 3) := dr_20 0 79  pk_decc_195.2.2.2.2.2.2.2.2.2.2.2.2.2.2.2.2.2.2.2.2.2.2.2.2.2.2.2.2.2.2.1
theorem dX9_type_55 : decode cX9_type 55 = .ok (.land, 1) := dr_127  pk_decc_195.2.2.2.2.2.2.2.2.2.2.2.2.2.2.2.2.2.2.2.2.2.2.2.2.2.2.2.2.2.2.2
set_option maxRecDepth 20000 in
theorem pk_decc_196 : (bq cX9_type 56 136 = true) ∧ (bq cX9_type 57 145 = true) ∧ (bq cX9_type 58 84 = true) ∧ (bq cX9_type 59 42 = true) ∧ (bq cX9_type 60 89 = true) ∧ ((bq cX9_type 61 180 && bq cX9_type (61 + 1) 0 && bq cX9_type (61 + 2) 71 && (0 * 256 + 71 == 71)) = true) ∧ (bq cX9_type 64 4 = true) ∧ (bq cX9_type 65 96 = true) ∧ ((bq cX9_type 66 181 && bq cX9_type (66 + 1) 0 && bq cX9_type (66 + 2) 71 && (0 * 256 + 71 == 71)) = true) := by decide +kernel
theorem dX9_type_56 : decode cX9_type 56 = .ok (.l2i, 1) := dr_136  pk_decc_196.1
theorem dX9_type_57 : decode cX9_type 57 = .ok (.i2b, 1) := dr_145  pk_decc_196.2.1
theorem dX9_type_58 : decode cX9_type 58 = .ok (.bastore, 1) := dr_84  pk_decc_196.2.2.1
theorem dX9_type_59 : decode cX9_type 59 = .ok (.aload_n 0, 1) := dr_42  pk_decc_196.2.2.2.1
theorem dX9_type_60 : decode cX9_type 60 = .ok (.dup, 1) := dr_89  pk_decc_196.2.2.2.2.1
theorem dX9_type_61 : decode cX9_type 61 = .ok (.getfield 71, 3) := dr_180 0 71  pk_decc_196.2.2.2.2.2.1
theorem dX9_type_64 : decode cX9_type 64 = .ok (.iconst 1, 1) := dr_4  pk_decc_196.2.2.2.2.2.2.1
theorem dX9_type_65 : decode cX9_type 65 = .ok (.iadd, 1) := dr_96  pk_decc_196.2.2.2.2.2.2.2.1
theorem dX9_type_66 : decode cX9_type 66 = .ok (.putfield 71, 3) := dr_181 0 71  pk_decc_196.2.2.2.2.2.2.2.2
theorem dX9_type_69 : decode cX9_type 69 = .ok (.iinc 4 (-1), 3) := by decide +kernel
set_option maxRecDepth 20000 in
theorem pk_decc_197 : ((bq cX9_type 72 167 && bq cX9_type (72 + 1) 255 && bq cX9_type (72 + 2) 216 && (Reader.signed 16 (255 * 256 + 216) == (-40))) = true) ∧ (bq cX9_type 75 42 = true) ∧ ((bq cX9_type 76 180 && bq cX9_type (76 + 1) 0 && bq cX9_type (76 + 2) 71 && (0 * 256 + 71 == 71)) = true) ∧ (bq cX9_type 79 172 = true) := by decide +kernel
theorem dX9_type_72 : decode cX9_type 72 = .ok (.goto (-40), 3) := dr_167 255 216  pk_decc_197.1
theorem dX9_type_75 : decode cX9_type 75 = .ok (.aload_n 0, 1) := dr_42  pk_decc_197.2.1
theorem dX9_type_76 : decode cX9_type 76 = .ok (.getfield 71, 3) := dr_180 0 71  pk_decc_197.2.2.1
theorem dX9_type_79 : decode cX9_type 79 = .ok (.ireturn, 1) := dr_172  pk_decc_197.2.2.2
set_option maxRecDepth 20000 in
theorem pk_decc_198 : (bq cX9_clear 0 42 = true) ∧ ((bq cX9_clear 1 180 && bq cX9_clear (1 + 1) 0 && bq cX9_clear (1 + 2) 71 && (0 * 256 + 71 == 71)) = true) ∧ (bq cX9_clear 4 60 = true) ∧ (bq cX9_clear 5 42 = true) ∧ (bq cX9_clear 6 3 = true) ∧ ((bq cX9_clear 7 181 && bq cX9_clear (7 + 1) 0 && bq cX9_clear (7 + 2) 71 && (0 * 256 + 71 == 71)) = true) ∧ (bq cX9_clear 10 27 = true) ∧ (bq cX9_clear 11 172 = true) := by decide +kernel
theorem dX9_clear_0 : decode cX9_clear 0 = .ok (.aload_n 0, 1) := dr_42  pk_decc_198.1
theorem dX9_clear_1 : decode cX9_clear 1 = .ok (.getfield 71, 3) := dr_180 0 71  pk_decc_198.2.1
theorem dX9_clear_4 : decode cX9_clear 4 = .ok (.istore_n 1, 1) := dr_60  pk_decc_198.2.2.1
theorem dX9_clear_5 : decode cX9_clear 5 = .ok (.aload_n 0, 1) := dr_42  pk_decc_198.2.2.2.1
theorem dX9_clear_6 : decode cX9_clear 6 = .ok (.iconst 0, 1) := dr_3  pk_decc_198.2.2.2.2.1
theorem dX9_clear_7 : decode cX9_clear 7 = .ok (.putfield 71, 3) := dr_181 0 71  pk_decc_198.2.2.2.2.2.1
theorem dX9_clear_10 : decode cX9_clear 10 = .ok (.iload_n 1, 1) := dr_27  pk_decc_198.2.2.2.2.2.2.1
theorem dX9_clear_11 : decode cX9_clear 11 = .ok (.ireturn, 1) := dr_172  pk_decc_198.2.2.2.2.2.2.2
set_option maxRecDepth 20000 in
theorem pk_decc_199 : (bq cX9_isText 0 26 = true) ∧ (bq cX9_isText 1 3 = true) ∧ ((bq cX9_isText 2 16 && bq cX9_isText (2 + 1) 7 && (Reader.signed 8 7 == 7)) = true) ∧ ((bq cX9_isText 4 184 && bq cX9_isText (4 + 1) 0 && bq cX9_isText (4 + 2) 75 && (0 * 256 + 75 == 75)) = true) ∧ (bq cX9_isText 7 172 = true) := by decide +kernel
theorem dX9_isText_0 : decode cX9_isText 0 = .ok (.iload_n 0, 1) := dr_26  pk_decc_199.1
theorem dX9_isText_1 : decode cX9_isText 1 = .ok (.iconst 0, 1) := dr_3  pk_decc_199.2.1
theorem dX9_isText_2 : decode cX9_isText 2 = .ok (.bipush 7, 2) := dr_16 7  pk_decc_199.2.2.1
theorem dX9_isText_4 : decode cX9_isText 4 = .ok (.invokestatic 75, 3) := dr_184 0 75  pk_decc_199.2.2.2.1
theorem dX9_isText_7 : decode cX9_isText 7 = .ok (.ireturn, 1) := dr_172  pk_decc_199.2.2.2.2
set_option maxRecDepth 20000 in
theorem pk_decc_200 : (bq cX9_text 0 27 = true) ∧ ((bq cX9_text 1 184 && bq cX9_text (1 + 1) 0 && bq cX9_text (1 + 2) 81 && (0 * 256 + 81 == 81)) = true) ∧ ((bq cX9_text 4 154 && bq cX9_text (4 + 1) 0 && bq cX9_text (4 + 2) 5 && (Reader.signed 16 (0 * 256 + 5) == 5)) = true) ∧ (bq cX9_text 7 2 = true) ∧ (bq cX9_text 8 172 = true) ∧ (bq cX9_text 9 3 = true) ∧ (bq cX9_text 10 61 = true) ∧ (bq cX9_text 11 28 = true) ∧ (bq cX9_text 12 42 = true) ∧ ((bq cX9_text 13 180 && bq cX9_text (13 + 1) 0 && bq cX9_text (13 + 2) 71 && (0 * 256 + 71 == 71)) = true) ∧ ((bq cX9_text 16 162 && bq cX9_text (16 + 1) 0 && bq cX9_text (16 + 2) 27 && (Reader.signed 16 (0 * 256 + 27) == 27)) = true) ∧ (bq cX9_text 19 42 = true) ∧ ((bq cX9_text 20 180 && bq cX9_text (20 + 1) 0 && bq cX9_text (20 + 2) 13 && (0 * 256 + 13 == 13)) = true) ∧ ((bq cX9_text 23 17 && bq cX9_text (23 + 1) 0 && bq cX9_text (23 + 2) 200 && (Reader.signed 16 (0 * 256 + 200) == 200)) = true) ∧ (bq cX9_text 26 27 = true) ∧ (bq cX9_text 27 104 = true) ∧ (bq cX9_text 28 28 = true) ∧ (bq cX9_text 29 96 = true) ∧ (bq cX9_text 30 42 = true) ∧ ((bq cX9_text 31 180 && bq cX9_text (31 + 1) 0 && bq cX9_text (31 + 2) 7 && (0 * 256 + 7 == 7)) = true) ∧ (bq cX9_text 34 28 = true) ∧ (bq cX9_text 35 51 = true) ∧ (bq cX9_text 36 84 = true) := by decide +kernel
theorem dX9_text_0 : decode cX9_text 0 = .ok (.iload_n 1, 1) := dr_27  pk_decc_200.1
theorem dX9_text_1 : decode cX9_text 1 = .ok (.invokestatic 81, 3) := dr_184 0 81  pk_decc_200.2.1
theorem dX9_text_4 : decode cX9_text 4 = .ok (.ifCond .ne 5, 3) := dr_154 0 5  pk_decc_200.2.2.1
theorem dX9_text_7 : decode cX9_text 7 = .ok (.iconst (-1), 1) := dr_2  pk_decc_200.2.2.2.1
theorem dX9_text_8 : decode cX9_text 8 = .ok (.ireturn, 1) := dr_172  pk_decc_200.2.2.2.2.1
theorem dX9_text_9 : decode cX9_text 9 = .ok (.iconst 0, 1) := dr_3  pk_decc_200.2.2.2.2.2.1
theorem dX9_text_10 : decode cX9_text 10 = .ok (.istore_n 2, 1) := dr_61  pk_decc_200.2.2.2.2.2.2.1
theorem dX9_text_11 : decode cX9_text 11 = .ok (.iload_n 2, 1) := dr_28  pk_decc_200.2.2.2.2.2.2.2.1
theorem dX9_text_12 : decode cX9_text 12 = .ok (.aload_n 0, 1) := dr_42  pk_decc_200.2.2.2.2.2.2.2.2.1
theorem dX9_text_13 : decode cX9_text 13 = .ok (.getfield 71, 3) := dr_180 0 71  pk_decc_200.2.2.2.2.2.2.2.2.2.1
theorem dX9_text_16 : decode cX9_text 16 = .ok (.if_icmp .ge 27, 3) := dr_162 0 27  pk_decc_200.2.2.2.2.2.2.2.2.2.2.1
theorem dX9_text_19 : decode cX9_text 19 = .ok (.aload_n 0, 1) := dr_42  pk_decc_200.2.2.2.2.2.2.2.2.2.2.2.1
theorem dX9_text_20 : decode cX9_text 20 = .ok (.getfield 13, 3) := dr_180 0 13  pk_decc_200.2.2.2.2.2.2.2.2.2.2.2.2.1
theorem dX9_text_23 : decode cX9_text 23 = .ok (.sipush 200, 3) := dr_17 0 200  pk_decc_200.2.2.2.2.2.2.2.2.2.2.2.2.2.1
theorem dX9_text_26 : decode cX9_text 26 = .ok (.iload_n 1, 1) := dr_27  pk_decc_200.2.2.2.2.2.2.2.2.2.2.2.2.2.2.1
theorem dX9_text_27 : decode cX9_text 27 = .ok (.imul, 1) := dr_104  pk_decc_200.2.2.2.2.2.2.2.2.2.2.2.2.2.2.2.1
theorem dX9_text_28 : decode cX9_text 28 = .ok (.iload_n 2, 1) := dr_28  pk_decc_200.2.2.2.2.2.2.2.2.2.2.2.2.2.2.2.2.1
theorem dX9_text_29 : decode cX9_text 29 = .ok (.iadd, 1) := dr_96  pk_decc_200.2.2.2.2.2.2.2.2.2.2.2.2.2.2.2.2.2.1
theorem dX9_text_30 : decode cX9_text 30 = .ok (.aload_n 0, 1) := dr_42  pk_decc_200.2.2.2.2.2.2.2.2.2.2.2.2.2.2.2.2.2.2.1
theorem dX9_text_31 : decode cX9_text 31 = .ok (.getfield 7, 3) := dr_180 0 7  pk_decc_200.2.2.2.2.2.2.2.2.2.2.2.2.2.2.2.2.2.2.2.1
theorem dX9_text_34 : decode cX9_text 34 = .ok (.iload_n 2, 1) := dr_28  pk_decc_200.2.2.2.2.2.2.2.2.2.2.2.2.2.2.2.2.2.2.2.2.1
theorem dX9_text_35 : decode cX9_text 35 = .ok (.baload, 1) := dr_51  pk_decc_200.2.2.2.2.2.2.2.2.2.2.2.2.2.2.2.2.2.2.2.2.2.1
theorem dX9_text_36 : decode cX9_text 36 = .ok (.bastore, 1) := dr_84  pk_decc_200.2.2.2.2.2.2.2.2.2.2.2.2.2.2.2.2.2.2.2.2.2.2
theorem dX9_text_37 : decode cX9_text 37 = .ok (.iinc 2 1, 3) := by decide +kernel
set_option maxRecDepth 20000 in
theorem pk_decc_201 : ((bq cX9_text 40 167 && bq cX9_text (40 + 1) 255 && bq cX9_text (40 + 2) 227 && (Reader.signed 16 (255 * 256 + 227) == (-29))) = true) ∧ (bq cX9_text 43 42 = true) ∧ ((bq cX9_text 44 180 && bq cX9_text (44 + 1) 0 && bq cX9_text (44 + 2) 16 && (0 * 256 + 16 == 16)) = true) ∧ (bq cX9_text 47 27 = true) ∧ (bq cX9_text 48 42 = true) ∧ ((bq cX9_text 49 180 && bq cX9_text (49 + 1) 0 && bq cX9_text (49 + 2) 71 && (0 * 256 + 71 == 71)) = true) ∧ (bq cX9_text 52 79 = true) ∧ (bq cX9_text 53 42 = true) ∧ (bq cX9_text 54 3 = true) ∧ ((bq cX9_text 55 181 && bq cX9_text (55 + 1) 0 && bq cX9_text (55 + 2) 71 && (0 * 256 + 71 == 71)) = true) ∧ (bq cX9_text 58 42 = true) ∧ ((bq cX9_text 59 180 && bq cX9_text (59 + 1) 0 && bq cX9_text (59 + 2) 16 && (0 * 256 + 16 == 16)) = true) ∧ (bq cX9_text 62 27 = true) ∧ (bq cX9_text 63 46 = true) ∧ (bq cX9_text 64 172 = true) := by decide +kernel
theorem dX9_text_40 : decode cX9_text 40 = .ok (.goto (-29), 3) := dr_167 255 227  pk_decc_201.1
theorem dX9_text_43 : decode cX9_text 43 = .ok (.aload_n 0, 1) := dr_42  pk_decc_201.2.1
theorem dX9_text_44 : decode cX9_text 44 = .ok (.getfield 16, 3) := dr_180 0 16  pk_decc_201.2.2.1
theorem dX9_text_47 : decode cX9_text 47 = .ok (.iload_n 1, 1) := dr_27  pk_decc_201.2.2.2.1
theorem dX9_text_48 : decode cX9_text 48 = .ok (.aload_n 0, 1) := dr_42  pk_decc_201.2.2.2.2.1
theorem dX9_text_49 : decode cX9_text 49 = .ok (.getfield 71, 3) := dr_180 0 71  pk_decc_201.2.2.2.2.2.1
theorem dX9_text_52 : decode cX9_text 52 = .ok (.iastore, 1) := dr_79  pk_decc_201.2.2.2.2.2.2.1
theorem dX9_text_53 : decode cX9_text 53 = .ok (.aload_n 0, 1) := dr_42  pk_decc_201.2.2.2.2.2.2.2.1
theorem dX9_text_54 : decode cX9_text 54 = .ok (.iconst 0, 1) := dr_3  pk_decc_201.2.2.2.2.2.2.2.2.1
theorem dX9_text_55 : decode cX9_text 55 = .ok (.putfield 71, 3) := dr_181 0 71  pk_decc_201.2.2.2.2.2.2.2.2.2.1
theorem dX9_text_58 : decode cX9_text 58 = .ok (.aload_n 0, 1) := dr_42  pk_decc_201.2.2.2.2.2.2.2.2.2.2.1
theorem dX9_text_59 : decode cX9_text 59 = .ok (.getfield 16, 3) := dr_180 0 16  pk_decc_201.2.2.2.2.2.2.2.2.2.2.2.1
theorem dX9_text_62 : decode cX9_text 62 = .ok (.iload_n 1, 1) := dr_27  pk_decc_201.2.2.2.2.2.2.2.2.2.2.2.2.1
theorem dX9_text_63 : decode cX9_text 63 = .ok (.iaload, 1) := dr_46  pk_decc_201.2.2.2.2.2.2.2.2.2.2.2.2.2.1
theorem dX9_text_64 : decode cX9_text 64 = .ok (.ireturn, 1) := dr_172  pk_decc_201.2.2.2.2.2.2.2.2.2.2.2.2.2.2
set_option maxRecDepth 20000 in
theorem pk_decc_202 : (bq cX9_read 0 27 = true) ∧ ((bq cX9_read 1 184 && bq cX9_read (1 + 1) 0 && bq cX9_read (1 + 2) 81 && (0 * 256 + 81 == 81)) = true) ∧ ((bq cX9_read 4 153 && bq cX9_read (4 + 1) 0 && bq cX9_read (4 + 2) 38 && (Reader.signed 16 (0 * 256 + 38) == 38)) = true) ∧ (bq cX9_read 7 28 = true) ∧ (bq cX9_read 8 3 = true) ∧ (bq cX9_read 9 42 = true) ∧ ((bq cX9_read 10 180 && bq cX9_read (10 + 1) 0 && bq cX9_read (10 + 2) 16 && (0 * 256 + 16 == 16)) = true) ∧ (bq cX9_read 13 27 = true) ∧ (bq cX9_read 14 46 = true) ∧ (bq cX9_read 15 4 = true) ∧ (bq cX9_read 16 100 = true) ∧ ((bq cX9_read 17 184 && bq cX9_read (17 + 1) 0 && bq cX9_read (17 + 2) 75 && (0 * 256 + 75 == 75)) = true) ∧ ((bq cX9_read 20 153 && bq cX9_read (20 + 1) 0 && bq cX9_read (20 + 2) 22 && (Reader.signed 16 (0 * 256 + 22) == 22)) = true) ∧ (bq cX9_read 23 42 = true) ∧ ((bq cX9_read 24 180 && bq cX9_read (24 + 1) 0 && bq cX9_read (24 + 2) 13 && (0 * 256 + 13 == 13)) = true) ∧ ((bq cX9_read 27 17 && bq cX9_read (27 + 1) 0 && bq cX9_read (27 + 2) 200 && (Reader.signed 16 (0 * 256 + 200) == 200)) = true) ∧ (bq cX9_read 30 27 = true) ∧ (bq cX9_read 31 104 = true) ∧ (bq cX9_read 32 28 = true) ∧ (bq cX9_read 33 96 = true) ∧ (bq cX9_read 34 51 = true) ∧ ((bq cX9_read 35 17 && bq cX9_read (35 + 1) 0 && bq cX9_read (35 + 2) 255 && (Reader.signed 16 (0 * 256 + 255) == 255)) = true) ∧ (bq cX9_read 38 126 = true) ∧ ((bq cX9_read 39 167 && bq cX9_read (39 + 1) 0 && bq cX9_read (39 + 2) 4 && (Reader.signed 16 (0 * 256 + 4) == 4)) = true) ∧ (bq cX9_read 42 2 = true) ∧ (bq cX9_read 43 172 = true) := by decide +kernel
theorem dX9_read_0 : decode cX9_read 0 = .ok (.iload_n 1, 1) := dr_27  pk_decc_202.1
theorem dX9_read_1 : decode cX9_read 1 = .ok (.invokestatic 81, 3) := dr_184 0 81  pk_decc_202.2.1
theorem dX9_read_4 : decode cX9_read 4 = .ok (.ifCond .eq 38, 3) := dr_153 0 38  pk_decc_202.2.2.1
theorem dX9_read_7 : decode cX9_read 7 = .ok (.iload_n 2, 1) := dr_28  pk_decc_202.2.2.2.1
theorem dX9_read_8 : decode cX9_read 8 = .ok (.iconst 0, 1) := dr_3  pk_decc_202.2.2.2.2.1
theorem dX9_read_9 : decode cX9_read 9 = .ok (.aload_n 0, 1) := dr_42  pk_decc_202.2.2.2.2.2.1
theorem dX9_read_10 : decode cX9_read 10 = .ok (.getfield 16, 3) := dr_180 0 16  pk_decc_202.2.2.2.2.2.2.1
theorem dX9_read_13 : decode cX9_read 13 = .ok (.iload_n 1, 1) := dr_27  pk_decc_202.2.2.2.2.2.2.2.1
theorem dX9_read_14 : decode cX9_read 14 = .ok (.iaload, 1) := dr_46  pk_decc_202.2.2.2.2.2.2.2.2.1
theorem dX9_read_15 : decode cX9_read 15 = .ok (.iconst 1, 1) := dr_4  pk_decc_202.2.2.2.2.2.2.2.2.2.1
theorem dX9_read_16 : decode cX9_read 16 = .ok (.isub, 1) := dr_100  pk_decc_202.2.2.2.2.2.2.2.2.2.2.1
theorem dX9_read_17 : decode cX9_read 17 = .ok (.invokestatic 75, 3) := dr_184 0 75  pk_decc_202.2.2.2.2.2.2.2.2.2.2.2.1
theorem dX9_read_20 : decode cX9_read 20 = .ok (.ifCond .eq 22, 3) := dr_153 0 22  pk_decc_202.2.2.2.2.2.2.2.2.2.2.2.2.1
theorem dX9_read_23 : decode cX9_read 23 = .ok (.aload_n 0, 1) := dr_42  pk_decc_202.2.2.2.2.2.2.2.2.2.2.2.2.2.1
theorem dX9_read_24 : decode cX9_read 24 = .ok (.getfield 13, 3) := dr_180 0 13  pk_decc_202.2.2.2.2.2.2.2.2.2.2.2.2.2.2.1
theorem dX9_read_27 : decode cX9_read 27 = .ok (.sipush 200, 3) := dr_17 0 200  pk_decc_202.2.2.2.2.2.2.2.2.2.2.2.2.2.2.2.1
theorem dX9_read_30 : decode cX9_read 30 = .ok (.iload_n 1, 1) := dr_27  pk_decc_202.2.2.2.2.2.2.2.2.2.2.2.2.2.2.2.2.1
theorem dX9_read_31 : decode cX9_read 31 = .ok (.imul, 1) := dr_104  pk_decc_202.2.2.2.2.2.2.2.2.2.2.2.2.2.2.2.2.2.1
theorem dX9_read_32 : decode cX9_read 32 = .ok (.iload_n 2, 1) := dr_28  pk_decc_202.2.2.2.2.2.2.2.2.2.2.2.2.2.2.2.2.2.2.1
theorem dX9_read_33 : decode cX9_read 33 = .ok (.iadd, 1) := dr_96  pk_decc_202.2.2.2.2.2.2.2.2.2.2.2.2.2.2.2.2.2.2.2.1
theorem dX9_read_34 : decode cX9_read 34 = .ok (.baload, 1) := dr_51  pk_decc_202.2.2.2.2.2.2.2.2.2.2.2.2.2.2.2.2.2.2.2.2.1
theorem dX9_read_35 : decode cX9_read 35 = .ok (.sipush 255, 3) := dr_17 0 255  pk_decc_202.2.2.2.2.2.2.2.2.2.2.2.2.2.2.2.2.2.2.2.2.2.1
theorem dX9_read_38 : decode cX9_read 38 = .ok (.iand, 1) := dr_126  pk_decc_202.2.2.2.2.2.2.2.2.2.2.2.2.2.2.2.2.2.2.2.2.2.2.1
theorem dX9_read_39 : decode cX9_read 39 = .ok (.goto 4, 3) := dr_167 0 4  pk_decc_202.2.2.2.2.2.2.2.2.2.2.2.2.2.2.2.2.2.2.2.2.2.2.2.1
theorem dX9_read_42 : decode cX9_read 42 = .ok (.iconst (-1), 1) := dr_2  pk_decc_202.2.2.2.2.2.2.2.2.2.2.2.2.2.2.2.2.2.2.2.2.2.2.2.2.1
theorem dX9_read_43 : decode cX9_read 43 = .ok (.ireturn, 1) := dr_172  pk_decc_202.2.2.2.2.2.2.2.2.2.2.2.2.2.2.2.2.2.2.2.2.2.2.2.2.2
set_option maxRecDepth 20000 in
theorem pk_decc_203 : (bq cX9_isTool 0 27 = true) ∧ (bq cX9_isTool 1 3 = true) ∧ (bq cX9_isTool 2 42 = true) ∧ ((bq cX9_isTool 3 180 && bq cX9_isTool (3 + 1) 0 && bq cX9_isTool (3 + 2) 85 && (0 * 256 + 85 == 85)) = true) ∧ (bq cX9_isTool 6 4 = true) ∧ (bq cX9_isTool 7 100 = true) ∧ ((bq cX9_isTool 8 184 && bq cX9_isTool (8 + 1) 0 && bq cX9_isTool (8 + 2) 75 && (0 * 256 + 75 == 75)) = true) ∧ (bq cX9_isTool 11 172 = true) := by decide +kernel
theorem dX9_isTool_0 : decode cX9_isTool 0 = .ok (.iload_n 1, 1) := dr_27  pk_decc_203.1
theorem dX9_isTool_1 : decode cX9_isTool 1 = .ok (.iconst 0, 1) := dr_3  pk_decc_203.2.1
theorem dX9_isTool_2 : decode cX9_isTool 2 = .ok (.aload_n 0, 1) := dr_42  pk_decc_203.2.2.1
theorem dX9_isTool_3 : decode cX9_isTool 3 = .ok (.getfield 85, 3) := dr_180 0 85  pk_decc_203.2.2.2.1
theorem dX9_isTool_6 : decode cX9_isTool 6 = .ok (.iconst 1, 1) := dr_4  pk_decc_203.2.2.2.2.1
theorem dX9_isTool_7 : decode cX9_isTool 7 = .ok (.isub, 1) := dr_100  pk_decc_203.2.2.2.2.2.1
theorem dX9_isTool_8 : decode cX9_isTool 8 = .ok (.invokestatic 75, 3) := dr_184 0 75  pk_decc_203.2.2.2.2.2.2.1
theorem dX9_isTool_11 : decode cX9_isTool 11 = .ok (.ireturn, 1) := dr_172  pk_decc_203.2.2.2.2.2.2.2
set_option maxRecDepth 20000 in
theorem pk_decc_204 : (bq cX9_add 0 42 = true) ∧ ((bq cX9_add 1 180 && bq cX9_add (1 + 1) 0 && bq cX9_add (1 + 2) 20 && (0 * 256 + 20 == 20)) = true) ∧ ((bq cX9_add 4 17 && bq cX9_add (4 + 1) 1 && bq cX9_add (4 + 2) 0 && (Reader.signed 16 (1 * 256 + 0) == 256)) = true) ∧ (bq cX9_add 7 27 = true) ∧ (bq cX9_add 8 104 = true) ∧ (bq cX9_add 9 42 = true) ∧ ((bq cX9_add 10 180 && bq cX9_add (10 + 1) 0 && bq cX9_add (10 + 2) 26 && (0 * 256 + 26 == 26)) = true) ∧ (bq cX9_add 13 27 = true) ∧ (bq cX9_add 14 46 = true) ∧ (bq cX9_add 15 96 = true) ∧ (bq cX9_add 16 28 = true) ∧ (bq cX9_add 17 79 = true) ∧ (bq cX9_add 18 42 = true) ∧ ((bq cX9_add 19 180 && bq cX9_add (19 + 1) 0 && bq cX9_add (19 + 2) 23 && (0 * 256 + 23 == 23)) = true) ∧ ((bq cX9_add 22 17 && bq cX9_add (22 + 1) 1 && bq cX9_add (22 + 2) 0 && (Reader.signed 16 (1 * 256 + 0) == 256)) = true) ∧ (bq cX9_add 25 27 = true) ∧ (bq cX9_add 26 104 = true) ∧ (bq cX9_add 27 42 = true) ∧ ((bq cX9_add 28 180 && bq cX9_add (28 + 1) 0 && bq cX9_add (28 + 2) 26 && (0 * 256 + 26 == 26)) = true) ∧ (bq cX9_add 31 27 = true) ∧ (bq cX9_add 32 46 = true) ∧ (bq cX9_add 33 96 = true) ∧ (bq cX9_add 34 29 = true) ∧ (bq cX9_add 35 79 = true) ∧ (bq cX9_add 36 42 = true) ∧ ((bq cX9_add 37 180 && bq cX9_add (37 + 1) 0 && bq cX9_add (37 + 2) 26 && (0 * 256 + 26 == 26)) = true) ∧ (bq cX9_add 40 27 = true) ∧ (bq cX9_add 41 92 = true) ∧ (bq cX9_add 42 46 = true) ∧ (bq cX9_add 43 4 = true) ∧ (bq cX9_add 44 96 = true) ∧ (bq cX9_add 45 79 = true) := by decide +kernel
theorem dX9_add_0 : decode cX9_add 0 = .ok (.aload_n 0, 1) := dr_42  pk_decc_204.1
theorem dX9_add_1 : decode cX9_add 1 = .ok (.getfield 20, 3) := dr_180 0 20  pk_decc_204.2.1
theorem dX9_add_4 : decode cX9_add 4 = .ok (.sipush 256, 3) := dr_17 1 0  pk_decc_204.2.2.1
theorem dX9_add_7 : decode cX9_add 7 = .ok (.iload_n 1, 1) := dr_27  pk_decc_204.2.2.2.1
theorem dX9_add_8 : decode cX9_add 8 = .ok (.imul, 1) := dr_104  pk_decc_204.2.2.2.2.1
theorem dX9_add_9 : decode cX9_add 9 = .ok (.aload_n 0, 1) := dr_42  pk_decc_204.2.2.2.2.2.1
theorem dX9_add_10 : decode cX9_add 10 = .ok (.getfield 26, 3) := dr_180 0 26  pk_decc_204.2.2.2.2.2.2.1
theorem dX9_add_13 : decode cX9_add 13 = .ok (.iload_n 1, 1) := dr_27  pk_decc_204.2.2.2.2.2.2.2.1
theorem dX9_add_14 : decode cX9_add 14 = .ok (.iaload, 1) := dr_46  pk_decc_204.2.2.2.2.2.2.2.2.1
theorem dX9_add_15 : decode cX9_add 15 = .ok (.iadd, 1) := dr_96  pk_decc_204.2.2.2.2.2.2.2.2.2.1
theorem dX9_add_16 : decode cX9_add 16 = .ok (.iload_n 2, 1) := dr_28  pk_decc_204.2.2.2.2.2.2.2.2.2.2.1
theorem dX9_add_17 : decode cX9_add 17 = .ok (.iastore, 1) := dr_79  pk_decc_204.2.2.2.2.2.2.2.2.2.2.2.1
theorem dX9_add_18 : decode cX9_add 18 = .ok (.aload_n 0, 1) := dr_42  pk_decc_204.2.2.2.2.2.2.2.2.2.2.2.2.1
theorem dX9_add_19 : decode cX9_add 19 = .ok (.getfield 23, 3) := dr_180 0 23  pk_decc_204.2.2.2.2.2.2.2.2.2.2.2.2.2.1
theorem dX9_add_22 : decode cX9_add 22 = .ok (.sipush 256, 3) := dr_17 1 0  pk_decc_204.2.2.2.2.2.2.2.2.2.2.2.2.2.2.1
theorem dX9_add_25 : decode cX9_add 25 = .ok (.iload_n 1, 1) := dr_27  pk_decc_204.2.2.2.2.2.2.2.2.2.2.2.2.2.2.2.1
theorem dX9_add_26 : decode cX9_add 26 = .ok (.imul, 1) := dr_104  pk_decc_204.2.2.2.2.2.2.2.2.2.2.2.2.2.2.2.2.1
theorem dX9_add_27 : decode cX9_add 27 = .ok (.aload_n 0, 1) := dr_42  pk_decc_204.2.2.2.2.2.2.2.2.2.2.2.2.2.2.2.2.2.1
theorem dX9_add_28 : decode cX9_add 28 = .ok (.getfield 26, 3) := dr_180 0 26  pk_decc_204.2.2.2.2.2.2.2.2.2.2.2.2.2.2.2.2.2.2.1
theorem dX9_add_31 : decode cX9_add 31 = .ok (.iload_n 1, 1) := dr_27  pk_decc_204.2.2.2.2.2.2.2.2.2.2.2.2.2.2.2.2.2.2.2.1
theorem dX9_add_32 : decode cX9_add 32 = .ok (.iaload, 1) := dr_46  pk_decc_204.2.2.2.2.2.2.2.2.2.2.2.2.2.2.2.2.2.2.2.2.1
theorem dX9_add_33 : decode cX9_add 33 = .ok (.iadd, 1) := dr_96  pk_decc_204.2.2.2.2.2.2.2.2.2.2.2.2.2.2.2.2.2.2.2.2.2.1
theorem dX9_add_34 : decode cX9_add 34 = .ok (.iload_n 3, 1) := dr_29  pk_decc_204.2.2.2.2.2.2.2.2.2.2.2.2.2.2.2.2.2.2.2.2.2.2.1
theorem dX9_add_35 : decode cX9_add 35 = .ok (.iastore, 1) := dr_79  pk_decc_204.2.2.2.2.2.2.2.2.2.2.2.2.2.2.2.2.2.2.2.2.2.2.2.1
theorem dX9_add_36 : decode cX9_add 36 = .ok (.aload_n 0, 1) := dr_42  pk_decc_204.2.2.2.2.2.2.2.2.2.2.2.2.2.2.2.2.2.2.2.2.2.2.2.2.1
theorem dX9_add_37 : decode cX9_add 37 = .ok (.getfield 26, 3) := dr_180 0 26  pk_decc_204.2.2.2.2.2.2.2.2.2.2.2.2.2.2.2.2.2.2.2.2.2.2.2.2.2.1
theorem dX9_add_40 : decode cX9_add 40 = .ok (.iload_n 1, 1) := dr_27  pk_decc_204.2.2.2.2.2.2.2.2.2.2.2.2.2.2.2.2.2.2.2.2.2.2.2.2.2.2.1
theorem dX9_add_41 : decode cX9_add 41 = .ok (.dup2, 1) := dr_92  pk_decc_204.2.2.2.2.2.2.2.2.2.2.2.2.2.2.2.2.2.2.2.2.2.2.2.2.2.2.2.1
theorem dX9_add_42 : decode cX9_add 42 = .ok (.iaload, 1) := dr_46  pk_decc_204.2.2.2.2.2.2.2.2.2.2.2.2.2.2.2.2.2.2.2.2.2.2.2.2.2.2.2.2.1
theorem dX9_add_43 : decode cX9_add 43 = .ok (.iconst 1, 1) := dr_4  pk_decc_204.2.2.2.2.2.2.2.2.2.2.2.2.2.2.2.2.2.2.2.2.2.2.2.2.2.2.2.2.2.1
theorem dX9_add_44 : decode cX9_add 44 = .ok (.iadd, 1) := dr_96  pk_decc_204.2.2.2.2.2.2.2.2.2.2.2.2.2.2.2.2.2.2.2.2.2.2.2.2.2.2.2.2.2.2.1
theorem dX9_add_45 : decode cX9_add 45 = .ok (.iastore, 1) := dr_79  pk_decc_204.2.2.2.2.2.2.2.2.2.2.2.2.2.2.2.2.2.2.2.2.2.2.2.2.2.2.2.2.2.2.2
set_option maxRecDepth 20000 in
theorem pk_decc_205 : (bq cX9_add 46 177 = true) := by decide +kernel
theorem dX9_add_46 : decode cX9_add 46 = .ok (.return_, 1) := dr_177  pk_decc_205
set_option maxRecDepth 20000 in
theorem pk_decc_206 : (bq cX9_here 0 42 = true) ∧ ((bq cX9_here 1 180 && bq cX9_here (1 + 1) 0 && bq cX9_here (1 + 2) 88 && (0 * 256 + 88 == 88)) = true) ∧ (bq cX9_here 4 42 = true) ∧ ((bq cX9_here 5 180 && bq cX9_here (5 + 1) 0 && bq cX9_here (5 + 2) 91 && (0 * 256 + 91 == 91)) = true) ∧ ((bq cX9_here 8 162 && bq cX9_here (8 + 1) 0 && bq cX9_here (8 + 2) 24 && (Reader.signed 16 (0 * 256 + 24) == 24)) = true) ∧ (bq cX9_here 11 42 = true) ∧ ((bq cX9_here 12 180 && bq cX9_here (12 + 1) 0 && bq cX9_here (12 + 2) 13 && (0 * 256 + 13 == 13)) = true) ∧ (bq cX9_here 15 42 = true) ∧ ((bq cX9_here 16 180 && bq cX9_here (16 + 1) 0 && bq cX9_here (16 + 2) 94 && (0 * 256 + 94 == 94)) = true) ∧ (bq cX9_here 19 42 = true) ∧ ((bq cX9_here 20 180 && bq cX9_here (20 + 1) 0 && bq cX9_here (20 + 2) 88 && (0 * 256 + 88 == 88)) = true) ∧ (bq cX9_here 23 96 = true) ∧ (bq cX9_here 24 51 = true) ∧ ((bq cX9_here 25 17 && bq cX9_here (25 + 1) 0 && bq cX9_here (25 + 2) 255 && (Reader.signed 16 (0 * 256 + 255) == 255)) = true) ∧ (bq cX9_here 28 126 = true) ∧ ((bq cX9_here 29 167 && bq cX9_here (29 + 1) 0 && bq cX9_here (29 + 2) 4 && (Reader.signed 16 (0 * 256 + 4) == 4)) = true) ∧ (bq cX9_here 32 2 = true) ∧ (bq cX9_here 33 172 = true) := by decide +kernel
theorem dX9_here_0 : decode cX9_here 0 = .ok (.aload_n 0, 1) := dr_42  pk_decc_206.1
theorem dX9_here_1 : decode cX9_here 1 = .ok (.getfield 88, 3) := dr_180 0 88  pk_decc_206.2.1
theorem dX9_here_4 : decode cX9_here 4 = .ok (.aload_n 0, 1) := dr_42  pk_decc_206.2.2.1
theorem dX9_here_5 : decode cX9_here 5 = .ok (.getfield 91, 3) := dr_180 0 91  pk_decc_206.2.2.2.1
theorem dX9_here_8 : decode cX9_here 8 = .ok (.if_icmp .ge 24, 3) := dr_162 0 24  pk_decc_206.2.2.2.2.1
theorem dX9_here_11 : decode cX9_here 11 = .ok (.aload_n 0, 1) := dr_42  pk_decc_206.2.2.2.2.2.1
theorem dX9_here_12 : decode cX9_here 12 = .ok (.getfield 13, 3) := dr_180 0 13  pk_decc_206.2.2.2.2.2.2.1
theorem dX9_here_15 : decode cX9_here 15 = .ok (.aload_n 0, 1) := dr_42  pk_decc_206.2.2.2.2.2.2.2.1
theorem dX9_here_16 : decode cX9_here 16 = .ok (.getfield 94, 3) := dr_180 0 94  pk_decc_206.2.2.2.2.2.2.2.2.1
theorem dX9_here_19 : decode cX9_here 19 = .ok (.aload_n 0, 1) := dr_42  pk_decc_206.2.2.2.2.2.2.2.2.2.1
theorem dX9_here_20 : decode cX9_here 20 = .ok (.getfield 88, 3) := dr_180 0 88  pk_decc_206.2.2.2.2.2.2.2.2.2.2.1
theorem dX9_here_23 : decode cX9_here 23 = .ok (.iadd, 1) := dr_96  pk_decc_206.2.2.2.2.2.2.2.2.2.2.2.1
theorem dX9_here_24 : decode cX9_here 24 = .ok (.baload, 1) := dr_51  pk_decc_206.2.2.2.2.2.2.2.2.2.2.2.2.1
theorem dX9_here_25 : decode cX9_here 25 = .ok (.sipush 255, 3) := dr_17 0 255  pk_decc_206.2.2.2.2.2.2.2.2.2.2.2.2.2.1
theorem dX9_here_28 : decode cX9_here 28 = .ok (.iand, 1) := dr_126  pk_decc_206.2.2.2.2.2.2.2.2.2.2.2.2.2.2.1
theorem dX9_here_29 : decode cX9_here 29 = .ok (.goto 4, 3) := dr_167 0 4  pk_decc_206.2.2.2.2.2.2.2.2.2.2.2.2.2.2.2.1
theorem dX9_here_32 : decode cX9_here 32 = .ok (.iconst (-1), 1) := dr_2  pk_decc_206.2.2.2.2.2.2.2.2.2.2.2.2.2.2.2.2.1
theorem dX9_here_33 : decode cX9_here 33 = .ok (.ireturn, 1) := dr_172  pk_decc_206.2.2.2.2.2.2.2.2.2.2.2.2.2.2.2.2.2
set_option maxRecDepth 20000 in
theorem pk_decc_207 : (bq cX9_open 0 42 = true) ∧ ((bq cX9_open 1 17 && bq cX9_open (1 + 1) 0 && bq cX9_open (1 + 2) 200 && (Reader.signed 16 (0 * 256 + 200) == 200)) = true) ∧ (bq cX9_open 4 27 = true) ∧ (bq cX9_open 5 104 = true) ∧ ((bq cX9_open 6 181 && bq cX9_open (6 + 1) 0 && bq cX9_open (6 + 2) 94 && (0 * 256 + 94 == 94)) = true) ∧ (bq cX9_open 9 42 = true) ∧ (bq cX9_open 10 42 = true) ∧ ((bq cX9_open 11 180 && bq cX9_open (11 + 1) 0 && bq cX9_open (11 + 2) 16 && (0 * 256 + 16 == 16)) = true) ∧ (bq cX9_open 14 27 = true) ∧ (bq cX9_open 15 46 = true) ∧ ((bq cX9_open 16 181 && bq cX9_open (16 + 1) 0 && bq cX9_open (16 + 2) 91 && (0 * 256 + 91 == 91)) = true) ∧ (bq cX9_open 19 42 = true) ∧ (bq cX9_open 20 3 = true) ∧ ((bq cX9_open 21 181 && bq cX9_open (21 + 1) 0 && bq cX9_open (21 + 2) 88 && (0 * 256 + 88 == 88)) = true) ∧ (bq cX9_open 24 42 = true) ∧ ((bq cX9_open 25 16 && bq cX9_open (25 + 1) 247 && (Reader.signed 8 247 == (-9))) = true) ∧ ((bq cX9_open 27 181 && bq cX9_open (27 + 1) 0 && bq cX9_open (27 + 2) 97 && (0 * 256 + 97 == 97)) = true) ∧ (bq cX9_open 30 177 = true) := by decide +kernel
theorem dX9_open_0 : decode cX9_open 0 = .ok (.aload_n 0, 1) := dr_42  pk_decc_207.1
theorem dX9_open_1 : decode cX9_open 1 = .ok (.sipush 200, 3) := dr_17 0 200  pk_decc_207.2.1
theorem dX9_open_4 : decode cX9_open 4 = .ok (.iload_n 1, 1) := dr_27  pk_decc_207.2.2.1
theorem dX9_open_5 : decode cX9_open 5 = .ok (.imul, 1) := dr_104  pk_decc_207.2.2.2.1
theorem dX9_open_6 : decode cX9_open 6 = .ok (.putfield 94, 3) := dr_181 0 94  pk_decc_207.2.2.2.2.1
theorem dX9_open_9 : decode cX9_open 9 = .ok (.aload_n 0, 1) := dr_42  pk_decc_207.2.2.2.2.2.1
theorem dX9_open_10 : decode cX9_open 10 = .ok (.aload_n 0, 1) := dr_42  pk_decc_207.2.2.2.2.2.2.1
theorem dX9_open_11 : decode cX9_open 11 = .ok (.getfield 16, 3) := dr_180 0 16  pk_decc_207.2.2.2.2.2.2.2.1
theorem dX9_open_14 : decode cX9_open 14 = .ok (.iload_n 1, 1) := dr_27  pk_decc_207.2.2.2.2.2.2.2.2.1
theorem dX9_open_15 : decode cX9_open 15 = .ok (.iaload, 1) := dr_46  pk_decc_207.2.2.2.2.2.2.2.2.2.1
theorem dX9_open_16 : decode cX9_open 16 = .ok (.putfield 91, 3) := dr_181 0 91  pk_decc_207.2.2.2.2.2.2.2.2.2.2.1
theorem dX9_open_19 : decode cX9_open 19 = .ok (.aload_n 0, 1) := dr_42  pk_decc_207.2.2.2.2.2.2.2.2.2.2.2.1
theorem dX9_open_20 : decode cX9_open 20 = .ok (.iconst 0, 1) := dr_3  pk_decc_207.2.2.2.2.2.2.2.2.2.2.2.2.1
theorem dX9_open_21 : decode cX9_open 21 = .ok (.putfield 88, 3) := dr_181 0 88  pk_decc_207.2.2.2.2.2.2.2.2.2.2.2.2.2.1
theorem dX9_open_24 : decode cX9_open 24 = .ok (.aload_n 0, 1) := dr_42  pk_decc_207.2.2.2.2.2.2.2.2.2.2.2.2.2.2.1
theorem dX9_open_25 : decode cX9_open 25 = .ok (.bipush (-9), 2) := dr_16 247  pk_decc_207.2.2.2.2.2.2.2.2.2.2.2.2.2.2.2.1
theorem dX9_open_27 : decode cX9_open 27 = .ok (.putfield 97, 3) := dr_181 0 97  pk_decc_207.2.2.2.2.2.2.2.2.2.2.2.2.2.2.2.2.1
theorem dX9_open_30 : decode cX9_open 30 = .ok (.return_, 1) := dr_177  pk_decc_207.2.2.2.2.2.2.2.2.2.2.2.2.2.2.2.2.2
set_option maxRecDepth 20000 in
theorem pk_decc_208 : (bq cX9_pass 0 4 = true) ∧ (bq cX9_pass 1 60 = true) ∧ (bq cX9_pass 2 27 = true) ∧ ((bq cX9_pass 3 153 && bq cX9_pass (3 + 1) 0 && bq cX9_pass (3 + 2) 82 && (Reader.signed 16 (0 * 256 + 82) == 82)) = true) ∧ (bq cX9_pass 6 42 = true) ∧ ((bq cX9_pass 7 182 && bq cX9_pass (7 + 1) 0 && bq cX9_pass (7 + 2) 100 && (0 * 256 + 100 == 100)) = true) ∧ (bq cX9_pass 10 61 = true) ∧ (bq cX9_pass 11 28 = true) ∧ ((bq cX9_pass 12 16 && bq cX9_pass (12 + 1) 35 && (Reader.signed 8 35 == 35)) = true) ∧ ((bq cX9_pass 14 160 && bq cX9_pass (14 + 1) 0 && bq cX9_pass (14 + 2) 32 && (Reader.signed 16 (0 * 256 + 32) == 32)) = true) ∧ (bq cX9_pass 17 42 = true) ∧ ((bq cX9_pass 18 182 && bq cX9_pass (18 + 1) 0 && bq cX9_pass (18 + 2) 100 && (0 * 256 + 100 == 100)) = true) ∧ ((bq cX9_pass 21 155 && bq cX9_pass (21 + 1) 0 && bq cX9_pass (21 + 2) 61 && (Reader.signed 16 (0 * 256 + 61) == 61)) = true) ∧ (bq cX9_pass 24 42 = true) ∧ ((bq cX9_pass 25 182 && bq cX9_pass (25 + 1) 0 && bq cX9_pass (25 + 2) 100 && (0 * 256 + 100 == 100)) = true) ∧ ((bq cX9_pass 28 16 && bq cX9_pass (28 + 1) 10 && (Reader.signed 8 10 == 10)) = true) ∧ ((bq cX9_pass 30 159 && bq cX9_pass (30 + 1) 0 && bq cX9_pass (30 + 2) 52 && (Reader.signed 16 (0 * 256 + 52) == 52)) = true) ∧ (bq cX9_pass 33 42 = true) ∧ (bq cX9_pass 34 89 = true) ∧ ((bq cX9_pass 35 180 && bq cX9_pass (35 + 1) 0 && bq cX9_pass (35 + 2) 88 && (0 * 256 + 88 == 88)) = true) ∧ (bq cX9_pass 38 4 = true) ∧ (bq cX9_pass 39 96 = true) ∧ ((bq cX9_pass 40 181 && bq cX9_pass (40 + 1) 0 && bq cX9_pass (40 + 2) 88 && (0 * 256 + 88 == 88)) = true) ∧ ((bq cX9_pass 43 167 && bq cX9_pass (43 + 1) 255 && bq cX9_pass (43 + 2) 230 && (Reader.signed 16 (255 * 256 + 230) == (-26))) = true) ∧ (bq cX9_pass 46 28 = true) ∧ ((bq cX9_pass 47 16 && bq cX9_pass (47 + 1) 32 && (Reader.signed 8 32 == 32)) = true) ∧ ((bq cX9_pass 49 159 && bq cX9_pass (49 + 1) 0 && bq cX9_pass (49 + 2) 9 && (Reader.signed 16 (0 * 256 + 9) == 9)) = true) ∧ (bq cX9_pass 52 28 = true) ∧ ((bq cX9_pass 53 16 && bq cX9_pass (53 + 1) 10 && (Reader.signed 8 10 == 10)) = true) ∧ ((bq cX9_pass 55 160 && bq cX9_pass (55 + 1) 0 && bq cX9_pass (55 + 2) 7 && (Reader.signed 16 (0 * 256 + 7) == 7)) = true) ∧ (bq cX9_pass 58 4 = true) ∧ ((bq cX9_pass 59 167 && bq cX9_pass (59 + 1) 0 && bq cX9_pass (59 + 2) 4 && (Reader.signed 16 (0 * 256 + 4) == 4)) = true) := by decide +kernel
theorem dX9_pass_0 : decode cX9_pass 0 = .ok (.iconst 1, 1) := dr_4  pk_decc_208.1
theorem dX9_pass_1 : decode cX9_pass 1 = .ok (.istore_n 1, 1) := dr_60  pk_decc_208.2.1
theorem dX9_pass_2 : decode cX9_pass 2 = .ok (.iload_n 1, 1) := dr_27  pk_decc_208.2.2.1
theorem dX9_pass_3 : decode cX9_pass 3 = .ok (.ifCond .eq 82, 3) := dr_153 0 82  pk_decc_208.2.2.2.1
theorem dX9_pass_6 : decode cX9_pass 6 = .ok (.aload_n 0, 1) := dr_42  pk_decc_208.2.2.2.2.1
theorem dX9_pass_7 : decode cX9_pass 7 = .ok (.invokevirtual 100, 3) := dr_182 0 100  pk_decc_208.2.2.2.2.2.1
theorem dX9_pass_10 : decode cX9_pass 10 = .ok (.istore_n 2, 1) := dr_61  pk_decc_208.2.2.2.2.2.2.1
theorem dX9_pass_11 : decode cX9_pass 11 = .ok (.iload_n 2, 1) := dr_28  pk_decc_208.2.2.2.2.2.2.2.1
theorem dX9_pass_12 : decode cX9_pass 12 = .ok (.bipush 35, 2) := dr_16 35  pk_decc_208.2.2.2.2.2.2.2.2.1
theorem dX9_pass_14 : decode cX9_pass 14 = .ok (.if_icmp .ne 32, 3) := dr_160 0 32  pk_decc_208.2.2.2.2.2.2.2.2.2.1
theorem dX9_pass_17 : decode cX9_pass 17 = .ok (.aload_n 0, 1) := dr_42  pk_decc_208.2.2.2.2.2.2.2.2.2.2.1
theorem dX9_pass_18 : decode cX9_pass 18 = .ok (.invokevirtual 100, 3) := dr_182 0 100  pk_decc_208.2.2.2.2.2.2.2.2.2.2.2.1
theorem dX9_pass_21 : decode cX9_pass 21 = .ok (.ifCond .lt 61, 3) := dr_155 0 61  pk_decc_208.2.2.2.2.2.2.2.2.2.2.2.2.1
theorem dX9_pass_24 : decode cX9_pass 24 = .ok (.aload_n 0, 1) := dr_42  pk_decc_208.2.2.2.2.2.2.2.2.2.2.2.2.2.1
theorem dX9_pass_25 : decode cX9_pass 25 = .ok (.invokevirtual 100, 3) := dr_182 0 100  pk_decc_208.2.2.2.2.2.2.2.2.2.2.2.2.2.2.1
theorem dX9_pass_28 : decode cX9_pass 28 = .ok (.bipush 10, 2) := dr_16 10  pk_decc_208.2.2.2.2.2.2.2.2.2.2.2.2.2.2.2.1
theorem dX9_pass_30 : decode cX9_pass 30 = .ok (.if_icmp .eq 52, 3) := dr_159 0 52  pk_decc_208.2.2.2.2.2.2.2.2.2.2.2.2.2.2.2.2.1
theorem dX9_pass_33 : decode cX9_pass 33 = .ok (.aload_n 0, 1) := dr_42  pk_decc_208.2.2.2.2.2.2.2.2.2.2.2.2.2.2.2.2.2.1
theorem dX9_pass_34 : decode cX9_pass 34 = .ok (.dup, 1) := dr_89  pk_decc_208.2.2.2.2.2.2.2.2.2.2.2.2.2.2.2.2.2.2.1
theorem dX9_pass_35 : decode cX9_pass 35 = .ok (.getfield 88, 3) := dr_180 0 88  pk_decc_208.2.2.2.2.2.2.2.2.2.2.2.2.2.2.2.2.2.2.2.1
theorem dX9_pass_38 : decode cX9_pass 38 = .ok (.iconst 1, 1) := dr_4  pk_decc_208.2.2.2.2.2.2.2.2.2.2.2.2.2.2.2.2.2.2.2.2.1
theorem dX9_pass_39 : decode cX9_pass 39 = .ok (.iadd, 1) := dr_96  pk_decc_208.2.2.2.2.2.2.2.2.2.2.2.2.2.2.2.2.2.2.2.2.2.1
theorem dX9_pass_40 : decode cX9_pass 40 = .ok (.putfield 88, 3) := dr_181 0 88  pk_decc_208.2.2.2.2.2.2.2.2.2.2.2.2.2.2.2.2.2.2.2.2.2.2.1
theorem dX9_pass_43 : decode cX9_pass 43 = .ok (.goto (-26), 3) := dr_167 255 230  pk_decc_208.2.2.2.2.2.2.2.2.2.2.2.2.2.2.2.2.2.2.2.2.2.2.2.1
theorem dX9_pass_46 : decode cX9_pass 46 = .ok (.iload_n 2, 1) := dr_28  pk_decc_208.2.2.2.2.2.2.2.2.2.2.2.2.2.2.2.2.2.2.2.2.2.2.2.2.1
theorem dX9_pass_47 : decode cX9_pass 47 = .ok (.bipush 32, 2) := dr_16 32  pk_decc_208.2.2.2.2.2.2.2.2.2.2.2.2.2.2.2.2.2.2.2.2.2.2.2.2.2.1
theorem dX9_pass_49 : decode cX9_pass 49 = .ok (.if_icmp .eq 9, 3) := dr_159 0 9  pk_decc_208.2.2.2.2.2.2.2.2.2.2.2.2.2.2.2.2.2.2.2.2.2.2.2.2.2.2.1
theorem dX9_pass_52 : decode cX9_pass 52 = .ok (.iload_n 2, 1) := dr_28  pk_decc_208.2.2.2.2.2.2.2.2.2.2.2.2.2.2.2.2.2.2.2.2.2.2.2.2.2.2.2.1
theorem dX9_pass_53 : decode cX9_pass 53 = .ok (.bipush 10, 2) := dr_16 10  pk_decc_208.2.2.2.2.2.2.2.2.2.2.2.2.2.2.2.2.2.2.2.2.2.2.2.2.2.2.2.2.1
theorem dX9_pass_55 : decode cX9_pass 55 = .ok (.if_icmp .ne 7, 3) := dr_160 0 7  pk_decc_208.2.2.2.2.2.2.2.2.2.2.2.2.2.2.2.2.2.2.2.2.2.2.2.2.2.2.2.2.2.1
theorem dX9_pass_58 : decode cX9_pass 58 = .ok (.iconst 1, 1) := dr_4  pk_decc_208.2.2.2.2.2.2.2.2.2.2.2.2.2.2.2.2.2.2.2.2.2.2.2.2.2.2.2.2.2.2.1
theorem dX9_pass_59 : decode cX9_pass 59 = .ok (.goto 4, 3) := dr_167 0 4  pk_decc_208.2.2.2.2.2.2.2.2.2.2.2.2.2.2.2.2.2.2.2.2.2.2.2.2.2.2.2.2.2.2.2
set_option maxRecDepth 20000 in
theorem pk_decc_209 : (bq cX9_pass 62 3 = true) ∧ (bq cX9_pass 63 60 = true) ∧ (bq cX9_pass 64 42 = true) ∧ (bq cX9_pass 65 89 = true) ∧ ((bq cX9_pass 66 180 && bq cX9_pass (66 + 1) 0 && bq cX9_pass (66 + 2) 88 && (0 * 256 + 88 == 88)) = true) ∧ (bq cX9_pass 69 27 = true) ∧ ((bq cX9_pass 70 153 && bq cX9_pass (70 + 1) 0 && bq cX9_pass (70 + 2) 7 && (Reader.signed 16 (0 * 256 + 7) == 7)) = true) ∧ (bq cX9_pass 73 4 = true) ∧ ((bq cX9_pass 74 167 && bq cX9_pass (74 + 1) 0 && bq cX9_pass (74 + 2) 4 && (Reader.signed 16 (0 * 256 + 4) == 4)) = true) ∧ (bq cX9_pass 77 3 = true) ∧ (bq cX9_pass 78 96 = true) ∧ ((bq cX9_pass 79 181 && bq cX9_pass (79 + 1) 0 && bq cX9_pass (79 + 2) 88 && (0 * 256 + 88 == 88)) = true) ∧ ((bq cX9_pass 82 167 && bq cX9_pass (82 + 1) 255 && bq cX9_pass (82 + 2) 176 && (Reader.signed 16 (255 * 256 + 176) == (-80))) = true) ∧ (bq cX9_pass 85 177 = true) := by decide +kernel
theorem dX9_pass_62 : decode cX9_pass 62 = .ok (.iconst 0, 1) := dr_3  pk_decc_209.1
theorem dX9_pass_63 : decode cX9_pass 63 = .ok (.istore_n 1, 1) := dr_60  pk_decc_209.2.1
theorem dX9_pass_64 : decode cX9_pass 64 = .ok (.aload_n 0, 1) := dr_42  pk_decc_209.2.2.1
theorem dX9_pass_65 : decode cX9_pass 65 = .ok (.dup, 1) := dr_89  pk_decc_209.2.2.2.1
theorem dX9_pass_66 : decode cX9_pass 66 = .ok (.getfield 88, 3) := dr_180 0 88  pk_decc_209.2.2.2.2.1
theorem dX9_pass_69 : decode cX9_pass 69 = .ok (.iload_n 1, 1) := dr_27  pk_decc_209.2.2.2.2.2.1
theorem dX9_pass_70 : decode cX9_pass 70 = .ok (.ifCond .eq 7, 3) := dr_153 0 7  pk_decc_209.2.2.2.2.2.2.1
theorem dX9_pass_73 : decode cX9_pass 73 = .ok (.iconst 1, 1) := dr_4  pk_decc_209.2.2.2.2.2.2.2.1
theorem dX9_pass_74 : decode cX9_pass 74 = .ok (.goto 4, 3) := dr_167 0 4  pk_decc_209.2.2.2.2.2.2.2.2.1
theorem dX9_pass_77 : decode cX9_pass 77 = .ok (.iconst 0, 1) := dr_3  pk_decc_209.2.2.2.2.2.2.2.2.2.1
theorem dX9_pass_78 : decode cX9_pass 78 = .ok (.iadd, 1) := dr_96  pk_decc_209.2.2.2.2.2.2.2.2.2.2.1
theorem dX9_pass_79 : decode cX9_pass 79 = .ok (.putfield 88, 3) := dr_181 0 88  pk_decc_209.2.2.2.2.2.2.2.2.2.2.2.1
theorem dX9_pass_82 : decode cX9_pass 82 = .ok (.goto (-80), 3) := dr_167 255 176  pk_decc_209.2.2.2.2.2.2.2.2.2.2.2.2.1
theorem dX9_pass_85 : decode cX9_pass 85 = .ok (.return_, 1) := dr_177  pk_decc_209.2.2.2.2.2.2.2.2.2.2.2.2.2
set_option maxRecDepth 20000 in
theorem pk_decc_210 : (bq cX9_digit 0 26 = true) ∧ ((bq cX9_digit 1 16 && bq cX9_digit (1 + 1) 48 && (Reader.signed 8 48 == 48)) = true) ∧ ((bq cX9_digit 3 16 && bq cX9_digit (3 + 1) 57 && (Reader.signed 8 57 == 57)) = true) ∧ ((bq cX9_digit 5 184 && bq cX9_digit (5 + 1) 0 && bq cX9_digit (5 + 2) 75 && (0 * 256 + 75 == 75)) = true) ∧ ((bq cX9_digit 8 153 && bq cX9_digit (8 + 1) 0 && bq cX9_digit (8 + 2) 10 && (Reader.signed 16 (0 * 256 + 10) == 10)) = true) ∧ (bq cX9_digit 11 26 = true) ∧ ((bq cX9_digit 12 16 && bq cX9_digit (12 + 1) 48 && (Reader.signed 8 48 == 48)) = true) ∧ (bq cX9_digit 14 100 = true) ∧ ((bq cX9_digit 15 167 && bq cX9_digit (15 + 1) 0 && bq cX9_digit (15 + 2) 26 && (Reader.signed 16 (0 * 256 + 26) == 26)) = true) ∧ (bq cX9_digit 18 26 = true) ∧ ((bq cX9_digit 19 16 && bq cX9_digit (19 + 1) 97 && (Reader.signed 8 97 == 97)) = true) ∧ ((bq cX9_digit 21 16 && bq cX9_digit (21 + 1) 102 && (Reader.signed 8 102 == 102)) = true) ∧ ((bq cX9_digit 23 184 && bq cX9_digit (23 + 1) 0 && bq cX9_digit (23 + 2) 75 && (0 * 256 + 75 == 75)) = true) ∧ ((bq cX9_digit 26 153 && bq cX9_digit (26 + 1) 0 && bq cX9_digit (26 + 2) 13 && (Reader.signed 16 (0 * 256 + 13) == 13)) = true) ∧ (bq cX9_digit 29 26 = true) ∧ ((bq cX9_digit 30 16 && bq cX9_digit (30 + 1) 97 && (Reader.signed 8 97 == 97)) = true) ∧ (bq cX9_digit 32 100 = true) ∧ ((bq cX9_digit 33 16 && bq cX9_digit (33 + 1) 10 && (Reader.signed 8 10 == 10)) = true) ∧ (bq cX9_digit 35 96 = true) ∧ ((bq cX9_digit 36 167 && bq cX9_digit (36 + 1) 0 && bq cX9_digit (36 + 2) 5 && (Reader.signed 16 (0 * 256 + 5) == 5)) = true) ∧ ((bq cX9_digit 39 16 && bq cX9_digit (39 + 1) 247 && (Reader.signed 8 247 == (-9))) = true) ∧ (bq cX9_digit 41 172 = true) := by decide +kernel
theorem dX9_digit_0 : decode cX9_digit 0 = .ok (.iload_n 0, 1) := dr_26  pk_decc_210.1
theorem dX9_digit_1 : decode cX9_digit 1 = .ok (.bipush 48, 2) := dr_16 48  pk_decc_210.2.1
theorem dX9_digit_3 : decode cX9_digit 3 = .ok (.bipush 57, 2) := dr_16 57  pk_decc_210.2.2.1
theorem dX9_digit_5 : decode cX9_digit 5 = .ok (.invokestatic 75, 3) := dr_184 0 75  pk_decc_210.2.2.2.1
theorem dX9_digit_8 : decode cX9_digit 8 = .ok (.ifCond .eq 10, 3) := dr_153 0 10  pk_decc_210.2.2.2.2.1
theorem dX9_digit_11 : decode cX9_digit 11 = .ok (.iload_n 0, 1) := dr_26  pk_decc_210.2.2.2.2.2.1
theorem dX9_digit_12 : decode cX9_digit 12 = .ok (.bipush 48, 2) := dr_16 48  pk_decc_210.2.2.2.2.2.2.1
theorem dX9_digit_14 : decode cX9_digit 14 = .ok (.isub, 1) := dr_100  pk_decc_210.2.2.2.2.2.2.2.1
theorem dX9_digit_15 : decode cX9_digit 15 = .ok (.goto 26, 3) := dr_167 0 26  pk_decc_210.2.2.2.2.2.2.2.2.1
theorem dX9_digit_18 : decode cX9_digit 18 = .ok (.iload_n 0, 1) := dr_26  pk_decc_210.2.2.2.2.2.2.2.2.2.1
theorem dX9_digit_19 : decode cX9_digit 19 = .ok (.bipush 97, 2) := dr_16 97  pk_decc_210.2.2.2.2.2.2.2.2.2.2.1
theorem dX9_digit_21 : decode cX9_digit 21 = .ok (.bipush 102, 2) := dr_16 102  pk_decc_210.2.2.2.2.2.2.2.2.2.2.2.1
theorem dX9_digit_23 : decode cX9_digit 23 = .ok (.invokestatic 75, 3) := dr_184 0 75  pk_decc_210.2.2.2.2.2.2.2.2.2.2.2.2.1
theorem dX9_digit_26 : decode cX9_digit 26 = .ok (.ifCond .eq 13, 3) := dr_153 0 13  pk_decc_210.2.2.2.2.2.2.2.2.2.2.2.2.2.1
theorem dX9_digit_29 : decode cX9_digit 29 = .ok (.iload_n 0, 1) := dr_26  pk_decc_210.2.2.2.2.2.2.2.2.2.2.2.2.2.2.1
theorem dX9_digit_30 : decode cX9_digit 30 = .ok (.bipush 97, 2) := dr_16 97  pk_decc_210.2.2.2.2.2.2.2.2.2.2.2.2.2.2.2.1
theorem dX9_digit_32 : decode cX9_digit 32 = .ok (.isub, 1) := dr_100  pk_decc_210.2.2.2.2.2.2.2.2.2.2.2.2.2.2.2.2.1
theorem dX9_digit_33 : decode cX9_digit 33 = .ok (.bipush 10, 2) := dr_16 10  pk_decc_210.2.2.2.2.2.2.2.2.2.2.2.2.2.2.2.2.2.1
theorem dX9_digit_35 : decode cX9_digit 35 = .ok (.iadd, 1) := dr_96  pk_decc_210.2.2.2.2.2.2.2.2.2.2.2.2.2.2.2.2.2.2.1
theorem dX9_digit_36 : decode cX9_digit 36 = .ok (.goto 5, 3) := dr_167 0 5  pk_decc_210.2.2.2.2.2.2.2.2.2.2.2.2.2.2.2.2.2.2.2.1
theorem dX9_digit_39 : decode cX9_digit 39 = .ok (.bipush (-9), 2) := dr_16 247  pk_decc_210.2.2.2.2.2.2.2.2.2.2.2.2.2.2.2.2.2.2.2.2.1
theorem dX9_digit_41 : decode cX9_digit 41 = .ok (.ireturn, 1) := dr_172  pk_decc_210.2.2.2.2.2.2.2.2.2.2.2.2.2.2.2.2.2.2.2.2.2
set_option maxRecDepth 20000 in
theorem pk_decc_211 : (bq cX9_readPairs 0 42 = true) ∧ (bq cX9_readPairs 1 27 = true) ∧ ((bq cX9_readPairs 2 182 && bq cX9_readPairs (2 + 1) 0 && bq cX9_readPairs (2 + 2) 104 && (0 * 256 + 104 == 104)) = true) ∧ (bq cX9_readPairs 5 42 = true) ∧ ((bq cX9_readPairs 6 180 && bq cX9_readPairs (6 + 1) 0 && bq cX9_readPairs (6 + 2) 26 && (0 * 256 + 26 == 26)) = true) ∧ (bq cX9_readPairs 9 28 = true) ∧ (bq cX9_readPairs 10 3 = true) ∧ (bq cX9_readPairs 11 79 = true) ∧ (bq cX9_readPairs 12 42 = true) ∧ ((bq cX9_readPairs 13 182 && bq cX9_readPairs (13 + 1) 0 && bq cX9_readPairs (13 + 2) 108 && (0 * 256 + 108 == 108)) = true) ∧ (bq cX9_readPairs 16 42 = true) ∧ ((bq cX9_readPairs 17 180 && bq cX9_readPairs (17 + 1) 0 && bq cX9_readPairs (17 + 2) 88 && (0 * 256 + 88 == 88)) = true) ∧ (bq cX9_readPairs 20 42 = true) ∧ ((bq cX9_readPairs 21 180 && bq cX9_readPairs (21 + 1) 0 && bq cX9_readPairs (21 + 2) 91 && (0 * 256 + 91 == 91)) = true) ∧ ((bq cX9_readPairs 24 162 && bq cX9_readPairs (24 + 1) 0 && bq cX9_readPairs (24 + 2) 91 && (Reader.signed 16 (0 * 256 + 91) == 91)) = true) ∧ (bq cX9_readPairs 27 42 = true) ∧ ((bq cX9_readPairs 28 180 && bq cX9_readPairs (28 + 1) 0 && bq cX9_readPairs (28 + 2) 88 && (0 * 256 + 88 == 88)) = true) ∧ (bq cX9_readPairs 31 62 = true) ∧ (bq cX9_readPairs 32 42 = true) ∧ ((bq cX9_readPairs 33 182 && bq cX9_readPairs (33 + 1) 0 && bq cX9_readPairs (33 + 2) 100 && (0 * 256 + 100 == 100)) = true) ∧ ((bq cX9_readPairs 36 184 && bq cX9_readPairs (36 + 1) 0 && bq cX9_readPairs (36 + 2) 111 && (0 * 256 + 111 == 111)) = true) ∧ ((bq cX9_readPairs 39 54 && bq cX9_readPairs (39 + 1) 4) = true) ∧ ((bq cX9_readPairs 41 21 && bq cX9_readPairs (41 + 1) 4) = true) ∧ ((bq cX9_readPairs 43 16 && bq cX9_readPairs (43 + 1) 247 && (Reader.signed 8 247 == (-9))) = true) ∧ ((bq cX9_readPairs 45 160 && bq cX9_readPairs (45 + 1) 0 && bq cX9_readPairs (45 + 2) 8 && (Reader.signed 16 (0 * 256 + 8) == 8)) = true) ∧ (bq cX9_readPairs 48 42 = true) ∧ ((bq cX9_readPairs 49 180 && bq cX9_readPairs (49 + 1) 0 && bq cX9_readPairs (49 + 2) 88 && (0 * 256 + 88 == 88)) = true) ∧ (bq cX9_readPairs 52 172 = true) ∧ (bq cX9_readPairs 53 42 = true) ∧ (bq cX9_readPairs 54 89 = true) ∧ ((bq cX9_readPairs 55 180 && bq cX9_readPairs (55 + 1) 0 && bq cX9_readPairs (55 + 2) 88 && (0 * 256 + 88 == 88)) = true) ∧ (bq cX9_readPairs 58 4 = true) := by decide +kernel
theorem dX9_readPairs_0 : decode cX9_readPairs 0 = .ok (.aload_n 0, 1) := dr_42  pk_decc_211.1
theorem dX9_readPairs_1 : decode cX9_readPairs 1 = .ok (.iload_n 1, 1) := dr_27  pk_decc_211.2.1
theorem dX9_readPairs_2 : decode cX9_readPairs 2 = .ok (.invokevirtual 104, 3) := dr_182 0 104  pk_decc_211.2.2.1
theorem dX9_readPairs_5 : decode cX9_readPairs 5 = .ok (.aload_n 0, 1) := dr_42  pk_decc_211.2.2.2.1
theorem dX9_readPairs_6 : decode cX9_readPairs 6 = .ok (.getfield 26, 3) := dr_180 0 26  pk_decc_211.2.2.2.2.1
theorem dX9_readPairs_9 : decode cX9_readPairs 9 = .ok (.iload_n 2, 1) := dr_28  pk_decc_211.2.2.2.2.2.1
theorem dX9_readPairs_10 : decode cX9_readPairs 10 = .ok (.iconst 0, 1) := dr_3  pk_decc_211.2.2.2.2.2.2.1
theorem dX9_readPairs_11 : decode cX9_readPairs 11 = .ok (.iastore, 1) := dr_79  pk_decc_211.2.2.2.2.2.2.2.1
theorem dX9_readPairs_12 : decode cX9_readPairs 12 = .ok (.aload_n 0, 1) := dr_42  pk_decc_211.2.2.2.2.2.2.2.2.1
theorem dX9_readPairs_13 : decode cX9_readPairs 13 = .ok (.invokevirtual 108, 3) := dr_182 0 108  pk_decc_211.2.2.2.2.2.2.2.2.2.1
theorem dX9_readPairs_16 : decode cX9_readPairs 16 = .ok (.aload_n 0, 1) := dr_42  pk_decc_211.2.2.2.2.2.2.2.2.2.2.1
theorem dX9_readPairs_17 : decode cX9_readPairs 17 = .ok (.getfield 88, 3) := dr_180 0 88  pk_decc_211.2.2.2.2.2.2.2.2.2.2.2.1
theorem dX9_readPairs_20 : decode cX9_readPairs 20 = .ok (.aload_n 0, 1) := dr_42  pk_decc_211.2.2.2.2.2.2.2.2.2.2.2.2.1
theorem dX9_readPairs_21 : decode cX9_readPairs 21 = .ok (.getfield 91, 3) := dr_180 0 91  pk_decc_211.2.2.2.2.2.2.2.2.2.2.2.2.2.1
theorem dX9_readPairs_24 : decode cX9_readPairs 24 = .ok (.if_icmp .ge 91, 3) := dr_162 0 91  pk_decc_211.2.2.2.2.2.2.2.2.2.2.2.2.2.2.1
theorem dX9_readPairs_27 : decode cX9_readPairs 27 = .ok (.aload_n 0, 1) := dr_42  pk_decc_211.2.2.2.2.2.2.2.2.2.2.2.2.2.2.2.1
theorem dX9_readPairs_28 : decode cX9_readPairs 28 = .ok (.getfield 88, 3) := dr_180 0 88  pk_decc_211.2.2.2.2.2.2.2.2.2.2.2.2.2.2.2.2.1
theorem dX9_readPairs_31 : decode cX9_readPairs 31 = .ok (.istore_n 3, 1) := dr_62  pk_decc_211.2.2.2.2.2.2.2.2.2.2.2.2.2.2.2.2.2.1
theorem dX9_readPairs_32 : decode cX9_readPairs 32 = .ok (.aload_n 0, 1) := dr_42  pk_decc_211.2.2.2.2.2.2.2.2.2.2.2.2.2.2.2.2.2.2.1
theorem dX9_readPairs_33 : decode cX9_readPairs 33 = .ok (.invokevirtual 100, 3) := dr_182 0 100  pk_decc_211.2.2.2.2.2.2.2.2.2.2.2.2.2.2.2.2.2.2.2.1
theorem dX9_readPairs_36 : decode cX9_readPairs 36 = .ok (.invokestatic 111, 3) := dr_184 0 111  pk_decc_211.2.2.2.2.2.2.2.2.2.2.2.2.2.2.2.2.2.2.2.2.1
theorem dX9_readPairs_39 : decode cX9_readPairs 39 = .ok (.istore 4, 2) := dr_54  pk_decc_211.2.2.2.2.2.2.2.2.2.2.2.2.2.2.2.2.2.2.2.2.2.1
theorem dX9_readPairs_41 : decode cX9_readPairs 41 = .ok (.iload 4, 2) := dr_21  pk_decc_211.2.2.2.2.2.2.2.2.2.2.2.2.2.2.2.2.2.2.2.2.2.2.1
theorem dX9_readPairs_43 : decode cX9_readPairs 43 = .ok (.bipush (-9), 2) := dr_16 247  pk_decc_211.2.2.2.2.2.2.2.2.2.2.2.2.2.2.2.2.2.2.2.2.2.2.2.1
theorem dX9_readPairs_45 : decode cX9_readPairs 45 = .ok (.if_icmp .ne 8, 3) := dr_160 0 8  pk_decc_211.2.2.2.2.2.2.2.2.2.2.2.2.2.2.2.2.2.2.2.2.2.2.2.2.1
theorem dX9_readPairs_48 : decode cX9_readPairs 48 = .ok (.aload_n 0, 1) := dr_42  pk_decc_211.2.2.2.2.2.2.2.2.2.2.2.2.2.2.2.2.2.2.2.2.2.2.2.2.2.1
theorem dX9_readPairs_49 : decode cX9_readPairs 49 = .ok (.getfield 88, 3) := dr_180 0 88  pk_decc_211.2.2.2.2.2.2.2.2.2.2.2.2.2.2.2.2.2.2.2.2.2.2.2.2.2.2.1
theorem dX9_readPairs_52 : decode cX9_readPairs 52 = .ok (.ireturn, 1) := dr_172  pk_decc_211.2.2.2.2.2.2.2.2.2.2.2.2.2.2.2.2.2.2.2.2.2.2.2.2.2.2.2.1
theorem dX9_readPairs_53 : decode cX9_readPairs 53 = .ok (.aload_n 0, 1) := dr_42  pk_decc_211.2.2.2.2.2.2.2.2.2.2.2.2.2.2.2.2.2.2.2.2.2.2.2.2.2.2.2.2.1
theorem dX9_readPairs_54 : decode cX9_readPairs 54 = .ok (.dup, 1) := dr_89  pk_decc_211.2.2.2.2.2.2.2.2.2.2.2.2.2.2.2.2.2.2.2.2.2.2.2.2.2.2.2.2.2.1
theorem dX9_readPairs_55 : decode cX9_readPairs 55 = .ok (.getfield 88, 3) := dr_180 0 88  pk_decc_211.2.2.2.2.2.2.2.2.2.2.2.2.2.2.2.2.2.2.2.2.2.2.2.2.2.2.2.2.2.2.1
theorem dX9_readPairs_58 : decode cX9_readPairs 58 = .ok (.iconst 1, 1) := dr_4  pk_decc_211.2.2.2.2.2.2.2.2.2.2.2.2.2.2.2.2.2.2.2.2.2.2.2.2.2.2.2.2.2.2.2
set_option maxRecDepth 20000 in
theorem pk_decc_212 : (bq cX9_readPairs 59 96 = true) ∧ ((bq cX9_readPairs 60 181 && bq cX9_readPairs (60 + 1) 0 && bq cX9_readPairs (60 + 2) 88 && (0 * 256 + 88 == 88)) = true) ∧ (bq cX9_readPairs 63 42 = true) ∧ ((bq cX9_readPairs 64 182 && bq cX9_readPairs (64 + 1) 0 && bq cX9_readPairs (64 + 2) 100 && (0 * 256 + 100 == 100)) = true) ∧ ((bq cX9_readPairs 67 184 && bq cX9_readPairs (67 + 1) 0 && bq cX9_readPairs (67 + 2) 111 && (0 * 256 + 111 == 111)) = true) ∧ ((bq cX9_readPairs 70 54 && bq cX9_readPairs (70 + 1) 5) = true) ∧ ((bq cX9_readPairs 72 21 && bq cX9_readPairs (72 + 1) 5) = true) ∧ ((bq cX9_readPairs 74 16 && bq cX9_readPairs (74 + 1) 247 && (Reader.signed 8 247 == (-9))) = true) ∧ ((bq cX9_readPairs 76 160 && bq cX9_readPairs (76 + 1) 0 && bq cX9_readPairs (76 + 2) 8 && (Reader.signed 16 (0 * 256 + 8) == 8)) = true) ∧ (bq cX9_readPairs 79 42 = true) ∧ ((bq cX9_readPairs 80 180 && bq cX9_readPairs (80 + 1) 0 && bq cX9_readPairs (80 + 2) 88 && (0 * 256 + 88 == 88)) = true) ∧ (bq cX9_readPairs 83 172 = true) ∧ (bq cX9_readPairs 84 42 = true) ∧ (bq cX9_readPairs 85 89 = true) ∧ ((bq cX9_readPairs 86 180 && bq cX9_readPairs (86 + 1) 0 && bq cX9_readPairs (86 + 2) 88 && (0 * 256 + 88 == 88)) = true) ∧ (bq cX9_readPairs 89 4 = true) ∧ (bq cX9_readPairs 90 96 = true) ∧ ((bq cX9_readPairs 91 181 && bq cX9_readPairs (91 + 1) 0 && bq cX9_readPairs (91 + 2) 88 && (0 * 256 + 88 == 88)) = true) ∧ (bq cX9_readPairs 94 42 = true) ∧ (bq cX9_readPairs 95 28 = true) ∧ ((bq cX9_readPairs 96 16 && bq cX9_readPairs (96 + 1) 16 && (Reader.signed 8 16 == 16)) = true) ∧ ((bq cX9_readPairs 98 21 && bq cX9_readPairs (98 + 1) 4) = true) ∧ (bq cX9_readPairs 100 104 = true) ∧ ((bq cX9_readPairs 101 21 && bq cX9_readPairs (101 + 1) 5) = true) ∧ (bq cX9_readPairs 103 96 = true) ∧ (bq cX9_readPairs 104 29 = true) ∧ ((bq cX9_readPairs 105 182 && bq cX9_readPairs (105 + 1) 0 && bq cX9_readPairs (105 + 2) 115 && (0 * 256 + 115 == 115)) = true) ∧ (bq cX9_readPairs 108 42 = true) ∧ ((bq cX9_readPairs 109 182 && bq cX9_readPairs (109 + 1) 0 && bq cX9_readPairs (109 + 2) 108 && (0 * 256 + 108 == 108)) = true) ∧ ((bq cX9_readPairs 112 167 && bq cX9_readPairs (112 + 1) 255 && bq cX9_readPairs (112 + 2) 160 && (Reader.signed 16 (255 * 256 + 160) == (-96))) = true) ∧ (bq cX9_readPairs 115 42 = true) ∧ ((bq cX9_readPairs 116 180 && bq cX9_readPairs (116 + 1) 0 && bq cX9_readPairs (116 + 2) 26 && (0 * 256 + 26 == 26)) = true) := by decide +kernel
theorem dX9_readPairs_59 : decode cX9_readPairs 59 = .ok (.iadd, 1) := dr_96  pk_decc_212.1
theorem dX9_readPairs_60 : decode cX9_readPairs 60 = .ok (.putfield 88, 3) := dr_181 0 88  pk_decc_212.2.1
theorem dX9_readPairs_63 : decode cX9_readPairs 63 = .ok (.aload_n 0, 1) := dr_42  pk_decc_212.2.2.1
theorem dX9_readPairs_64 : decode cX9_readPairs 64 = .ok (.invokevirtual 100, 3) := dr_182 0 100  pk_decc_212.2.2.2.1
theorem dX9_readPairs_67 : decode cX9_readPairs 67 = .ok (.invokestatic 111, 3) := dr_184 0 111  pk_decc_212.2.2.2.2.1
theorem dX9_readPairs_70 : decode cX9_readPairs 70 = .ok (.istore 5, 2) := dr_54  pk_decc_212.2.2.2.2.2.1
theorem dX9_readPairs_72 : decode cX9_readPairs 72 = .ok (.iload 5, 2) := dr_21  pk_decc_212.2.2.2.2.2.2.1
theorem dX9_readPairs_74 : decode cX9_readPairs 74 = .ok (.bipush (-9), 2) := dr_16 247  pk_decc_212.2.2.2.2.2.2.2.1
theorem dX9_readPairs_76 : decode cX9_readPairs 76 = .ok (.if_icmp .ne 8, 3) := dr_160 0 8  pk_decc_212.2.2.2.2.2.2.2.2.1
theorem dX9_readPairs_79 : decode cX9_readPairs 79 = .ok (.aload_n 0, 1) := dr_42  pk_decc_212.2.2.2.2.2.2.2.2.2.1
theorem dX9_readPairs_80 : decode cX9_readPairs 80 = .ok (.getfield 88, 3) := dr_180 0 88  pk_decc_212.2.2.2.2.2.2.2.2.2.2.1
theorem dX9_readPairs_83 : decode cX9_readPairs 83 = .ok (.ireturn, 1) := dr_172  pk_decc_212.2.2.2.2.2.2.2.2.2.2.2.1
theorem dX9_readPairs_84 : decode cX9_readPairs 84 = .ok (.aload_n 0, 1) := dr_42  pk_decc_212.2.2.2.2.2.2.2.2.2.2.2.2.1
theorem dX9_readPairs_85 : decode cX9_readPairs 85 = .ok (.dup, 1) := dr_89  pk_decc_212.2.2.2.2.2.2.2.2.2.2.2.2.2.1
theorem dX9_readPairs_86 : decode cX9_readPairs 86 = .ok (.getfield 88, 3) := dr_180 0 88  pk_decc_212.2.2.2.2.2.2.2.2.2.2.2.2.2.2.1
theorem dX9_readPairs_89 : decode cX9_readPairs 89 = .ok (.iconst 1, 1) := dr_4  pk_decc_212.2.2.2.2.2.2.2.2.2.2.2.2.2.2.2.1
theorem dX9_readPairs_90 : decode cX9_readPairs 90 = .ok (.iadd, 1) := dr_96  pk_decc_212.2.2.2.2.2.2.2.2.2.2.2.2.2.2.2.2.1
theorem dX9_readPairs_91 : decode cX9_readPairs 91 = .ok (.putfield 88, 3) := dr_181 0 88  pk_decc_212.2.2.2.2.2.2.2.2.2.2.2.2.2.2.2.2.2.1
theorem dX9_readPairs_94 : decode cX9_readPairs 94 = .ok (.aload_n 0, 1) := dr_42  pk_decc_212.2.2.2.2.2.2.2.2.2.2.2.2.2.2.2.2.2.2.1
theorem dX9_readPairs_95 : decode cX9_readPairs 95 = .ok (.iload_n 2, 1) := dr_28  pk_decc_212.2.2.2.2.2.2.2.2.2.2.2.2.2.2.2.2.2.2.2.1
theorem dX9_readPairs_96 : decode cX9_readPairs 96 = .ok (.bipush 16, 2) := dr_16 16  pk_decc_212.2.2.2.2.2.2.2.2.2.2.2.2.2.2.2.2.2.2.2.2.1
theorem dX9_readPairs_98 : decode cX9_readPairs 98 = .ok (.iload 4, 2) := dr_21  pk_decc_212.2.2.2.2.2.2.2.2.2.2.2.2.2.2.2.2.2.2.2.2.2.1
theorem dX9_readPairs_100 : decode cX9_readPairs 100 = .ok (.imul, 1) := dr_104  pk_decc_212.2.2.2.2.2.2.2.2.2.2.2.2.2.2.2.2.2.2.2.2.2.2.1
theorem dX9_readPairs_101 : decode cX9_readPairs 101 = .ok (.iload 5, 2) := dr_21  pk_decc_212.2.2.2.2.2.2.2.2.2.2.2.2.2.2.2.2.2.2.2.2.2.2.2.1
theorem dX9_readPairs_103 : decode cX9_readPairs 103 = .ok (.iadd, 1) := dr_96  pk_decc_212.2.2.2.2.2.2.2.2.2.2.2.2.2.2.2.2.2.2.2.2.2.2.2.2.1
theorem dX9_readPairs_104 : decode cX9_readPairs 104 = .ok (.iload_n 3, 1) := dr_29  pk_decc_212.2.2.2.2.2.2.2.2.2.2.2.2.2.2.2.2.2.2.2.2.2.2.2.2.2.1
theorem dX9_readPairs_105 : decode cX9_readPairs 105 = .ok (.invokevirtual 115, 3) := dr_182 0 115  pk_decc_212.2.2.2.2.2.2.2.2.2.2.2.2.2.2.2.2.2.2.2.2.2.2.2.2.2.2.1
theorem dX9_readPairs_108 : decode cX9_readPairs 108 = .ok (.aload_n 0, 1) := dr_42  pk_decc_212.2.2.2.2.2.2.2.2.2.2.2.2.2.2.2.2.2.2.2.2.2.2.2.2.2.2.2.1
theorem dX9_readPairs_109 : decode cX9_readPairs 109 = .ok (.invokevirtual 108, 3) := dr_182 0 108  pk_decc_212.2.2.2.2.2.2.2.2.2.2.2.2.2.2.2.2.2.2.2.2.2.2.2.2.2.2.2.2.1
theorem dX9_readPairs_112 : decode cX9_readPairs 112 = .ok (.goto (-96), 3) := dr_167 255 160  pk_decc_212.2.2.2.2.2.2.2.2.2.2.2.2.2.2.2.2.2.2.2.2.2.2.2.2.2.2.2.2.2.1
theorem dX9_readPairs_115 : decode cX9_readPairs 115 = .ok (.aload_n 0, 1) := dr_42  pk_decc_212.2.2.2.2.2.2.2.2.2.2.2.2.2.2.2.2.2.2.2.2.2.2.2.2.2.2.2.2.2.2.1
theorem dX9_readPairs_116 : decode cX9_readPairs 116 = .ok (.getfield 26, 3) := dr_180 0 26  pk_decc_212.2.2.2.2.2.2.2.2.2.2.2.2.2.2.2.2.2.2.2.2.2.2.2.2.2.2.2.2.2.2.2
set_option maxRecDepth 20000 in
theorem pk_decc_213 : (bq cX9_readPairs 119 28 = true) ∧ (bq cX9_readPairs 120 46 = true) ∧ ((bq cX9_readPairs 121 154 && bq cX9_readPairs (121 + 1) 0 && bq cX9_readPairs (121 + 2) 10 && (Reader.signed 16 (0 * 256 + 10) == 10)) = true) ∧ (bq cX9_readPairs 124 42 = true) ∧ ((bq cX9_readPairs 125 180 && bq cX9_readPairs (125 + 1) 0 && bq cX9_readPairs (125 + 2) 91 && (0 * 256 + 91 == 91)) = true) ∧ ((bq cX9_readPairs 128 167 && bq cX9_readPairs (128 + 1) 0 && bq cX9_readPairs (128 + 2) 5 && (Reader.signed 16 (0 * 256 + 5) == 5)) = true) ∧ ((bq cX9_readPairs 131 16 && bq cX9_readPairs (131 + 1) 247 && (Reader.signed 8 247 == (-9))) = true) ∧ (bq cX9_readPairs 133 172 = true) := by decide +kernel
theorem dX9_readPairs_119 : decode cX9_readPairs 119 = .ok (.iload_n 2, 1) := dr_28  pk_decc_213.1
theorem dX9_readPairs_120 : decode cX9_readPairs 120 = .ok (.iaload, 1) := dr_46  pk_decc_213.2.1
theorem dX9_readPairs_121 : decode cX9_readPairs 121 = .ok (.ifCond .ne 10, 3) := dr_154 0 10  pk_decc_213.2.2.1
theorem dX9_readPairs_124 : decode cX9_readPairs 124 = .ok (.aload_n 0, 1) := dr_42  pk_decc_213.2.2.2.1
theorem dX9_readPairs_125 : decode cX9_readPairs 125 = .ok (.getfield 91, 3) := dr_180 0 91  pk_decc_213.2.2.2.2.1
theorem dX9_readPairs_128 : decode cX9_readPairs 128 = .ok (.goto 5, 3) := dr_167 0 5  pk_decc_213.2.2.2.2.2.1
theorem dX9_readPairs_131 : decode cX9_readPairs 131 = .ok (.bipush (-9), 2) := dr_16 247  pk_decc_213.2.2.2.2.2.2.1
theorem dX9_readPairs_133 : decode cX9_readPairs 133 = .ok (.ireturn, 1) := dr_172  pk_decc_213.2.2.2.2.2.2.2
set_option maxRecDepth 20000 in
theorem pk_decc_214 : (bq cX9_more 0 28 = true) ∧ ((bq cX9_more 1 154 && bq cX9_more (1 + 1) 0 && bq cX9_more (1 + 2) 7 && (Reader.signed 16 (0 * 256 + 7) == 7)) = true) ∧ (bq cX9_more 4 30 = true) ∧ ((bq cX9_more 5 167 && bq cX9_more (5 + 1) 0 && bq cX9_more (5 + 2) 17 && (Reader.signed 16 (0 * 256 + 17) == 17)) = true) ∧ (bq cX9_more 8 30 = true) ∧ ((bq cX9_more 9 20 && bq cX9_more (9 + 1) 0 && bq cX9_more (9 + 2) 119 && (0 * 256 + 119 == 119)) = true) ∧ (bq cX9_more 12 105 = true) ∧ (bq cX9_more 13 28 = true) ∧ (bq cX9_more 14 133 = true) ∧ (bq cX9_more 15 97 = true) ∧ ((bq cX9_more 16 20 && bq cX9_more (16 + 1) 0 && bq cX9_more (16 + 2) 121 && (0 * 256 + 121 == 121)) = true) ∧ (bq cX9_more 19 101 = true) ∧ (bq cX9_more 20 10 = true) ∧ (bq cX9_more 21 97 = true) ∧ (bq cX9_more 22 173 = true) := by decide +kernel
theorem dX9_more_0 : decode cX9_more 0 = .ok (.iload_n 2, 1) := dr_28  pk_decc_214.1
theorem dX9_more_1 : decode cX9_more 1 = .ok (.ifCond .ne 7, 3) := dr_154 0 7  pk_decc_214.2.1
theorem dX9_more_4 : decode cX9_more 4 = .ok (.lload_n 0, 1) := dr_30  pk_decc_214.2.2.1
theorem dX9_more_5 : decode cX9_more 5 = .ok (.goto 17, 3) := dr_167 0 17  pk_decc_214.2.2.2.1
theorem dX9_more_8 : decode cX9_more 8 = .ok (.lload_n 0, 1) := dr_30  pk_decc_214.2.2.2.2.1
theorem dX9_more_9 : decode cX9_more 9 = .ok (.ldc2_w 119, 3) := dr_20 0 119  pk_decc_214.2.2.2.2.2.1
theorem dX9_more_12 : decode cX9_more 12 = .ok (.lmul, 1) := dr_105  pk_decc_214.2.2.2.2.2.2.1
theorem dX9_more_13 : decode cX9_more 13 = .ok (.iload_n 2, 1) := dr_28  pk_decc_214.2.2.2.2.2.2.2.1
theorem dX9_more_14 : decode cX9_more 14 = .ok (.i2l, 1) := dr_133  pk_decc_214.2.2.2.2.2.2.2.2.1
theorem dX9_more_15 : decode cX9_more 15 = .ok (.ladd, 1) := dr_97  pk_decc_214.2.2.2.2.2.2.2.2.2.1
theorem dX9_more_16 : decode cX9_more 16 = .ok (.ldc2_w 121, 3) := dr_20 0 121  pk_decc_214.2.2.2.2.2.2.2.2.2.2.1
theorem dX9_more_19 : decode cX9_more 19 = .ok (.lsub, 1) := dr_101  pk_decc_214.2.2.2.2.2.2.2.2.2.2.2.1
theorem dX9_more_20 : decode cX9_more 20 = .ok (.lconst 1, 1) := dr_10  pk_decc_214.2.2.2.2.2.2.2.2.2.2.2.2.1
theorem dX9_more_21 : decode cX9_more 21 = .ok (.ladd, 1) := dr_97  pk_decc_214.2.2.2.2.2.2.2.2.2.2.2.2.2.1
theorem dX9_more_22 : decode cX9_more 22 = .ok (.lreturn, 1) := dr_173  pk_decc_214.2.2.2.2.2.2.2.2.2.2.2.2.2.2
set_option maxRecDepth 20000 in
theorem pk_decc_215 : (bq cX9_spelled 0 9 = true) ∧ (bq cX9_spelled 1 26 = true) ∧ ((bq cX9_spelled 2 184 && bq cX9_spelled (2 + 1) 0 && bq cX9_spelled (2 + 2) 123 && (0 * 256 + 123 == 123)) = true) ∧ (bq cX9_spelled 5 27 = true) ∧ ((bq cX9_spelled 6 184 && bq cX9_spelled (6 + 1) 0 && bq cX9_spelled (6 + 2) 123 && (0 * 256 + 123 == 123)) = true) ∧ (bq cX9_spelled 9 28 = true) ∧ ((bq cX9_spelled 10 184 && bq cX9_spelled (10 + 1) 0 && bq cX9_spelled (10 + 2) 123 && (0 * 256 + 123 == 123)) = true) ∧ (bq cX9_spelled 13 29 = true) ∧ ((bq cX9_spelled 14 184 && bq cX9_spelled (14 + 1) 0 && bq cX9_spelled (14 + 2) 123 && (0 * 256 + 123 == 123)) = true) ∧ ((bq cX9_spelled 17 21 && bq cX9_spelled (17 + 1) 4) = true) ∧ ((bq cX9_spelled 19 184 && bq cX9_spelled (19 + 1) 0 && bq cX9_spelled (19 + 2) 123 && (0 * 256 + 123 == 123)) = true) ∧ (bq cX9_spelled 22 173 = true) := by decide +kernel
theorem dX9_spelled_0 : decode cX9_spelled 0 = .ok (.lconst 0, 1) := dr_9  pk_decc_215.1
theorem dX9_spelled_1 : decode cX9_spelled 1 = .ok (.iload_n 0, 1) := dr_26  pk_decc_215.2.1
theorem dX9_spelled_2 : decode cX9_spelled 2 = .ok (.invokestatic 123, 3) := dr_184 0 123  pk_decc_215.2.2.1
theorem dX9_spelled_5 : decode cX9_spelled 5 = .ok (.iload_n 1, 1) := dr_27  pk_decc_215.2.2.2.1
theorem dX9_spelled_6 : decode cX9_spelled 6 = .ok (.invokestatic 123, 3) := dr_184 0 123  pk_decc_215.2.2.2.2.1
theorem dX9_spelled_9 : decode cX9_spelled 9 = .ok (.iload_n 2, 1) := dr_28  pk_decc_215.2.2.2.2.2.1
theorem dX9_spelled_10 : decode cX9_spelled 10 = .ok (.invokestatic 123, 3) := dr_184 0 123  pk_decc_215.2.2.2.2.2.2.1
theorem dX9_spelled_13 : decode cX9_spelled 13 = .ok (.iload_n 3, 1) := dr_29  pk_decc_215.2.2.2.2.2.2.2.1
theorem dX9_spelled_14 : decode cX9_spelled 14 = .ok (.invokestatic 123, 3) := dr_184 0 123  pk_decc_215.2.2.2.2.2.2.2.2.1
theorem dX9_spelled_17 : decode cX9_spelled 17 = .ok (.iload 4, 2) := dr_21  pk_decc_215.2.2.2.2.2.2.2.2.2.1
theorem dX9_spelled_19 : decode cX9_spelled 19 = .ok (.invokestatic 123, 3) := dr_184 0 123  pk_decc_215.2.2.2.2.2.2.2.2.2.2.1
theorem dX9_spelled_22 : decode cX9_spelled 22 = .ok (.lreturn, 1) := dr_173  pk_decc_215.2.2.2.2.2.2.2.2.2.2.2
set_option maxRecDepth 20000 in
theorem pk_decc_216 : (bq cX9_wordOf 0 9 = true) ∧ (bq cX9_wordOf 1 66 = true) ∧ (bq cX9_wordOf 2 27 = true) ∧ ((bq cX9_wordOf 3 54 && bq cX9_wordOf (3 + 1) 5) = true) ∧ ((bq cX9_wordOf 5 21 && bq cX9_wordOf (5 + 1) 5) = true) ∧ (bq cX9_wordOf 7 28 = true) ∧ ((bq cX9_wordOf 8 162 && bq cX9_wordOf (8 + 1) 0 && bq cX9_wordOf (8 + 2) 35 && (Reader.signed 16 (0 * 256 + 35) == 35)) = true) ∧ ((bq cX9_wordOf 11 21 && bq cX9_wordOf (11 + 1) 5) = true) ∧ (bq cX9_wordOf 13 27 = true) ∧ ((bq cX9_wordOf 14 16 && bq cX9_wordOf (14 + 1) 6 && (Reader.signed 8 6 == 6)) = true) ∧ (bq cX9_wordOf 16 96 = true) ∧ ((bq cX9_wordOf 17 162 && bq cX9_wordOf (17 + 1) 0 && bq cX9_wordOf (17 + 2) 26 && (Reader.signed 16 (0 * 256 + 26) == 26)) = true) ∧ (bq cX9_wordOf 20 33 = true) ∧ (bq cX9_wordOf 21 42 = true) ∧ ((bq cX9_wordOf 22 180 && bq cX9_wordOf (22 + 1) 0 && bq cX9_wordOf (22 + 2) 13 && (0 * 256 + 13 == 13)) = true) ∧ (bq cX9_wordOf 25 42 = true) ∧ ((bq cX9_wordOf 26 180 && bq cX9_wordOf (26 + 1) 0 && bq cX9_wordOf (26 + 2) 94 && (0 * 256 + 94 == 94)) = true) ∧ ((bq cX9_wordOf 29 21 && bq cX9_wordOf (29 + 1) 5) = true) ∧ (bq cX9_wordOf 31 96 = true) ∧ (bq cX9_wordOf 32 51 = true) ∧ ((bq cX9_wordOf 33 184 && bq cX9_wordOf (33 + 1) 0 && bq cX9_wordOf (33 + 2) 123 && (0 * 256 + 123 == 123)) = true) ∧ (bq cX9_wordOf 36 66 = true) := by decide +kernel
theorem dX9_wordOf_0 : decode cX9_wordOf 0 = .ok (.lconst 0, 1) := dr_9  pk_decc_216.1
theorem dX9_wordOf_1 : decode cX9_wordOf 1 = .ok (.lstore_n 3, 1) := dr_66  pk_decc_216.2.1
theorem dX9_wordOf_2 : decode cX9_wordOf 2 = .ok (.iload_n 1, 1) := dr_27  pk_decc_216.2.2.1
theorem dX9_wordOf_3 : decode cX9_wordOf 3 = .ok (.istore 5, 2) := dr_54  pk_decc_216.2.2.2.1
theorem dX9_wordOf_5 : decode cX9_wordOf 5 = .ok (.iload 5, 2) := dr_21  pk_decc_216.2.2.2.2.1
theorem dX9_wordOf_7 : decode cX9_wordOf 7 = .ok (.iload_n 2, 1) := dr_28  pk_decc_216.2.2.2.2.2.1
theorem dX9_wordOf_8 : decode cX9_wordOf 8 = .ok (.if_icmp .ge 35, 3) := dr_162 0 35  pk_decc_216.2.2.2.2.2.2.1
theorem dX9_wordOf_11 : decode cX9_wordOf 11 = .ok (.iload 5, 2) := dr_21  pk_decc_216.2.2.2.2.2.2.2.1
theorem dX9_wordOf_13 : decode cX9_wordOf 13 = .ok (.iload_n 1, 1) := dr_27  pk_decc_216.2.2.2.2.2.2.2.2.1
theorem dX9_wordOf_14 : decode cX9_wordOf 14 = .ok (.bipush 6, 2) := dr_16 6  pk_decc_216.2.2.2.2.2.2.2.2.2.1
theorem dX9_wordOf_16 : decode cX9_wordOf 16 = .ok (.iadd, 1) := dr_96  pk_decc_216.2.2.2.2.2.2.2.2.2.2.1
theorem dX9_wordOf_17 : decode cX9_wordOf 17 = .ok (.if_icmp .ge 26, 3) := dr_162 0 26  pk_decc_216.2.2.2.2.2.2.2.2.2.2.2.1
theorem dX9_wordOf_20 : decode cX9_wordOf 20 = .ok (.lload_n 3, 1) := dr_33  pk_decc_216.2.2.2.2.2.2.2.2.2.2.2.2.1
theorem dX9_wordOf_21 : decode cX9_wordOf 21 = .ok (.aload_n 0, 1) := dr_42  pk_decc_216.2.2.2.2.2.2.2.2.2.2.2.2.2.1
theorem dX9_wordOf_22 : decode cX9_wordOf 22 = .ok (.getfield 13, 3) := dr_180 0 13  pk_decc_216.2.2.2.2.2.2.2.2.2.2.2.2.2.2.1
theorem dX9_wordOf_25 : decode cX9_wordOf 25 = .ok (.aload_n 0, 1) := dr_42  pk_decc_216.2.2.2.2.2.2.2.2.2.2.2.2.2.2.2.1
theorem dX9_wordOf_26 : decode cX9_wordOf 26 = .ok (.getfield 94, 3) := dr_180 0 94  pk_decc_216.2.2.2.2.2.2.2.2.2.2.2.2.2.2.2.2.1
theorem dX9_wordOf_29 : decode cX9_wordOf 29 = .ok (.iload 5, 2) := dr_21  pk_decc_216.2.2.2.2.2.2.2.2.2.2.2.2.2.2.2.2.2.1
theorem dX9_wordOf_31 : decode cX9_wordOf 31 = .ok (.iadd, 1) := dr_96  pk_decc_216.2.2.2.2.2.2.2.2.2.2.2.2.2.2.2.2.2.2.1
theorem dX9_wordOf_32 : decode cX9_wordOf 32 = .ok (.baload, 1) := dr_51  pk_decc_216.2.2.2.2.2.2.2.2.2.2.2.2.2.2.2.2.2.2.2.1
theorem dX9_wordOf_33 : decode cX9_wordOf 33 = .ok (.invokestatic 123, 3) := dr_184 0 123  pk_decc_216.2.2.2.2.2.2.2.2.2.2.2.2.2.2.2.2.2.2.2.2.1
theorem dX9_wordOf_36 : decode cX9_wordOf 36 = .ok (.lstore_n 3, 1) := dr_66  pk_decc_216.2.2.2.2.2.2.2.2.2.2.2.2.2.2.2.2.2.2.2.2.2
theorem dX9_wordOf_37 : decode cX9_wordOf 37 = .ok (.iinc 5 1, 3) := by decide +kernel
set_option maxRecDepth 20000 in
theorem pk_decc_217 : ((bq cX9_wordOf 40 167 && bq cX9_wordOf (40 + 1) 255 && bq cX9_wordOf (40 + 2) 221 && (Reader.signed 16 (255 * 256 + 221) == (-35))) = true) ∧ ((bq cX9_wordOf 43 16 && bq cX9_wordOf (43 + 1) 247 && (Reader.signed 8 247 == (-9))) = true) ∧ ((bq cX9_wordOf 45 54 && bq cX9_wordOf (45 + 1) 5) = true) ∧ (bq cX9_wordOf 47 33 = true) ∧ ((bq cX9_wordOf 48 16 && bq cX9_wordOf (48 + 1) 115 && (Reader.signed 8 115 == 115)) = true) ∧ ((bq cX9_wordOf 50 16 && bq cX9_wordOf (50 + 1) 116 && (Reader.signed 8 116 == 116)) = true) ∧ ((bq cX9_wordOf 52 16 && bq cX9_wordOf (52 + 1) 111 && (Reader.signed 8 111 == 111)) = true) ∧ ((bq cX9_wordOf 54 16 && bq cX9_wordOf (54 + 1) 112 && (Reader.signed 8 112 == 112)) = true) ∧ (bq cX9_wordOf 56 3 = true) ∧ ((bq cX9_wordOf 57 184 && bq cX9_wordOf (57 + 1) 0 && bq cX9_wordOf (57 + 2) 127 && (0 * 256 + 127 == 127)) = true) ∧ (bq cX9_wordOf 60 148 = true) ∧ ((bq cX9_wordOf 61 154 && bq cX9_wordOf (61 + 1) 0 && bq cX9_wordOf (61 + 2) 7 && (Reader.signed 16 (0 * 256 + 7) == 7)) = true) ∧ (bq cX9_wordOf 64 3 = true) ∧ ((bq cX9_wordOf 65 167 && bq cX9_wordOf (65 + 1) 0 && bq cX9_wordOf (65 + 2) 5 && (Reader.signed 16 (0 * 256 + 5) == 5)) = true) ∧ ((bq cX9_wordOf 68 21 && bq cX9_wordOf (68 + 1) 5) = true) ∧ ((bq cX9_wordOf 70 54 && bq cX9_wordOf (70 + 1) 5) = true) ∧ (bq cX9_wordOf 72 33 = true) ∧ ((bq cX9_wordOf 73 16 && bq cX9_wordOf (73 + 1) 105 && (Reader.signed 8 105 == 105)) = true) ∧ ((bq cX9_wordOf 75 16 && bq cX9_wordOf (75 + 1) 110 && (Reader.signed 8 110 == 110)) = true) ∧ (bq cX9_wordOf 77 3 = true) ∧ (bq cX9_wordOf 78 3 = true) ∧ (bq cX9_wordOf 79 3 = true) ∧ ((bq cX9_wordOf 80 184 && bq cX9_wordOf (80 + 1) 0 && bq cX9_wordOf (80 + 2) 127 && (0 * 256 + 127 == 127)) = true) ∧ (bq cX9_wordOf 83 148 = true) ∧ ((bq cX9_wordOf 84 154 && bq cX9_wordOf (84 + 1) 0 && bq cX9_wordOf (84 + 2) 7 && (Reader.signed 16 (0 * 256 + 7) == 7)) = true) ∧ (bq cX9_wordOf 87 4 = true) ∧ ((bq cX9_wordOf 88 167 && bq cX9_wordOf (88 + 1) 0 && bq cX9_wordOf (88 + 2) 5 && (Reader.signed 16 (0 * 256 + 5) == 5)) = true) ∧ ((bq cX9_wordOf 91 21 && bq cX9_wordOf (91 + 1) 5) = true) ∧ ((bq cX9_wordOf 93 54 && bq cX9_wordOf (93 + 1) 5) = true) ∧ (bq cX9_wordOf 95 33 = true) ∧ ((bq cX9_wordOf 96 16 && bq cX9_wordOf (96 + 1) 111 && (Reader.signed 8 111 == 111)) = true) ∧ ((bq cX9_wordOf 98 16 && bq cX9_wordOf (98 + 1) 117 && (Reader.signed 8 117 == 117)) = true) := by decide +kernel
theorem dX9_wordOf_40 : decode cX9_wordOf 40 = .ok (.goto (-35), 3) := dr_167 255 221  pk_decc_217.1
theorem dX9_wordOf_43 : decode cX9_wordOf 43 = .ok (.bipush (-9), 2) := dr_16 247  pk_decc_217.2.1
theorem dX9_wordOf_45 : decode cX9_wordOf 45 = .ok (.istore 5, 2) := dr_54  pk_decc_217.2.2.1
theorem dX9_wordOf_47 : decode cX9_wordOf 47 = .ok (.lload_n 3, 1) := dr_33  pk_decc_217.2.2.2.1
theorem dX9_wordOf_48 : decode cX9_wordOf 48 = .ok (.bipush 115, 2) := dr_16 115  pk_decc_217.2.2.2.2.1
theorem dX9_wordOf_50 : decode cX9_wordOf 50 = .ok (.bipush 116, 2) := dr_16 116  pk_decc_217.2.2.2.2.2.1
theorem dX9_wordOf_52 : decode cX9_wordOf 52 = .ok (.bipush 111, 2) := dr_16 111  pk_decc_217.2.2.2.2.2.2.1
theorem dX9_wordOf_54 : decode cX9_wordOf 54 = .ok (.bipush 112, 2) := dr_16 112  pk_decc_217.2.2.2.2.2.2.2.1
theorem dX9_wordOf_56 : decode cX9_wordOf 56 = .ok (.iconst 0, 1) := dr_3  pk_decc_217.2.2.2.2.2.2.2.2.1
theorem dX9_wordOf_57 : decode cX9_wordOf 57 = .ok (.invokestatic 127, 3) := dr_184 0 127  pk_decc_217.2.2.2.2.2.2.2.2.2.1
theorem dX9_wordOf_60 : decode cX9_wordOf 60 = .ok (.lcmp, 1) := dr_148  pk_decc_217.2.2.2.2.2.2.2.2.2.2.1
theorem dX9_wordOf_61 : decode cX9_wordOf 61 = .ok (.ifCond .ne 7, 3) := dr_154 0 7  pk_decc_217.2.2.2.2.2.2.2.2.2.2.2.1
theorem dX9_wordOf_64 : decode cX9_wordOf 64 = .ok (.iconst 0, 1) := dr_3  pk_decc_217.2.2.2.2.2.2.2.2.2.2.2.2.1
theorem dX9_wordOf_65 : decode cX9_wordOf 65 = .ok (.goto 5, 3) := dr_167 0 5  pk_decc_217.2.2.2.2.2.2.2.2.2.2.2.2.2.1
theorem dX9_wordOf_68 : decode cX9_wordOf 68 = .ok (.iload 5, 2) := dr_21  pk_decc_217.2.2.2.2.2.2.2.2.2.2.2.2.2.2.1
theorem dX9_wordOf_70 : decode cX9_wordOf 70 = .ok (.istore 5, 2) := dr_54  pk_decc_217.2.2.2.2.2.2.2.2.2.2.2.2.2.2.2.1
theorem dX9_wordOf_72 : decode cX9_wordOf 72 = .ok (.lload_n 3, 1) := dr_33  pk_decc_217.2.2.2.2.2.2.2.2.2.2.2.2.2.2.2.2.1
theorem dX9_wordOf_73 : decode cX9_wordOf 73 = .ok (.bipush 105, 2) := dr_16 105  pk_decc_217.2.2.2.2.2.2.2.2.2.2.2.2.2.2.2.2.2.1
theorem dX9_wordOf_75 : decode cX9_wordOf 75 = .ok (.bipush 110, 2) := dr_16 110  pk_decc_217.2.2.2.2.2.2.2.2.2.2.2.2.2.2.2.2.2.2.1
theorem dX9_wordOf_77 : decode cX9_wordOf 77 = .ok (.iconst 0, 1) := dr_3  pk_decc_217.2.2.2.2.2.2.2.2.2.2.2.2.2.2.2.2.2.2.2.1
theorem dX9_wordOf_78 : decode cX9_wordOf 78 = .ok (.iconst 0, 1) := dr_3  pk_decc_217.2.2.2.2.2.2.2.2.2.2.2.2.2.2.2.2.2.2.2.2.1
theorem dX9_wordOf_79 : decode cX9_wordOf 79 = .ok (.iconst 0, 1) := dr_3  pk_decc_217.2.2.2.2.2.2.2.2.2.2.2.2.2.2.2.2.2.2.2.2.2.1
theorem dX9_wordOf_80 : decode cX9_wordOf 80 = .ok (.invokestatic 127, 3) := dr_184 0 127  pk_decc_217.2.2.2.2.2.2.2.2.2.2.2.2.2.2.2.2.2.2.2.2.2.2.1
theorem dX9_wordOf_83 : decode cX9_wordOf 83 = .ok (.lcmp, 1) := dr_148  pk_decc_217.2.2.2.2.2.2.2.2.2.2.2.2.2.2.2.2.2.2.2.2.2.2.2.1
theorem dX9_wordOf_84 : decode cX9_wordOf 84 = .ok (.ifCond .ne 7, 3) := dr_154 0 7  pk_decc_217.2.2.2.2.2.2.2.2.2.2.2.2.2.2.2.2.2.2.2.2.2.2.2.2.1
theorem dX9_wordOf_87 : decode cX9_wordOf 87 = .ok (.iconst 1, 1) := dr_4  pk_decc_217.2.2.2.2.2.2.2.2.2.2.2.2.2.2.2.2.2.2.2.2.2.2.2.2.2.1
theorem dX9_wordOf_88 : decode cX9_wordOf 88 = .ok (.goto 5, 3) := dr_167 0 5  pk_decc_217.2.2.2.2.2.2.2.2.2.2.2.2.2.2.2.2.2.2.2.2.2.2.2.2.2.2.1
theorem dX9_wordOf_91 : decode cX9_wordOf 91 = .ok (.iload 5, 2) := dr_21  pk_decc_217.2.2.2.2.2.2.2.2.2.2.2.2.2.2.2.2.2.2.2.2.2.2.2.2.2.2.2.1
theorem dX9_wordOf_93 : decode cX9_wordOf 93 = .ok (.istore 5, 2) := dr_54  pk_decc_217.2.2.2.2.2.2.2.2.2.2.2.2.2.2.2.2.2.2.2.2.2.2.2.2.2.2.2.2.1
theorem dX9_wordOf_95 : decode cX9_wordOf 95 = .ok (.lload_n 3, 1) := dr_33  pk_decc_217.2.2.2.2.2.2.2.2.2.2.2.2.2.2.2.2.2.2.2.2.2.2.2.2.2.2.2.2.2.1
theorem dX9_wordOf_96 : decode cX9_wordOf 96 = .ok (.bipush 111, 2) := dr_16 111  pk_decc_217.2.2.2.2.2.2.2.2.2.2.2.2.2.2.2.2.2.2.2.2.2.2.2.2.2.2.2.2.2.2.1
theorem dX9_wordOf_98 : decode cX9_wordOf 98 = .ok (.bipush 117, 2) := dr_16 117  pk_decc_217.2.2.2.2.2.2.2.2.2.2.2.2.2.2.2.2.2.2.2.2.2.2.2.2.2.2.2.2.2.2.2
set_option maxRecDepth 20000 in
theorem pk_decc_218 : ((bq cX9_wordOf 100 16 && bq cX9_wordOf (100 + 1) 116 && (Reader.signed 8 116 == 116)) = true) ∧ (bq cX9_wordOf 102 3 = true) ∧ (bq cX9_wordOf 103 3 = true) ∧ ((bq cX9_wordOf 104 184 && bq cX9_wordOf (104 + 1) 0 && bq cX9_wordOf (104 + 2) 127 && (0 * 256 + 127 == 127)) = true) ∧ (bq cX9_wordOf 107 148 = true) ∧ ((bq cX9_wordOf 108 154 && bq cX9_wordOf (108 + 1) 0 && bq cX9_wordOf (108 + 2) 7 && (Reader.signed 16 (0 * 256 + 7) == 7)) = true) ∧ (bq cX9_wordOf 111 5 = true) ∧ ((bq cX9_wordOf 112 167 && bq cX9_wordOf (112 + 1) 0 && bq cX9_wordOf (112 + 2) 5 && (Reader.signed 16 (0 * 256 + 5) == 5)) = true) ∧ ((bq cX9_wordOf 115 21 && bq cX9_wordOf (115 + 1) 5) = true) ∧ ((bq cX9_wordOf 117 54 && bq cX9_wordOf (117 + 1) 5) = true) ∧ (bq cX9_wordOf 119 33 = true) ∧ ((bq cX9_wordOf 120 16 && bq cX9_wordOf (120 + 1) 115 && (Reader.signed 8 115 == 115)) = true) ∧ ((bq cX9_wordOf 122 16 && bq cX9_wordOf (122 + 1) 101 && (Reader.signed 8 101 == 101)) = true) ∧ ((bq cX9_wordOf 124 16 && bq cX9_wordOf (124 + 1) 116 && (Reader.signed 8 116 == 116)) = true) ∧ (bq cX9_wordOf 126 3 = true) ∧ (bq cX9_wordOf 127 3 = true) ∧ ((bq cX9_wordOf 128 184 && bq cX9_wordOf (128 + 1) 0 && bq cX9_wordOf (128 + 2) 127 && (0 * 256 + 127 == 127)) = true) ∧ (bq cX9_wordOf 131 148 = true) ∧ ((bq cX9_wordOf 132 154 && bq cX9_wordOf (132 + 1) 0 && bq cX9_wordOf (132 + 2) 7 && (Reader.signed 16 (0 * 256 + 7) == 7)) = true) ∧ (bq cX9_wordOf 135 6 = true) ∧ ((bq cX9_wordOf 136 167 && bq cX9_wordOf (136 + 1) 0 && bq cX9_wordOf (136 + 2) 5 && (Reader.signed 16 (0 * 256 + 5) == 5)) = true) ∧ ((bq cX9_wordOf 139 21 && bq cX9_wordOf (139 + 1) 5) = true) ∧ ((bq cX9_wordOf 141 54 && bq cX9_wordOf (141 + 1) 5) = true) ∧ (bq cX9_wordOf 143 33 = true) ∧ ((bq cX9_wordOf 144 16 && bq cX9_wordOf (144 + 1) 108 && (Reader.signed 8 108 == 108)) = true) ∧ ((bq cX9_wordOf 146 16 && bq cX9_wordOf (146 + 1) 111 && (Reader.signed 8 111 == 111)) = true) ∧ ((bq cX9_wordOf 148 16 && bq cX9_wordOf (148 + 1) 97 && (Reader.signed 8 97 == 97)) = true) ∧ ((bq cX9_wordOf 150 16 && bq cX9_wordOf (150 + 1) 100 && (Reader.signed 8 100 == 100)) = true) ∧ (bq cX9_wordOf 152 3 = true) ∧ ((bq cX9_wordOf 153 184 && bq cX9_wordOf (153 + 1) 0 && bq cX9_wordOf (153 + 2) 127 && (0 * 256 + 127 == 127)) = true) ∧ (bq cX9_wordOf 156 148 = true) ∧ ((bq cX9_wordOf 157 154 && bq cX9_wordOf (157 + 1) 0 && bq cX9_wordOf (157 + 2) 7 && (Reader.signed 16 (0 * 256 + 7) == 7)) = true) := by decide +kernel
theorem dX9_wordOf_100 : decode cX9_wordOf 100 = .ok (.bipush 116, 2) := dr_16 116  pk_decc_218.1
theorem dX9_wordOf_102 : decode cX9_wordOf 102 = .ok (.iconst 0, 1) := dr_3  pk_decc_218.2.1
theorem dX9_wordOf_103 : decode cX9_wordOf 103 = .ok (.iconst 0, 1) := dr_3  pk_decc_218.2.2.1
theorem dX9_wordOf_104 : decode cX9_wordOf 104 = .ok (.invokestatic 127, 3) := dr_184 0 127  pk_decc_218.2.2.2.1
theorem dX9_wordOf_107 : decode cX9_wordOf 107 = .ok (.lcmp, 1) := dr_148  pk_decc_218.2.2.2.2.1
theorem dX9_wordOf_108 : decode cX9_wordOf 108 = .ok (.ifCond .ne 7, 3) := dr_154 0 7  pk_decc_218.2.2.2.2.2.1
theorem dX9_wordOf_111 : decode cX9_wordOf 111 = .ok (.iconst 2, 1) := dr_5  pk_decc_218.2.2.2.2.2.2.1
theorem dX9_wordOf_112 : decode cX9_wordOf 112 = .ok (.goto 5, 3) := dr_167 0 5  pk_decc_218.2.2.2.2.2.2.2.1
theorem dX9_wordOf_115 : decode cX9_wordOf 115 = .ok (.iload 5, 2) := dr_21  pk_decc_218.2.2.2.2.2.2.2.2.1
theorem dX9_wordOf_117 : decode cX9_wordOf 117 = .ok (.istore 5, 2) := dr_54  pk_decc_218.2.2.2.2.2.2.2.2.2.1
theorem dX9_wordOf_119 : decode cX9_wordOf 119 = .ok (.lload_n 3, 1) := dr_33  pk_decc_218.2.2.2.2.2.2.2.2.2.2.1
theorem dX9_wordOf_120 : decode cX9_wordOf 120 = .ok (.bipush 115, 2) := dr_16 115  pk_decc_218.2.2.2.2.2.2.2.2.2.2.2.1
theorem dX9_wordOf_122 : decode cX9_wordOf 122 = .ok (.bipush 101, 2) := dr_16 101  pk_decc_218.2.2.2.2.2.2.2.2.2.2.2.2.1
theorem dX9_wordOf_124 : decode cX9_wordOf 124 = .ok (.bipush 116, 2) := dr_16 116  pk_decc_218.2.2.2.2.2.2.2.2.2.2.2.2.2.1
theorem dX9_wordOf_126 : decode cX9_wordOf 126 = .ok (.iconst 0, 1) := dr_3  pk_decc_218.2.2.2.2.2.2.2.2.2.2.2.2.2.2.1
theorem dX9_wordOf_127 : decode cX9_wordOf 127 = .ok (.iconst 0, 1) := dr_3  pk_decc_218.2.2.2.2.2.2.2.2.2.2.2.2.2.2.2.1
theorem dX9_wordOf_128 : decode cX9_wordOf 128 = .ok (.invokestatic 127, 3) := dr_184 0 127  pk_decc_218.2.2.2.2.2.2.2.2.2.2.2.2.2.2.2.2.1
theorem dX9_wordOf_131 : decode cX9_wordOf 131 = .ok (.lcmp, 1) := dr_148  pk_decc_218.2.2.2.2.2.2.2.2.2.2.2.2.2.2.2.2.2.1
theorem dX9_wordOf_132 : decode cX9_wordOf 132 = .ok (.ifCond .ne 7, 3) := dr_154 0 7  pk_decc_218.2.2.2.2.2.2.2.2.2.2.2.2.2.2.2.2.2.2.1
theorem dX9_wordOf_135 : decode cX9_wordOf 135 = .ok (.iconst 3, 1) := dr_6  pk_decc_218.2.2.2.2.2.2.2.2.2.2.2.2.2.2.2.2.2.2.2.1
theorem dX9_wordOf_136 : decode cX9_wordOf 136 = .ok (.goto 5, 3) := dr_167 0 5  pk_decc_218.2.2.2.2.2.2.2.2.2.2.2.2.2.2.2.2.2.2.2.2.1
theorem dX9_wordOf_139 : decode cX9_wordOf 139 = .ok (.iload 5, 2) := dr_21  pk_decc_218.2.2.2.2.2.2.2.2.2.2.2.2.2.2.2.2.2.2.2.2.2.1
theorem dX9_wordOf_141 : decode cX9_wordOf 141 = .ok (.istore 5, 2) := dr_54  pk_decc_218.2.2.2.2.2.2.2.2.2.2.2.2.2.2.2.2.2.2.2.2.2.2.1
theorem dX9_wordOf_143 : decode cX9_wordOf 143 = .ok (.lload_n 3, 1) := dr_33  pk_decc_218.2.2.2.2.2.2.2.2.2.2.2.2.2.2.2.2.2.2.2.2.2.2.2.1
theorem dX9_wordOf_144 : decode cX9_wordOf 144 = .ok (.bipush 108, 2) := dr_16 108  pk_decc_218.2.2.2.2.2.2.2.2.2.2.2.2.2.2.2.2.2.2.2.2.2.2.2.2.1
theorem dX9_wordOf_146 : decode cX9_wordOf 146 = .ok (.bipush 111, 2) := dr_16 111  pk_decc_218.2.2.2.2.2.2.2.2.2.2.2.2.2.2.2.2.2.2.2.2.2.2.2.2.2.1
theorem dX9_wordOf_148 : decode cX9_wordOf 148 = .ok (.bipush 97, 2) := dr_16 97  pk_decc_218.2.2.2.2.2.2.2.2.2.2.2.2.2.2.2.2.2.2.2.2.2.2.2.2.2.2.1
theorem dX9_wordOf_150 : decode cX9_wordOf 150 = .ok (.bipush 100, 2) := dr_16 100  pk_decc_218.2.2.2.2.2.2.2.2.2.2.2.2.2.2.2.2.2.2.2.2.2.2.2.2.2.2.2.1
theorem dX9_wordOf_152 : decode cX9_wordOf 152 = .ok (.iconst 0, 1) := dr_3  pk_decc_218.2.2.2.2.2.2.2.2.2.2.2.2.2.2.2.2.2.2.2.2.2.2.2.2.2.2.2.2.1
theorem dX9_wordOf_153 : decode cX9_wordOf 153 = .ok (.invokestatic 127, 3) := dr_184 0 127  pk_decc_218.2.2.2.2.2.2.2.2.2.2.2.2.2.2.2.2.2.2.2.2.2.2.2.2.2.2.2.2.2.1
theorem dX9_wordOf_156 : decode cX9_wordOf 156 = .ok (.lcmp, 1) := dr_148  pk_decc_218.2.2.2.2.2.2.2.2.2.2.2.2.2.2.2.2.2.2.2.2.2.2.2.2.2.2.2.2.2.2.1
theorem dX9_wordOf_157 : decode cX9_wordOf 157 = .ok (.ifCond .ne 7, 3) := dr_154 0 7  pk_decc_218.2.2.2.2.2.2.2.2.2.2.2.2.2.2.2.2.2.2.2.2.2.2.2.2.2.2.2.2.2.2.2
set_option maxRecDepth 20000 in
theorem pk_decc_219 : (bq cX9_wordOf 160 7 = true) ∧ ((bq cX9_wordOf 161 167 && bq cX9_wordOf (161 + 1) 0 && bq cX9_wordOf (161 + 2) 5 && (Reader.signed 16 (0 * 256 + 5) == 5)) = true) ∧ ((bq cX9_wordOf 164 21 && bq cX9_wordOf (164 + 1) 5) = true) ∧ ((bq cX9_wordOf 166 54 && bq cX9_wordOf (166 + 1) 5) = true) ∧ (bq cX9_wordOf 168 33 = true) ∧ ((bq cX9_wordOf 169 16 && bq cX9_wordOf (169 + 1) 115 && (Reader.signed 8 115 == 115)) = true) ∧ ((bq cX9_wordOf 171 16 && bq cX9_wordOf (171 + 1) 116 && (Reader.signed 8 116 == 116)) = true) ∧ ((bq cX9_wordOf 173 16 && bq cX9_wordOf (173 + 1) 111 && (Reader.signed 8 111 == 111)) = true) ∧ ((bq cX9_wordOf 175 16 && bq cX9_wordOf (175 + 1) 114 && (Reader.signed 8 114 == 114)) = true) ∧ ((bq cX9_wordOf 177 16 && bq cX9_wordOf (177 + 1) 101 && (Reader.signed 8 101 == 101)) = true) ∧ ((bq cX9_wordOf 179 184 && bq cX9_wordOf (179 + 1) 0 && bq cX9_wordOf (179 + 2) 127 && (0 * 256 + 127 == 127)) = true) ∧ (bq cX9_wordOf 182 148 = true) ∧ ((bq cX9_wordOf 183 154 && bq cX9_wordOf (183 + 1) 0 && bq cX9_wordOf (183 + 2) 7 && (Reader.signed 16 (0 * 256 + 7) == 7)) = true) ∧ (bq cX9_wordOf 186 8 = true) ∧ ((bq cX9_wordOf 187 167 && bq cX9_wordOf (187 + 1) 0 && bq cX9_wordOf (187 + 2) 5 && (Reader.signed 16 (0 * 256 + 5) == 5)) = true) ∧ ((bq cX9_wordOf 190 21 && bq cX9_wordOf (190 + 1) 5) = true) ∧ ((bq cX9_wordOf 192 54 && bq cX9_wordOf (192 + 1) 5) = true) ∧ (bq cX9_wordOf 194 33 = true) ∧ ((bq cX9_wordOf 195 16 && bq cX9_wordOf (195 + 1) 97 && (Reader.signed 8 97 == 97)) = true) ∧ ((bq cX9_wordOf 197 16 && bq cX9_wordOf (197 + 1) 100 && (Reader.signed 8 100 == 100)) = true) ∧ ((bq cX9_wordOf 199 16 && bq cX9_wordOf (199 + 1) 100 && (Reader.signed 8 100 == 100)) = true) ∧ (bq cX9_wordOf 201 3 = true) ∧ (bq cX9_wordOf 202 3 = true) ∧ ((bq cX9_wordOf 203 184 && bq cX9_wordOf (203 + 1) 0 && bq cX9_wordOf (203 + 2) 127 && (0 * 256 + 127 == 127)) = true) ∧ (bq cX9_wordOf 206 148 = true) ∧ ((bq cX9_wordOf 207 154 && bq cX9_wordOf (207 + 1) 0 && bq cX9_wordOf (207 + 2) 8 && (Reader.signed 16 (0 * 256 + 8) == 8)) = true) ∧ ((bq cX9_wordOf 210 16 && bq cX9_wordOf (210 + 1) 6 && (Reader.signed 8 6 == 6)) = true) ∧ ((bq cX9_wordOf 212 167 && bq cX9_wordOf (212 + 1) 0 && bq cX9_wordOf (212 + 2) 5 && (Reader.signed 16 (0 * 256 + 5) == 5)) = true) ∧ ((bq cX9_wordOf 215 21 && bq cX9_wordOf (215 + 1) 5) = true) ∧ ((bq cX9_wordOf 217 54 && bq cX9_wordOf (217 + 1) 5) = true) ∧ (bq cX9_wordOf 219 33 = true) ∧ ((bq cX9_wordOf 220 16 && bq cX9_wordOf (220 + 1) 115 && (Reader.signed 8 115 == 115)) = true) := by decide +kernel
theorem dX9_wordOf_160 : decode cX9_wordOf 160 = .ok (.iconst 4, 1) := dr_7  pk_decc_219.1
theorem dX9_wordOf_161 : decode cX9_wordOf 161 = .ok (.goto 5, 3) := dr_167 0 5  pk_decc_219.2.1
theorem dX9_wordOf_164 : decode cX9_wordOf 164 = .ok (.iload 5, 2) := dr_21  pk_decc_219.2.2.1
theorem dX9_wordOf_166 : decode cX9_wordOf 166 = .ok (.istore 5, 2) := dr_54  pk_decc_219.2.2.2.1
theorem dX9_wordOf_168 : decode cX9_wordOf 168 = .ok (.lload_n 3, 1) := dr_33  pk_decc_219.2.2.2.2.1
theorem dX9_wordOf_169 : decode cX9_wordOf 169 = .ok (.bipush 115, 2) := dr_16 115  pk_decc_219.2.2.2.2.2.1
theorem dX9_wordOf_171 : decode cX9_wordOf 171 = .ok (.bipush 116, 2) := dr_16 116  pk_decc_219.2.2.2.2.2.2.1
theorem dX9_wordOf_173 : decode cX9_wordOf 173 = .ok (.bipush 111, 2) := dr_16 111  pk_decc_219.2.2.2.2.2.2.2.1
theorem dX9_wordOf_175 : decode cX9_wordOf 175 = .ok (.bipush 114, 2) := dr_16 114  pk_decc_219.2.2.2.2.2.2.2.2.1
theorem dX9_wordOf_177 : decode cX9_wordOf 177 = .ok (.bipush 101, 2) := dr_16 101  pk_decc_219.2.2.2.2.2.2.2.2.2.1
theorem dX9_wordOf_179 : decode cX9_wordOf 179 = .ok (.invokestatic 127, 3) := dr_184 0 127  pk_decc_219.2.2.2.2.2.2.2.2.2.2.1
theorem dX9_wordOf_182 : decode cX9_wordOf 182 = .ok (.lcmp, 1) := dr_148  pk_decc_219.2.2.2.2.2.2.2.2.2.2.2.1
theorem dX9_wordOf_183 : decode cX9_wordOf 183 = .ok (.ifCond .ne 7, 3) := dr_154 0 7  pk_decc_219.2.2.2.2.2.2.2.2.2.2.2.2.1
theorem dX9_wordOf_186 : decode cX9_wordOf 186 = .ok (.iconst 5, 1) := dr_8  pk_decc_219.2.2.2.2.2.2.2.2.2.2.2.2.2.1
theorem dX9_wordOf_187 : decode cX9_wordOf 187 = .ok (.goto 5, 3) := dr_167 0 5  pk_decc_219.2.2.2.2.2.2.2.2.2.2.2.2.2.2.1
theorem dX9_wordOf_190 : decode cX9_wordOf 190 = .ok (.iload 5, 2) := dr_21  pk_decc_219.2.2.2.2.2.2.2.2.2.2.2.2.2.2.2.1
theorem dX9_wordOf_192 : decode cX9_wordOf 192 = .ok (.istore 5, 2) := dr_54  pk_decc_219.2.2.2.2.2.2.2.2.2.2.2.2.2.2.2.2.1
theorem dX9_wordOf_194 : decode cX9_wordOf 194 = .ok (.lload_n 3, 1) := dr_33  pk_decc_219.2.2.2.2.2.2.2.2.2.2.2.2.2.2.2.2.2.1
theorem dX9_wordOf_195 : decode cX9_wordOf 195 = .ok (.bipush 97, 2) := dr_16 97  pk_decc_219.2.2.2.2.2.2.2.2.2.2.2.2.2.2.2.2.2.2.1
theorem dX9_wordOf_197 : decode cX9_wordOf 197 = .ok (.bipush 100, 2) := dr_16 100  pk_decc_219.2.2.2.2.2.2.2.2.2.2.2.2.2.2.2.2.2.2.2.1
theorem dX9_wordOf_199 : decode cX9_wordOf 199 = .ok (.bipush 100, 2) := dr_16 100  pk_decc_219.2.2.2.2.2.2.2.2.2.2.2.2.2.2.2.2.2.2.2.2.1
theorem dX9_wordOf_201 : decode cX9_wordOf 201 = .ok (.iconst 0, 1) := dr_3  pk_decc_219.2.2.2.2.2.2.2.2.2.2.2.2.2.2.2.2.2.2.2.2.2.1
theorem dX9_wordOf_202 : decode cX9_wordOf 202 = .ok (.iconst 0, 1) := dr_3  pk_decc_219.2.2.2.2.2.2.2.2.2.2.2.2.2.2.2.2.2.2.2.2.2.2.1
theorem dX9_wordOf_203 : decode cX9_wordOf 203 = .ok (.invokestatic 127, 3) := dr_184 0 127  pk_decc_219.2.2.2.2.2.2.2.2.2.2.2.2.2.2.2.2.2.2.2.2.2.2.2.1
theorem dX9_wordOf_206 : decode cX9_wordOf 206 = .ok (.lcmp, 1) := dr_148  pk_decc_219.2.2.2.2.2.2.2.2.2.2.2.2.2.2.2.2.2.2.2.2.2.2.2.2.1
theorem dX9_wordOf_207 : decode cX9_wordOf 207 = .ok (.ifCond .ne 8, 3) := dr_154 0 8  pk_decc_219.2.2.2.2.2.2.2.2.2.2.2.2.2.2.2.2.2.2.2.2.2.2.2.2.2.1
theorem dX9_wordOf_210 : decode cX9_wordOf 210 = .ok (.bipush 6, 2) := dr_16 6  pk_decc_219.2.2.2.2.2.2.2.2.2.2.2.2.2.2.2.2.2.2.2.2.2.2.2.2.2.2.1
theorem dX9_wordOf_212 : decode cX9_wordOf 212 = .ok (.goto 5, 3) := dr_167 0 5  pk_decc_219.2.2.2.2.2.2.2.2.2.2.2.2.2.2.2.2.2.2.2.2.2.2.2.2.2.2.2.1
theorem dX9_wordOf_215 : decode cX9_wordOf 215 = .ok (.iload 5, 2) := dr_21  pk_decc_219.2.2.2.2.2.2.2.2.2.2.2.2.2.2.2.2.2.2.2.2.2.2.2.2.2.2.2.2.1
theorem dX9_wordOf_217 : decode cX9_wordOf 217 = .ok (.istore 5, 2) := dr_54  pk_decc_219.2.2.2.2.2.2.2.2.2.2.2.2.2.2.2.2.2.2.2.2.2.2.2.2.2.2.2.2.2.1
theorem dX9_wordOf_219 : decode cX9_wordOf 219 = .ok (.lload_n 3, 1) := dr_33  pk_decc_219.2.2.2.2.2.2.2.2.2.2.2.2.2.2.2.2.2.2.2.2.2.2.2.2.2.2.2.2.2.2.1
theorem dX9_wordOf_220 : decode cX9_wordOf 220 = .ok (.bipush 115, 2) := dr_16 115  pk_decc_219.2.2.2.2.2.2.2.2.2.2.2.2.2.2.2.2.2.2.2.2.2.2.2.2.2.2.2.2.2.2.2
set_option maxRecDepth 20000 in
theorem pk_decc_220 : ((bq cX9_wordOf 222 16 && bq cX9_wordOf (222 + 1) 117 && (Reader.signed 8 117 == 117)) = true) ∧ ((bq cX9_wordOf 224 16 && bq cX9_wordOf (224 + 1) 98 && (Reader.signed 8 98 == 98)) = true) ∧ (bq cX9_wordOf 226 3 = true) ∧ (bq cX9_wordOf 227 3 = true) ∧ ((bq cX9_wordOf 228 184 && bq cX9_wordOf (228 + 1) 0 && bq cX9_wordOf (228 + 2) 127 && (0 * 256 + 127 == 127)) = true) ∧ (bq cX9_wordOf 231 148 = true) ∧ ((bq cX9_wordOf 232 154 && bq cX9_wordOf (232 + 1) 0 && bq cX9_wordOf (232 + 2) 8 && (Reader.signed 16 (0 * 256 + 8) == 8)) = true) ∧ ((bq cX9_wordOf 235 16 && bq cX9_wordOf (235 + 1) 7 && (Reader.signed 8 7 == 7)) = true) ∧ ((bq cX9_wordOf 237 167 && bq cX9_wordOf (237 + 1) 0 && bq cX9_wordOf (237 + 2) 5 && (Reader.signed 16 (0 * 256 + 5) == 5)) = true) ∧ ((bq cX9_wordOf 240 21 && bq cX9_wordOf (240 + 1) 5) = true) ∧ ((bq cX9_wordOf 242 54 && bq cX9_wordOf (242 + 1) 5) = true) ∧ (bq cX9_wordOf 244 33 = true) ∧ ((bq cX9_wordOf 245 16 && bq cX9_wordOf (245 + 1) 103 && (Reader.signed 8 103 == 103)) = true) ∧ ((bq cX9_wordOf 247 16 && bq cX9_wordOf (247 + 1) 101 && (Reader.signed 8 101 == 101)) = true) ∧ ((bq cX9_wordOf 249 16 && bq cX9_wordOf (249 + 1) 116 && (Reader.signed 8 116 == 116)) = true) ∧ (bq cX9_wordOf 251 3 = true) ∧ (bq cX9_wordOf 252 3 = true) ∧ ((bq cX9_wordOf 253 184 && bq cX9_wordOf (253 + 1) 0 && bq cX9_wordOf (253 + 2) 127 && (0 * 256 + 127 == 127)) = true) ∧ (bq cX9_wordOf 256 148 = true) ∧ ((bq cX9_wordOf 257 154 && bq cX9_wordOf (257 + 1) 0 && bq cX9_wordOf (257 + 2) 8 && (Reader.signed 16 (0 * 256 + 8) == 8)) = true) ∧ ((bq cX9_wordOf 260 16 && bq cX9_wordOf (260 + 1) 8 && (Reader.signed 8 8 == 8)) = true) ∧ ((bq cX9_wordOf 262 167 && bq cX9_wordOf (262 + 1) 0 && bq cX9_wordOf (262 + 2) 5 && (Reader.signed 16 (0 * 256 + 5) == 5)) = true) ∧ ((bq cX9_wordOf 265 21 && bq cX9_wordOf (265 + 1) 5) = true) ∧ ((bq cX9_wordOf 267 54 && bq cX9_wordOf (267 + 1) 5) = true) ∧ (bq cX9_wordOf 269 33 = true) ∧ ((bq cX9_wordOf 270 16 && bq cX9_wordOf (270 + 1) 112 && (Reader.signed 8 112 == 112)) = true) ∧ ((bq cX9_wordOf 272 16 && bq cX9_wordOf (272 + 1) 117 && (Reader.signed 8 117 == 117)) = true) ∧ ((bq cX9_wordOf 274 16 && bq cX9_wordOf (274 + 1) 116 && (Reader.signed 8 116 == 116)) = true) ∧ (bq cX9_wordOf 276 3 = true) ∧ (bq cX9_wordOf 277 3 = true) ∧ ((bq cX9_wordOf 278 184 && bq cX9_wordOf (278 + 1) 0 && bq cX9_wordOf (278 + 2) 127 && (0 * 256 + 127 == 127)) = true) ∧ (bq cX9_wordOf 281 148 = true) := by decide +kernel
theorem dX9_wordOf_222 : decode cX9_wordOf 222 = .ok (.bipush 117, 2) := dr_16 117  pk_decc_220.1
theorem dX9_wordOf_224 : decode cX9_wordOf 224 = .ok (.bipush 98, 2) := dr_16 98  pk_decc_220.2.1
theorem dX9_wordOf_226 : decode cX9_wordOf 226 = .ok (.iconst 0, 1) := dr_3  pk_decc_220.2.2.1
theorem dX9_wordOf_227 : decode cX9_wordOf 227 = .ok (.iconst 0, 1) := dr_3  pk_decc_220.2.2.2.1
theorem dX9_wordOf_228 : decode cX9_wordOf 228 = .ok (.invokestatic 127, 3) := dr_184 0 127  pk_decc_220.2.2.2.2.1
theorem dX9_wordOf_231 : decode cX9_wordOf 231 = .ok (.lcmp, 1) := dr_148  pk_decc_220.2.2.2.2.2.1
theorem dX9_wordOf_232 : decode cX9_wordOf 232 = .ok (.ifCond .ne 8, 3) := dr_154 0 8  pk_decc_220.2.2.2.2.2.2.1
theorem dX9_wordOf_235 : decode cX9_wordOf 235 = .ok (.bipush 7, 2) := dr_16 7  pk_decc_220.2.2.2.2.2.2.2.1
theorem dX9_wordOf_237 : decode cX9_wordOf 237 = .ok (.goto 5, 3) := dr_167 0 5  pk_decc_220.2.2.2.2.2.2.2.2.1
theorem dX9_wordOf_240 : decode cX9_wordOf 240 = .ok (.iload 5, 2) := dr_21  pk_decc_220.2.2.2.2.2.2.2.2.2.1
theorem dX9_wordOf_242 : decode cX9_wordOf 242 = .ok (.istore 5, 2) := dr_54  pk_decc_220.2.2.2.2.2.2.2.2.2.2.1
theorem dX9_wordOf_244 : decode cX9_wordOf 244 = .ok (.lload_n 3, 1) := dr_33  pk_decc_220.2.2.2.2.2.2.2.2.2.2.2.1
theorem dX9_wordOf_245 : decode cX9_wordOf 245 = .ok (.bipush 103, 2) := dr_16 103  pk_decc_220.2.2.2.2.2.2.2.2.2.2.2.2.1
theorem dX9_wordOf_247 : decode cX9_wordOf 247 = .ok (.bipush 101, 2) := dr_16 101  pk_decc_220.2.2.2.2.2.2.2.2.2.2.2.2.2.1
theorem dX9_wordOf_249 : decode cX9_wordOf 249 = .ok (.bipush 116, 2) := dr_16 116  pk_decc_220.2.2.2.2.2.2.2.2.2.2.2.2.2.2.1
theorem dX9_wordOf_251 : decode cX9_wordOf 251 = .ok (.iconst 0, 1) := dr_3  pk_decc_220.2.2.2.2.2.2.2.2.2.2.2.2.2.2.2.1
theorem dX9_wordOf_252 : decode cX9_wordOf 252 = .ok (.iconst 0, 1) := dr_3  pk_decc_220.2.2.2.2.2.2.2.2.2.2.2.2.2.2.2.2.1
theorem dX9_wordOf_253 : decode cX9_wordOf 253 = .ok (.invokestatic 127, 3) := dr_184 0 127  pk_decc_220.2.2.2.2.2.2.2.2.2.2.2.2.2.2.2.2.2.1
theorem dX9_wordOf_256 : decode cX9_wordOf 256 = .ok (.lcmp, 1) := dr_148  pk_decc_220.2.2.2.2.2.2.2.2.2.2.2.2.2.2.2.2.2.2.1
theorem dX9_wordOf_257 : decode cX9_wordOf 257 = .ok (.ifCond .ne 8, 3) := dr_154 0 8  pk_decc_220.2.2.2.2.2.2.2.2.2.2.2.2.2.2.2.2.2.2.2.1
theorem dX9_wordOf_260 : decode cX9_wordOf 260 = .ok (.bipush 8, 2) := dr_16 8  pk_decc_220.2.2.2.2.2.2.2.2.2.2.2.2.2.2.2.2.2.2.2.2.1
theorem dX9_wordOf_262 : decode cX9_wordOf 262 = .ok (.goto 5, 3) := dr_167 0 5  pk_decc_220.2.2.2.2.2.2.2.2.2.2.2.2.2.2.2.2.2.2.2.2.2.1
theorem dX9_wordOf_265 : decode cX9_wordOf 265 = .ok (.iload 5, 2) := dr_21  pk_decc_220.2.2.2.2.2.2.2.2.2.2.2.2.2.2.2.2.2.2.2.2.2.2.1
theorem dX9_wordOf_267 : decode cX9_wordOf 267 = .ok (.istore 5, 2) := dr_54  pk_decc_220.2.2.2.2.2.2.2.2.2.2.2.2.2.2.2.2.2.2.2.2.2.2.2.1
theorem dX9_wordOf_269 : decode cX9_wordOf 269 = .ok (.lload_n 3, 1) := dr_33  pk_decc_220.2.2.2.2.2.2.2.2.2.2.2.2.2.2.2.2.2.2.2.2.2.2.2.2.1
theorem dX9_wordOf_270 : decode cX9_wordOf 270 = .ok (.bipush 112, 2) := dr_16 112  pk_decc_220.2.2.2.2.2.2.2.2.2.2.2.2.2.2.2.2.2.2.2.2.2.2.2.2.2.1
theorem dX9_wordOf_272 : decode cX9_wordOf 272 = .ok (.bipush 117, 2) := dr_16 117  pk_decc_220.2.2.2.2.2.2.2.2.2.2.2.2.2.2.2.2.2.2.2.2.2.2.2.2.2.2.1
theorem dX9_wordOf_274 : decode cX9_wordOf 274 = .ok (.bipush 116, 2) := dr_16 116  pk_decc_220.2.2.2.2.2.2.2.2.2.2.2.2.2.2.2.2.2.2.2.2.2.2.2.2.2.2.2.1
theorem dX9_wordOf_276 : decode cX9_wordOf 276 = .ok (.iconst 0, 1) := dr_3  pk_decc_220.2.2.2.2.2.2.2.2.2.2.2.2.2.2.2.2.2.2.2.2.2.2.2.2.2.2.2.2.1
theorem dX9_wordOf_277 : decode cX9_wordOf 277 = .ok (.iconst 0, 1) := dr_3  pk_decc_220.2.2.2.2.2.2.2.2.2.2.2.2.2.2.2.2.2.2.2.2.2.2.2.2.2.2.2.2.2.1
theorem dX9_wordOf_278 : decode cX9_wordOf 278 = .ok (.invokestatic 127, 3) := dr_184 0 127  pk_decc_220.2.2.2.2.2.2.2.2.2.2.2.2.2.2.2.2.2.2.2.2.2.2.2.2.2.2.2.2.2.2.1
theorem dX9_wordOf_281 : decode cX9_wordOf 281 = .ok (.lcmp, 1) := dr_148  pk_decc_220.2.2.2.2.2.2.2.2.2.2.2.2.2.2.2.2.2.2.2.2.2.2.2.2.2.2.2.2.2.2.2
set_option maxRecDepth 20000 in
theorem pk_decc_221 : ((bq cX9_wordOf 282 154 && bq cX9_wordOf (282 + 1) 0 && bq cX9_wordOf (282 + 2) 8 && (Reader.signed 16 (0 * 256 + 8) == 8)) = true) ∧ ((bq cX9_wordOf 285 16 && bq cX9_wordOf (285 + 1) 9 && (Reader.signed 8 9 == 9)) = true) ∧ ((bq cX9_wordOf 287 167 && bq cX9_wordOf (287 + 1) 0 && bq cX9_wordOf (287 + 2) 5 && (Reader.signed 16 (0 * 256 + 5) == 5)) = true) ∧ ((bq cX9_wordOf 290 21 && bq cX9_wordOf (290 + 1) 5) = true) ∧ ((bq cX9_wordOf 292 54 && bq cX9_wordOf (292 + 1) 5) = true) ∧ (bq cX9_wordOf 294 33 = true) ∧ ((bq cX9_wordOf 295 16 && bq cX9_wordOf (295 + 1) 116 && (Reader.signed 8 116 == 116)) = true) ∧ ((bq cX9_wordOf 297 16 && bq cX9_wordOf (297 + 1) 111 && (Reader.signed 8 111 == 111)) = true) ∧ (bq cX9_wordOf 299 3 = true) ∧ (bq cX9_wordOf 300 3 = true) ∧ (bq cX9_wordOf 301 3 = true) ∧ ((bq cX9_wordOf 302 184 && bq cX9_wordOf (302 + 1) 0 && bq cX9_wordOf (302 + 2) 127 && (0 * 256 + 127 == 127)) = true) ∧ (bq cX9_wordOf 305 148 = true) ∧ ((bq cX9_wordOf 306 154 && bq cX9_wordOf (306 + 1) 0 && bq cX9_wordOf (306 + 2) 8 && (Reader.signed 16 (0 * 256 + 8) == 8)) = true) ∧ ((bq cX9_wordOf 309 16 && bq cX9_wordOf (309 + 1) 10 && (Reader.signed 8 10 == 10)) = true) ∧ ((bq cX9_wordOf 311 167 && bq cX9_wordOf (311 + 1) 0 && bq cX9_wordOf (311 + 2) 5 && (Reader.signed 16 (0 * 256 + 5) == 5)) = true) ∧ ((bq cX9_wordOf 314 21 && bq cX9_wordOf (314 + 1) 5) = true) ∧ ((bq cX9_wordOf 316 54 && bq cX9_wordOf (316 + 1) 5) = true) ∧ (bq cX9_wordOf 318 33 = true) ∧ ((bq cX9_wordOf 319 16 && bq cX9_wordOf (319 + 1) 106 && (Reader.signed 8 106 == 106)) = true) ∧ ((bq cX9_wordOf 321 16 && bq cX9_wordOf (321 + 1) 117 && (Reader.signed 8 117 == 117)) = true) ∧ ((bq cX9_wordOf 323 16 && bq cX9_wordOf (323 + 1) 109 && (Reader.signed 8 109 == 109)) = true) ∧ ((bq cX9_wordOf 325 16 && bq cX9_wordOf (325 + 1) 112 && (Reader.signed 8 112 == 112)) = true) ∧ (bq cX9_wordOf 327 3 = true) ∧ ((bq cX9_wordOf 328 184 && bq cX9_wordOf (328 + 1) 0 && bq cX9_wordOf (328 + 2) 127 && (0 * 256 + 127 == 127)) = true) ∧ (bq cX9_wordOf 331 148 = true) ∧ ((bq cX9_wordOf 332 154 && bq cX9_wordOf (332 + 1) 0 && bq cX9_wordOf (332 + 2) 8 && (Reader.signed 16 (0 * 256 + 8) == 8)) = true) ∧ ((bq cX9_wordOf 335 16 && bq cX9_wordOf (335 + 1) 11 && (Reader.signed 8 11 == 11)) = true) ∧ ((bq cX9_wordOf 337 167 && bq cX9_wordOf (337 + 1) 0 && bq cX9_wordOf (337 + 2) 5 && (Reader.signed 16 (0 * 256 + 5) == 5)) = true) ∧ ((bq cX9_wordOf 340 21 && bq cX9_wordOf (340 + 1) 5) = true) ∧ ((bq cX9_wordOf 342 54 && bq cX9_wordOf (342 + 1) 5) = true) ∧ (bq cX9_wordOf 344 33 = true) := by decide +kernel
theorem dX9_wordOf_282 : decode cX9_wordOf 282 = .ok (.ifCond .ne 8, 3) := dr_154 0 8  pk_decc_221.1
theorem dX9_wordOf_285 : decode cX9_wordOf 285 = .ok (.bipush 9, 2) := dr_16 9  pk_decc_221.2.1
theorem dX9_wordOf_287 : decode cX9_wordOf 287 = .ok (.goto 5, 3) := dr_167 0 5  pk_decc_221.2.2.1
theorem dX9_wordOf_290 : decode cX9_wordOf 290 = .ok (.iload 5, 2) := dr_21  pk_decc_221.2.2.2.1
theorem dX9_wordOf_292 : decode cX9_wordOf 292 = .ok (.istore 5, 2) := dr_54  pk_decc_221.2.2.2.2.1
theorem dX9_wordOf_294 : decode cX9_wordOf 294 = .ok (.lload_n 3, 1) := dr_33  pk_decc_221.2.2.2.2.2.1
theorem dX9_wordOf_295 : decode cX9_wordOf 295 = .ok (.bipush 116, 2) := dr_16 116  pk_decc_221.2.2.2.2.2.2.1
theorem dX9_wordOf_297 : decode cX9_wordOf 297 = .ok (.bipush 111, 2) := dr_16 111  pk_decc_221.2.2.2.2.2.2.2.1
theorem dX9_wordOf_299 : decode cX9_wordOf 299 = .ok (.iconst 0, 1) := dr_3  pk_decc_221.2.2.2.2.2.2.2.2.1
theorem dX9_wordOf_300 : decode cX9_wordOf 300 = .ok (.iconst 0, 1) := dr_3  pk_decc_221.2.2.2.2.2.2.2.2.2.1
theorem dX9_wordOf_301 : decode cX9_wordOf 301 = .ok (.iconst 0, 1) := dr_3  pk_decc_221.2.2.2.2.2.2.2.2.2.2.1
theorem dX9_wordOf_302 : decode cX9_wordOf 302 = .ok (.invokestatic 127, 3) := dr_184 0 127  pk_decc_221.2.2.2.2.2.2.2.2.2.2.2.1
theorem dX9_wordOf_305 : decode cX9_wordOf 305 = .ok (.lcmp, 1) := dr_148  pk_decc_221.2.2.2.2.2.2.2.2.2.2.2.2.1
theorem dX9_wordOf_306 : decode cX9_wordOf 306 = .ok (.ifCond .ne 8, 3) := dr_154 0 8  pk_decc_221.2.2.2.2.2.2.2.2.2.2.2.2.2.1
theorem dX9_wordOf_309 : decode cX9_wordOf 309 = .ok (.bipush 10, 2) := dr_16 10  pk_decc_221.2.2.2.2.2.2.2.2.2.2.2.2.2.2.1
theorem dX9_wordOf_311 : decode cX9_wordOf 311 = .ok (.goto 5, 3) := dr_167 0 5  pk_decc_221.2.2.2.2.2.2.2.2.2.2.2.2.2.2.2.1
theorem dX9_wordOf_314 : decode cX9_wordOf 314 = .ok (.iload 5, 2) := dr_21  pk_decc_221.2.2.2.2.2.2.2.2.2.2.2.2.2.2.2.2.1
theorem dX9_wordOf_316 : decode cX9_wordOf 316 = .ok (.istore 5, 2) := dr_54  pk_decc_221.2.2.2.2.2.2.2.2.2.2.2.2.2.2.2.2.2.1
theorem dX9_wordOf_318 : decode cX9_wordOf 318 = .ok (.lload_n 3, 1) := dr_33  pk_decc_221.2.2.2.2.2.2.2.2.2.2.2.2.2.2.2.2.2.2.1
theorem dX9_wordOf_319 : decode cX9_wordOf 319 = .ok (.bipush 106, 2) := dr_16 106  pk_decc_221.2.2.2.2.2.2.2.2.2.2.2.2.2.2.2.2.2.2.2.1
theorem dX9_wordOf_321 : decode cX9_wordOf 321 = .ok (.bipush 117, 2) := dr_16 117  pk_decc_221.2.2.2.2.2.2.2.2.2.2.2.2.2.2.2.2.2.2.2.2.1
theorem dX9_wordOf_323 : decode cX9_wordOf 323 = .ok (.bipush 109, 2) := dr_16 109  pk_decc_221.2.2.2.2.2.2.2.2.2.2.2.2.2.2.2.2.2.2.2.2.2.1
theorem dX9_wordOf_325 : decode cX9_wordOf 325 = .ok (.bipush 112, 2) := dr_16 112  pk_decc_221.2.2.2.2.2.2.2.2.2.2.2.2.2.2.2.2.2.2.2.2.2.2.1
theorem dX9_wordOf_327 : decode cX9_wordOf 327 = .ok (.iconst 0, 1) := dr_3  pk_decc_221.2.2.2.2.2.2.2.2.2.2.2.2.2.2.2.2.2.2.2.2.2.2.2.1
theorem dX9_wordOf_328 : decode cX9_wordOf 328 = .ok (.invokestatic 127, 3) := dr_184 0 127  pk_decc_221.2.2.2.2.2.2.2.2.2.2.2.2.2.2.2.2.2.2.2.2.2.2.2.2.1
theorem dX9_wordOf_331 : decode cX9_wordOf 331 = .ok (.lcmp, 1) := dr_148  pk_decc_221.2.2.2.2.2.2.2.2.2.2.2.2.2.2.2.2.2.2.2.2.2.2.2.2.2.1
theorem dX9_wordOf_332 : decode cX9_wordOf 332 = .ok (.ifCond .ne 8, 3) := dr_154 0 8  pk_decc_221.2.2.2.2.2.2.2.2.2.2.2.2.2.2.2.2.2.2.2.2.2.2.2.2.2.2.1
theorem dX9_wordOf_335 : decode cX9_wordOf 335 = .ok (.bipush 11, 2) := dr_16 11  pk_decc_221.2.2.2.2.2.2.2.2.2.2.2.2.2.2.2.2.2.2.2.2.2.2.2.2.2.2.2.1
theorem dX9_wordOf_337 : decode cX9_wordOf 337 = .ok (.goto 5, 3) := dr_167 0 5  pk_decc_221.2.2.2.2.2.2.2.2.2.2.2.2.2.2.2.2.2.2.2.2.2.2.2.2.2.2.2.2.1
theorem dX9_wordOf_340 : decode cX9_wordOf 340 = .ok (.iload 5, 2) := dr_21  pk_decc_221.2.2.2.2.2.2.2.2.2.2.2.2.2.2.2.2.2.2.2.2.2.2.2.2.2.2.2.2.2.1
theorem dX9_wordOf_342 : decode cX9_wordOf 342 = .ok (.istore 5, 2) := dr_54  pk_decc_221.2.2.2.2.2.2.2.2.2.2.2.2.2.2.2.2.2.2.2.2.2.2.2.2.2.2.2.2.2.2.1
theorem dX9_wordOf_344 : decode cX9_wordOf 344 = .ok (.lload_n 3, 1) := dr_33  pk_decc_221.2.2.2.2.2.2.2.2.2.2.2.2.2.2.2.2.2.2.2.2.2.2.2.2.2.2.2.2.2.2.2
set_option maxRecDepth 20000 in
theorem pk_decc_222 : ((bq cX9_wordOf 345 16 && bq cX9_wordOf (345 + 1) 122 && (Reader.signed 8 122 == 122)) = true) ∧ ((bq cX9_wordOf 347 16 && bq cX9_wordOf (347 + 1) 101 && (Reader.signed 8 101 == 101)) = true) ∧ ((bq cX9_wordOf 349 16 && bq cX9_wordOf (349 + 1) 114 && (Reader.signed 8 114 == 114)) = true) ∧ ((bq cX9_wordOf 351 16 && bq cX9_wordOf (351 + 1) 111 && (Reader.signed 8 111 == 111)) = true) ∧ (bq cX9_wordOf 353 3 = true) ∧ ((bq cX9_wordOf 354 184 && bq cX9_wordOf (354 + 1) 0 && bq cX9_wordOf (354 + 2) 127 && (0 * 256 + 127 == 127)) = true) ∧ (bq cX9_wordOf 357 148 = true) ∧ ((bq cX9_wordOf 358 154 && bq cX9_wordOf (358 + 1) 0 && bq cX9_wordOf (358 + 2) 8 && (Reader.signed 16 (0 * 256 + 8) == 8)) = true) ∧ ((bq cX9_wordOf 361 16 && bq cX9_wordOf (361 + 1) 12 && (Reader.signed 8 12 == 12)) = true) ∧ ((bq cX9_wordOf 363 167 && bq cX9_wordOf (363 + 1) 0 && bq cX9_wordOf (363 + 2) 5 && (Reader.signed 16 (0 * 256 + 5) == 5)) = true) ∧ ((bq cX9_wordOf 366 21 && bq cX9_wordOf (366 + 1) 5) = true) ∧ ((bq cX9_wordOf 368 54 && bq cX9_wordOf (368 + 1) 5) = true) ∧ (bq cX9_wordOf 370 33 = true) ∧ ((bq cX9_wordOf 371 16 && bq cX9_wordOf (371 + 1) 101 && (Reader.signed 8 101 == 101)) = true) ∧ ((bq cX9_wordOf 373 16 && bq cX9_wordOf (373 + 1) 110 && (Reader.signed 8 110 == 110)) = true) ∧ ((bq cX9_wordOf 375 16 && bq cX9_wordOf (375 + 1) 100 && (Reader.signed 8 100 == 100)) = true) ∧ (bq cX9_wordOf 377 3 = true) ∧ (bq cX9_wordOf 378 3 = true) ∧ ((bq cX9_wordOf 379 184 && bq cX9_wordOf (379 + 1) 0 && bq cX9_wordOf (379 + 2) 127 && (0 * 256 + 127 == 127)) = true) ∧ (bq cX9_wordOf 382 148 = true) ∧ ((bq cX9_wordOf 383 154 && bq cX9_wordOf (383 + 1) 0 && bq cX9_wordOf (383 + 2) 8 && (Reader.signed 16 (0 * 256 + 8) == 8)) = true) ∧ ((bq cX9_wordOf 386 16 && bq cX9_wordOf (386 + 1) 13 && (Reader.signed 8 13 == 13)) = true) ∧ ((bq cX9_wordOf 388 167 && bq cX9_wordOf (388 + 1) 0 && bq cX9_wordOf (388 + 2) 5 && (Reader.signed 16 (0 * 256 + 5) == 5)) = true) ∧ ((bq cX9_wordOf 391 21 && bq cX9_wordOf (391 + 1) 5) = true) ∧ ((bq cX9_wordOf 393 54 && bq cX9_wordOf (393 + 1) 5) = true) ∧ (bq cX9_wordOf 395 33 = true) ∧ ((bq cX9_wordOf 396 16 && bq cX9_wordOf (396 + 1) 112 && (Reader.signed 8 112 == 112)) = true) ∧ ((bq cX9_wordOf 398 16 && bq cX9_wordOf (398 + 1) 108 && (Reader.signed 8 108 == 108)) = true) ∧ ((bq cX9_wordOf 400 16 && bq cX9_wordOf (400 + 1) 117 && (Reader.signed 8 117 == 117)) = true) ∧ ((bq cX9_wordOf 402 16 && bq cX9_wordOf (402 + 1) 115 && (Reader.signed 8 115 == 115)) = true) ∧ (bq cX9_wordOf 404 3 = true) ∧ ((bq cX9_wordOf 405 184 && bq cX9_wordOf (405 + 1) 0 && bq cX9_wordOf (405 + 2) 127 && (0 * 256 + 127 == 127)) = true) := by decide +kernel
theorem dX9_wordOf_345 : decode cX9_wordOf 345 = .ok (.bipush 122, 2) := dr_16 122  pk_decc_222.1
theorem dX9_wordOf_347 : decode cX9_wordOf 347 = .ok (.bipush 101, 2) := dr_16 101  pk_decc_222.2.1
theorem dX9_wordOf_349 : decode cX9_wordOf 349 = .ok (.bipush 114, 2) := dr_16 114  pk_decc_222.2.2.1
theorem dX9_wordOf_351 : decode cX9_wordOf 351 = .ok (.bipush 111, 2) := dr_16 111  pk_decc_222.2.2.2.1
theorem dX9_wordOf_353 : decode cX9_wordOf 353 = .ok (.iconst 0, 1) := dr_3  pk_decc_222.2.2.2.2.1
theorem dX9_wordOf_354 : decode cX9_wordOf 354 = .ok (.invokestatic 127, 3) := dr_184 0 127  pk_decc_222.2.2.2.2.2.1
theorem dX9_wordOf_357 : decode cX9_wordOf 357 = .ok (.lcmp, 1) := dr_148  pk_decc_222.2.2.2.2.2.2.1
theorem dX9_wordOf_358 : decode cX9_wordOf 358 = .ok (.ifCond .ne 8, 3) := dr_154 0 8  pk_decc_222.2.2.2.2.2.2.2.1
theorem dX9_wordOf_361 : decode cX9_wordOf 361 = .ok (.bipush 12, 2) := dr_16 12  pk_decc_222.2.2.2.2.2.2.2.2.1
theorem dX9_wordOf_363 : decode cX9_wordOf 363 = .ok (.goto 5, 3) := dr_167 0 5  pk_decc_222.2.2.2.2.2.2.2.2.2.1
theorem dX9_wordOf_366 : decode cX9_wordOf 366 = .ok (.iload 5, 2) := dr_21  pk_decc_222.2.2.2.2.2.2.2.2.2.2.1
theorem dX9_wordOf_368 : decode cX9_wordOf 368 = .ok (.istore 5, 2) := dr_54  pk_decc_222.2.2.2.2.2.2.2.2.2.2.2.1
theorem dX9_wordOf_370 : decode cX9_wordOf 370 = .ok (.lload_n 3, 1) := dr_33  pk_decc_222.2.2.2.2.2.2.2.2.2.2.2.2.1
theorem dX9_wordOf_371 : decode cX9_wordOf 371 = .ok (.bipush 101, 2) := dr_16 101  pk_decc_222.2.2.2.2.2.2.2.2.2.2.2.2.2.1
theorem dX9_wordOf_373 : decode cX9_wordOf 373 = .ok (.bipush 110, 2) := dr_16 110  pk_decc_222.2.2.2.2.2.2.2.2.2.2.2.2.2.2.1
theorem dX9_wordOf_375 : decode cX9_wordOf 375 = .ok (.bipush 100, 2) := dr_16 100  pk_decc_222.2.2.2.2.2.2.2.2.2.2.2.2.2.2.2.1
theorem dX9_wordOf_377 : decode cX9_wordOf 377 = .ok (.iconst 0, 1) := dr_3  pk_decc_222.2.2.2.2.2.2.2.2.2.2.2.2.2.2.2.2.1
theorem dX9_wordOf_378 : decode cX9_wordOf 378 = .ok (.iconst 0, 1) := dr_3  pk_decc_222.2.2.2.2.2.2.2.2.2.2.2.2.2.2.2.2.2.1
theorem dX9_wordOf_379 : decode cX9_wordOf 379 = .ok (.invokestatic 127, 3) := dr_184 0 127  pk_decc_222.2.2.2.2.2.2.2.2.2.2.2.2.2.2.2.2.2.2.1
theorem dX9_wordOf_382 : decode cX9_wordOf 382 = .ok (.lcmp, 1) := dr_148  pk_decc_222.2.2.2.2.2.2.2.2.2.2.2.2.2.2.2.2.2.2.2.1
theorem dX9_wordOf_383 : decode cX9_wordOf 383 = .ok (.ifCond .ne 8, 3) := dr_154 0 8  pk_decc_222.2.2.2.2.2.2.2.2.2.2.2.2.2.2.2.2.2.2.2.2.1
theorem dX9_wordOf_386 : decode cX9_wordOf 386 = .ok (.bipush 13, 2) := dr_16 13  pk_decc_222.2.2.2.2.2.2.2.2.2.2.2.2.2.2.2.2.2.2.2.2.2.1
theorem dX9_wordOf_388 : decode cX9_wordOf 388 = .ok (.goto 5, 3) := dr_167 0 5  pk_decc_222.2.2.2.2.2.2.2.2.2.2.2.2.2.2.2.2.2.2.2.2.2.2.1
theorem dX9_wordOf_391 : decode cX9_wordOf 391 = .ok (.iload 5, 2) := dr_21  pk_decc_222.2.2.2.2.2.2.2.2.2.2.2.2.2.2.2.2.2.2.2.2.2.2.2.1
theorem dX9_wordOf_393 : decode cX9_wordOf 393 = .ok (.istore 5, 2) := dr_54  pk_decc_222.2.2.2.2.2.2.2.2.2.2.2.2.2.2.2.2.2.2.2.2.2.2.2.2.1
theorem dX9_wordOf_395 : decode cX9_wordOf 395 = .ok (.lload_n 3, 1) := dr_33  pk_decc_222.2.2.2.2.2.2.2.2.2.2.2.2.2.2.2.2.2.2.2.2.2.2.2.2.2.1
theorem dX9_wordOf_396 : decode cX9_wordOf 396 = .ok (.bipush 112, 2) := dr_16 112  pk_decc_222.2.2.2.2.2.2.2.2.2.2.2.2.2.2.2.2.2.2.2.2.2.2.2.2.2.2.1
theorem dX9_wordOf_398 : decode cX9_wordOf 398 = .ok (.bipush 108, 2) := dr_16 108  pk_decc_222.2.2.2.2.2.2.2.2.2.2.2.2.2.2.2.2.2.2.2.2.2.2.2.2.2.2.2.1
theorem dX9_wordOf_400 : decode cX9_wordOf 400 = .ok (.bipush 117, 2) := dr_16 117  pk_decc_222.2.2.2.2.2.2.2.2.2.2.2.2.2.2.2.2.2.2.2.2.2.2.2.2.2.2.2.2.1
theorem dX9_wordOf_402 : decode cX9_wordOf 402 = .ok (.bipush 115, 2) := dr_16 115  pk_decc_222.2.2.2.2.2.2.2.2.2.2.2.2.2.2.2.2.2.2.2.2.2.2.2.2.2.2.2.2.2.1
theorem dX9_wordOf_404 : decode cX9_wordOf 404 = .ok (.iconst 0, 1) := dr_3  pk_decc_222.2.2.2.2.2.2.2.2.2.2.2.2.2.2.2.2.2.2.2.2.2.2.2.2.2.2.2.2.2.2.1
theorem dX9_wordOf_405 : decode cX9_wordOf 405 = .ok (.invokestatic 127, 3) := dr_184 0 127  pk_decc_222.2.2.2.2.2.2.2.2.2.2.2.2.2.2.2.2.2.2.2.2.2.2.2.2.2.2.2.2.2.2.2
set_option maxRecDepth 20000 in
theorem pk_decc_223 : (bq cX9_wordOf 408 148 = true) ∧ ((bq cX9_wordOf 409 154 && bq cX9_wordOf (409 + 1) 0 && bq cX9_wordOf (409 + 2) 8 && (Reader.signed 16 (0 * 256 + 8) == 8)) = true) ∧ ((bq cX9_wordOf 412 16 && bq cX9_wordOf (412 + 1) 14 && (Reader.signed 8 14 == 14)) = true) ∧ ((bq cX9_wordOf 414 167 && bq cX9_wordOf (414 + 1) 0 && bq cX9_wordOf (414 + 2) 5 && (Reader.signed 16 (0 * 256 + 5) == 5)) = true) ∧ ((bq cX9_wordOf 417 21 && bq cX9_wordOf (417 + 1) 5) = true) ∧ ((bq cX9_wordOf 419 54 && bq cX9_wordOf (419 + 1) 5) = true) ∧ (bq cX9_wordOf 421 33 = true) ∧ ((bq cX9_wordOf 422 16 && bq cX9_wordOf (422 + 1) 109 && (Reader.signed 8 109 == 109)) = true) ∧ ((bq cX9_wordOf 424 16 && bq cX9_wordOf (424 + 1) 105 && (Reader.signed 8 105 == 105)) = true) ∧ ((bq cX9_wordOf 426 16 && bq cX9_wordOf (426 + 1) 110 && (Reader.signed 8 110 == 110)) = true) ∧ ((bq cX9_wordOf 428 16 && bq cX9_wordOf (428 + 1) 117 && (Reader.signed 8 117 == 117)) = true) ∧ ((bq cX9_wordOf 430 16 && bq cX9_wordOf (430 + 1) 115 && (Reader.signed 8 115 == 115)) = true) ∧ ((bq cX9_wordOf 432 184 && bq cX9_wordOf (432 + 1) 0 && bq cX9_wordOf (432 + 2) 127 && (0 * 256 + 127 == 127)) = true) ∧ (bq cX9_wordOf 435 148 = true) ∧ ((bq cX9_wordOf 436 154 && bq cX9_wordOf (436 + 1) 0 && bq cX9_wordOf (436 + 2) 8 && (Reader.signed 16 (0 * 256 + 8) == 8)) = true) ∧ ((bq cX9_wordOf 439 16 && bq cX9_wordOf (439 + 1) 15 && (Reader.signed 8 15 == 15)) = true) ∧ ((bq cX9_wordOf 441 167 && bq cX9_wordOf (441 + 1) 0 && bq cX9_wordOf (441 + 2) 5 && (Reader.signed 16 (0 * 256 + 5) == 5)) = true) ∧ ((bq cX9_wordOf 444 21 && bq cX9_wordOf (444 + 1) 5) = true) ∧ ((bq cX9_wordOf 446 54 && bq cX9_wordOf (446 + 1) 5) = true) ∧ (bq cX9_wordOf 448 33 = true) ∧ ((bq cX9_wordOf 449 16 && bq cX9_wordOf (449 + 1) 98 && (Reader.signed 8 98 == 98)) = true) ∧ ((bq cX9_wordOf 451 16 && bq cX9_wordOf (451 + 1) 121 && (Reader.signed 8 121 == 121)) = true) ∧ ((bq cX9_wordOf 453 16 && bq cX9_wordOf (453 + 1) 116 && (Reader.signed 8 116 == 116)) = true) ∧ ((bq cX9_wordOf 455 16 && bq cX9_wordOf (455 + 1) 101 && (Reader.signed 8 101 == 101)) = true) ∧ (bq cX9_wordOf 457 3 = true) ∧ ((bq cX9_wordOf 458 184 && bq cX9_wordOf (458 + 1) 0 && bq cX9_wordOf (458 + 2) 127 && (0 * 256 + 127 == 127)) = true) ∧ (bq cX9_wordOf 461 148 = true) ∧ ((bq cX9_wordOf 462 154 && bq cX9_wordOf (462 + 1) 0 && bq cX9_wordOf (462 + 2) 8 && (Reader.signed 16 (0 * 256 + 8) == 8)) = true) ∧ ((bq cX9_wordOf 465 16 && bq cX9_wordOf (465 + 1) 16 && (Reader.signed 8 16 == 16)) = true) ∧ ((bq cX9_wordOf 467 167 && bq cX9_wordOf (467 + 1) 0 && bq cX9_wordOf (467 + 2) 5 && (Reader.signed 16 (0 * 256 + 5) == 5)) = true) ∧ ((bq cX9_wordOf 470 21 && bq cX9_wordOf (470 + 1) 5) = true) ∧ ((bq cX9_wordOf 472 54 && bq cX9_wordOf (472 + 1) 5) = true) := by decide +kernel
theorem dX9_wordOf_408 : decode cX9_wordOf 408 = .ok (.lcmp, 1) := dr_148  pk_decc_223.1
theorem dX9_wordOf_409 : decode cX9_wordOf 409 = .ok (.ifCond .ne 8, 3) := dr_154 0 8  pk_decc_223.2.1
theorem dX9_wordOf_412 : decode cX9_wordOf 412 = .ok (.bipush 14, 2) := dr_16 14  pk_decc_223.2.2.1
theorem dX9_wordOf_414 : decode cX9_wordOf 414 = .ok (.goto 5, 3) := dr_167 0 5  pk_decc_223.2.2.2.1
theorem dX9_wordOf_417 : decode cX9_wordOf 417 = .ok (.iload 5, 2) := dr_21  pk_decc_223.2.2.2.2.1
theorem dX9_wordOf_419 : decode cX9_wordOf 419 = .ok (.istore 5, 2) := dr_54  pk_decc_223.2.2.2.2.2.1
theorem dX9_wordOf_421 : decode cX9_wordOf 421 = .ok (.lload_n 3, 1) := dr_33  pk_decc_223.2.2.2.2.2.2.1
theorem dX9_wordOf_422 : decode cX9_wordOf 422 = .ok (.bipush 109, 2) := dr_16 109  pk_decc_223.2.2.2.2.2.2.2.1
theorem dX9_wordOf_424 : decode cX9_wordOf 424 = .ok (.bipush 105, 2) := dr_16 105  pk_decc_223.2.2.2.2.2.2.2.2.1
theorem dX9_wordOf_426 : decode cX9_wordOf 426 = .ok (.bipush 110, 2) := dr_16 110  pk_decc_223.2.2.2.2.2.2.2.2.2.1
theorem dX9_wordOf_428 : decode cX9_wordOf 428 = .ok (.bipush 117, 2) := dr_16 117  pk_decc_223.2.2.2.2.2.2.2.2.2.2.1
theorem dX9_wordOf_430 : decode cX9_wordOf 430 = .ok (.bipush 115, 2) := dr_16 115  pk_decc_223.2.2.2.2.2.2.2.2.2.2.2.1
theorem dX9_wordOf_432 : decode cX9_wordOf 432 = .ok (.invokestatic 127, 3) := dr_184 0 127  pk_decc_223.2.2.2.2.2.2.2.2.2.2.2.2.1
theorem dX9_wordOf_435 : decode cX9_wordOf 435 = .ok (.lcmp, 1) := dr_148  pk_decc_223.2.2.2.2.2.2.2.2.2.2.2.2.2.1
theorem dX9_wordOf_436 : decode cX9_wordOf 436 = .ok (.ifCond .ne 8, 3) := dr_154 0 8  pk_decc_223.2.2.2.2.2.2.2.2.2.2.2.2.2.2.1
theorem dX9_wordOf_439 : decode cX9_wordOf 439 = .ok (.bipush 15, 2) := dr_16 15  pk_decc_223.2.2.2.2.2.2.2.2.2.2.2.2.2.2.2.1
theorem dX9_wordOf_441 : decode cX9_wordOf 441 = .ok (.goto 5, 3) := dr_167 0 5  pk_decc_223.2.2.2.2.2.2.2.2.2.2.2.2.2.2.2.2.1
theorem dX9_wordOf_444 : decode cX9_wordOf 444 = .ok (.iload 5, 2) := dr_21  pk_decc_223.2.2.2.2.2.2.2.2.2.2.2.2.2.2.2.2.2.1
theorem dX9_wordOf_446 : decode cX9_wordOf 446 = .ok (.istore 5, 2) := dr_54  pk_decc_223.2.2.2.2.2.2.2.2.2.2.2.2.2.2.2.2.2.2.1
theorem dX9_wordOf_448 : decode cX9_wordOf 448 = .ok (.lload_n 3, 1) := dr_33  pk_decc_223.2.2.2.2.2.2.2.2.2.2.2.2.2.2.2.2.2.2.2.1
theorem dX9_wordOf_449 : decode cX9_wordOf 449 = .ok (.bipush 98, 2) := dr_16 98  pk_decc_223.2.2.2.2.2.2.2.2.2.2.2.2.2.2.2.2.2.2.2.2.1
theorem dX9_wordOf_451 : decode cX9_wordOf 451 = .ok (.bipush 121, 2) := dr_16 121  pk_decc_223.2.2.2.2.2.2.2.2.2.2.2.2.2.2.2.2.2.2.2.2.2.1
theorem dX9_wordOf_453 : decode cX9_wordOf 453 = .ok (.bipush 116, 2) := dr_16 116  pk_decc_223.2.2.2.2.2.2.2.2.2.2.2.2.2.2.2.2.2.2.2.2.2.2.1
theorem dX9_wordOf_455 : decode cX9_wordOf 455 = .ok (.bipush 101, 2) := dr_16 101  pk_decc_223.2.2.2.2.2.2.2.2.2.2.2.2.2.2.2.2.2.2.2.2.2.2.2.1
theorem dX9_wordOf_457 : decode cX9_wordOf 457 = .ok (.iconst 0, 1) := dr_3  pk_decc_223.2.2.2.2.2.2.2.2.2.2.2.2.2.2.2.2.2.2.2.2.2.2.2.2.1
theorem dX9_wordOf_458 : decode cX9_wordOf 458 = .ok (.invokestatic 127, 3) := dr_184 0 127  pk_decc_223.2.2.2.2.2.2.2.2.2.2.2.2.2.2.2.2.2.2.2.2.2.2.2.2.2.1
theorem dX9_wordOf_461 : decode cX9_wordOf 461 = .ok (.lcmp, 1) := dr_148  pk_decc_223.2.2.2.2.2.2.2.2.2.2.2.2.2.2.2.2.2.2.2.2.2.2.2.2.2.2.1
theorem dX9_wordOf_462 : decode cX9_wordOf 462 = .ok (.ifCond .ne 8, 3) := dr_154 0 8  pk_decc_223.2.2.2.2.2.2.2.2.2.2.2.2.2.2.2.2.2.2.2.2.2.2.2.2.2.2.2.1
theorem dX9_wordOf_465 : decode cX9_wordOf 465 = .ok (.bipush 16, 2) := dr_16 16  pk_decc_223.2.2.2.2.2.2.2.2.2.2.2.2.2.2.2.2.2.2.2.2.2.2.2.2.2.2.2.2.1
theorem dX9_wordOf_467 : decode cX9_wordOf 467 = .ok (.goto 5, 3) := dr_167 0 5  pk_decc_223.2.2.2.2.2.2.2.2.2.2.2.2.2.2.2.2.2.2.2.2.2.2.2.2.2.2.2.2.2.1
theorem dX9_wordOf_470 : decode cX9_wordOf 470 = .ok (.iload 5, 2) := dr_21  pk_decc_223.2.2.2.2.2.2.2.2.2.2.2.2.2.2.2.2.2.2.2.2.2.2.2.2.2.2.2.2.2.2.1
theorem dX9_wordOf_472 : decode cX9_wordOf 472 = .ok (.istore 5, 2) := dr_54  pk_decc_223.2.2.2.2.2.2.2.2.2.2.2.2.2.2.2.2.2.2.2.2.2.2.2.2.2.2.2.2.2.2.2
set_option maxRecDepth 20000 in
theorem pk_decc_224 : (bq cX9_wordOf 474 28 = true) ∧ (bq cX9_wordOf 475 27 = true) ∧ (bq cX9_wordOf 476 100 = true) ∧ (bq cX9_wordOf 477 8 = true) ∧ ((bq cX9_wordOf 478 164 && bq cX9_wordOf (478 + 1) 0 && bq cX9_wordOf (478 + 2) 8 && (Reader.signed 16 (0 * 256 + 8) == 8)) = true) ∧ ((bq cX9_wordOf 481 16 && bq cX9_wordOf (481 + 1) 247 && (Reader.signed 8 247 == (-9))) = true) ∧ ((bq cX9_wordOf 483 167 && bq cX9_wordOf (483 + 1) 0 && bq cX9_wordOf (483 + 2) 5 && (Reader.signed 16 (0 * 256 + 5) == 5)) = true) ∧ ((bq cX9_wordOf 486 21 && bq cX9_wordOf (486 + 1) 5) = true) ∧ (bq cX9_wordOf 488 172 = true) := by decide +kernel
theorem dX9_wordOf_474 : decode cX9_wordOf 474 = .ok (.iload_n 2, 1) := dr_28  pk_decc_224.1
theorem dX9_wordOf_475 : decode cX9_wordOf 475 = .ok (.iload_n 1, 1) := dr_27  pk_decc_224.2.1
theorem dX9_wordOf_476 : decode cX9_wordOf 476 = .ok (.isub, 1) := dr_100  pk_decc_224.2.2.1
theorem dX9_wordOf_477 : decode cX9_wordOf 477 = .ok (.iconst 5, 1) := dr_8  pk_decc_224.2.2.2.1
theorem dX9_wordOf_478 : decode cX9_wordOf 478 = .ok (.if_icmp .le 8, 3) := dr_164 0 8  pk_decc_224.2.2.2.2.1
theorem dX9_wordOf_481 : decode cX9_wordOf 481 = .ok (.bipush (-9), 2) := dr_16 247  pk_decc_224.2.2.2.2.2.1
theorem dX9_wordOf_483 : decode cX9_wordOf 483 = .ok (.goto 5, 3) := dr_167 0 5  pk_decc_224.2.2.2.2.2.2.1
theorem dX9_wordOf_486 : decode cX9_wordOf 486 = .ok (.iload 5, 2) := dr_21  pk_decc_224.2.2.2.2.2.2.2.1
theorem dX9_wordOf_488 : decode cX9_wordOf 488 = .ok (.ireturn, 1) := dr_172  pk_decc_224.2.2.2.2.2.2.2.2
set_option maxRecDepth 20000 in
theorem pk_decc_225 : (bq cX9_hasNumber 0 26 = true) ∧ (bq cX9_hasNumber 1 6 = true) ∧ ((bq cX9_hasNumber 2 16 && bq cX9_hasNumber (2 + 1) 7 && (Reader.signed 8 7 == 7)) = true) ∧ ((bq cX9_hasNumber 4 184 && bq cX9_hasNumber (4 + 1) 0 && bq cX9_hasNumber (4 + 2) 75 && (0 * 256 + 75 == 75)) = true) ∧ ((bq cX9_hasNumber 7 154 && bq cX9_hasNumber (7 + 1) 0 && bq cX9_hasNumber (7 + 2) 14 && (Reader.signed 16 (0 * 256 + 14) == 14)) = true) ∧ (bq cX9_hasNumber 10 26 = true) ∧ ((bq cX9_hasNumber 11 16 && bq cX9_hasNumber (11 + 1) 11 && (Reader.signed 8 11 == 11)) = true) ∧ ((bq cX9_hasNumber 13 16 && bq cX9_hasNumber (13 + 1) 15 && (Reader.signed 8 15 == 15)) = true) ∧ ((bq cX9_hasNumber 15 184 && bq cX9_hasNumber (15 + 1) 0 && bq cX9_hasNumber (15 + 2) 75 && (0 * 256 + 75 == 75)) = true) ∧ ((bq cX9_hasNumber 18 153 && bq cX9_hasNumber (18 + 1) 0 && bq cX9_hasNumber (18 + 2) 7 && (Reader.signed 16 (0 * 256 + 7) == 7)) = true) ∧ (bq cX9_hasNumber 21 4 = true) ∧ ((bq cX9_hasNumber 22 167 && bq cX9_hasNumber (22 + 1) 0 && bq cX9_hasNumber (22 + 2) 4 && (Reader.signed 16 (0 * 256 + 4) == 4)) = true) ∧ (bq cX9_hasNumber 25 3 = true) ∧ (bq cX9_hasNumber 26 172 = true) := by decide +kernel
theorem dX9_hasNumber_0 : decode cX9_hasNumber 0 = .ok (.iload_n 0, 1) := dr_26  pk_decc_225.1
theorem dX9_hasNumber_1 : decode cX9_hasNumber 1 = .ok (.iconst 3, 1) := dr_6  pk_decc_225.2.1
theorem dX9_hasNumber_2 : decode cX9_hasNumber 2 = .ok (.bipush 7, 2) := dr_16 7  pk_decc_225.2.2.1
theorem dX9_hasNumber_4 : decode cX9_hasNumber 4 = .ok (.invokestatic 75, 3) := dr_184 0 75  pk_decc_225.2.2.2.1
theorem dX9_hasNumber_7 : decode cX9_hasNumber 7 = .ok (.ifCond .ne 14, 3) := dr_154 0 14  pk_decc_225.2.2.2.2.1
theorem dX9_hasNumber_10 : decode cX9_hasNumber 10 = .ok (.iload_n 0, 1) := dr_26  pk_decc_225.2.2.2.2.2.1
theorem dX9_hasNumber_11 : decode cX9_hasNumber 11 = .ok (.bipush 11, 2) := dr_16 11  pk_decc_225.2.2.2.2.2.2.1
theorem dX9_hasNumber_13 : decode cX9_hasNumber 13 = .ok (.bipush 15, 2) := dr_16 15  pk_decc_225.2.2.2.2.2.2.2.1
theorem dX9_hasNumber_15 : decode cX9_hasNumber 15 = .ok (.invokestatic 75, 3) := dr_184 0 75  pk_decc_225.2.2.2.2.2.2.2.2.1
theorem dX9_hasNumber_18 : decode cX9_hasNumber 18 = .ok (.ifCond .eq 7, 3) := dr_153 0 7  pk_decc_225.2.2.2.2.2.2.2.2.2.1
theorem dX9_hasNumber_21 : decode cX9_hasNumber 21 = .ok (.iconst 1, 1) := dr_4  pk_decc_225.2.2.2.2.2.2.2.2.2.2.1
theorem dX9_hasNumber_22 : decode cX9_hasNumber 22 = .ok (.goto 4, 3) := dr_167 0 4  pk_decc_225.2.2.2.2.2.2.2.2.2.2.2.1
theorem dX9_hasNumber_25 : decode cX9_hasNumber 25 = .ok (.iconst 0, 1) := dr_3  pk_decc_225.2.2.2.2.2.2.2.2.2.2.2.2.1
theorem dX9_hasNumber_26 : decode cX9_hasNumber 26 = .ok (.ireturn, 1) := dr_172  pk_decc_225.2.2.2.2.2.2.2.2.2.2.2.2.2
set_option maxRecDepth 20000 in
theorem pk_decc_226 : (bq cX9_next 0 42 = true) ∧ (bq cX9_next 1 42 = true) ∧ ((bq cX9_next 2 180 && bq cX9_next (2 + 1) 0 && bq cX9_next (2 + 2) 88 && (0 * 256 + 88 == 88)) = true) ∧ ((bq cX9_next 5 181 && bq cX9_next (5 + 1) 0 && bq cX9_next (5 + 2) 131 && (0 * 256 + 131 == 131)) = true) ∧ (bq cX9_next 8 42 = true) ∧ ((bq cX9_next 9 182 && bq cX9_next (9 + 1) 0 && bq cX9_next (9 + 2) 108 && (0 * 256 + 108 == 108)) = true) ∧ (bq cX9_next 12 42 = true) ∧ (bq cX9_next 13 42 = true) ∧ ((bq cX9_next 14 180 && bq cX9_next (14 + 1) 0 && bq cX9_next (14 + 2) 88 && (0 * 256 + 88 == 88)) = true) ∧ ((bq cX9_next 17 181 && bq cX9_next (17 + 1) 0 && bq cX9_next (17 + 2) 134 && (0 * 256 + 134 == 134)) = true) ∧ (bq cX9_next 20 42 = true) ∧ (bq cX9_next 21 3 = true) ∧ ((bq cX9_next 22 181 && bq cX9_next (22 + 1) 0 && bq cX9_next (22 + 2) 137 && (0 * 256 + 137 == 137)) = true) ∧ (bq cX9_next 25 42 = true) ∧ ((bq cX9_next 26 182 && bq cX9_next (26 + 1) 0 && bq cX9_next (26 + 2) 100 && (0 * 256 + 100 == 100)) = true) ∧ (bq cX9_next 29 60 = true) ∧ (bq cX9_next 30 27 = true) ∧ ((bq cX9_next 31 156 && bq cX9_next (31 + 1) 0 && bq cX9_next (31 + 2) 11 && (Reader.signed 16 (0 * 256 + 11) == 11)) = true) ∧ (bq cX9_next 34 42 = true) ∧ (bq cX9_next 35 3 = true) ∧ ((bq cX9_next 36 181 && bq cX9_next (36 + 1) 0 && bq cX9_next (36 + 2) 140 && (0 * 256 + 140 == 140)) = true) ∧ ((bq cX9_next 39 167 && bq cX9_next (39 + 1) 0 && bq cX9_next (39 + 2) 241 && (Reader.signed 16 (0 * 256 + 241) == 241)) = true) ∧ (bq cX9_next 42 27 = true) ∧ ((bq cX9_next 43 16 && bq cX9_next (43 + 1) 97 && (Reader.signed 8 97 == 97)) = true) ∧ ((bq cX9_next 45 16 && bq cX9_next (45 + 1) 122 && (Reader.signed 8 122 == 122)) = true) ∧ ((bq cX9_next 47 184 && bq cX9_next (47 + 1) 0 && bq cX9_next (47 + 2) 75 && (0 * 256 + 75 == 75)) = true) ∧ ((bq cX9_next 50 153 && bq cX9_next (50 + 1) 0 && bq cX9_next (50 + 2) 67 && (Reader.signed 16 (0 * 256 + 67) == 67)) = true) ∧ (bq cX9_next 53 42 = true) ∧ ((bq cX9_next 54 182 && bq cX9_next (54 + 1) 0 && bq cX9_next (54 + 2) 100 && (0 * 256 + 100 == 100)) = true) ∧ ((bq cX9_next 57 16 && bq cX9_next (57 + 1) 97 && (Reader.signed 8 97 == 97)) = true) ∧ ((bq cX9_next 59 16 && bq cX9_next (59 + 1) 122 && (Reader.signed 8 122 == 122)) = true) ∧ ((bq cX9_next 61 184 && bq cX9_next (61 + 1) 0 && bq cX9_next (61 + 2) 75 && (0 * 256 + 75 == 75)) = true) := by decide +kernel
theorem dX9_next_0 : decode cX9_next 0 = .ok (.aload_n 0, 1) := dr_42  pk_decc_226.1
theorem dX9_next_1 : decode cX9_next 1 = .ok (.aload_n 0, 1) := dr_42  pk_decc_226.2.1
theorem dX9_next_2 : decode cX9_next 2 = .ok (.getfield 88, 3) := dr_180 0 88  pk_decc_226.2.2.1
theorem dX9_next_5 : decode cX9_next 5 = .ok (.putfield 131, 3) := dr_181 0 131  pk_decc_226.2.2.2.1
theorem dX9_next_8 : decode cX9_next 8 = .ok (.aload_n 0, 1) := dr_42  pk_decc_226.2.2.2.2.1
theorem dX9_next_9 : decode cX9_next 9 = .ok (.invokevirtual 108, 3) := dr_182 0 108  pk_decc_226.2.2.2.2.2.1
theorem dX9_next_12 : decode cX9_next 12 = .ok (.aload_n 0, 1) := dr_42  pk_decc_226.2.2.2.2.2.2.1
theorem dX9_next_13 : decode cX9_next 13 = .ok (.aload_n 0, 1) := dr_42  pk_decc_226.2.2.2.2.2.2.2.1
theorem dX9_next_14 : decode cX9_next 14 = .ok (.getfield 88, 3) := dr_180 0 88  pk_decc_226.2.2.2.2.2.2.2.2.1
theorem dX9_next_17 : decode cX9_next 17 = .ok (.putfield 134, 3) := dr_181 0 134  pk_decc_226.2.2.2.2.2.2.2.2.2.1
theorem dX9_next_20 : decode cX9_next 20 = .ok (.aload_n 0, 1) := dr_42  pk_decc_226.2.2.2.2.2.2.2.2.2.2.1
theorem dX9_next_21 : decode cX9_next 21 = .ok (.iconst 0, 1) := dr_3  pk_decc_226.2.2.2.2.2.2.2.2.2.2.2.1
theorem dX9_next_22 : decode cX9_next 22 = .ok (.putfield 137, 3) := dr_181 0 137  pk_decc_226.2.2.2.2.2.2.2.2.2.2.2.2.1
theorem dX9_next_25 : decode cX9_next 25 = .ok (.aload_n 0, 1) := dr_42  pk_decc_226.2.2.2.2.2.2.2.2.2.2.2.2.2.1
theorem dX9_next_26 : decode cX9_next 26 = .ok (.invokevirtual 100, 3) := dr_182 0 100  pk_decc_226.2.2.2.2.2.2.2.2.2.2.2.2.2.2.1
theorem dX9_next_29 : decode cX9_next 29 = .ok (.istore_n 1, 1) := dr_60  pk_decc_226.2.2.2.2.2.2.2.2.2.2.2.2.2.2.2.1
theorem dX9_next_30 : decode cX9_next 30 = .ok (.iload_n 1, 1) := dr_27  pk_decc_226.2.2.2.2.2.2.2.2.2.2.2.2.2.2.2.2.1
theorem dX9_next_31 : decode cX9_next 31 = .ok (.ifCond .ge 11, 3) := dr_156 0 11  pk_decc_226.2.2.2.2.2.2.2.2.2.2.2.2.2.2.2.2.2.1
theorem dX9_next_34 : decode cX9_next 34 = .ok (.aload_n 0, 1) := dr_42  pk_decc_226.2.2.2.2.2.2.2.2.2.2.2.2.2.2.2.2.2.2.1
theorem dX9_next_35 : decode cX9_next 35 = .ok (.iconst 0, 1) := dr_3  pk_decc_226.2.2.2.2.2.2.2.2.2.2.2.2.2.2.2.2.2.2.2.1
theorem dX9_next_36 : decode cX9_next 36 = .ok (.putfield 140, 3) := dr_181 0 140  pk_decc_226.2.2.2.2.2.2.2.2.2.2.2.2.2.2.2.2.2.2.2.2.1
theorem dX9_next_39 : decode cX9_next 39 = .ok (.goto 241, 3) := dr_167 0 241  pk_decc_226.2.2.2.2.2.2.2.2.2.2.2.2.2.2.2.2.2.2.2.2.2.1
theorem dX9_next_42 : decode cX9_next 42 = .ok (.iload_n 1, 1) := dr_27  pk_decc_226.2.2.2.2.2.2.2.2.2.2.2.2.2.2.2.2.2.2.2.2.2.2.1
theorem dX9_next_43 : decode cX9_next 43 = .ok (.bipush 97, 2) := dr_16 97  pk_decc_226.2.2.2.2.2.2.2.2.2.2.2.2.2.2.2.2.2.2.2.2.2.2.2.1
theorem dX9_next_45 : decode cX9_next 45 = .ok (.bipush 122, 2) := dr_16 122  pk_decc_226.2.2.2.2.2.2.2.2.2.2.2.2.2.2.2.2.2.2.2.2.2.2.2.2.1
theorem dX9_next_47 : decode cX9_next 47 = .ok (.invokestatic 75, 3) := dr_184 0 75  pk_decc_226.2.2.2.2.2.2.2.2.2.2.2.2.2.2.2.2.2.2.2.2.2.2.2.2.2.1
theorem dX9_next_50 : decode cX9_next 50 = .ok (.ifCond .eq 67, 3) := dr_153 0 67  pk_decc_226.2.2.2.2.2.2.2.2.2.2.2.2.2.2.2.2.2.2.2.2.2.2.2.2.2.2.1
theorem dX9_next_53 : decode cX9_next 53 = .ok (.aload_n 0, 1) := dr_42  pk_decc_226.2.2.2.2.2.2.2.2.2.2.2.2.2.2.2.2.2.2.2.2.2.2.2.2.2.2.2.1
theorem dX9_next_54 : decode cX9_next 54 = .ok (.invokevirtual 100, 3) := dr_182 0 100  pk_decc_226.2.2.2.2.2.2.2.2.2.2.2.2.2.2.2.2.2.2.2.2.2.2.2.2.2.2.2.2.1
theorem dX9_next_57 : decode cX9_next 57 = .ok (.bipush 97, 2) := dr_16 97  pk_decc_226.2.2.2.2.2.2.2.2.2.2.2.2.2.2.2.2.2.2.2.2.2.2.2.2.2.2.2.2.2.1
theorem dX9_next_59 : decode cX9_next 59 = .ok (.bipush 122, 2) := dr_16 122  pk_decc_226.2.2.2.2.2.2.2.2.2.2.2.2.2.2.2.2.2.2.2.2.2.2.2.2.2.2.2.2.2.2.1
theorem dX9_next_61 : decode cX9_next 61 = .ok (.invokestatic 75, 3) := dr_184 0 75  pk_decc_226.2.2.2.2.2.2.2.2.2.2.2.2.2.2.2.2.2.2.2.2.2.2.2.2.2.2.2.2.2.2.2
set_option maxRecDepth 20000 in
theorem pk_decc_227 : ((bq cX9_next 64 153 && bq cX9_next (64 + 1) 0 && bq cX9_next (64 + 2) 16 && (Reader.signed 16 (0 * 256 + 16) == 16)) = true) ∧ (bq cX9_next 67 42 = true) ∧ (bq cX9_next 68 89 = true) ∧ ((bq cX9_next 69 180 && bq cX9_next (69 + 1) 0 && bq cX9_next (69 + 2) 88 && (0 * 256 + 88 == 88)) = true) ∧ (bq cX9_next 72 4 = true) ∧ (bq cX9_next 73 96 = true) ∧ ((bq cX9_next 74 181 && bq cX9_next (74 + 1) 0 && bq cX9_next (74 + 2) 88 && (0 * 256 + 88 == 88)) = true) ∧ ((bq cX9_next 77 167 && bq cX9_next (77 + 1) 255 && bq cX9_next (77 + 2) 232 && (Reader.signed 16 (255 * 256 + 232) == (-24))) = true) ∧ (bq cX9_next 80 42 = true) ∧ (bq cX9_next 81 42 = true) ∧ (bq cX9_next 82 42 = true) ∧ ((bq cX9_next 83 180 && bq cX9_next (83 + 1) 0 && bq cX9_next (83 + 2) 134 && (0 * 256 + 134 == 134)) = true) ∧ (bq cX9_next 86 42 = true) ∧ ((bq cX9_next 87 180 && bq cX9_next (87 + 1) 0 && bq cX9_next (87 + 2) 88 && (0 * 256 + 88 == 88)) = true) ∧ ((bq cX9_next 90 182 && bq cX9_next (90 + 1) 0 && bq cX9_next (90 + 2) 143 && (0 * 256 + 143 == 143)) = true) ∧ ((bq cX9_next 93 181 && bq cX9_next (93 + 1) 0 && bq cX9_next (93 + 2) 137 && (0 * 256 + 137 == 137)) = true) ∧ (bq cX9_next 96 42 = true) ∧ (bq cX9_next 97 42 = true) ∧ ((bq cX9_next 98 180 && bq cX9_next (98 + 1) 0 && bq cX9_next (98 + 2) 137 && (0 * 256 + 137 == 137)) = true) ∧ ((bq cX9_next 101 16 && bq cX9_next (101 + 1) 247 && (Reader.signed 8 247 == (-9))) = true) ∧ ((bq cX9_next 103 160 && bq cX9_next (103 + 1) 0 && bq cX9_next (103 + 2) 7 && (Reader.signed 16 (0 * 256 + 7) == 7)) = true) ∧ (bq cX9_next 106 8 = true) ∧ ((bq cX9_next 107 167 && bq cX9_next (107 + 1) 0 && bq cX9_next (107 + 2) 4 && (Reader.signed 16 (0 * 256 + 4) == 4)) = true) ∧ (bq cX9_next 110 4 = true) ∧ ((bq cX9_next 111 181 && bq cX9_next (111 + 1) 0 && bq cX9_next (111 + 2) 140 && (0 * 256 + 140 == 140)) = true) ∧ ((bq cX9_next 114 167 && bq cX9_next (114 + 1) 0 && bq cX9_next (114 + 2) 166 && (Reader.signed 16 (0 * 256 + 166) == 166)) = true) ∧ (bq cX9_next 117 27 = true) ∧ ((bq cX9_next 118 16 && bq cX9_next (118 + 1) 48 && (Reader.signed 8 48 == 48)) = true) ∧ ((bq cX9_next 120 16 && bq cX9_next (120 + 1) 57 && (Reader.signed 8 57 == 57)) = true) ∧ ((bq cX9_next 122 184 && bq cX9_next (122 + 1) 0 && bq cX9_next (122 + 2) 75 && (0 * 256 + 75 == 75)) = true) ∧ ((bq cX9_next 125 153 && bq cX9_next (125 + 1) 0 && bq cX9_next (125 + 2) 107 && (Reader.signed 16 (0 * 256 + 107) == 107)) = true) ∧ (bq cX9_next 128 42 = true) := by decide +kernel
theorem dX9_next_64 : decode cX9_next 64 = .ok (.ifCond .eq 16, 3) := dr_153 0 16  pk_decc_227.1
theorem dX9_next_67 : decode cX9_next 67 = .ok (.aload_n 0, 1) := dr_42  pk_decc_227.2.1
theorem dX9_next_68 : decode cX9_next 68 = .ok (.dup, 1) := dr_89  pk_decc_227.2.2.1
theorem dX9_next_69 : decode cX9_next 69 = .ok (.getfield 88, 3) := dr_180 0 88  pk_decc_227.2.2.2.1
theorem dX9_next_72 : decode cX9_next 72 = .ok (.iconst 1, 1) := dr_4  pk_decc_227.2.2.2.2.1
theorem dX9_next_73 : decode cX9_next 73 = .ok (.iadd, 1) := dr_96  pk_decc_227.2.2.2.2.2.1
theorem dX9_next_74 : decode cX9_next 74 = .ok (.putfield 88, 3) := dr_181 0 88  pk_decc_227.2.2.2.2.2.2.1
theorem dX9_next_77 : decode cX9_next 77 = .ok (.goto (-24), 3) := dr_167 255 232  pk_decc_227.2.2.2.2.2.2.2.1
theorem dX9_next_80 : decode cX9_next 80 = .ok (.aload_n 0, 1) := dr_42  pk_decc_227.2.2.2.2.2.2.2.2.1
theorem dX9_next_81 : decode cX9_next 81 = .ok (.aload_n 0, 1) := dr_42  pk_decc_227.2.2.2.2.2.2.2.2.2.1
theorem dX9_next_82 : decode cX9_next 82 = .ok (.aload_n 0, 1) := dr_42  pk_decc_227.2.2.2.2.2.2.2.2.2.2.1
theorem dX9_next_83 : decode cX9_next 83 = .ok (.getfield 134, 3) := dr_180 0 134  pk_decc_227.2.2.2.2.2.2.2.2.2.2.2.1
theorem dX9_next_86 : decode cX9_next 86 = .ok (.aload_n 0, 1) := dr_42  pk_decc_227.2.2.2.2.2.2.2.2.2.2.2.2.1
theorem dX9_next_87 : decode cX9_next 87 = .ok (.getfield 88, 3) := dr_180 0 88  pk_decc_227.2.2.2.2.2.2.2.2.2.2.2.2.2.1
theorem dX9_next_90 : decode cX9_next 90 = .ok (.invokevirtual 143, 3) := dr_182 0 143  pk_decc_227.2.2.2.2.2.2.2.2.2.2.2.2.2.2.1
theorem dX9_next_93 : decode cX9_next 93 = .ok (.putfield 137, 3) := dr_181 0 137  pk_decc_227.2.2.2.2.2.2.2.2.2.2.2.2.2.2.2.1
theorem dX9_next_96 : decode cX9_next 96 = .ok (.aload_n 0, 1) := dr_42  pk_decc_227.2.2.2.2.2.2.2.2.2.2.2.2.2.2.2.2.1
theorem dX9_next_97 : decode cX9_next 97 = .ok (.aload_n 0, 1) := dr_42  pk_decc_227.2.2.2.2.2.2.2.2.2.2.2.2.2.2.2.2.2.1
theorem dX9_next_98 : decode cX9_next 98 = .ok (.getfield 137, 3) := dr_180 0 137  pk_decc_227.2.2.2.2.2.2.2.2.2.2.2.2.2.2.2.2.2.2.1
theorem dX9_next_101 : decode cX9_next 101 = .ok (.bipush (-9), 2) := dr_16 247  pk_decc_227.2.2.2.2.2.2.2.2.2.2.2.2.2.2.2.2.2.2.2.1
theorem dX9_next_103 : decode cX9_next 103 = .ok (.if_icmp .ne 7, 3) := dr_160 0 7  pk_decc_227.2.2.2.2.2.2.2.2.2.2.2.2.2.2.2.2.2.2.2.2.1
theorem dX9_next_106 : decode cX9_next 106 = .ok (.iconst 5, 1) := dr_8  pk_decc_227.2.2.2.2.2.2.2.2.2.2.2.2.2.2.2.2.2.2.2.2.2.1
theorem dX9_next_107 : decode cX9_next 107 = .ok (.goto 4, 3) := dr_167 0 4  pk_decc_227.2.2.2.2.2.2.2.2.2.2.2.2.2.2.2.2.2.2.2.2.2.2.1
theorem dX9_next_110 : decode cX9_next 110 = .ok (.iconst 1, 1) := dr_4  pk_decc_227.2.2.2.2.2.2.2.2.2.2.2.2.2.2.2.2.2.2.2.2.2.2.2.1
theorem dX9_next_111 : decode cX9_next 111 = .ok (.putfield 140, 3) := dr_181 0 140  pk_decc_227.2.2.2.2.2.2.2.2.2.2.2.2.2.2.2.2.2.2.2.2.2.2.2.2.1
theorem dX9_next_114 : decode cX9_next 114 = .ok (.goto 166, 3) := dr_167 0 166  pk_decc_227.2.2.2.2.2.2.2.2.2.2.2.2.2.2.2.2.2.2.2.2.2.2.2.2.2.1
theorem dX9_next_117 : decode cX9_next 117 = .ok (.iload_n 1, 1) := dr_27  pk_decc_227.2.2.2.2.2.2.2.2.2.2.2.2.2.2.2.2.2.2.2.2.2.2.2.2.2.2.1
theorem dX9_next_118 : decode cX9_next 118 = .ok (.bipush 48, 2) := dr_16 48  pk_decc_227.2.2.2.2.2.2.2.2.2.2.2.2.2.2.2.2.2.2.2.2.2.2.2.2.2.2.2.1
theorem dX9_next_120 : decode cX9_next 120 = .ok (.bipush 57, 2) := dr_16 57  pk_decc_227.2.2.2.2.2.2.2.2.2.2.2.2.2.2.2.2.2.2.2.2.2.2.2.2.2.2.2.2.1
theorem dX9_next_122 : decode cX9_next 122 = .ok (.invokestatic 75, 3) := dr_184 0 75  pk_decc_227.2.2.2.2.2.2.2.2.2.2.2.2.2.2.2.2.2.2.2.2.2.2.2.2.2.2.2.2.2.1
theorem dX9_next_125 : decode cX9_next 125 = .ok (.ifCond .eq 107, 3) := dr_153 0 107  pk_decc_227.2.2.2.2.2.2.2.2.2.2.2.2.2.2.2.2.2.2.2.2.2.2.2.2.2.2.2.2.2.2.1
theorem dX9_next_128 : decode cX9_next 128 = .ok (.aload_n 0, 1) := dr_42  pk_decc_227.2.2.2.2.2.2.2.2.2.2.2.2.2.2.2.2.2.2.2.2.2.2.2.2.2.2.2.2.2.2.2
set_option maxRecDepth 20000 in
theorem pk_decc_228 : ((bq cX9_next 129 182 && bq cX9_next (129 + 1) 0 && bq cX9_next (129 + 2) 100 && (0 * 256 + 100 == 100)) = true) ∧ ((bq cX9_next 132 16 && bq cX9_next (132 + 1) 48 && (Reader.signed 8 48 == 48)) = true) ∧ ((bq cX9_next 134 16 && bq cX9_next (134 + 1) 57 && (Reader.signed 8 57 == 57)) = true) ∧ ((bq cX9_next 136 184 && bq cX9_next (136 + 1) 0 && bq cX9_next (136 + 2) 75 && (0 * 256 + 75 == 75)) = true) ∧ ((bq cX9_next 139 153 && bq cX9_next (139 + 1) 0 && bq cX9_next (139 + 2) 52 && (Reader.signed 16 (0 * 256 + 52) == 52)) = true) ∧ (bq cX9_next 142 42 = true) ∧ (bq cX9_next 143 42 = true) ∧ ((bq cX9_next 144 180 && bq cX9_next (144 + 1) 0 && bq cX9_next (144 + 2) 137 && (0 * 256 + 137 == 137)) = true) ∧ ((bq cX9_next 147 17 && bq cX9_next (147 + 1) 0 && bq cX9_next (147 + 2) 255 && (Reader.signed 16 (0 * 256 + 255) == 255)) = true) ∧ ((bq cX9_next 150 164 && bq cX9_next (150 + 1) 0 && bq cX9_next (150 + 2) 10 && (Reader.signed 16 (0 * 256 + 10) == 10)) = true) ∧ (bq cX9_next 153 42 = true) ∧ ((bq cX9_next 154 180 && bq cX9_next (154 + 1) 0 && bq cX9_next (154 + 2) 137 && (0 * 256 + 137 == 137)) = true) ∧ ((bq cX9_next 157 167 && bq cX9_next (157 + 1) 0 && bq cX9_next (157 + 2) 18 && (Reader.signed 16 (0 * 256 + 18) == 18)) = true) ∧ ((bq cX9_next 160 16 && bq cX9_next (160 + 1) 10 && (Reader.signed 8 10 == 10)) = true) ∧ (bq cX9_next 162 42 = true) ∧ ((bq cX9_next 163 180 && bq cX9_next (163 + 1) 0 && bq cX9_next (163 + 2) 137 && (0 * 256 + 137 == 137)) = true) ∧ (bq cX9_next 166 104 = true) ∧ (bq cX9_next 167 42 = true) ∧ ((bq cX9_next 168 182 && bq cX9_next (168 + 1) 0 && bq cX9_next (168 + 2) 100 && (0 * 256 + 100 == 100)) = true) ∧ (bq cX9_next 171 96 = true) ∧ ((bq cX9_next 172 16 && bq cX9_next (172 + 1) 48 && (Reader.signed 8 48 == 48)) = true) ∧ (bq cX9_next 174 100 = true) ∧ ((bq cX9_next 175 181 && bq cX9_next (175 + 1) 0 && bq cX9_next (175 + 2) 137 && (0 * 256 + 137 == 137)) = true) ∧ (bq cX9_next 178 42 = true) ∧ (bq cX9_next 179 89 = true) ∧ ((bq cX9_next 180 180 && bq cX9_next (180 + 1) 0 && bq cX9_next (180 + 2) 88 && (0 * 256 + 88 == 88)) = true) ∧ (bq cX9_next 183 4 = true) ∧ (bq cX9_next 184 96 = true) ∧ ((bq cX9_next 185 181 && bq cX9_next (185 + 1) 0 && bq cX9_next (185 + 2) 88 && (0 * 256 + 88 == 88)) = true) ∧ ((bq cX9_next 188 167 && bq cX9_next (188 + 1) 255 && bq cX9_next (188 + 2) 196 && (Reader.signed 16 (255 * 256 + 196) == (-60))) = true) ∧ (bq cX9_next 191 42 = true) ∧ (bq cX9_next 192 42 = true) := by decide +kernel
theorem dX9_next_129 : decode cX9_next 129 = .ok (.invokevirtual 100, 3) := dr_182 0 100  pk_decc_228.1
theorem dX9_next_132 : decode cX9_next 132 = .ok (.bipush 48, 2) := dr_16 48  pk_decc_228.2.1
theorem dX9_next_134 : decode cX9_next 134 = .ok (.bipush 57, 2) := dr_16 57  pk_decc_228.2.2.1
theorem dX9_next_136 : decode cX9_next 136 = .ok (.invokestatic 75, 3) := dr_184 0 75  pk_decc_228.2.2.2.1
theorem dX9_next_139 : decode cX9_next 139 = .ok (.ifCond .eq 52, 3) := dr_153 0 52  pk_decc_228.2.2.2.2.1
theorem dX9_next_142 : decode cX9_next 142 = .ok (.aload_n 0, 1) := dr_42  pk_decc_228.2.2.2.2.2.1
theorem dX9_next_143 : decode cX9_next 143 = .ok (.aload_n 0, 1) := dr_42  pk_decc_228.2.2.2.2.2.2.1
theorem dX9_next_144 : decode cX9_next 144 = .ok (.getfield 137, 3) := dr_180 0 137  pk_decc_228.2.2.2.2.2.2.2.1
theorem dX9_next_147 : decode cX9_next 147 = .ok (.sipush 255, 3) := dr_17 0 255  pk_decc_228.2.2.2.2.2.2.2.2.1
theorem dX9_next_150 : decode cX9_next 150 = .ok (.if_icmp .le 10, 3) := dr_164 0 10  pk_decc_228.2.2.2.2.2.2.2.2.2.1
theorem dX9_next_153 : decode cX9_next 153 = .ok (.aload_n 0, 1) := dr_42  pk_decc_228.2.2.2.2.2.2.2.2.2.2.1
theorem dX9_next_154 : decode cX9_next 154 = .ok (.getfield 137, 3) := dr_180 0 137  pk_decc_228.2.2.2.2.2.2.2.2.2.2.2.1
theorem dX9_next_157 : decode cX9_next 157 = .ok (.goto 18, 3) := dr_167 0 18  pk_decc_228.2.2.2.2.2.2.2.2.2.2.2.2.1
theorem dX9_next_160 : decode cX9_next 160 = .ok (.bipush 10, 2) := dr_16 10  pk_decc_228.2.2.2.2.2.2.2.2.2.2.2.2.2.1
theorem dX9_next_162 : decode cX9_next 162 = .ok (.aload_n 0, 1) := dr_42  pk_decc_228.2.2.2.2.2.2.2.2.2.2.2.2.2.2.1
theorem dX9_next_163 : decode cX9_next 163 = .ok (.getfield 137, 3) := dr_180 0 137  pk_decc_228.2.2.2.2.2.2.2.2.2.2.2.2.2.2.2.1
theorem dX9_next_166 : decode cX9_next 166 = .ok (.imul, 1) := dr_104  pk_decc_228.2.2.2.2.2.2.2.2.2.2.2.2.2.2.2.2.1
theorem dX9_next_167 : decode cX9_next 167 = .ok (.aload_n 0, 1) := dr_42  pk_decc_228.2.2.2.2.2.2.2.2.2.2.2.2.2.2.2.2.2.1
theorem dX9_next_168 : decode cX9_next 168 = .ok (.invokevirtual 100, 3) := dr_182 0 100  pk_decc_228.2.2.2.2.2.2.2.2.2.2.2.2.2.2.2.2.2.2.1
theorem dX9_next_171 : decode cX9_next 171 = .ok (.iadd, 1) := dr_96  pk_decc_228.2.2.2.2.2.2.2.2.2.2.2.2.2.2.2.2.2.2.2.1
theorem dX9_next_172 : decode cX9_next 172 = .ok (.bipush 48, 2) := dr_16 48  pk_decc_228.2.2.2.2.2.2.2.2.2.2.2.2.2.2.2.2.2.2.2.2.1
theorem dX9_next_174 : decode cX9_next 174 = .ok (.isub, 1) := dr_100  pk_decc_228.2.2.2.2.2.2.2.2.2.2.2.2.2.2.2.2.2.2.2.2.2.1
theorem dX9_next_175 : decode cX9_next 175 = .ok (.putfield 137, 3) := dr_181 0 137  pk_decc_228.2.2.2.2.2.2.2.2.2.2.2.2.2.2.2.2.2.2.2.2.2.2.1
theorem dX9_next_178 : decode cX9_next 178 = .ok (.aload_n 0, 1) := dr_42  pk_decc_228.2.2.2.2.2.2.2.2.2.2.2.2.2.2.2.2.2.2.2.2.2.2.2.1
theorem dX9_next_179 : decode cX9_next 179 = .ok (.dup, 1) := dr_89  pk_decc_228.2.2.2.2.2.2.2.2.2.2.2.2.2.2.2.2.2.2.2.2.2.2.2.2.1
theorem dX9_next_180 : decode cX9_next 180 = .ok (.getfield 88, 3) := dr_180 0 88  pk_decc_228.2.2.2.2.2.2.2.2.2.2.2.2.2.2.2.2.2.2.2.2.2.2.2.2.2.1
theorem dX9_next_183 : decode cX9_next 183 = .ok (.iconst 1, 1) := dr_4  pk_decc_228.2.2.2.2.2.2.2.2.2.2.2.2.2.2.2.2.2.2.2.2.2.2.2.2.2.2.1
theorem dX9_next_184 : decode cX9_next 184 = .ok (.iadd, 1) := dr_96  pk_decc_228.2.2.2.2.2.2.2.2.2.2.2.2.2.2.2.2.2.2.2.2.2.2.2.2.2.2.2.1
theorem dX9_next_185 : decode cX9_next 185 = .ok (.putfield 88, 3) := dr_181 0 88  pk_decc_228.2.2.2.2.2.2.2.2.2.2.2.2.2.2.2.2.2.2.2.2.2.2.2.2.2.2.2.2.1
theorem dX9_next_188 : decode cX9_next 188 = .ok (.goto (-60), 3) := dr_167 255 196  pk_decc_228.2.2.2.2.2.2.2.2.2.2.2.2.2.2.2.2.2.2.2.2.2.2.2.2.2.2.2.2.2.1
theorem dX9_next_191 : decode cX9_next 191 = .ok (.aload_n 0, 1) := dr_42  pk_decc_228.2.2.2.2.2.2.2.2.2.2.2.2.2.2.2.2.2.2.2.2.2.2.2.2.2.2.2.2.2.2.1
theorem dX9_next_192 : decode cX9_next 192 = .ok (.aload_n 0, 1) := dr_42  pk_decc_228.2.2.2.2.2.2.2.2.2.2.2.2.2.2.2.2.2.2.2.2.2.2.2.2.2.2.2.2.2.2.2
set_option maxRecDepth 20000 in
theorem pk_decc_229 : ((bq cX9_next 193 180 && bq cX9_next (193 + 1) 0 && bq cX9_next (193 + 2) 137 && (0 * 256 + 137 == 137)) = true) ∧ ((bq cX9_next 196 17 && bq cX9_next (196 + 1) 0 && bq cX9_next (196 + 2) 255 && (Reader.signed 16 (0 * 256 + 255) == 255)) = true) ∧ ((bq cX9_next 199 163 && bq cX9_next (199 + 1) 0 && bq cX9_next (199 + 2) 22 && (Reader.signed 16 (0 * 256 + 22) == 22)) = true) ∧ (bq cX9_next 202 27 = true) ∧ ((bq cX9_next 203 16 && bq cX9_next (203 + 1) 48 && (Reader.signed 8 48 == 48)) = true) ∧ ((bq cX9_next 205 160 && bq cX9_next (205 + 1) 0 && bq cX9_next (205 + 2) 20 && (Reader.signed 16 (0 * 256 + 20) == 20)) = true) ∧ (bq cX9_next 208 42 = true) ∧ ((bq cX9_next 209 180 && bq cX9_next (209 + 1) 0 && bq cX9_next (209 + 2) 88 && (0 * 256 + 88 == 88)) = true) ∧ (bq cX9_next 212 42 = true) ∧ ((bq cX9_next 213 180 && bq cX9_next (213 + 1) 0 && bq cX9_next (213 + 2) 134 && (0 * 256 + 134 == 134)) = true) ∧ (bq cX9_next 216 100 = true) ∧ (bq cX9_next 217 4 = true) ∧ ((bq cX9_next 218 164 && bq cX9_next (218 + 1) 0 && bq cX9_next (218 + 2) 7 && (Reader.signed 16 (0 * 256 + 7) == 7)) = true) ∧ (bq cX9_next 221 8 = true) ∧ ((bq cX9_next 222 167 && bq cX9_next (222 + 1) 0 && bq cX9_next (222 + 2) 4 && (Reader.signed 16 (0 * 256 + 4) == 4)) = true) ∧ (bq cX9_next 225 6 = true) ∧ ((bq cX9_next 226 181 && bq cX9_next (226 + 1) 0 && bq cX9_next (226 + 2) 140 && (0 * 256 + 140 == 140)) = true) ∧ ((bq cX9_next 229 167 && bq cX9_next (229 + 1) 0 && bq cX9_next (229 + 2) 51 && (Reader.signed 16 (0 * 256 + 51) == 51)) = true) ∧ (bq cX9_next 232 42 = true) ∧ (bq cX9_next 233 89 = true) ∧ ((bq cX9_next 234 180 && bq cX9_next (234 + 1) 0 && bq cX9_next (234 + 2) 88 && (0 * 256 + 88 == 88)) = true) ∧ (bq cX9_next 237 4 = true) ∧ (bq cX9_next 238 96 = true) ∧ ((bq cX9_next 239 181 && bq cX9_next (239 + 1) 0 && bq cX9_next (239 + 2) 88 && (0 * 256 + 88 == 88)) = true) ∧ (bq cX9_next 242 42 = true) ∧ (bq cX9_next 243 27 = true) ∧ ((bq cX9_next 244 16 && bq cX9_next (244 + 1) 65 && (Reader.signed 8 65 == 65)) = true) ∧ (bq cX9_next 246 100 = true) ∧ ((bq cX9_next 247 181 && bq cX9_next (247 + 1) 0 && bq cX9_next (247 + 2) 137 && (0 * 256 + 137 == 137)) = true) ∧ (bq cX9_next 250 42 = true) ∧ (bq cX9_next 251 27 = true) ∧ ((bq cX9_next 252 16 && bq cX9_next (252 + 1) 65 && (Reader.signed 8 65 == 65)) = true) := by decide +kernel
theorem dX9_next_193 : decode cX9_next 193 = .ok (.getfield 137, 3) := dr_180 0 137  pk_decc_229.1
theorem dX9_next_196 : decode cX9_next 196 = .ok (.sipush 255, 3) := dr_17 0 255  pk_decc_229.2.1
theorem dX9_next_199 : decode cX9_next 199 = .ok (.if_icmp .gt 22, 3) := dr_163 0 22  pk_decc_229.2.2.1
theorem dX9_next_202 : decode cX9_next 202 = .ok (.iload_n 1, 1) := dr_27  pk_decc_229.2.2.2.1
theorem dX9_next_203 : decode cX9_next 203 = .ok (.bipush 48, 2) := dr_16 48  pk_decc_229.2.2.2.2.1
theorem dX9_next_205 : decode cX9_next 205 = .ok (.if_icmp .ne 20, 3) := dr_160 0 20  pk_decc_229.2.2.2.2.2.1
theorem dX9_next_208 : decode cX9_next 208 = .ok (.aload_n 0, 1) := dr_42  pk_decc_229.2.2.2.2.2.2.1
theorem dX9_next_209 : decode cX9_next 209 = .ok (.getfield 88, 3) := dr_180 0 88  pk_decc_229.2.2.2.2.2.2.2.1
theorem dX9_next_212 : decode cX9_next 212 = .ok (.aload_n 0, 1) := dr_42  pk_decc_229.2.2.2.2.2.2.2.2.1
theorem dX9_next_213 : decode cX9_next 213 = .ok (.getfield 134, 3) := dr_180 0 134  pk_decc_229.2.2.2.2.2.2.2.2.2.1
theorem dX9_next_216 : decode cX9_next 216 = .ok (.isub, 1) := dr_100  pk_decc_229.2.2.2.2.2.2.2.2.2.2.1
theorem dX9_next_217 : decode cX9_next 217 = .ok (.iconst 1, 1) := dr_4  pk_decc_229.2.2.2.2.2.2.2.2.2.2.2.1
theorem dX9_next_218 : decode cX9_next 218 = .ok (.if_icmp .le 7, 3) := dr_164 0 7  pk_decc_229.2.2.2.2.2.2.2.2.2.2.2.2.1
theorem dX9_next_221 : decode cX9_next 221 = .ok (.iconst 5, 1) := dr_8  pk_decc_229.2.2.2.2.2.2.2.2.2.2.2.2.2.1
theorem dX9_next_222 : decode cX9_next 222 = .ok (.goto 4, 3) := dr_167 0 4  pk_decc_229.2.2.2.2.2.2.2.2.2.2.2.2.2.2.1
theorem dX9_next_225 : decode cX9_next 225 = .ok (.iconst 3, 1) := dr_6  pk_decc_229.2.2.2.2.2.2.2.2.2.2.2.2.2.2.2.1
theorem dX9_next_226 : decode cX9_next 226 = .ok (.putfield 140, 3) := dr_181 0 140  pk_decc_229.2.2.2.2.2.2.2.2.2.2.2.2.2.2.2.2.1
theorem dX9_next_229 : decode cX9_next 229 = .ok (.goto 51, 3) := dr_167 0 51  pk_decc_229.2.2.2.2.2.2.2.2.2.2.2.2.2.2.2.2.2.1
theorem dX9_next_232 : decode cX9_next 232 = .ok (.aload_n 0, 1) := dr_42  pk_decc_229.2.2.2.2.2.2.2.2.2.2.2.2.2.2.2.2.2.2.1
theorem dX9_next_233 : decode cX9_next 233 = .ok (.dup, 1) := dr_89  pk_decc_229.2.2.2.2.2.2.2.2.2.2.2.2.2.2.2.2.2.2.2.1
theorem dX9_next_234 : decode cX9_next 234 = .ok (.getfield 88, 3) := dr_180 0 88  pk_decc_229.2.2.2.2.2.2.2.2.2.2.2.2.2.2.2.2.2.2.2.2.1
theorem dX9_next_237 : decode cX9_next 237 = .ok (.iconst 1, 1) := dr_4  pk_decc_229.2.2.2.2.2.2.2.2.2.2.2.2.2.2.2.2.2.2.2.2.2.1
theorem dX9_next_238 : decode cX9_next 238 = .ok (.iadd, 1) := dr_96  pk_decc_229.2.2.2.2.2.2.2.2.2.2.2.2.2.2.2.2.2.2.2.2.2.2.1
theorem dX9_next_239 : decode cX9_next 239 = .ok (.putfield 88, 3) := dr_181 0 88  pk_decc_229.2.2.2.2.2.2.2.2.2.2.2.2.2.2.2.2.2.2.2.2.2.2.2.1
theorem dX9_next_242 : decode cX9_next 242 = .ok (.aload_n 0, 1) := dr_42  pk_decc_229.2.2.2.2.2.2.2.2.2.2.2.2.2.2.2.2.2.2.2.2.2.2.2.2.1
theorem dX9_next_243 : decode cX9_next 243 = .ok (.iload_n 1, 1) := dr_27  pk_decc_229.2.2.2.2.2.2.2.2.2.2.2.2.2.2.2.2.2.2.2.2.2.2.2.2.2.1
theorem dX9_next_244 : decode cX9_next 244 = .ok (.bipush 65, 2) := dr_16 65  pk_decc_229.2.2.2.2.2.2.2.2.2.2.2.2.2.2.2.2.2.2.2.2.2.2.2.2.2.2.1
theorem dX9_next_246 : decode cX9_next 246 = .ok (.isub, 1) := dr_100  pk_decc_229.2.2.2.2.2.2.2.2.2.2.2.2.2.2.2.2.2.2.2.2.2.2.2.2.2.2.2.1
theorem dX9_next_247 : decode cX9_next 247 = .ok (.putfield 137, 3) := dr_181 0 137  pk_decc_229.2.2.2.2.2.2.2.2.2.2.2.2.2.2.2.2.2.2.2.2.2.2.2.2.2.2.2.2.1
theorem dX9_next_250 : decode cX9_next 250 = .ok (.aload_n 0, 1) := dr_42  pk_decc_229.2.2.2.2.2.2.2.2.2.2.2.2.2.2.2.2.2.2.2.2.2.2.2.2.2.2.2.2.2.1
theorem dX9_next_251 : decode cX9_next 251 = .ok (.iload_n 1, 1) := dr_27  pk_decc_229.2.2.2.2.2.2.2.2.2.2.2.2.2.2.2.2.2.2.2.2.2.2.2.2.2.2.2.2.2.2.1
theorem dX9_next_252 : decode cX9_next 252 = .ok (.bipush 65, 2) := dr_16 65  pk_decc_229.2.2.2.2.2.2.2.2.2.2.2.2.2.2.2.2.2.2.2.2.2.2.2.2.2.2.2.2.2.2.2
set_option maxRecDepth 20000 in
theorem pk_decc_230 : ((bq cX9_next 254 16 && bq cX9_next (254 + 1) 90 && (Reader.signed 8 90 == 90)) = true) ∧ ((bq cX9_next 256 184 && bq cX9_next (256 + 1) 0 && bq cX9_next (256 + 2) 75 && (0 * 256 + 75 == 75)) = true) ∧ ((bq cX9_next 259 153 && bq cX9_next (259 + 1) 0 && bq cX9_next (259 + 2) 7 && (Reader.signed 16 (0 * 256 + 7) == 7)) = true) ∧ (bq cX9_next 262 5 = true) ∧ ((bq cX9_next 263 167 && bq cX9_next (263 + 1) 0 && bq cX9_next (263 + 2) 14 && (Reader.signed 16 (0 * 256 + 14) == 14)) = true) ∧ (bq cX9_next 266 27 = true) ∧ ((bq cX9_next 267 16 && bq cX9_next (267 + 1) 58 && (Reader.signed 8 58 == 58)) = true) ∧ ((bq cX9_next 269 160 && bq cX9_next (269 + 1) 0 && bq cX9_next (269 + 2) 7 && (Reader.signed 16 (0 * 256 + 7) == 7)) = true) ∧ (bq cX9_next 272 7 = true) ∧ ((bq cX9_next 273 167 && bq cX9_next (273 + 1) 0 && bq cX9_next (273 + 2) 4 && (Reader.signed 16 (0 * 256 + 4) == 4)) = true) ∧ (bq cX9_next 276 8 = true) ∧ ((bq cX9_next 277 181 && bq cX9_next (277 + 1) 0 && bq cX9_next (277 + 2) 140 && (0 * 256 + 140 == 140)) = true) ∧ (bq cX9_next 280 177 = true) := by decide +kernel
theorem dX9_next_254 : decode cX9_next 254 = .ok (.bipush 90, 2) := dr_16 90  pk_decc_230.1
theorem dX9_next_256 : decode cX9_next 256 = .ok (.invokestatic 75, 3) := dr_184 0 75  pk_decc_230.2.1
theorem dX9_next_259 : decode cX9_next 259 = .ok (.ifCond .eq 7, 3) := dr_153 0 7  pk_decc_230.2.2.1
theorem dX9_next_262 : decode cX9_next 262 = .ok (.iconst 2, 1) := dr_5  pk_decc_230.2.2.2.1
theorem dX9_next_263 : decode cX9_next 263 = .ok (.goto 14, 3) := dr_167 0 14  pk_decc_230.2.2.2.2.1
theorem dX9_next_266 : decode cX9_next 266 = .ok (.iload_n 1, 1) := dr_27  pk_decc_230.2.2.2.2.2.1
theorem dX9_next_267 : decode cX9_next 267 = .ok (.bipush 58, 2) := dr_16 58  pk_decc_230.2.2.2.2.2.2.1
theorem dX9_next_269 : decode cX9_next 269 = .ok (.if_icmp .ne 7, 3) := dr_160 0 7  pk_decc_230.2.2.2.2.2.2.2.1
theorem dX9_next_272 : decode cX9_next 272 = .ok (.iconst 4, 1) := dr_7  pk_decc_230.2.2.2.2.2.2.2.2.1
theorem dX9_next_273 : decode cX9_next 273 = .ok (.goto 4, 3) := dr_167 0 4  pk_decc_230.2.2.2.2.2.2.2.2.2.1
theorem dX9_next_276 : decode cX9_next 276 = .ok (.iconst 5, 1) := dr_8  pk_decc_230.2.2.2.2.2.2.2.2.2.2.1
theorem dX9_next_277 : decode cX9_next 277 = .ok (.putfield 140, 3) := dr_181 0 140  pk_decc_230.2.2.2.2.2.2.2.2.2.2.2.1
theorem dX9_next_280 : decode cX9_next 280 = .ok (.return_, 1) := dr_177  pk_decc_230.2.2.2.2.2.2.2.2.2.2.2.2
set_option maxRecDepth 20000 in
theorem pk_decc_231 : (bq cX9_due 0 42 = true) ∧ ((bq cX9_due 1 180 && bq cX9_due (1 + 1) 0 && bq cX9_due (1 + 2) 137 && (0 * 256 + 137 == 137)) = true) ∧ (bq cX9_due 4 61 = true) ∧ (bq cX9_due 5 42 = true) ∧ ((bq cX9_due 6 180 && bq cX9_due (6 + 1) 0 && bq cX9_due (6 + 2) 97 && (0 * 256 + 97 == 97)) = true) ∧ ((bq cX9_due 9 16 && bq cX9_due (9 + 1) 247 && (Reader.signed 8 247 == (-9))) = true) ∧ ((bq cX9_due 11 160 && bq cX9_due (11 + 1) 0 && bq cX9_due (11 + 2) 22 && (Reader.signed 16 (0 * 256 + 22) == 22)) = true) ∧ (bq cX9_due 14 27 = true) ∧ ((bq cX9_due 15 153 && bq cX9_due (15 + 1) 0 && bq cX9_due (15 + 2) 10 && (Reader.signed 16 (0 * 256 + 10) == 10)) = true) ∧ (bq cX9_due 18 42 = true) ∧ ((bq cX9_due 19 182 && bq cX9_due (19 + 1) 0 && bq cX9_due (19 + 2) 147 && (0 * 256 + 147 == 147)) = true) ∧ ((bq cX9_due 22 167 && bq cX9_due (22 + 1) 0 && bq cX9_due (22 + 2) 11 && (Reader.signed 16 (0 * 256 + 11) == 11)) = true) ∧ (bq cX9_due 25 42 = true) ∧ (bq cX9_due 26 42 = true) ∧ ((bq cX9_due 27 180 && bq cX9_due (27 + 1) 0 && bq cX9_due (27 + 2) 134 && (0 * 256 + 134 == 134)) = true) ∧ ((bq cX9_due 30 181 && bq cX9_due (30 + 1) 0 && bq cX9_due (30 + 2) 97 && (0 * 256 + 97 == 97)) = true) ∧ (bq cX9_due 33 28 = true) ∧ (bq cX9_due 34 172 = true) := by decide +kernel
theorem dX9_due_0 : decode cX9_due 0 = .ok (.aload_n 0, 1) := dr_42  pk_decc_231.1
theorem dX9_due_1 : decode cX9_due 1 = .ok (.getfield 137, 3) := dr_180 0 137  pk_decc_231.2.1
theorem dX9_due_4 : decode cX9_due 4 = .ok (.istore_n 2, 1) := dr_61  pk_decc_231.2.2.1
theorem dX9_due_5 : decode cX9_due 5 = .ok (.aload_n 0, 1) := dr_42  pk_decc_231.2.2.2.1
theorem dX9_due_6 : decode cX9_due 6 = .ok (.getfield 97, 3) := dr_180 0 97  pk_decc_231.2.2.2.2.1
theorem dX9_due_9 : decode cX9_due 9 = .ok (.bipush (-9), 2) := dr_16 247  pk_decc_231.2.2.2.2.2.1
theorem dX9_due_11 : decode cX9_due 11 = .ok (.if_icmp .ne 22, 3) := dr_160 0 22  pk_decc_231.2.2.2.2.2.2.1
theorem dX9_due_14 : decode cX9_due 14 = .ok (.iload_n 1, 1) := dr_27  pk_decc_231.2.2.2.2.2.2.2.1
theorem dX9_due_15 : decode cX9_due 15 = .ok (.ifCond .eq 10, 3) := dr_153 0 10  pk_decc_231.2.2.2.2.2.2.2.2.1
theorem dX9_due_18 : decode cX9_due 18 = .ok (.aload_n 0, 1) := dr_42  pk_decc_231.2.2.2.2.2.2.2.2.2.1
theorem dX9_due_19 : decode cX9_due 19 = .ok (.invokevirtual 147, 3) := dr_182 0 147  pk_decc_231.2.2.2.2.2.2.2.2.2.2.1
theorem dX9_due_22 : decode cX9_due 22 = .ok (.goto 11, 3) := dr_167 0 11  pk_decc_231.2.2.2.2.2.2.2.2.2.2.2.1
theorem dX9_due_25 : decode cX9_due 25 = .ok (.aload_n 0, 1) := dr_42  pk_decc_231.2.2.2.2.2.2.2.2.2.2.2.2.1
theorem dX9_due_26 : decode cX9_due 26 = .ok (.aload_n 0, 1) := dr_42  pk_decc_231.2.2.2.2.2.2.2.2.2.2.2.2.2.1
theorem dX9_due_27 : decode cX9_due 27 = .ok (.getfield 134, 3) := dr_180 0 134  pk_decc_231.2.2.2.2.2.2.2.2.2.2.2.2.2.2.1
theorem dX9_due_30 : decode cX9_due 30 = .ok (.putfield 97, 3) := dr_181 0 97  pk_decc_231.2.2.2.2.2.2.2.2.2.2.2.2.2.2.2.1
theorem dX9_due_33 : decode cX9_due 33 = .ok (.iload_n 2, 1) := dr_28  pk_decc_231.2.2.2.2.2.2.2.2.2.2.2.2.2.2.2.2.1
theorem dX9_due_34 : decode cX9_due 34 = .ok (.ireturn, 1) := dr_172  pk_decc_231.2.2.2.2.2.2.2.2.2.2.2.2.2.2.2.2.2
set_option maxRecDepth 20000 in
theorem pk_decc_232 : (bq cX9_readNames 0 42 = true) ∧ (bq cX9_readNames 1 27 = true) ∧ ((bq cX9_readNames 2 182 && bq cX9_readNames (2 + 1) 0 && bq cX9_readNames (2 + 2) 104 && (0 * 256 + 104 == 104)) = true) ∧ (bq cX9_readNames 5 42 = true) ∧ ((bq cX9_readNames 6 180 && bq cX9_readNames (6 + 1) 0 && bq cX9_readNames (6 + 2) 26 && (0 * 256 + 26 == 26)) = true) ∧ (bq cX9_readNames 9 28 = true) ∧ (bq cX9_readNames 10 3 = true) ∧ (bq cX9_readNames 11 79 = true) ∧ (bq cX9_readNames 12 3 = true) ∧ (bq cX9_readNames 13 62 = true) ∧ (bq cX9_readNames 14 29 = true) ∧ ((bq cX9_readNames 15 16 && bq cX9_readNames (15 + 1) 26 && (Reader.signed 8 26 == 26)) = true) ∧ ((bq cX9_readNames 17 162 && bq cX9_readNames (17 + 1) 0 && bq cX9_readNames (17 + 2) 17 && (Reader.signed 16 (0 * 256 + 17) == 17)) = true) ∧ (bq cX9_readNames 20 42 = true) ∧ ((bq cX9_readNames 21 180 && bq cX9_readNames (21 + 1) 0 && bq cX9_readNames (21 + 2) 41 && (0 * 256 + 41 == 41)) = true) ∧ (bq cX9_readNames 24 29 = true) ∧ ((bq cX9_readNames 25 16 && bq cX9_readNames (25 + 1) 247 && (Reader.signed 8 247 == (-9))) = true) ∧ (bq cX9_readNames 27 79 = true) := by decide +kernel
theorem dX9_readNames_0 : decode cX9_readNames 0 = .ok (.aload_n 0, 1) := dr_42  pk_decc_232.1
theorem dX9_readNames_1 : decode cX9_readNames 1 = .ok (.iload_n 1, 1) := dr_27  pk_decc_232.2.1
theorem dX9_readNames_2 : decode cX9_readNames 2 = .ok (.invokevirtual 104, 3) := dr_182 0 104  pk_decc_232.2.2.1
theorem dX9_readNames_5 : decode cX9_readNames 5 = .ok (.aload_n 0, 1) := dr_42  pk_decc_232.2.2.2.1
theorem dX9_readNames_6 : decode cX9_readNames 6 = .ok (.getfield 26, 3) := dr_180 0 26  pk_decc_232.2.2.2.2.1
theorem dX9_readNames_9 : decode cX9_readNames 9 = .ok (.iload_n 2, 1) := dr_28  pk_decc_232.2.2.2.2.2.1
theorem dX9_readNames_10 : decode cX9_readNames 10 = .ok (.iconst 0, 1) := dr_3  pk_decc_232.2.2.2.2.2.2.1
theorem dX9_readNames_11 : decode cX9_readNames 11 = .ok (.iastore, 1) := dr_79  pk_decc_232.2.2.2.2.2.2.2.1
theorem dX9_readNames_12 : decode cX9_readNames 12 = .ok (.iconst 0, 1) := dr_3  pk_decc_232.2.2.2.2.2.2.2.2.1
theorem dX9_readNames_13 : decode cX9_readNames 13 = .ok (.istore_n 3, 1) := dr_62  pk_decc_232.2.2.2.2.2.2.2.2.2.1
theorem dX9_readNames_14 : decode cX9_readNames 14 = .ok (.iload_n 3, 1) := dr_29  pk_decc_232.2.2.2.2.2.2.2.2.2.2.1
theorem dX9_readNames_15 : decode cX9_readNames 15 = .ok (.bipush 26, 2) := dr_16 26  pk_decc_232.2.2.2.2.2.2.2.2.2.2.2.1
theorem dX9_readNames_17 : decode cX9_readNames 17 = .ok (.if_icmp .ge 17, 3) := dr_162 0 17  pk_decc_232.2.2.2.2.2.2.2.2.2.2.2.2.1
theorem dX9_readNames_20 : decode cX9_readNames 20 = .ok (.aload_n 0, 1) := dr_42  pk_decc_232.2.2.2.2.2.2.2.2.2.2.2.2.2.1
theorem dX9_readNames_21 : decode cX9_readNames 21 = .ok (.getfield 41, 3) := dr_180 0 41  pk_decc_232.2.2.2.2.2.2.2.2.2.2.2.2.2.2.1
theorem dX9_readNames_24 : decode cX9_readNames 24 = .ok (.iload_n 3, 1) := dr_29  pk_decc_232.2.2.2.2.2.2.2.2.2.2.2.2.2.2.2.1
theorem dX9_readNames_25 : decode cX9_readNames 25 = .ok (.bipush (-9), 2) := dr_16 247  pk_decc_232.2.2.2.2.2.2.2.2.2.2.2.2.2.2.2.2.1
theorem dX9_readNames_27 : decode cX9_readNames 27 = .ok (.iastore, 1) := dr_79  pk_decc_232.2.2.2.2.2.2.2.2.2.2.2.2.2.2.2.2.2
theorem dX9_readNames_28 : decode cX9_readNames 28 = .ok (.iinc 3 1, 3) := by decide +kernel
set_option maxRecDepth 20000 in
theorem pk_decc_233 : ((bq cX9_readNames 31 167 && bq cX9_readNames (31 + 1) 255 && bq cX9_readNames (31 + 2) 239 && (Reader.signed 16 (255 * 256 + 239) == (-17))) = true) ∧ (bq cX9_readNames 34 42 = true) ∧ ((bq cX9_readNames 35 182 && bq cX9_readNames (35 + 1) 0 && bq cX9_readNames (35 + 2) 147 && (0 * 256 + 147 == 147)) = true) ∧ (bq cX9_readNames 38 42 = true) ∧ ((bq cX9_readNames 39 180 && bq cX9_readNames (39 + 1) 0 && bq cX9_readNames (39 + 2) 97 && (0 * 256 + 97 == 97)) = true) ∧ ((bq cX9_readNames 42 16 && bq cX9_readNames (42 + 1) 247 && (Reader.signed 8 247 == (-9))) = true) ∧ ((bq cX9_readNames 44 160 && bq cX9_readNames (44 + 1) 0 && bq cX9_readNames (44 + 2) 243 && (Reader.signed 16 (0 * 256 + 243) == 243)) = true) ∧ (bq cX9_readNames 47 42 = true) ∧ ((bq cX9_readNames 48 180 && bq cX9_readNames (48 + 1) 0 && bq cX9_readNames (48 + 2) 140 && (0 * 256 + 140 == 140)) = true) ∧ ((bq cX9_readNames 51 153 && bq cX9_readNames (51 + 1) 0 && bq cX9_readNames (51 + 2) 236 && (Reader.signed 16 (0 * 256 + 236) == 236)) = true) ∧ (bq cX9_readNames 54 42 = true) ∧ ((bq cX9_readNames 55 180 && bq cX9_readNames (55 + 1) 0 && bq cX9_readNames (55 + 2) 140 && (0 * 256 + 140 == 140)) = true) ∧ (bq cX9_readNames 58 5 = true) ∧ ((bq cX9_readNames 59 160 && bq cX9_readNames (59 + 1) 0 && bq cX9_readNames (59 + 2) 80 && (Reader.signed 16 (0 * 256 + 80) == 80)) = true) ∧ (bq cX9_readNames 62 42 = true) ∧ (bq cX9_readNames 63 42 = true) ∧ ((bq cX9_readNames 64 180 && bq cX9_readNames (64 + 1) 0 && bq cX9_readNames (64 + 2) 41 && (0 * 256 + 41 == 41)) = true) ∧ (bq cX9_readNames 67 42 = true) ∧ ((bq cX9_readNames 68 180 && bq cX9_readNames (68 + 1) 0 && bq cX9_readNames (68 + 2) 137 && (0 * 256 + 137 == 137)) = true) ∧ (bq cX9_readNames 71 46 = true) ∧ ((bq cX9_readNames 72 16 && bq cX9_readNames (72 + 1) 247 && (Reader.signed 8 247 == (-9))) = true) ∧ ((bq cX9_readNames 74 160 && bq cX9_readNames (74 + 1) 0 && bq cX9_readNames (74 + 2) 7 && (Reader.signed 16 (0 * 256 + 7) == 7)) = true) ∧ (bq cX9_readNames 77 4 = true) ∧ ((bq cX9_readNames 78 167 && bq cX9_readNames (78 + 1) 0 && bq cX9_readNames (78 + 2) 4 && (Reader.signed 16 (0 * 256 + 4) == 4)) = true) ∧ (bq cX9_readNames 81 3 = true) ∧ ((bq cX9_readNames 82 182 && bq cX9_readNames (82 + 1) 0 && bq cX9_readNames (82 + 2) 150 && (0 * 256 + 150 == 150)) = true) ∧ (bq cX9_readNames 85 62 = true) ∧ (bq cX9_readNames 86 42 = true) ∧ (bq cX9_readNames 87 42 = true) ∧ ((bq cX9_readNames 88 180 && bq cX9_readNames (88 + 1) 0 && bq cX9_readNames (88 + 2) 140 && (0 * 256 + 140 == 140)) = true) ∧ (bq cX9_readNames 91 7 = true) ∧ ((bq cX9_readNames 92 160 && bq cX9_readNames (92 + 1) 0 && bq cX9_readNames (92 + 2) 18 && (Reader.signed 16 (0 * 256 + 18) == 18)) = true) := by decide +kernel
theorem dX9_readNames_31 : decode cX9_readNames 31 = .ok (.goto (-17), 3) := dr_167 255 239  pk_decc_233.1
theorem dX9_readNames_34 : decode cX9_readNames 34 = .ok (.aload_n 0, 1) := dr_42  pk_decc_233.2.1
theorem dX9_readNames_35 : decode cX9_readNames 35 = .ok (.invokevirtual 147, 3) := dr_182 0 147  pk_decc_233.2.2.1
theorem dX9_readNames_38 : decode cX9_readNames 38 = .ok (.aload_n 0, 1) := dr_42  pk_decc_233.2.2.2.1
theorem dX9_readNames_39 : decode cX9_readNames 39 = .ok (.getfield 97, 3) := dr_180 0 97  pk_decc_233.2.2.2.2.1
theorem dX9_readNames_42 : decode cX9_readNames 42 = .ok (.bipush (-9), 2) := dr_16 247  pk_decc_233.2.2.2.2.2.1
theorem dX9_readNames_44 : decode cX9_readNames 44 = .ok (.if_icmp .ne 243, 3) := dr_160 0 243  pk_decc_233.2.2.2.2.2.2.1
theorem dX9_readNames_47 : decode cX9_readNames 47 = .ok (.aload_n 0, 1) := dr_42  pk_decc_233.2.2.2.2.2.2.2.1
theorem dX9_readNames_48 : decode cX9_readNames 48 = .ok (.getfield 140, 3) := dr_180 0 140  pk_decc_233.2.2.2.2.2.2.2.2.1
theorem dX9_readNames_51 : decode cX9_readNames 51 = .ok (.ifCond .eq 236, 3) := dr_153 0 236  pk_decc_233.2.2.2.2.2.2.2.2.2.1
theorem dX9_readNames_54 : decode cX9_readNames 54 = .ok (.aload_n 0, 1) := dr_42  pk_decc_233.2.2.2.2.2.2.2.2.2.2.1
theorem dX9_readNames_55 : decode cX9_readNames 55 = .ok (.getfield 140, 3) := dr_180 0 140  pk_decc_233.2.2.2.2.2.2.2.2.2.2.2.1
theorem dX9_readNames_58 : decode cX9_readNames 58 = .ok (.iconst 2, 1) := dr_5  pk_decc_233.2.2.2.2.2.2.2.2.2.2.2.2.1
theorem dX9_readNames_59 : decode cX9_readNames 59 = .ok (.if_icmp .ne 80, 3) := dr_160 0 80  pk_decc_233.2.2.2.2.2.2.2.2.2.2.2.2.2.1
theorem dX9_readNames_62 : decode cX9_readNames 62 = .ok (.aload_n 0, 1) := dr_42  pk_decc_233.2.2.2.2.2.2.2.2.2.2.2.2.2.2.1
theorem dX9_readNames_63 : decode cX9_readNames 63 = .ok (.aload_n 0, 1) := dr_42  pk_decc_233.2.2.2.2.2.2.2.2.2.2.2.2.2.2.2.1
theorem dX9_readNames_64 : decode cX9_readNames 64 = .ok (.getfield 41, 3) := dr_180 0 41  pk_decc_233.2.2.2.2.2.2.2.2.2.2.2.2.2.2.2.2.1
theorem dX9_readNames_67 : decode cX9_readNames 67 = .ok (.aload_n 0, 1) := dr_42  pk_decc_233.2.2.2.2.2.2.2.2.2.2.2.2.2.2.2.2.2.1
theorem dX9_readNames_68 : decode cX9_readNames 68 = .ok (.getfield 137, 3) := dr_180 0 137  pk_decc_233.2.2.2.2.2.2.2.2.2.2.2.2.2.2.2.2.2.2.1
theorem dX9_readNames_71 : decode cX9_readNames 71 = .ok (.iaload, 1) := dr_46  pk_decc_233.2.2.2.2.2.2.2.2.2.2.2.2.2.2.2.2.2.2.2.1
theorem dX9_readNames_72 : decode cX9_readNames 72 = .ok (.bipush (-9), 2) := dr_16 247  pk_decc_233.2.2.2.2.2.2.2.2.2.2.2.2.2.2.2.2.2.2.2.2.1
theorem dX9_readNames_74 : decode cX9_readNames 74 = .ok (.if_icmp .ne 7, 3) := dr_160 0 7  pk_decc_233.2.2.2.2.2.2.2.2.2.2.2.2.2.2.2.2.2.2.2.2.2.1
theorem dX9_readNames_77 : decode cX9_readNames 77 = .ok (.iconst 1, 1) := dr_4  pk_decc_233.2.2.2.2.2.2.2.2.2.2.2.2.2.2.2.2.2.2.2.2.2.2.1
theorem dX9_readNames_78 : decode cX9_readNames 78 = .ok (.goto 4, 3) := dr_167 0 4  pk_decc_233.2.2.2.2.2.2.2.2.2.2.2.2.2.2.2.2.2.2.2.2.2.2.2.1
theorem dX9_readNames_81 : decode cX9_readNames 81 = .ok (.iconst 0, 1) := dr_3  pk_decc_233.2.2.2.2.2.2.2.2.2.2.2.2.2.2.2.2.2.2.2.2.2.2.2.2.1
theorem dX9_readNames_82 : decode cX9_readNames 82 = .ok (.invokevirtual 150, 3) := dr_182 0 150  pk_decc_233.2.2.2.2.2.2.2.2.2.2.2.2.2.2.2.2.2.2.2.2.2.2.2.2.2.1
theorem dX9_readNames_85 : decode cX9_readNames 85 = .ok (.istore_n 3, 1) := dr_62  pk_decc_233.2.2.2.2.2.2.2.2.2.2.2.2.2.2.2.2.2.2.2.2.2.2.2.2.2.2.1
theorem dX9_readNames_86 : decode cX9_readNames 86 = .ok (.aload_n 0, 1) := dr_42  pk_decc_233.2.2.2.2.2.2.2.2.2.2.2.2.2.2.2.2.2.2.2.2.2.2.2.2.2.2.2.1
theorem dX9_readNames_87 : decode cX9_readNames 87 = .ok (.aload_n 0, 1) := dr_42  pk_decc_233.2.2.2.2.2.2.2.2.2.2.2.2.2.2.2.2.2.2.2.2.2.2.2.2.2.2.2.2.1
theorem dX9_readNames_88 : decode cX9_readNames 88 = .ok (.getfield 140, 3) := dr_180 0 140  pk_decc_233.2.2.2.2.2.2.2.2.2.2.2.2.2.2.2.2.2.2.2.2.2.2.2.2.2.2.2.2.2.1
theorem dX9_readNames_91 : decode cX9_readNames 91 = .ok (.iconst 4, 1) := dr_7  pk_decc_233.2.2.2.2.2.2.2.2.2.2.2.2.2.2.2.2.2.2.2.2.2.2.2.2.2.2.2.2.2.2.1
theorem dX9_readNames_92 : decode cX9_readNames 92 = .ok (.if_icmp .ne 18, 3) := dr_160 0 18  pk_decc_233.2.2.2.2.2.2.2.2.2.2.2.2.2.2.2.2.2.2.2.2.2.2.2.2.2.2.2.2.2.2.2
set_option maxRecDepth 20000 in
theorem pk_decc_234 : (bq cX9_readNames 95 42 = true) ∧ ((bq cX9_readNames 96 180 && bq cX9_readNames (96 + 1) 0 && bq cX9_readNames (96 + 2) 134 && (0 * 256 + 134 == 134)) = true) ∧ (bq cX9_readNames 99 42 = true) ∧ ((bq cX9_readNames 100 180 && bq cX9_readNames (100 + 1) 0 && bq cX9_readNames (100 + 2) 131 && (0 * 256 + 131 == 131)) = true) ∧ ((bq cX9_readNames 103 160 && bq cX9_readNames (103 + 1) 0 && bq cX9_readNames (103 + 2) 7 && (Reader.signed 16 (0 * 256 + 7) == 7)) = true) ∧ (bq cX9_readNames 106 4 = true) ∧ ((bq cX9_readNames 107 167 && bq cX9_readNames (107 + 1) 0 && bq cX9_readNames (107 + 2) 4 && (Reader.signed 16 (0 * 256 + 4) == 4)) = true) ∧ (bq cX9_readNames 110 3 = true) ∧ ((bq cX9_readNames 111 182 && bq cX9_readNames (111 + 1) 0 && bq cX9_readNames (111 + 2) 150 && (0 * 256 + 150 == 150)) = true) ∧ (bq cX9_readNames 114 87 = true) ∧ (bq cX9_readNames 115 42 = true) ∧ ((bq cX9_readNames 116 180 && bq cX9_readNames (116 + 1) 0 && bq cX9_readNames (116 + 2) 97 && (0 * 256 + 97 == 97)) = true) ∧ ((bq cX9_readNames 119 16 && bq cX9_readNames (119 + 1) 247 && (Reader.signed 8 247 == (-9))) = true) ∧ ((bq cX9_readNames 121 160 && bq cX9_readNames (121 + 1) 0 && bq cX9_readNames (121 + 2) 15 && (Reader.signed 16 (0 * 256 + 15) == 15)) = true) ∧ (bq cX9_readNames 124 42 = true) ∧ ((bq cX9_readNames 125 180 && bq cX9_readNames (125 + 1) 0 && bq cX9_readNames (125 + 2) 41 && (0 * 256 + 41 == 41)) = true) ∧ (bq cX9_readNames 128 29 = true) ∧ (bq cX9_readNames 129 42 = true) ∧ ((bq cX9_readNames 130 180 && bq cX9_readNames (130 + 1) 0 && bq cX9_readNames (130 + 2) 26 && (0 * 256 + 26 == 26)) = true) ∧ (bq cX9_readNames 133 28 = true) ∧ (bq cX9_readNames 134 46 = true) := by decide +kernel
theorem dX9_readNames_95 : decode cX9_readNames 95 = .ok (.aload_n 0, 1) := dr_42  pk_decc_234.1
theorem dX9_readNames_96 : decode cX9_readNames 96 = .ok (.getfield 134, 3) := dr_180 0 134  pk_decc_234.2.1
theorem dX9_readNames_99 : decode cX9_readNames 99 = .ok (.aload_n 0, 1) := dr_42  pk_decc_234.2.2.1
theorem dX9_readNames_100 : decode cX9_readNames 100 = .ok (.getfield 131, 3) := dr_180 0 131  pk_decc_234.2.2.2.1
theorem dX9_readNames_103 : decode cX9_readNames 103 = .ok (.if_icmp .ne 7, 3) := dr_160 0 7  pk_decc_234.2.2.2.2.1
theorem dX9_readNames_106 : decode cX9_readNames 106 = .ok (.iconst 1, 1) := dr_4  pk_decc_234.2.2.2.2.2.1
theorem dX9_readNames_107 : decode cX9_readNames 107 = .ok (.goto 4, 3) := dr_167 0 4  pk_decc_234.2.2.2.2.2.2.1
theorem dX9_readNames_110 : decode cX9_readNames 110 = .ok (.iconst 0, 1) := dr_3  pk_decc_234.2.2.2.2.2.2.2.1
theorem dX9_readNames_111 : decode cX9_readNames 111 = .ok (.invokevirtual 150, 3) := dr_182 0 150  pk_decc_234.2.2.2.2.2.2.2.2.1
theorem dX9_readNames_114 : decode cX9_readNames 114 = .ok (.pop, 1) := dr_87  pk_decc_234.2.2.2.2.2.2.2.2.2.1
theorem dX9_readNames_115 : decode cX9_readNames 115 = .ok (.aload_n 0, 1) := dr_42  pk_decc_234.2.2.2.2.2.2.2.2.2.2.1
theorem dX9_readNames_116 : decode cX9_readNames 116 = .ok (.getfield 97, 3) := dr_180 0 97  pk_decc_234.2.2.2.2.2.2.2.2.2.2.2.1
theorem dX9_readNames_119 : decode cX9_readNames 119 = .ok (.bipush (-9), 2) := dr_16 247  pk_decc_234.2.2.2.2.2.2.2.2.2.2.2.2.1
theorem dX9_readNames_121 : decode cX9_readNames 121 = .ok (.if_icmp .ne 15, 3) := dr_160 0 15  pk_decc_234.2.2.2.2.2.2.2.2.2.2.2.2.2.1
theorem dX9_readNames_124 : decode cX9_readNames 124 = .ok (.aload_n 0, 1) := dr_42  pk_decc_234.2.2.2.2.2.2.2.2.2.2.2.2.2.2.1
theorem dX9_readNames_125 : decode cX9_readNames 125 = .ok (.getfield 41, 3) := dr_180 0 41  pk_decc_234.2.2.2.2.2.2.2.2.2.2.2.2.2.2.2.1
theorem dX9_readNames_128 : decode cX9_readNames 128 = .ok (.iload_n 3, 1) := dr_29  pk_decc_234.2.2.2.2.2.2.2.2.2.2.2.2.2.2.2.2.1
theorem dX9_readNames_129 : decode cX9_readNames 129 = .ok (.aload_n 0, 1) := dr_42  pk_decc_234.2.2.2.2.2.2.2.2.2.2.2.2.2.2.2.2.2.1
theorem dX9_readNames_130 : decode cX9_readNames 130 = .ok (.getfield 26, 3) := dr_180 0 26  pk_decc_234.2.2.2.2.2.2.2.2.2.2.2.2.2.2.2.2.2.2.1
theorem dX9_readNames_133 : decode cX9_readNames 133 = .ok (.iload_n 2, 1) := dr_28  pk_decc_234.2.2.2.2.2.2.2.2.2.2.2.2.2.2.2.2.2.2.2.1
theorem dX9_readNames_134 : decode cX9_readNames 134 = .ok (.iaload, 1) := dr_46  pk_decc_234.2.2.2.2.2.2.2.2.2.2.2.2.2.2.2.2.2.2.2.2
