set_option maxRecDepth 20000 in
theorem pk_dece_280 : ((bq cX9_again 30 154 && bq cX9_again (30 + 1) 0 && bq cX9_again (30 + 2) 13 && (Reader.signed 16 (0 * 256 + 13) == 13)) = true) ∧ (bq cX9_again 33 42 = true) ∧ (bq cX9_again 34 27 = true) ∧ ((bq cX9_again 35 16 && bq cX9_again (35 + 1) 12 && (Reader.signed 8 12 == 12)) = true) ∧ ((bq cX9_again 37 182 && bq cX9_again (37 + 1) 0 && bq cX9_again (37 + 2) 214 && (0 * 256 + 214 == 214)) = true) ∧ ((bq cX9_again 40 167 && bq cX9_again (40 + 1) 0 && bq cX9_again (40 + 2) 17 && (Reader.signed 16 (0 * 256 + 17) == 17)) = true) ∧ (bq cX9_again 43 28 = true) ∧ (bq cX9_again 44 7 = true) ∧ ((bq cX9_again 45 160 && bq cX9_again (45 + 1) 0 && bq cX9_again (45 + 2) 8 && (Reader.signed 16 (0 * 256 + 8) == 8)) = true) ∧ ((bq cX9_again 48 16 && bq cX9_again (48 + 1) 236 && (Reader.signed 8 236 == (-20))) = true) ∧ ((bq cX9_again 50 167 && bq cX9_again (50 + 1) 0 && bq cX9_again (50 + 2) 7 && (Reader.signed 16 (0 * 256 + 7) == 7)) = true) ∧ ((bq cX9_again 53 16 && bq cX9_again (53 + 1) 246 && (Reader.signed 8 246 == (-10))) = true) ∧ (bq cX9_again 55 28 = true) ∧ (bq cX9_again 56 100 = true) ∧ (bq cX9_again 57 172 = true) ∧ (bq cX9_again 58 42 = true) ∧ ((bq cX9_again 59 180 && bq cX9_again (59 + 1) 0 && bq cX9_again (59 + 2) 29 && (0 * 256 + 29 == 29)) = true) ∧ (bq cX9_again 62 27 = true) ∧ (bq cX9_again 63 46 = true) ∧ ((bq cX9_again 64 154 && bq cX9_again (64 + 1) 0 && bq cX9_again (64 + 2) 18 && (Reader.signed 16 (0 * 256 + 18) == 18)) = true) ∧ (bq cX9_again 67 42 = true) ∧ (bq cX9_again 68 42 = true) ∧ ((bq cX9_again 69 180 && bq cX9_again (69 + 1) 0 && bq cX9_again (69 + 2) 32 && (0 * 256 + 32 == 32)) = true) ∧ (bq cX9_again 72 27 = true) ∧ (bq cX9_again 73 46 = true) ∧ ((bq cX9_again 74 16 && bq cX9_again (74 + 1) 12 && (Reader.signed 8 12 == 12)) = true) ∧ ((bq cX9_again 76 182 && bq cX9_again (76 + 1) 0 && bq cX9_again (76 + 2) 161 && (0 * 256 + 161 == 161)) = true) ∧ ((bq cX9_again 79 167 && bq cX9_again (79 + 1) 0 && bq cX9_again (79 + 2) 15 && (Reader.signed 16 (0 * 256 + 15) == 15)) = true) ∧ (bq cX9_again 82 42 = true) ∧ (bq cX9_again 83 42 = true) ∧ ((bq cX9_again 84 180 && bq cX9_again (84 + 1) 0 && bq cX9_again (84 + 2) 32 && (0 * 256 + 32 == 32)) = true) ∧ (bq cX9_again 87 27 = true) := by decide +kernel
theorem dX9_again_30 : decode cX9_again 30 = .ok (.ifCond .ne 13, 3) := dr_154 0 13  pk_dece_280.1
theorem dX9_again_33 : decode cX9_again 33 = .ok (.aload_n 0, 1) := dr_42  pk_dece_280.2.1
theorem dX9_again_34 : decode cX9_again 34 = .ok (.iload_n 1, 1) := dr_27  pk_dece_280.2.2.1
theorem dX9_again_35 : decode cX9_again 35 = .ok (.bipush 12, 2) := dr_16 12  pk_dece_280.2.2.2.1
theorem dX9_again_37 : decode cX9_again 37 = .ok (.invokevirtual 214, 3) := dr_182 0 214  pk_dece_280.2.2.2.2.1
theorem dX9_again_40 : decode cX9_again 40 = .ok (.goto 17, 3) := dr_167 0 17  pk_dece_280.2.2.2.2.2.1
theorem dX9_again_43 : decode cX9_again 43 = .ok (.iload_n 2, 1) := dr_28  pk_dece_280.2.2.2.2.2.2.1
theorem dX9_again_44 : decode cX9_again 44 = .ok (.iconst 4, 1) := dr_7  pk_dece_280.2.2.2.2.2.2.2.1
theorem dX9_again_45 : decode cX9_again 45 = .ok (.if_icmp .ne 8, 3) := dr_160 0 8  pk_dece_280.2.2.2.2.2.2.2.2.1
theorem dX9_again_48 : decode cX9_again 48 = .ok (.bipush (-20), 2) := dr_16 236  pk_dece_280.2.2.2.2.2.2.2.2.2.1
theorem dX9_again_50 : decode cX9_again 50 = .ok (.goto 7, 3) := dr_167 0 7  pk_dece_280.2.2.2.2.2.2.2.2.2.2.1
theorem dX9_again_53 : decode cX9_again 53 = .ok (.bipush (-10), 2) := dr_16 246  pk_dece_280.2.2.2.2.2.2.2.2.2.2.2.1
theorem dX9_again_55 : decode cX9_again 55 = .ok (.iload_n 2, 1) := dr_28  pk_dece_280.2.2.2.2.2.2.2.2.2.2.2.2.1
theorem dX9_again_56 : decode cX9_again 56 = .ok (.isub, 1) := dr_100  pk_dece_280.2.2.2.2.2.2.2.2.2.2.2.2.2.1
theorem dX9_again_57 : decode cX9_again 57 = .ok (.ireturn, 1) := dr_172  pk_dece_280.2.2.2.2.2.2.2.2.2.2.2.2.2.2.1
theorem dX9_again_58 : decode cX9_again 58 = .ok (.aload_n 0, 1) := dr_42  pk_dece_280.2.2.2.2.2.2.2.2.2.2.2.2.2.2.2.1
theorem dX9_again_59 : decode cX9_again 59 = .ok (.getfield 29, 3) := dr_180 0 29  pk_dece_280.2.2.2.2.2.2.2.2.2.2.2.2.2.2.2.2.1
theorem dX9_again_62 : decode cX9_again 62 = .ok (.iload_n 1, 1) := dr_27  pk_dece_280.2.2.2.2.2.2.2.2.2.2.2.2.2.2.2.2.2.1
theorem dX9_again_63 : decode cX9_again 63 = .ok (.iaload, 1) := dr_46  pk_dece_280.2.2.2.2.2.2.2.2.2.2.2.2.2.2.2.2.2.2.1
theorem dX9_again_64 : decode cX9_again 64 = .ok (.ifCond .ne 18, 3) := dr_154 0 18  pk_dece_280.2.2.2.2.2.2.2.2.2.2.2.2.2.2.2.2.2.2.2.1
theorem dX9_again_67 : decode cX9_again 67 = .ok (.aload_n 0, 1) := dr_42  pk_dece_280.2.2.2.2.2.2.2.2.2.2.2.2.2.2.2.2.2.2.2.2.1
theorem dX9_again_68 : decode cX9_again 68 = .ok (.aload_n 0, 1) := dr_42  pk_dece_280.2.2.2.2.2.2.2.2.2.2.2.2.2.2.2.2.2.2.2.2.2.1
theorem dX9_again_69 : decode cX9_again 69 = .ok (.getfield 32, 3) := dr_180 0 32  pk_dece_280.2.2.2.2.2.2.2.2.2.2.2.2.2.2.2.2.2.2.2.2.2.2.1
theorem dX9_again_72 : decode cX9_again 72 = .ok (.iload_n 1, 1) := dr_27  pk_dece_280.2.2.2.2.2.2.2.2.2.2.2.2.2.2.2.2.2.2.2.2.2.2.2.1
theorem dX9_again_73 : decode cX9_again 73 = .ok (.iaload, 1) := dr_46  pk_dece_280.2.2.2.2.2.2.2.2.2.2.2.2.2.2.2.2.2.2.2.2.2.2.2.2.1
theorem dX9_again_74 : decode cX9_again 74 = .ok (.bipush 12, 2) := dr_16 12  pk_dece_280.2.2.2.2.2.2.2.2.2.2.2.2.2.2.2.2.2.2.2.2.2.2.2.2.2.1
theorem dX9_again_76 : decode cX9_again 76 = .ok (.invokevirtual 161, 3) := dr_182 0 161  pk_dece_280.2.2.2.2.2.2.2.2.2.2.2.2.2.2.2.2.2.2.2.2.2.2.2.2.2.2.1
theorem dX9_again_79 : decode cX9_again 79 = .ok (.goto 15, 3) := dr_167 0 15  pk_dece_280.2.2.2.2.2.2.2.2.2.2.2.2.2.2.2.2.2.2.2.2.2.2.2.2.2.2.2.1
theorem dX9_again_82 : decode cX9_again 82 = .ok (.aload_n 0, 1) := dr_42  pk_dece_280.2.2.2.2.2.2.2.2.2.2.2.2.2.2.2.2.2.2.2.2.2.2.2.2.2.2.2.2.1
theorem dX9_again_83 : decode cX9_again 83 = .ok (.aload_n 0, 1) := dr_42  pk_dece_280.2.2.2.2.2.2.2.2.2.2.2.2.2.2.2.2.2.2.2.2.2.2.2.2.2.2.2.2.2.1
theorem dX9_again_84 : decode cX9_again 84 = .ok (.getfield 32, 3) := dr_180 0 32  pk_dece_280.2.2.2.2.2.2.2.2.2.2.2.2.2.2.2.2.2.2.2.2.2.2.2.2.2.2.2.2.2.2.1
theorem dX9_again_87 : decode cX9_again 87 = .ok (.iload_n 1, 1) := dr_27  pk_dece_280.2.2.2.2.2.2.2.2.2.2.2.2.2.2.2.2.2.2.2.2.2.2.2.2.2.2.2.2.2.2.2
set_option maxRecDepth 20000 in
theorem pk_dece_281 : (bq cX9_again 88 46 = true) ∧ ((bq cX9_again 89 16 && bq cX9_again (89 + 1) 12 && (Reader.signed 8 12 == 12)) = true) ∧ ((bq cX9_again 91 182 && bq cX9_again (91 + 1) 0 && bq cX9_again (91 + 2) 164 && (0 * 256 + 164 == 164)) = true) ∧ (bq cX9_again 94 61 = true) ∧ (bq cX9_again 95 28 = true) ∧ ((bq cX9_again 96 16 && bq cX9_again (96 + 1) 247 && (Reader.signed 8 247 == (-9))) = true) ∧ ((bq cX9_again 98 160 && bq cX9_again (98 + 1) 0 && bq cX9_again (98 + 2) 13 && (Reader.signed 16 (0 * 256 + 13) == 13)) = true) ∧ (bq cX9_again 101 42 = true) ∧ (bq cX9_again 102 27 = true) ∧ ((bq cX9_again 103 16 && bq cX9_again (103 + 1) 12 && (Reader.signed 8 12 == 12)) = true) ∧ ((bq cX9_again 105 182 && bq cX9_again (105 + 1) 0 && bq cX9_again (105 + 2) 214 && (0 * 256 + 214 == 214)) = true) ∧ ((bq cX9_again 108 167 && bq cX9_again (108 + 1) 0 && bq cX9_again (108 + 2) 5 && (Reader.signed 16 (0 * 256 + 5) == 5)) = true) ∧ ((bq cX9_again 111 16 && bq cX9_again (111 + 1) 236 && (Reader.signed 8 236 == (-20))) = true) ∧ (bq cX9_again 113 172 = true) := by decide +kernel
theorem dX9_again_88 : decode cX9_again 88 = .ok (.iaload, 1) := dr_46  pk_dece_281.1
theorem dX9_again_89 : decode cX9_again 89 = .ok (.bipush 12, 2) := dr_16 12  pk_dece_281.2.1
theorem dX9_again_91 : decode cX9_again 91 = .ok (.invokevirtual 164, 3) := dr_182 0 164  pk_dece_281.2.2.1
theorem dX9_again_94 : decode cX9_again 94 = .ok (.istore_n 2, 1) := dr_61  pk_dece_281.2.2.2.1
theorem dX9_again_95 : decode cX9_again 95 = .ok (.iload_n 2, 1) := dr_28  pk_dece_281.2.2.2.2.1
theorem dX9_again_96 : decode cX9_again 96 = .ok (.bipush (-9), 2) := dr_16 247  pk_dece_281.2.2.2.2.2.1
theorem dX9_again_98 : decode cX9_again 98 = .ok (.if_icmp .ne 13, 3) := dr_160 0 13  pk_dece_281.2.2.2.2.2.2.1
theorem dX9_again_101 : decode cX9_again 101 = .ok (.aload_n 0, 1) := dr_42  pk_dece_281.2.2.2.2.2.2.2.1
theorem dX9_again_102 : decode cX9_again 102 = .ok (.iload_n 1, 1) := dr_27  pk_dece_281.2.2.2.2.2.2.2.2.1
theorem dX9_again_103 : decode cX9_again 103 = .ok (.bipush 12, 2) := dr_16 12  pk_dece_281.2.2.2.2.2.2.2.2.2.1
theorem dX9_again_105 : decode cX9_again 105 = .ok (.invokevirtual 214, 3) := dr_182 0 214  pk_dece_281.2.2.2.2.2.2.2.2.2.2.1
theorem dX9_again_108 : decode cX9_again 108 = .ok (.goto 5, 3) := dr_167 0 5  pk_dece_281.2.2.2.2.2.2.2.2.2.2.2.1
theorem dX9_again_111 : decode cX9_again 111 = .ok (.bipush (-20), 2) := dr_16 236  pk_dece_281.2.2.2.2.2.2.2.2.2.2.2.2.1
theorem dX9_again_113 : decode cX9_again 113 = .ok (.ireturn, 1) := dr_172  pk_dece_281.2.2.2.2.2.2.2.2.2.2.2.2.2
set_option maxRecDepth 20000 in
theorem pk_dece_282 : (bq cX9_rebuilt 0 42 = true) ∧ (bq cX9_rebuilt 1 27 = true) ∧ ((bq cX9_rebuilt 2 182 && bq cX9_rebuilt (2 + 1) 0 && bq cX9_rebuilt (2 + 2) 178 && (0 * 256 + 178 == 178)) = true) ∧ ((bq cX9_rebuilt 5 153 && bq cX9_rebuilt (5 + 1) 0 && bq cX9_rebuilt (5 + 2) 11 && (Reader.signed 16 (0 * 256 + 11) == 11)) = true) ∧ (bq cX9_rebuilt 8 42 = true) ∧ (bq cX9_rebuilt 9 27 = true) ∧ ((bq cX9_rebuilt 10 182 && bq cX9_rebuilt (10 + 1) 0 && bq cX9_rebuilt (10 + 2) 217 && (0 * 256 + 217 == 217)) = true) ∧ ((bq cX9_rebuilt 13 167 && bq cX9_rebuilt (13 + 1) 0 && bq cX9_rebuilt (13 + 2) 4 && (Reader.signed 16 (0 * 256 + 4) == 4)) = true) ∧ (bq cX9_rebuilt 16 2 = true) ∧ (bq cX9_rebuilt 17 172 = true) := by decide +kernel
theorem dX9_rebuilt_0 : decode cX9_rebuilt 0 = .ok (.aload_n 0, 1) := dr_42  pk_dece_282.1
theorem dX9_rebuilt_1 : decode cX9_rebuilt 1 = .ok (.iload_n 1, 1) := dr_27  pk_dece_282.2.1
theorem dX9_rebuilt_2 : decode cX9_rebuilt 2 = .ok (.invokevirtual 178, 3) := dr_182 0 178  pk_dece_282.2.2.1
theorem dX9_rebuilt_5 : decode cX9_rebuilt 5 = .ok (.ifCond .eq 11, 3) := dr_153 0 11  pk_dece_282.2.2.2.1
theorem dX9_rebuilt_8 : decode cX9_rebuilt 8 = .ok (.aload_n 0, 1) := dr_42  pk_dece_282.2.2.2.2.1
theorem dX9_rebuilt_9 : decode cX9_rebuilt 9 = .ok (.iload_n 1, 1) := dr_27  pk_dece_282.2.2.2.2.2.1
theorem dX9_rebuilt_10 : decode cX9_rebuilt 10 = .ok (.invokevirtual 217, 3) := dr_182 0 217  pk_dece_282.2.2.2.2.2.2.1
theorem dX9_rebuilt_13 : decode cX9_rebuilt 13 = .ok (.goto 4, 3) := dr_167 0 4  pk_dece_282.2.2.2.2.2.2.2.1
theorem dX9_rebuilt_16 : decode cX9_rebuilt 16 = .ok (.iconst (-1), 1) := dr_2  pk_dece_282.2.2.2.2.2.2.2.2.1
theorem dX9_rebuilt_17 : decode cX9_rebuilt 17 = .ok (.ireturn, 1) := dr_172  pk_dece_282.2.2.2.2.2.2.2.2.2
set_option maxRecDepth 20000 in
theorem pk_dece_283 : (bq cX9_stale 0 3 = true) ∧ (bq cX9_stale 1 60 = true) ∧ (bq cX9_stale 2 3 = true) ∧ (bq cX9_stale 3 61 = true) ∧ (bq cX9_stale 4 28 = true) ∧ (bq cX9_stale 5 42 = true) ∧ ((bq cX9_stale 6 180 && bq cX9_stale (6 + 1) 0 && bq cX9_stale (6 + 2) 85 && (0 * 256 + 85 == 85)) = true) ∧ ((bq cX9_stale 9 162 && bq cX9_stale (9 + 1) 0 && bq cX9_stale (9 + 2) 62 && (Reader.signed 16 (0 * 256 + 62) == 62)) = true) ∧ (bq cX9_stale 12 42 = true) ∧ ((bq cX9_stale 13 180 && bq cX9_stale (13 + 1) 0 && bq cX9_stale (13 + 2) 35 && (0 * 256 + 35 == 35)) = true) ∧ (bq cX9_stale 16 28 = true) ∧ (bq cX9_stale 17 46 = true) ∧ ((bq cX9_stale 18 16 && bq cX9_stale (18 + 1) 247 && (Reader.signed 8 247 == (-9))) = true) ∧ ((bq cX9_stale 20 159 && bq cX9_stale (20 + 1) 0 && bq cX9_stale (20 + 2) 21 && (Reader.signed 16 (0 * 256 + 21) == 21)) = true) ∧ (bq cX9_stale 23 27 = true) ∧ (bq cX9_stale 24 42 = true) ∧ ((bq cX9_stale 25 180 && bq cX9_stale (25 + 1) 0 && bq cX9_stale (25 + 2) 35 && (0 * 256 + 35 == 35)) = true) ∧ (bq cX9_stale 28 28 = true) ∧ (bq cX9_stale 29 46 = true) ∧ (bq cX9_stale 30 122 = true) ∧ (bq cX9_stale 31 4 = true) ∧ (bq cX9_stale 32 126 = true) ∧ (bq cX9_stale 33 4 = true) ∧ ((bq cX9_stale 34 160 && bq cX9_stale (34 + 1) 0 && bq cX9_stale (34 + 2) 7 && (Reader.signed 16 (0 * 256 + 7) == 7)) = true) ∧ (bq cX9_stale 37 4 = true) ∧ ((bq cX9_stale 38 167 && bq cX9_stale (38 + 1) 0 && bq cX9_stale (38 + 2) 4 && (Reader.signed 16 (0 * 256 + 4) == 4)) = true) ∧ (bq cX9_stale 41 3 = true) ∧ (bq cX9_stale 42 62 = true) ∧ (bq cX9_stale 43 27 = true) ∧ (bq cX9_stale 44 29 = true) ∧ ((bq cX9_stale 45 154 && bq cX9_stale (45 + 1) 0 && bq cX9_stale (45 + 2) 11 && (Reader.signed 16 (0 * 256 + 11) == 11)) = true) ∧ (bq cX9_stale 48 42 = true) := by decide +kernel
theorem dX9_stale_0 : decode cX9_stale 0 = .ok (.iconst 0, 1) := dr_3  pk_dece_283.1
theorem dX9_stale_1 : decode cX9_stale 1 = .ok (.istore_n 1, 1) := dr_60  pk_dece_283.2.1
theorem dX9_stale_2 : decode cX9_stale 2 = .ok (.iconst 0, 1) := dr_3  pk_dece_283.2.2.1
theorem dX9_stale_3 : decode cX9_stale 3 = .ok (.istore_n 2, 1) := dr_61  pk_dece_283.2.2.2.1
theorem dX9_stale_4 : decode cX9_stale 4 = .ok (.iload_n 2, 1) := dr_28  pk_dece_283.2.2.2.2.1
theorem dX9_stale_5 : decode cX9_stale 5 = .ok (.aload_n 0, 1) := dr_42  pk_dece_283.2.2.2.2.2.1
theorem dX9_stale_6 : decode cX9_stale 6 = .ok (.getfield 85, 3) := dr_180 0 85  pk_dece_283.2.2.2.2.2.2.1
theorem dX9_stale_9 : decode cX9_stale 9 = .ok (.if_icmp .ge 62, 3) := dr_162 0 62  pk_dece_283.2.2.2.2.2.2.2.1
theorem dX9_stale_12 : decode cX9_stale 12 = .ok (.aload_n 0, 1) := dr_42  pk_dece_283.2.2.2.2.2.2.2.2.1
theorem dX9_stale_13 : decode cX9_stale 13 = .ok (.getfield 35, 3) := dr_180 0 35  pk_dece_283.2.2.2.2.2.2.2.2.2.1
theorem dX9_stale_16 : decode cX9_stale 16 = .ok (.iload_n 2, 1) := dr_28  pk_dece_283.2.2.2.2.2.2.2.2.2.2.1
theorem dX9_stale_17 : decode cX9_stale 17 = .ok (.iaload, 1) := dr_46  pk_dece_283.2.2.2.2.2.2.2.2.2.2.2.1
theorem dX9_stale_18 : decode cX9_stale 18 = .ok (.bipush (-9), 2) := dr_16 247  pk_dece_283.2.2.2.2.2.2.2.2.2.2.2.2.1
theorem dX9_stale_20 : decode cX9_stale 20 = .ok (.if_icmp .eq 21, 3) := dr_159 0 21  pk_dece_283.2.2.2.2.2.2.2.2.2.2.2.2.2.1
theorem dX9_stale_23 : decode cX9_stale 23 = .ok (.iload_n 1, 1) := dr_27  pk_dece_283.2.2.2.2.2.2.2.2.2.2.2.2.2.2.1
theorem dX9_stale_24 : decode cX9_stale 24 = .ok (.aload_n 0, 1) := dr_42  pk_dece_283.2.2.2.2.2.2.2.2.2.2.2.2.2.2.2.1
theorem dX9_stale_25 : decode cX9_stale 25 = .ok (.getfield 35, 3) := dr_180 0 35  pk_dece_283.2.2.2.2.2.2.2.2.2.2.2.2.2.2.2.2.1
theorem dX9_stale_28 : decode cX9_stale 28 = .ok (.iload_n 2, 1) := dr_28  pk_dece_283.2.2.2.2.2.2.2.2.2.2.2.2.2.2.2.2.2.1
theorem dX9_stale_29 : decode cX9_stale 29 = .ok (.iaload, 1) := dr_46  pk_dece_283.2.2.2.2.2.2.2.2.2.2.2.2.2.2.2.2.2.2.1
theorem dX9_stale_30 : decode cX9_stale 30 = .ok (.ishr, 1) := dr_122  pk_dece_283.2.2.2.2.2.2.2.2.2.2.2.2.2.2.2.2.2.2.2.1
theorem dX9_stale_31 : decode cX9_stale 31 = .ok (.iconst 1, 1) := dr_4  pk_dece_283.2.2.2.2.2.2.2.2.2.2.2.2.2.2.2.2.2.2.2.2.1
theorem dX9_stale_32 : decode cX9_stale 32 = .ok (.iand, 1) := dr_126  pk_dece_283.2.2.2.2.2.2.2.2.2.2.2.2.2.2.2.2.2.2.2.2.2.1
theorem dX9_stale_33 : decode cX9_stale 33 = .ok (.iconst 1, 1) := dr_4  pk_dece_283.2.2.2.2.2.2.2.2.2.2.2.2.2.2.2.2.2.2.2.2.2.2.1
theorem dX9_stale_34 : decode cX9_stale 34 = .ok (.if_icmp .ne 7, 3) := dr_160 0 7  pk_dece_283.2.2.2.2.2.2.2.2.2.2.2.2.2.2.2.2.2.2.2.2.2.2.2.1
theorem dX9_stale_37 : decode cX9_stale 37 = .ok (.iconst 1, 1) := dr_4  pk_dece_283.2.2.2.2.2.2.2.2.2.2.2.2.2.2.2.2.2.2.2.2.2.2.2.2.1
theorem dX9_stale_38 : decode cX9_stale 38 = .ok (.goto 4, 3) := dr_167 0 4  pk_dece_283.2.2.2.2.2.2.2.2.2.2.2.2.2.2.2.2.2.2.2.2.2.2.2.2.2.1
theorem dX9_stale_41 : decode cX9_stale 41 = .ok (.iconst 0, 1) := dr_3  pk_dece_283.2.2.2.2.2.2.2.2.2.2.2.2.2.2.2.2.2.2.2.2.2.2.2.2.2.2.1
theorem dX9_stale_42 : decode cX9_stale 42 = .ok (.istore_n 3, 1) := dr_62  pk_dece_283.2.2.2.2.2.2.2.2.2.2.2.2.2.2.2.2.2.2.2.2.2.2.2.2.2.2.2.1
theorem dX9_stale_43 : decode cX9_stale 43 = .ok (.iload_n 1, 1) := dr_27  pk_dece_283.2.2.2.2.2.2.2.2.2.2.2.2.2.2.2.2.2.2.2.2.2.2.2.2.2.2.2.2.1
theorem dX9_stale_44 : decode cX9_stale 44 = .ok (.iload_n 3, 1) := dr_29  pk_dece_283.2.2.2.2.2.2.2.2.2.2.2.2.2.2.2.2.2.2.2.2.2.2.2.2.2.2.2.2.2.1
theorem dX9_stale_45 : decode cX9_stale 45 = .ok (.ifCond .ne 11, 3) := dr_154 0 11  pk_dece_283.2.2.2.2.2.2.2.2.2.2.2.2.2.2.2.2.2.2.2.2.2.2.2.2.2.2.2.2.2.2.1
theorem dX9_stale_48 : decode cX9_stale 48 = .ok (.aload_n 0, 1) := dr_42  pk_dece_283.2.2.2.2.2.2.2.2.2.2.2.2.2.2.2.2.2.2.2.2.2.2.2.2.2.2.2.2.2.2.2
set_option maxRecDepth 20000 in
theorem pk_dece_284 : (bq cX9_stale 49 28 = true) ∧ ((bq cX9_stale 50 182 && bq cX9_stale (50 + 1) 0 && bq cX9_stale (50 + 2) 217 && (0 * 256 + 217 == 217)) = true) ∧ ((bq cX9_stale 53 153 && bq cX9_stale (53 + 1) 0 && bq cX9_stale (53 + 2) 9 && (Reader.signed 16 (0 * 256 + 9) == 9)) = true) ∧ (bq cX9_stale 56 4 = true) ∧ (bq cX9_stale 57 28 = true) ∧ (bq cX9_stale 58 120 = true) ∧ ((bq cX9_stale 59 167 && bq cX9_stale (59 + 1) 0 && bq cX9_stale (59 + 2) 4 && (Reader.signed 16 (0 * 256 + 4) == 4)) = true) ∧ (bq cX9_stale 62 3 = true) ∧ (bq cX9_stale 63 128 = true) ∧ (bq cX9_stale 64 60 = true) := by decide +kernel
theorem dX9_stale_49 : decode cX9_stale 49 = .ok (.iload_n 2, 1) := dr_28  pk_dece_284.1
theorem dX9_stale_50 : decode cX9_stale 50 = .ok (.invokevirtual 217, 3) := dr_182 0 217  pk_dece_284.2.1
theorem dX9_stale_53 : decode cX9_stale 53 = .ok (.ifCond .eq 9, 3) := dr_153 0 9  pk_dece_284.2.2.1
theorem dX9_stale_56 : decode cX9_stale 56 = .ok (.iconst 1, 1) := dr_4  pk_dece_284.2.2.2.1
theorem dX9_stale_57 : decode cX9_stale 57 = .ok (.iload_n 2, 1) := dr_28  pk_dece_284.2.2.2.2.1
theorem dX9_stale_58 : decode cX9_stale 58 = .ok (.ishl, 1) := dr_120  pk_dece_284.2.2.2.2.2.1
theorem dX9_stale_59 : decode cX9_stale 59 = .ok (.goto 4, 3) := dr_167 0 4  pk_dece_284.2.2.2.2.2.2.1
theorem dX9_stale_62 : decode cX9_stale 62 = .ok (.iconst 0, 1) := dr_3  pk_dece_284.2.2.2.2.2.2.2.1
theorem dX9_stale_63 : decode cX9_stale 63 = .ok (.ior, 1) := dr_128  pk_dece_284.2.2.2.2.2.2.2.2.1
theorem dX9_stale_64 : decode cX9_stale 64 = .ok (.istore_n 1, 1) := dr_60  pk_dece_284.2.2.2.2.2.2.2.2.2
theorem dX9_stale_65 : decode cX9_stale 65 = .ok (.iinc 2 1, 3) := by decide +kernel
set_option maxRecDepth 20000 in
theorem pk_dece_285 : ((bq cX9_stale 68 167 && bq cX9_stale (68 + 1) 255 && bq cX9_stale (68 + 2) 192 && (Reader.signed 16 (255 * 256 + 192) == (-64))) = true) ∧ (bq cX9_stale 71 27 = true) ∧ (bq cX9_stale 72 172 = true) := by decide +kernel
theorem dX9_stale_68 : decode cX9_stale 68 = .ok (.goto (-64), 3) := dr_167 255 192  pk_dece_285.1
theorem dX9_stale_71 : decode cX9_stale 71 = .ok (.iload_n 1, 1) := dr_27  pk_dece_285.2.1
theorem dX9_stale_72 : decode cX9_stale 72 = .ok (.ireturn, 1) := dr_172  pk_dece_285.2.2
set_option maxRecDepth 20000 in
theorem pk_dece_286 : (bq cX9_settles 0 42 = true) ∧ (bq cX9_settles 1 27 = true) ∧ ((bq cX9_settles 2 182 && bq cX9_settles (2 + 1) 0 && bq cX9_settles (2 + 2) 178 && (0 * 256 + 178 == 178)) = true) ∧ ((bq cX9_settles 5 153 && bq cX9_settles (5 + 1) 0 && bq cX9_settles (5 + 2) 10 && (Reader.signed 16 (0 * 256 + 10) == 10)) = true) ∧ (bq cX9_settles 8 28 = true) ∧ ((bq cX9_settles 9 184 && bq cX9_settles (9 + 1) 0 && bq cX9_settles (9 + 2) 81 && (0 * 256 + 81 == 81)) = true) ∧ ((bq cX9_settles 12 154 && bq cX9_settles (12 + 1) 0 && bq cX9_settles (12 + 2) 5 && (Reader.signed 16 (0 * 256 + 5) == 5)) = true) ∧ (bq cX9_settles 15 2 = true) ∧ (bq cX9_settles 16 172 = true) ∧ (bq cX9_settles 17 42 = true) ∧ (bq cX9_settles 18 27 = true) ∧ ((bq cX9_settles 19 16 && bq cX9_settles (19 + 1) 13 && (Reader.signed 8 13 == 13)) = true) ∧ ((bq cX9_settles 21 182 && bq cX9_settles (21 + 1) 0 && bq cX9_settles (21 + 2) 167 && (0 * 256 + 167 == 167)) = true) ∧ (bq cX9_settles 24 4 = true) ∧ (bq cX9_settles 25 62 = true) ∧ (bq cX9_settles 26 29 = true) ∧ ((bq cX9_settles 27 16 && bq cX9_settles (27 + 1) 6 && (Reader.signed 8 6 == 6)) = true) ∧ ((bq cX9_settles 29 163 && bq cX9_settles (29 + 1) 0 && bq cX9_settles (29 + 2) 45 && (Reader.signed 16 (0 * 256 + 45) == 45)) = true) ∧ (bq cX9_settles 32 42 = true) ∧ ((bq cX9_settles 33 16 && bq cX9_settles (33 + 1) 13 && (Reader.signed 8 13 == 13)) = true) ∧ (bq cX9_settles 35 28 = true) ∧ ((bq cX9_settles 36 16 && bq cX9_settles (36 + 1) 14 && (Reader.signed 8 14 == 14)) = true) ∧ ((bq cX9_settles 38 182 && bq cX9_settles (38 + 1) 0 && bq cX9_settles (38 + 2) 211 && (0 * 256 + 211 == 211)) = true) ∧ ((bq cX9_settles 41 153 && bq cX9_settles (41 + 1) 0 && bq cX9_settles (41 + 2) 6 && (Reader.signed 16 (0 * 256 + 6) == 6)) = true) ∧ ((bq cX9_settles 44 16 && bq cX9_settles (44 + 1) 247 && (Reader.signed 8 247 == (-9))) = true) ∧ (bq cX9_settles 46 172 = true) ∧ (bq cX9_settles 47 42 = true) ∧ ((bq cX9_settles 48 16 && bq cX9_settles (48 + 1) 13 && (Reader.signed 8 13 == 13)) = true) ∧ ((bq cX9_settles 50 16 && bq cX9_settles (50 + 1) 14 && (Reader.signed 8 14 == 14)) = true) ∧ ((bq cX9_settles 52 182 && bq cX9_settles (52 + 1) 0 && bq cX9_settles (52 + 2) 214 && (0 * 256 + 214 == 214)) = true) ∧ ((bq cX9_settles 55 154 && bq cX9_settles (55 + 1) 0 && bq cX9_settles (55 + 2) 5 && (Reader.signed 16 (0 * 256 + 5) == 5)) = true) ∧ (bq cX9_settles 58 29 = true) := by decide +kernel
theorem dX9_settles_0 : decode cX9_settles 0 = .ok (.aload_n 0, 1) := dr_42  pk_dece_286.1
theorem dX9_settles_1 : decode cX9_settles 1 = .ok (.iload_n 1, 1) := dr_27  pk_dece_286.2.1
theorem dX9_settles_2 : decode cX9_settles 2 = .ok (.invokevirtual 178, 3) := dr_182 0 178  pk_dece_286.2.2.1
theorem dX9_settles_5 : decode cX9_settles 5 = .ok (.ifCond .eq 10, 3) := dr_153 0 10  pk_dece_286.2.2.2.1
theorem dX9_settles_8 : decode cX9_settles 8 = .ok (.iload_n 2, 1) := dr_28  pk_dece_286.2.2.2.2.1
theorem dX9_settles_9 : decode cX9_settles 9 = .ok (.invokestatic 81, 3) := dr_184 0 81  pk_dece_286.2.2.2.2.2.1
theorem dX9_settles_12 : decode cX9_settles 12 = .ok (.ifCond .ne 5, 3) := dr_154 0 5  pk_dece_286.2.2.2.2.2.2.1
theorem dX9_settles_15 : decode cX9_settles 15 = .ok (.iconst (-1), 1) := dr_2  pk_dece_286.2.2.2.2.2.2.2.1
theorem dX9_settles_16 : decode cX9_settles 16 = .ok (.ireturn, 1) := dr_172  pk_dece_286.2.2.2.2.2.2.2.2.1
theorem dX9_settles_17 : decode cX9_settles 17 = .ok (.aload_n 0, 1) := dr_42  pk_dece_286.2.2.2.2.2.2.2.2.2.1
theorem dX9_settles_18 : decode cX9_settles 18 = .ok (.iload_n 1, 1) := dr_27  pk_dece_286.2.2.2.2.2.2.2.2.2.2.1
theorem dX9_settles_19 : decode cX9_settles 19 = .ok (.bipush 13, 2) := dr_16 13  pk_dece_286.2.2.2.2.2.2.2.2.2.2.2.1
theorem dX9_settles_21 : decode cX9_settles 21 = .ok (.invokevirtual 167, 3) := dr_182 0 167  pk_dece_286.2.2.2.2.2.2.2.2.2.2.2.2.1
theorem dX9_settles_24 : decode cX9_settles 24 = .ok (.iconst 1, 1) := dr_4  pk_dece_286.2.2.2.2.2.2.2.2.2.2.2.2.2.1
theorem dX9_settles_25 : decode cX9_settles 25 = .ok (.istore_n 3, 1) := dr_62  pk_dece_286.2.2.2.2.2.2.2.2.2.2.2.2.2.2.1
theorem dX9_settles_26 : decode cX9_settles 26 = .ok (.iload_n 3, 1) := dr_29  pk_dece_286.2.2.2.2.2.2.2.2.2.2.2.2.2.2.2.1
theorem dX9_settles_27 : decode cX9_settles 27 = .ok (.bipush 6, 2) := dr_16 6  pk_dece_286.2.2.2.2.2.2.2.2.2.2.2.2.2.2.2.2.1
theorem dX9_settles_29 : decode cX9_settles 29 = .ok (.if_icmp .gt 45, 3) := dr_163 0 45  pk_dece_286.2.2.2.2.2.2.2.2.2.2.2.2.2.2.2.2.2.1
theorem dX9_settles_32 : decode cX9_settles 32 = .ok (.aload_n 0, 1) := dr_42  pk_dece_286.2.2.2.2.2.2.2.2.2.2.2.2.2.2.2.2.2.2.1
theorem dX9_settles_33 : decode cX9_settles 33 = .ok (.bipush 13, 2) := dr_16 13  pk_dece_286.2.2.2.2.2.2.2.2.2.2.2.2.2.2.2.2.2.2.2.1
theorem dX9_settles_35 : decode cX9_settles 35 = .ok (.iload_n 2, 1) := dr_28  pk_dece_286.2.2.2.2.2.2.2.2.2.2.2.2.2.2.2.2.2.2.2.2.1
theorem dX9_settles_36 : decode cX9_settles 36 = .ok (.bipush 14, 2) := dr_16 14  pk_dece_286.2.2.2.2.2.2.2.2.2.2.2.2.2.2.2.2.2.2.2.2.2.1
theorem dX9_settles_38 : decode cX9_settles 38 = .ok (.invokevirtual 211, 3) := dr_182 0 211  pk_dece_286.2.2.2.2.2.2.2.2.2.2.2.2.2.2.2.2.2.2.2.2.2.2.1
theorem dX9_settles_41 : decode cX9_settles 41 = .ok (.ifCond .eq 6, 3) := dr_153 0 6  pk_dece_286.2.2.2.2.2.2.2.2.2.2.2.2.2.2.2.2.2.2.2.2.2.2.2.1
theorem dX9_settles_44 : decode cX9_settles 44 = .ok (.bipush (-9), 2) := dr_16 247  pk_dece_286.2.2.2.2.2.2.2.2.2.2.2.2.2.2.2.2.2.2.2.2.2.2.2.2.1
theorem dX9_settles_46 : decode cX9_settles 46 = .ok (.ireturn, 1) := dr_172  pk_dece_286.2.2.2.2.2.2.2.2.2.2.2.2.2.2.2.2.2.2.2.2.2.2.2.2.2.1
theorem dX9_settles_47 : decode cX9_settles 47 = .ok (.aload_n 0, 1) := dr_42  pk_dece_286.2.2.2.2.2.2.2.2.2.2.2.2.2.2.2.2.2.2.2.2.2.2.2.2.2.2.1
theorem dX9_settles_48 : decode cX9_settles 48 = .ok (.bipush 13, 2) := dr_16 13  pk_dece_286.2.2.2.2.2.2.2.2.2.2.2.2.2.2.2.2.2.2.2.2.2.2.2.2.2.2.2.1
theorem dX9_settles_50 : decode cX9_settles 50 = .ok (.bipush 14, 2) := dr_16 14  pk_dece_286.2.2.2.2.2.2.2.2.2.2.2.2.2.2.2.2.2.2.2.2.2.2.2.2.2.2.2.2.1
theorem dX9_settles_52 : decode cX9_settles 52 = .ok (.invokevirtual 214, 3) := dr_182 0 214  pk_dece_286.2.2.2.2.2.2.2.2.2.2.2.2.2.2.2.2.2.2.2.2.2.2.2.2.2.2.2.2.2.1
theorem dX9_settles_55 : decode cX9_settles 55 = .ok (.ifCond .ne 5, 3) := dr_154 0 5  pk_dece_286.2.2.2.2.2.2.2.2.2.2.2.2.2.2.2.2.2.2.2.2.2.2.2.2.2.2.2.2.2.2.1
theorem dX9_settles_58 : decode cX9_settles 58 = .ok (.iload_n 3, 1) := dr_29  pk_dece_286.2.2.2.2.2.2.2.2.2.2.2.2.2.2.2.2.2.2.2.2.2.2.2.2.2.2.2.2.2.2.2
set_option maxRecDepth 20000 in
theorem pk_dece_287 : (bq cX9_settles 59 172 = true) ∧ (bq cX9_settles 60 42 = true) ∧ ((bq cX9_settles 61 16 && bq cX9_settles (61 + 1) 14 && (Reader.signed 8 14 == 14)) = true) ∧ ((bq cX9_settles 63 16 && bq cX9_settles (63 + 1) 13 && (Reader.signed 8 13 == 13)) = true) ∧ ((bq cX9_settles 65 182 && bq cX9_settles (65 + 1) 0 && bq cX9_settles (65 + 2) 167 && (0 * 256 + 167 == 167)) = true) := by decide +kernel
theorem dX9_settles_59 : decode cX9_settles 59 = .ok (.ireturn, 1) := dr_172  pk_dece_287.1
theorem dX9_settles_60 : decode cX9_settles 60 = .ok (.aload_n 0, 1) := dr_42  pk_dece_287.2.1
theorem dX9_settles_61 : decode cX9_settles 61 = .ok (.bipush 14, 2) := dr_16 14  pk_dece_287.2.2.1
theorem dX9_settles_63 : decode cX9_settles 63 = .ok (.bipush 13, 2) := dr_16 13  pk_dece_287.2.2.2.1
theorem dX9_settles_65 : decode cX9_settles 65 = .ok (.invokevirtual 167, 3) := dr_182 0 167  pk_dece_287.2.2.2.2
theorem dX9_settles_68 : decode cX9_settles 68 = .ok (.iinc 3 1, 3) := by decide +kernel
set_option maxRecDepth 20000 in
theorem pk_dece_288 : ((bq cX9_settles 71 167 && bq cX9_settles (71 + 1) 255 && bq cX9_settles (71 + 2) 211 && (Reader.signed 16 (255 * 256 + 211) == (-45))) = true) ∧ ((bq cX9_settles 74 16 && bq cX9_settles (74 + 1) 247 && (Reader.signed 8 247 == (-9))) = true) ∧ (bq cX9_settles 76 172 = true) := by decide +kernel
theorem dX9_settles_71 : decode cX9_settles 71 = .ok (.goto (-45), 3) := dr_167 255 211  pk_dece_288.1
theorem dX9_settles_74 : decode cX9_settles 74 = .ok (.bipush (-9), 2) := dr_16 247  pk_dece_288.2.1
theorem dX9_settles_76 : decode cX9_settles 76 = .ok (.ireturn, 1) := dr_172  pk_dece_288.2.2
set_option maxRecDepth 20000 in
theorem pk_dece_289 : (bq cX9_goRound 0 42 = true) ∧ (bq cX9_goRound 1 27 = true) ∧ (bq cX9_goRound 2 29 = true) ∧ ((bq cX9_goRound 3 16 && bq cX9_goRound (3 + 1) 12 && (Reader.signed 8 12 == 12)) = true) ∧ ((bq cX9_goRound 5 182 && bq cX9_goRound (5 + 1) 0 && bq cX9_goRound (5 + 2) 211 && (0 * 256 + 211 == 211)) = true) ∧ ((bq cX9_goRound 8 154 && bq cX9_goRound (8 + 1) 0 && bq cX9_goRound (8 + 2) 42 && (Reader.signed 16 (0 * 256 + 42) == 42)) = true) ∧ (bq cX9_goRound 11 42 = true) ∧ ((bq cX9_goRound 12 16 && bq cX9_goRound (12 + 1) 12 && (Reader.signed 8 12 == 12)) = true) ∧ (bq cX9_goRound 14 29 = true) ∧ ((bq cX9_goRound 15 16 && bq cX9_goRound (15 + 1) 13 && (Reader.signed 8 13 == 13)) = true) ∧ ((bq cX9_goRound 17 182 && bq cX9_goRound (17 + 1) 0 && bq cX9_goRound (17 + 2) 211 && (0 * 256 + 211 == 211)) = true) ∧ ((bq cX9_goRound 20 154 && bq cX9_goRound (20 + 1) 0 && bq cX9_goRound (20 + 2) 30 && (Reader.signed 16 (0 * 256 + 30) == 30)) = true) ∧ (bq cX9_goRound 23 42 = true) ∧ (bq cX9_goRound 24 28 = true) ∧ (bq cX9_goRound 25 29 = true) ∧ ((bq cX9_goRound 26 16 && bq cX9_goRound (26 + 1) 14 && (Reader.signed 8 14 == 14)) = true) ∧ ((bq cX9_goRound 28 182 && bq cX9_goRound (28 + 1) 0 && bq cX9_goRound (28 + 2) 211 && (0 * 256 + 211 == 211)) = true) ∧ ((bq cX9_goRound 31 154 && bq cX9_goRound (31 + 1) 0 && bq cX9_goRound (31 + 2) 19 && (Reader.signed 16 (0 * 256 + 19) == 19)) = true) ∧ (bq cX9_goRound 34 42 = true) ∧ ((bq cX9_goRound 35 16 && bq cX9_goRound (35 + 1) 14 && (Reader.signed 8 14 == 14)) = true) ∧ (bq cX9_goRound 37 29 = true) ∧ ((bq cX9_goRound 38 16 && bq cX9_goRound (38 + 1) 15 && (Reader.signed 8 15 == 15)) = true) ∧ ((bq cX9_goRound 40 182 && bq cX9_goRound (40 + 1) 0 && bq cX9_goRound (40 + 2) 211 && (0 * 256 + 211 == 211)) = true) ∧ ((bq cX9_goRound 43 154 && bq cX9_goRound (43 + 1) 0 && bq cX9_goRound (43 + 2) 7 && (Reader.signed 16 (0 * 256 + 7) == 7)) = true) ∧ (bq cX9_goRound 46 4 = true) ∧ ((bq cX9_goRound 47 167 && bq cX9_goRound (47 + 1) 0 && bq cX9_goRound (47 + 2) 4 && (Reader.signed 16 (0 * 256 + 4) == 4)) = true) ∧ (bq cX9_goRound 50 3 = true) ∧ ((bq cX9_goRound 51 54 && bq cX9_goRound (51 + 1) 4) = true) ∧ ((bq cX9_goRound 53 21 && bq cX9_goRound (53 + 1) 4) = true) ∧ ((bq cX9_goRound 55 153 && bq cX9_goRound (55 + 1) 0 && bq cX9_goRound (55 + 2) 14 && (Reader.signed 16 (0 * 256 + 14) == 14)) = true) ∧ (bq cX9_goRound 58 42 = true) ∧ ((bq cX9_goRound 59 16 && bq cX9_goRound (59 + 1) 13 && (Reader.signed 8 13 == 13)) = true) := by decide +kernel
theorem dX9_goRound_0 : decode cX9_goRound 0 = .ok (.aload_n 0, 1) := dr_42  pk_dece_289.1
theorem dX9_goRound_1 : decode cX9_goRound 1 = .ok (.iload_n 1, 1) := dr_27  pk_dece_289.2.1
theorem dX9_goRound_2 : decode cX9_goRound 2 = .ok (.iload_n 3, 1) := dr_29  pk_dece_289.2.2.1
theorem dX9_goRound_3 : decode cX9_goRound 3 = .ok (.bipush 12, 2) := dr_16 12  pk_dece_289.2.2.2.1
theorem dX9_goRound_5 : decode cX9_goRound 5 = .ok (.invokevirtual 211, 3) := dr_182 0 211  pk_dece_289.2.2.2.2.1
theorem dX9_goRound_8 : decode cX9_goRound 8 = .ok (.ifCond .ne 42, 3) := dr_154 0 42  pk_dece_289.2.2.2.2.2.1
theorem dX9_goRound_11 : decode cX9_goRound 11 = .ok (.aload_n 0, 1) := dr_42  pk_dece_289.2.2.2.2.2.2.1
theorem dX9_goRound_12 : decode cX9_goRound 12 = .ok (.bipush 12, 2) := dr_16 12  pk_dece_289.2.2.2.2.2.2.2.1
theorem dX9_goRound_14 : decode cX9_goRound 14 = .ok (.iload_n 3, 1) := dr_29  pk_dece_289.2.2.2.2.2.2.2.2.1
theorem dX9_goRound_15 : decode cX9_goRound 15 = .ok (.bipush 13, 2) := dr_16 13  pk_dece_289.2.2.2.2.2.2.2.2.2.1
theorem dX9_goRound_17 : decode cX9_goRound 17 = .ok (.invokevirtual 211, 3) := dr_182 0 211  pk_dece_289.2.2.2.2.2.2.2.2.2.2.1
theorem dX9_goRound_20 : decode cX9_goRound 20 = .ok (.ifCond .ne 30, 3) := dr_154 0 30  pk_dece_289.2.2.2.2.2.2.2.2.2.2.2.1
theorem dX9_goRound_23 : decode cX9_goRound 23 = .ok (.aload_n 0, 1) := dr_42  pk_dece_289.2.2.2.2.2.2.2.2.2.2.2.2.1
theorem dX9_goRound_24 : decode cX9_goRound 24 = .ok (.iload_n 2, 1) := dr_28  pk_dece_289.2.2.2.2.2.2.2.2.2.2.2.2.2.1
theorem dX9_goRound_25 : decode cX9_goRound 25 = .ok (.iload_n 3, 1) := dr_29  pk_dece_289.2.2.2.2.2.2.2.2.2.2.2.2.2.2.1
theorem dX9_goRound_26 : decode cX9_goRound 26 = .ok (.bipush 14, 2) := dr_16 14  pk_dece_289.2.2.2.2.2.2.2.2.2.2.2.2.2.2.2.1
theorem dX9_goRound_28 : decode cX9_goRound 28 = .ok (.invokevirtual 211, 3) := dr_182 0 211  pk_dece_289.2.2.2.2.2.2.2.2.2.2.2.2.2.2.2.2.1
theorem dX9_goRound_31 : decode cX9_goRound 31 = .ok (.ifCond .ne 19, 3) := dr_154 0 19  pk_dece_289.2.2.2.2.2.2.2.2.2.2.2.2.2.2.2.2.2.1
theorem dX9_goRound_34 : decode cX9_goRound 34 = .ok (.aload_n 0, 1) := dr_42  pk_dece_289.2.2.2.2.2.2.2.2.2.2.2.2.2.2.2.2.2.2.1
theorem dX9_goRound_35 : decode cX9_goRound 35 = .ok (.bipush 14, 2) := dr_16 14  pk_dece_289.2.2.2.2.2.2.2.2.2.2.2.2.2.2.2.2.2.2.2.1
theorem dX9_goRound_37 : decode cX9_goRound 37 = .ok (.iload_n 3, 1) := dr_29  pk_dece_289.2.2.2.2.2.2.2.2.2.2.2.2.2.2.2.2.2.2.2.2.1
theorem dX9_goRound_38 : decode cX9_goRound 38 = .ok (.bipush 15, 2) := dr_16 15  pk_dece_289.2.2.2.2.2.2.2.2.2.2.2.2.2.2.2.2.2.2.2.2.2.1
theorem dX9_goRound_40 : decode cX9_goRound 40 = .ok (.invokevirtual 211, 3) := dr_182 0 211  pk_dece_289.2.2.2.2.2.2.2.2.2.2.2.2.2.2.2.2.2.2.2.2.2.2.1
theorem dX9_goRound_43 : decode cX9_goRound 43 = .ok (.ifCond .ne 7, 3) := dr_154 0 7  pk_dece_289.2.2.2.2.2.2.2.2.2.2.2.2.2.2.2.2.2.2.2.2.2.2.2.1
theorem dX9_goRound_46 : decode cX9_goRound 46 = .ok (.iconst 1, 1) := dr_4  pk_dece_289.2.2.2.2.2.2.2.2.2.2.2.2.2.2.2.2.2.2.2.2.2.2.2.2.1
theorem dX9_goRound_47 : decode cX9_goRound 47 = .ok (.goto 4, 3) := dr_167 0 4  pk_dece_289.2.2.2.2.2.2.2.2.2.2.2.2.2.2.2.2.2.2.2.2.2.2.2.2.2.1
theorem dX9_goRound_50 : decode cX9_goRound 50 = .ok (.iconst 0, 1) := dr_3  pk_dece_289.2.2.2.2.2.2.2.2.2.2.2.2.2.2.2.2.2.2.2.2.2.2.2.2.2.2.1
theorem dX9_goRound_51 : decode cX9_goRound 51 = .ok (.istore 4, 2) := dr_54  pk_dece_289.2.2.2.2.2.2.2.2.2.2.2.2.2.2.2.2.2.2.2.2.2.2.2.2.2.2.2.1
theorem dX9_goRound_53 : decode cX9_goRound 53 = .ok (.iload 4, 2) := dr_21  pk_dece_289.2.2.2.2.2.2.2.2.2.2.2.2.2.2.2.2.2.2.2.2.2.2.2.2.2.2.2.2.1
theorem dX9_goRound_55 : decode cX9_goRound 55 = .ok (.ifCond .eq 14, 3) := dr_153 0 14  pk_dece_289.2.2.2.2.2.2.2.2.2.2.2.2.2.2.2.2.2.2.2.2.2.2.2.2.2.2.2.2.2.1
theorem dX9_goRound_58 : decode cX9_goRound 58 = .ok (.aload_n 0, 1) := dr_42  pk_dece_289.2.2.2.2.2.2.2.2.2.2.2.2.2.2.2.2.2.2.2.2.2.2.2.2.2.2.2.2.2.2.1
theorem dX9_goRound_59 : decode cX9_goRound 59 = .ok (.bipush 13, 2) := dr_16 13  pk_dece_289.2.2.2.2.2.2.2.2.2.2.2.2.2.2.2.2.2.2.2.2.2.2.2.2.2.2.2.2.2.2.2
set_option maxRecDepth 20000 in
theorem pk_dece_290 : ((bq cX9_goRound 61 16 && bq cX9_goRound (61 + 1) 15 && (Reader.signed 8 15 == 15)) = true) ∧ ((bq cX9_goRound 63 182 && bq cX9_goRound (63 + 1) 0 && bq cX9_goRound (63 + 2) 214 && (0 * 256 + 214 == 214)) = true) ∧ ((bq cX9_goRound 66 167 && bq cX9_goRound (66 + 1) 0 && bq cX9_goRound (66 + 2) 5 && (Reader.signed 16 (0 * 256 + 5) == 5)) = true) ∧ ((bq cX9_goRound 69 16 && bq cX9_goRound (69 + 1) 254 && (Reader.signed 8 254 == (-2))) = true) ∧ (bq cX9_goRound 71 172 = true) := by decide +kernel
theorem dX9_goRound_61 : decode cX9_goRound 61 = .ok (.bipush 15, 2) := dr_16 15  pk_dece_290.1
theorem dX9_goRound_63 : decode cX9_goRound 63 = .ok (.invokevirtual 214, 3) := dr_182 0 214  pk_dece_290.2.1
theorem dX9_goRound_66 : decode cX9_goRound 66 = .ok (.goto 5, 3) := dr_167 0 5  pk_dece_290.2.2.1
theorem dX9_goRound_69 : decode cX9_goRound 69 = .ok (.bipush (-2), 2) := dr_16 254  pk_dece_290.2.2.2.1
theorem dX9_goRound_71 : decode cX9_goRound 71 = .ok (.ireturn, 1) := dr_172  pk_dece_290.2.2.2.2
set_option maxRecDepth 20000 in
theorem pk_dece_291 : (bq cX9_round 0 42 = true) ∧ (bq cX9_round 1 27 = true) ∧ ((bq cX9_round 2 182 && bq cX9_round (2 + 1) 0 && bq cX9_round (2 + 2) 178 && (0 * 256 + 178 == 178)) = true) ∧ ((bq cX9_round 5 153 && bq cX9_round (5 + 1) 0 && bq cX9_round (5 + 2) 28 && (Reader.signed 16 (0 * 256 + 28) == 28)) = true) ∧ (bq cX9_round 8 42 = true) ∧ (bq cX9_round 9 28 = true) ∧ ((bq cX9_round 10 182 && bq cX9_round (10 + 1) 0 && bq cX9_round (10 + 2) 178 && (0 * 256 + 178 == 178)) = true) ∧ ((bq cX9_round 13 153 && bq cX9_round (13 + 1) 0 && bq cX9_round (13 + 2) 20 && (Reader.signed 16 (0 * 256 + 20) == 20)) = true) ∧ (bq cX9_round 16 29 = true) ∧ ((bq cX9_round 17 184 && bq cX9_round (17 + 1) 0 && bq cX9_round (17 + 2) 81 && (0 * 256 + 81 == 81)) = true) ∧ ((bq cX9_round 20 153 && bq cX9_round (20 + 1) 0 && bq cX9_round (20 + 2) 13 && (Reader.signed 16 (0 * 256 + 13) == 13)) = true) ∧ (bq cX9_round 23 42 = true) ∧ (bq cX9_round 24 27 = true) ∧ (bq cX9_round 25 28 = true) ∧ (bq cX9_round 26 29 = true) ∧ ((bq cX9_round 27 182 && bq cX9_round (27 + 1) 0 && bq cX9_round (27 + 2) 220 && (0 * 256 + 220 == 220)) = true) ∧ ((bq cX9_round 30 167 && bq cX9_round (30 + 1) 0 && bq cX9_round (30 + 2) 4 && (Reader.signed 16 (0 * 256 + 4) == 4)) = true) ∧ (bq cX9_round 33 2 = true) ∧ (bq cX9_round 34 172 = true) := by decide +kernel
theorem dX9_round_0 : decode cX9_round 0 = .ok (.aload_n 0, 1) := dr_42  pk_dece_291.1
theorem dX9_round_1 : decode cX9_round 1 = .ok (.iload_n 1, 1) := dr_27  pk_dece_291.2.1
theorem dX9_round_2 : decode cX9_round 2 = .ok (.invokevirtual 178, 3) := dr_182 0 178  pk_dece_291.2.2.1
theorem dX9_round_5 : decode cX9_round 5 = .ok (.ifCond .eq 28, 3) := dr_153 0 28  pk_dece_291.2.2.2.1
theorem dX9_round_8 : decode cX9_round 8 = .ok (.aload_n 0, 1) := dr_42  pk_dece_291.2.2.2.2.1
theorem dX9_round_9 : decode cX9_round 9 = .ok (.iload_n 2, 1) := dr_28  pk_dece_291.2.2.2.2.2.1
theorem dX9_round_10 : decode cX9_round 10 = .ok (.invokevirtual 178, 3) := dr_182 0 178  pk_dece_291.2.2.2.2.2.2.1
theorem dX9_round_13 : decode cX9_round 13 = .ok (.ifCond .eq 20, 3) := dr_153 0 20  pk_dece_291.2.2.2.2.2.2.2.1
theorem dX9_round_16 : decode cX9_round 16 = .ok (.iload_n 3, 1) := dr_29  pk_dece_291.2.2.2.2.2.2.2.2.1
theorem dX9_round_17 : decode cX9_round 17 = .ok (.invokestatic 81, 3) := dr_184 0 81  pk_dece_291.2.2.2.2.2.2.2.2.2.1
theorem dX9_round_20 : decode cX9_round 20 = .ok (.ifCond .eq 13, 3) := dr_153 0 13  pk_dece_291.2.2.2.2.2.2.2.2.2.2.1
theorem dX9_round_23 : decode cX9_round 23 = .ok (.aload_n 0, 1) := dr_42  pk_dece_291.2.2.2.2.2.2.2.2.2.2.2.1
theorem dX9_round_24 : decode cX9_round 24 = .ok (.iload_n 1, 1) := dr_27  pk_dece_291.2.2.2.2.2.2.2.2.2.2.2.2.1
theorem dX9_round_25 : decode cX9_round 25 = .ok (.iload_n 2, 1) := dr_28  pk_dece_291.2.2.2.2.2.2.2.2.2.2.2.2.2.1
theorem dX9_round_26 : decode cX9_round 26 = .ok (.iload_n 3, 1) := dr_29  pk_dece_291.2.2.2.2.2.2.2.2.2.2.2.2.2.2.1
theorem dX9_round_27 : decode cX9_round 27 = .ok (.invokevirtual 220, 3) := dr_182 0 220  pk_dece_291.2.2.2.2.2.2.2.2.2.2.2.2.2.2.2.1
theorem dX9_round_30 : decode cX9_round 30 = .ok (.goto 4, 3) := dr_167 0 4  pk_dece_291.2.2.2.2.2.2.2.2.2.2.2.2.2.2.2.2.1
theorem dX9_round_33 : decode cX9_round 33 = .ok (.iconst (-1), 1) := dr_2  pk_dece_291.2.2.2.2.2.2.2.2.2.2.2.2.2.2.2.2.2.1
theorem dX9_round_34 : decode cX9_round 34 = .ok (.ireturn, 1) := dr_172  pk_dece_291.2.2.2.2.2.2.2.2.2.2.2.2.2.2.2.2.2.2
set_option maxRecDepth 20000 in
theorem pk_dece_292 : (bq cX9_hides 0 42 = true) ∧ (bq cX9_hides 1 27 = true) ∧ ((bq cX9_hides 2 182 && bq cX9_hides (2 + 1) 0 && bq cX9_hides (2 + 2) 178 && (0 * 256 + 178 == 178)) = true) ∧ ((bq cX9_hides 5 153 && bq cX9_hides (5 + 1) 0 && bq cX9_hides (5 + 2) 18 && (Reader.signed 16 (0 * 256 + 18) == 18)) = true) ∧ (bq cX9_hides 8 42 = true) ∧ (bq cX9_hides 9 28 = true) ∧ ((bq cX9_hides 10 182 && bq cX9_hides (10 + 1) 0 && bq cX9_hides (10 + 2) 178 && (0 * 256 + 178 == 178)) = true) ∧ ((bq cX9_hides 13 153 && bq cX9_hides (13 + 1) 0 && bq cX9_hides (13 + 2) 10 && (Reader.signed 16 (0 * 256 + 10) == 10)) = true) ∧ (bq cX9_hides 16 29 = true) ∧ ((bq cX9_hides 17 184 && bq cX9_hides (17 + 1) 0 && bq cX9_hides (17 + 2) 81 && (0 * 256 + 81 == 81)) = true) ∧ ((bq cX9_hides 20 154 && bq cX9_hides (20 + 1) 0 && bq cX9_hides (20 + 2) 5 && (Reader.signed 16 (0 * 256 + 5) == 5)) = true) ∧ (bq cX9_hides 23 2 = true) ∧ (bq cX9_hides 24 172 = true) ∧ (bq cX9_hides 25 42 = true) ∧ (bq cX9_hides 26 27 = true) ∧ (bq cX9_hides 27 28 = true) ∧ (bq cX9_hides 28 29 = true) ∧ ((bq cX9_hides 29 182 && bq cX9_hides (29 + 1) 0 && bq cX9_hides (29 + 2) 220 && (0 * 256 + 220 == 220)) = true) ∧ ((bq cX9_hides 32 54 && bq cX9_hides (32 + 1) 4) = true) ∧ ((bq cX9_hides 34 21 && bq cX9_hides (34 + 1) 4) = true) ∧ ((bq cX9_hides 36 156 && bq cX9_hides (36 + 1) 0 && bq cX9_hides (36 + 2) 8 && (Reader.signed 16 (0 * 256 + 8) == 8)) = true) ∧ ((bq cX9_hides 39 16 && bq cX9_hides (39 + 1) 254 && (Reader.signed 8 254 == (-2))) = true) ∧ ((bq cX9_hides 41 167 && bq cX9_hides (41 + 1) 0 && bq cX9_hides (41 + 2) 23 && (Reader.signed 16 (0 * 256 + 23) == 23)) = true) ∧ ((bq cX9_hides 44 21 && bq cX9_hides (44 + 1) 4) = true) ∧ ((bq cX9_hides 46 158 && bq cX9_hides (46 + 1) 0 && bq cX9_hides (46 + 2) 17 && (Reader.signed 16 (0 * 256 + 17) == 17)) = true) ∧ (bq cX9_hides 49 42 = true) ∧ (bq cX9_hides 50 27 = true) ∧ ((bq cX9_hides 51 16 && bq cX9_hides (51 + 1) 12 && (Reader.signed 8 12 == 12)) = true) ∧ ((bq cX9_hides 53 182 && bq cX9_hides (53 + 1) 0 && bq cX9_hides (53 + 2) 214 && (0 * 256 + 214 == 214)) = true) ∧ ((bq cX9_hides 56 154 && bq cX9_hides (56 + 1) 0 && bq cX9_hides (56 + 2) 7 && (Reader.signed 16 (0 * 256 + 7) == 7)) = true) ∧ (bq cX9_hides 59 4 = true) ∧ ((bq cX9_hides 60 167 && bq cX9_hides (60 + 1) 0 && bq cX9_hides (60 + 2) 4 && (Reader.signed 16 (0 * 256 + 4) == 4)) = true) := by decide +kernel
theorem dX9_hides_0 : decode cX9_hides 0 = .ok (.aload_n 0, 1) := dr_42  pk_dece_292.1
theorem dX9_hides_1 : decode cX9_hides 1 = .ok (.iload_n 1, 1) := dr_27  pk_dece_292.2.1
theorem dX9_hides_2 : decode cX9_hides 2 = .ok (.invokevirtual 178, 3) := dr_182 0 178  pk_dece_292.2.2.1
theorem dX9_hides_5 : decode cX9_hides 5 = .ok (.ifCond .eq 18, 3) := dr_153 0 18  pk_dece_292.2.2.2.1
theorem dX9_hides_8 : decode cX9_hides 8 = .ok (.aload_n 0, 1) := dr_42  pk_dece_292.2.2.2.2.1
theorem dX9_hides_9 : decode cX9_hides 9 = .ok (.iload_n 2, 1) := dr_28  pk_dece_292.2.2.2.2.2.1
theorem dX9_hides_10 : decode cX9_hides 10 = .ok (.invokevirtual 178, 3) := dr_182 0 178  pk_dece_292.2.2.2.2.2.2.1
theorem dX9_hides_13 : decode cX9_hides 13 = .ok (.ifCond .eq 10, 3) := dr_153 0 10  pk_dece_292.2.2.2.2.2.2.2.1
theorem dX9_hides_16 : decode cX9_hides 16 = .ok (.iload_n 3, 1) := dr_29  pk_dece_292.2.2.2.2.2.2.2.2.1
theorem dX9_hides_17 : decode cX9_hides 17 = .ok (.invokestatic 81, 3) := dr_184 0 81  pk_dece_292.2.2.2.2.2.2.2.2.2.1
theorem dX9_hides_20 : decode cX9_hides 20 = .ok (.ifCond .ne 5, 3) := dr_154 0 5  pk_dece_292.2.2.2.2.2.2.2.2.2.2.1
theorem dX9_hides_23 : decode cX9_hides 23 = .ok (.iconst (-1), 1) := dr_2  pk_dece_292.2.2.2.2.2.2.2.2.2.2.2.1
theorem dX9_hides_24 : decode cX9_hides 24 = .ok (.ireturn, 1) := dr_172  pk_dece_292.2.2.2.2.2.2.2.2.2.2.2.2.1
theorem dX9_hides_25 : decode cX9_hides 25 = .ok (.aload_n 0, 1) := dr_42  pk_dece_292.2.2.2.2.2.2.2.2.2.2.2.2.2.1
theorem dX9_hides_26 : decode cX9_hides 26 = .ok (.iload_n 1, 1) := dr_27  pk_dece_292.2.2.2.2.2.2.2.2.2.2.2.2.2.2.1
theorem dX9_hides_27 : decode cX9_hides 27 = .ok (.iload_n 2, 1) := dr_28  pk_dece_292.2.2.2.2.2.2.2.2.2.2.2.2.2.2.2.1
theorem dX9_hides_28 : decode cX9_hides 28 = .ok (.iload_n 3, 1) := dr_29  pk_dece_292.2.2.2.2.2.2.2.2.2.2.2.2.2.2.2.2.1
theorem dX9_hides_29 : decode cX9_hides 29 = .ok (.invokevirtual 220, 3) := dr_182 0 220  pk_dece_292.2.2.2.2.2.2.2.2.2.2.2.2.2.2.2.2.2.1
theorem dX9_hides_32 : decode cX9_hides 32 = .ok (.istore 4, 2) := dr_54  pk_dece_292.2.2.2.2.2.2.2.2.2.2.2.2.2.2.2.2.2.2.1
theorem dX9_hides_34 : decode cX9_hides 34 = .ok (.iload 4, 2) := dr_21  pk_dece_292.2.2.2.2.2.2.2.2.2.2.2.2.2.2.2.2.2.2.2.1
theorem dX9_hides_36 : decode cX9_hides 36 = .ok (.ifCond .ge 8, 3) := dr_156 0 8  pk_dece_292.2.2.2.2.2.2.2.2.2.2.2.2.2.2.2.2.2.2.2.2.1
theorem dX9_hides_39 : decode cX9_hides 39 = .ok (.bipush (-2), 2) := dr_16 254  pk_dece_292.2.2.2.2.2.2.2.2.2.2.2.2.2.2.2.2.2.2.2.2.2.1
theorem dX9_hides_41 : decode cX9_hides 41 = .ok (.goto 23, 3) := dr_167 0 23  pk_dece_292.2.2.2.2.2.2.2.2.2.2.2.2.2.2.2.2.2.2.2.2.2.2.1
theorem dX9_hides_44 : decode cX9_hides 44 = .ok (.iload 4, 2) := dr_21  pk_dece_292.2.2.2.2.2.2.2.2.2.2.2.2.2.2.2.2.2.2.2.2.2.2.2.1
theorem dX9_hides_46 : decode cX9_hides 46 = .ok (.ifCond .le 17, 3) := dr_158 0 17  pk_dece_292.2.2.2.2.2.2.2.2.2.2.2.2.2.2.2.2.2.2.2.2.2.2.2.2.1
theorem dX9_hides_49 : decode cX9_hides 49 = .ok (.aload_n 0, 1) := dr_42  pk_dece_292.2.2.2.2.2.2.2.2.2.2.2.2.2.2.2.2.2.2.2.2.2.2.2.2.2.1
theorem dX9_hides_50 : decode cX9_hides 50 = .ok (.iload_n 1, 1) := dr_27  pk_dece_292.2.2.2.2.2.2.2.2.2.2.2.2.2.2.2.2.2.2.2.2.2.2.2.2.2.2.1
theorem dX9_hides_51 : decode cX9_hides 51 = .ok (.bipush 12, 2) := dr_16 12  pk_dece_292.2.2.2.2.2.2.2.2.2.2.2.2.2.2.2.2.2.2.2.2.2.2.2.2.2.2.2.1
theorem dX9_hides_53 : decode cX9_hides 53 = .ok (.invokevirtual 214, 3) := dr_182 0 214  pk_dece_292.2.2.2.2.2.2.2.2.2.2.2.2.2.2.2.2.2.2.2.2.2.2.2.2.2.2.2.2.1
theorem dX9_hides_56 : decode cX9_hides 56 = .ok (.ifCond .ne 7, 3) := dr_154 0 7  pk_dece_292.2.2.2.2.2.2.2.2.2.2.2.2.2.2.2.2.2.2.2.2.2.2.2.2.2.2.2.2.2.1
theorem dX9_hides_59 : decode cX9_hides 59 = .ok (.iconst 1, 1) := dr_4  pk_dece_292.2.2.2.2.2.2.2.2.2.2.2.2.2.2.2.2.2.2.2.2.2.2.2.2.2.2.2.2.2.2.1
theorem dX9_hides_60 : decode cX9_hides 60 = .ok (.goto 4, 3) := dr_167 0 4  pk_dece_292.2.2.2.2.2.2.2.2.2.2.2.2.2.2.2.2.2.2.2.2.2.2.2.2.2.2.2.2.2.2.2
set_option maxRecDepth 20000 in
theorem pk_dece_293 : (bq cX9_hides 63 3 = true) ∧ (bq cX9_hides 64 172 = true) := by decide +kernel
theorem dX9_hides_63 : decode cX9_hides 63 = .ok (.iconst 0, 1) := dr_3  pk_dece_293.1
theorem dX9_hides_64 : decode cX9_hides 64 = .ok (.ireturn, 1) := dr_172  pk_dece_293.2
set_option maxRecDepth 20000 in
theorem pk_dece_294 : (bq cX9_check 0 42 = true) ∧ (bq cX9_check 1 27 = true) ∧ ((bq cX9_check 2 182 && bq cX9_check (2 + 1) 0 && bq cX9_check (2 + 2) 178 && (0 * 256 + 178 == 178)) = true) ∧ ((bq cX9_check 5 153 && bq cX9_check (5 + 1) 0 && bq cX9_check (5 + 2) 12 && (Reader.signed 16 (0 * 256 + 12) == 12)) = true) ∧ (bq cX9_check 8 28 = true) ∧ (bq cX9_check 9 3 = true) ∧ (bq cX9_check 10 4 = true) ∧ ((bq cX9_check 11 184 && bq cX9_check (11 + 1) 0 && bq cX9_check (11 + 2) 75 && (0 * 256 + 75 == 75)) = true) ∧ ((bq cX9_check 14 154 && bq cX9_check (14 + 1) 0 && bq cX9_check (14 + 2) 5 && (Reader.signed 16 (0 * 256 + 5) == 5)) = true) ∧ (bq cX9_check 17 2 = true) ∧ (bq cX9_check 18 172 = true) ∧ (bq cX9_check 19 42 = true) ∧ ((bq cX9_check 20 180 && bq cX9_check (20 + 1) 0 && bq cX9_check (20 + 2) 29 && (0 * 256 + 29 == 29)) = true) ∧ (bq cX9_check 23 27 = true) ∧ (bq cX9_check 24 46 = true) ∧ ((bq cX9_check 25 153 && bq cX9_check (25 + 1) 0 && bq cX9_check (25 + 2) 6 && (Reader.signed 16 (0 * 256 + 6) == 6)) = true) ∧ ((bq cX9_check 28 16 && bq cX9_check (28 + 1) 254 && (Reader.signed 8 254 == (-2))) = true) ∧ (bq cX9_check 30 172 = true) ∧ (bq cX9_check 31 42 = true) ∧ ((bq cX9_check 32 180 && bq cX9_check (32 + 1) 0 && bq cX9_check (32 + 2) 38 && (0 * 256 + 38 == 38)) = true) ∧ (bq cX9_check 35 27 = true) ∧ (bq cX9_check 36 46 = true) ∧ (bq cX9_check 37 62 = true) ∧ (bq cX9_check 38 42 = true) ∧ ((bq cX9_check 39 180 && bq cX9_check (39 + 1) 0 && bq cX9_check (39 + 2) 38 && (0 * 256 + 38 == 38)) = true) ∧ (bq cX9_check 42 27 = true) ∧ (bq cX9_check 43 28 = true) ∧ (bq cX9_check 44 79 = true) ∧ (bq cX9_check 45 29 = true) ∧ (bq cX9_check 46 172 = true) := by decide +kernel
theorem dX9_check_0 : decode cX9_check 0 = .ok (.aload_n 0, 1) := dr_42  pk_dece_294.1
theorem dX9_check_1 : decode cX9_check 1 = .ok (.iload_n 1, 1) := dr_27  pk_dece_294.2.1
theorem dX9_check_2 : decode cX9_check 2 = .ok (.invokevirtual 178, 3) := dr_182 0 178  pk_dece_294.2.2.1
theorem dX9_check_5 : decode cX9_check 5 = .ok (.ifCond .eq 12, 3) := dr_153 0 12  pk_dece_294.2.2.2.1
theorem dX9_check_8 : decode cX9_check 8 = .ok (.iload_n 2, 1) := dr_28  pk_dece_294.2.2.2.2.1
theorem dX9_check_9 : decode cX9_check 9 = .ok (.iconst 0, 1) := dr_3  pk_dece_294.2.2.2.2.2.1
theorem dX9_check_10 : decode cX9_check 10 = .ok (.iconst 1, 1) := dr_4  pk_dece_294.2.2.2.2.2.2.1
theorem dX9_check_11 : decode cX9_check 11 = .ok (.invokestatic 75, 3) := dr_184 0 75  pk_dece_294.2.2.2.2.2.2.2.1
theorem dX9_check_14 : decode cX9_check 14 = .ok (.ifCond .ne 5, 3) := dr_154 0 5  pk_dece_294.2.2.2.2.2.2.2.2.1
theorem dX9_check_17 : decode cX9_check 17 = .ok (.iconst (-1), 1) := dr_2  pk_dece_294.2.2.2.2.2.2.2.2.2.1
theorem dX9_check_18 : decode cX9_check 18 = .ok (.ireturn, 1) := dr_172  pk_dece_294.2.2.2.2.2.2.2.2.2.2.1
theorem dX9_check_19 : decode cX9_check 19 = .ok (.aload_n 0, 1) := dr_42  pk_dece_294.2.2.2.2.2.2.2.2.2.2.2.1
theorem dX9_check_20 : decode cX9_check 20 = .ok (.getfield 29, 3) := dr_180 0 29  pk_dece_294.2.2.2.2.2.2.2.2.2.2.2.2.1
theorem dX9_check_23 : decode cX9_check 23 = .ok (.iload_n 1, 1) := dr_27  pk_dece_294.2.2.2.2.2.2.2.2.2.2.2.2.2.1
theorem dX9_check_24 : decode cX9_check 24 = .ok (.iaload, 1) := dr_46  pk_dece_294.2.2.2.2.2.2.2.2.2.2.2.2.2.2.1
theorem dX9_check_25 : decode cX9_check 25 = .ok (.ifCond .eq 6, 3) := dr_153 0 6  pk_dece_294.2.2.2.2.2.2.2.2.2.2.2.2.2.2.2.1
theorem dX9_check_28 : decode cX9_check 28 = .ok (.bipush (-2), 2) := dr_16 254  pk_dece_294.2.2.2.2.2.2.2.2.2.2.2.2.2.2.2.2.1
theorem dX9_check_30 : decode cX9_check 30 = .ok (.ireturn, 1) := dr_172  pk_dece_294.2.2.2.2.2.2.2.2.2.2.2.2.2.2.2.2.2.1
theorem dX9_check_31 : decode cX9_check 31 = .ok (.aload_n 0, 1) := dr_42  pk_dece_294.2.2.2.2.2.2.2.2.2.2.2.2.2.2.2.2.2.2.1
theorem dX9_check_32 : decode cX9_check 32 = .ok (.getfield 38, 3) := dr_180 0 38  pk_dece_294.2.2.2.2.2.2.2.2.2.2.2.2.2.2.2.2.2.2.2.1
theorem dX9_check_35 : decode cX9_check 35 = .ok (.iload_n 1, 1) := dr_27  pk_dece_294.2.2.2.2.2.2.2.2.2.2.2.2.2.2.2.2.2.2.2.2.1
theorem dX9_check_36 : decode cX9_check 36 = .ok (.iaload, 1) := dr_46  pk_dece_294.2.2.2.2.2.2.2.2.2.2.2.2.2.2.2.2.2.2.2.2.2.1
theorem dX9_check_37 : decode cX9_check 37 = .ok (.istore_n 3, 1) := dr_62  pk_dece_294.2.2.2.2.2.2.2.2.2.2.2.2.2.2.2.2.2.2.2.2.2.2.1
theorem dX9_check_38 : decode cX9_check 38 = .ok (.aload_n 0, 1) := dr_42  pk_dece_294.2.2.2.2.2.2.2.2.2.2.2.2.2.2.2.2.2.2.2.2.2.2.2.1
theorem dX9_check_39 : decode cX9_check 39 = .ok (.getfield 38, 3) := dr_180 0 38  pk_dece_294.2.2.2.2.2.2.2.2.2.2.2.2.2.2.2.2.2.2.2.2.2.2.2.2.1
theorem dX9_check_42 : decode cX9_check 42 = .ok (.iload_n 1, 1) := dr_27  pk_dece_294.2.2.2.2.2.2.2.2.2.2.2.2.2.2.2.2.2.2.2.2.2.2.2.2.2.1
theorem dX9_check_43 : decode cX9_check 43 = .ok (.iload_n 2, 1) := dr_28  pk_dece_294.2.2.2.2.2.2.2.2.2.2.2.2.2.2.2.2.2.2.2.2.2.2.2.2.2.2.1
theorem dX9_check_44 : decode cX9_check 44 = .ok (.iastore, 1) := dr_79  pk_dece_294.2.2.2.2.2.2.2.2.2.2.2.2.2.2.2.2.2.2.2.2.2.2.2.2.2.2.2.1
theorem dX9_check_45 : decode cX9_check 45 = .ok (.iload_n 3, 1) := dr_29  pk_dece_294.2.2.2.2.2.2.2.2.2.2.2.2.2.2.2.2.2.2.2.2.2.2.2.2.2.2.2.2.1
theorem dX9_check_46 : decode cX9_check 46 = .ok (.ireturn, 1) := dr_172  pk_dece_294.2.2.2.2.2.2.2.2.2.2.2.2.2.2.2.2.2.2.2.2.2.2.2.2.2.2.2.2.2
set_option maxRecDepth 20000 in
theorem pk_dece_295 : (bq cX9_lengthOf 0 3 = true) ∧ (bq cX9_lengthOf 1 61 = true) ∧ (bq cX9_lengthOf 2 27 = true) ∧ (bq cX9_lengthOf 3 62 = true) ∧ (bq cX9_lengthOf 4 29 = true) ∧ ((bq cX9_lengthOf 5 16 && bq cX9_lengthOf (5 + 1) 247 && (Reader.signed 8 247 == (-9))) = true) ∧ ((bq cX9_lengthOf 7 159 && bq cX9_lengthOf (7 + 1) 0 && bq cX9_lengthOf (7 + 2) 16 && (Reader.signed 16 (0 * 256 + 16) == 16)) = true) := by decide +kernel
theorem dX9_lengthOf_0 : decode cX9_lengthOf 0 = .ok (.iconst 0, 1) := dr_3  pk_dece_295.1
theorem dX9_lengthOf_1 : decode cX9_lengthOf 1 = .ok (.istore_n 2, 1) := dr_61  pk_dece_295.2.1
theorem dX9_lengthOf_2 : decode cX9_lengthOf 2 = .ok (.iload_n 1, 1) := dr_27  pk_dece_295.2.2.1
theorem dX9_lengthOf_3 : decode cX9_lengthOf 3 = .ok (.istore_n 3, 1) := dr_62  pk_dece_295.2.2.2.1
theorem dX9_lengthOf_4 : decode cX9_lengthOf 4 = .ok (.iload_n 3, 1) := dr_29  pk_dece_295.2.2.2.2.1
theorem dX9_lengthOf_5 : decode cX9_lengthOf 5 = .ok (.bipush (-9), 2) := dr_16 247  pk_dece_295.2.2.2.2.2.1
theorem dX9_lengthOf_7 : decode cX9_lengthOf 7 = .ok (.if_icmp .eq 16, 3) := dr_159 0 16  pk_dece_295.2.2.2.2.2.2
theorem dX9_lengthOf_10 : decode cX9_lengthOf 10 = .ok (.iinc 2 1, 3) := by decide +kernel
set_option maxRecDepth 20000 in
theorem pk_dece_296 : (bq cX9_lengthOf 13 42 = true) ∧ ((bq cX9_lengthOf 14 180 && bq cX9_lengthOf (14 + 1) 0 && bq cX9_lengthOf (14 + 2) 35 && (0 * 256 + 35 == 35)) = true) ∧ (bq cX9_lengthOf 17 29 = true) ∧ (bq cX9_lengthOf 18 46 = true) ∧ (bq cX9_lengthOf 19 62 = true) ∧ ((bq cX9_lengthOf 20 167 && bq cX9_lengthOf (20 + 1) 255 && bq cX9_lengthOf (20 + 2) 240 && (Reader.signed 16 (255 * 256 + 240) == (-16))) = true) ∧ (bq cX9_lengthOf 23 28 = true) ∧ (bq cX9_lengthOf 24 172 = true) := by decide +kernel
theorem dX9_lengthOf_13 : decode cX9_lengthOf 13 = .ok (.aload_n 0, 1) := dr_42  pk_dece_296.1
theorem dX9_lengthOf_14 : decode cX9_lengthOf 14 = .ok (.getfield 35, 3) := dr_180 0 35  pk_dece_296.2.1
theorem dX9_lengthOf_17 : decode cX9_lengthOf 17 = .ok (.iload_n 3, 1) := dr_29  pk_dece_296.2.2.1
theorem dX9_lengthOf_18 : decode cX9_lengthOf 18 = .ok (.iaload, 1) := dr_46  pk_dece_296.2.2.2.1
theorem dX9_lengthOf_19 : decode cX9_lengthOf 19 = .ok (.istore_n 3, 1) := dr_62  pk_dece_296.2.2.2.2.1
theorem dX9_lengthOf_20 : decode cX9_lengthOf 20 = .ok (.goto (-16), 3) := dr_167 255 240  pk_dece_296.2.2.2.2.2.1
theorem dX9_lengthOf_23 : decode cX9_lengthOf 23 = .ok (.iload_n 2, 1) := dr_28  pk_dece_296.2.2.2.2.2.2.1
theorem dX9_lengthOf_24 : decode cX9_lengthOf 24 = .ok (.ireturn, 1) := dr_172  pk_dece_296.2.2.2.2.2.2.2
set_option maxRecDepth 20000 in
theorem pk_dece_297 : (bq cX9_last 0 27 = true) ∧ (bq cX9_last 1 61 = true) ∧ (bq cX9_last 2 42 = true) ∧ ((bq cX9_last 3 180 && bq cX9_last (3 + 1) 0 && bq cX9_last (3 + 2) 35 && (0 * 256 + 35 == 35)) = true) ∧ (bq cX9_last 6 28 = true) ∧ (bq cX9_last 7 46 = true) ∧ ((bq cX9_last 8 16 && bq cX9_last (8 + 1) 247 && (Reader.signed 8 247 == (-9))) = true) ∧ ((bq cX9_last 10 159 && bq cX9_last (10 + 1) 0 && bq cX9_last (10 + 2) 13 && (Reader.signed 16 (0 * 256 + 13) == 13)) = true) ∧ (bq cX9_last 13 42 = true) ∧ ((bq cX9_last 14 180 && bq cX9_last (14 + 1) 0 && bq cX9_last (14 + 2) 35 && (0 * 256 + 35 == 35)) = true) ∧ (bq cX9_last 17 28 = true) ∧ (bq cX9_last 18 46 = true) ∧ (bq cX9_last 19 61 = true) ∧ ((bq cX9_last 20 167 && bq cX9_last (20 + 1) 255 && bq cX9_last (20 + 2) 238 && (Reader.signed 16 (255 * 256 + 238) == (-18))) = true) ∧ (bq cX9_last 23 28 = true) ∧ (bq cX9_last 24 172 = true) := by decide +kernel
theorem dX9_last_0 : decode cX9_last 0 = .ok (.iload_n 1, 1) := dr_27  pk_dece_297.1
theorem dX9_last_1 : decode cX9_last 1 = .ok (.istore_n 2, 1) := dr_61  pk_dece_297.2.1
theorem dX9_last_2 : decode cX9_last 2 = .ok (.aload_n 0, 1) := dr_42  pk_dece_297.2.2.1
theorem dX9_last_3 : decode cX9_last 3 = .ok (.getfield 35, 3) := dr_180 0 35  pk_dece_297.2.2.2.1
theorem dX9_last_6 : decode cX9_last 6 = .ok (.iload_n 2, 1) := dr_28  pk_dece_297.2.2.2.2.1
theorem dX9_last_7 : decode cX9_last 7 = .ok (.iaload, 1) := dr_46  pk_dece_297.2.2.2.2.2.1
theorem dX9_last_8 : decode cX9_last 8 = .ok (.bipush (-9), 2) := dr_16 247  pk_dece_297.2.2.2.2.2.2.1
theorem dX9_last_10 : decode cX9_last 10 = .ok (.if_icmp .eq 13, 3) := dr_159 0 13  pk_dece_297.2.2.2.2.2.2.2.1
theorem dX9_last_13 : decode cX9_last 13 = .ok (.aload_n 0, 1) := dr_42  pk_dece_297.2.2.2.2.2.2.2.2.1
theorem dX9_last_14 : decode cX9_last 14 = .ok (.getfield 35, 3) := dr_180 0 35  pk_dece_297.2.2.2.2.2.2.2.2.2.1
theorem dX9_last_17 : decode cX9_last 17 = .ok (.iload_n 2, 1) := dr_28  pk_dece_297.2.2.2.2.2.2.2.2.2.2.1
theorem dX9_last_18 : decode cX9_last 18 = .ok (.iaload, 1) := dr_46  pk_dece_297.2.2.2.2.2.2.2.2.2.2.2.1
theorem dX9_last_19 : decode cX9_last 19 = .ok (.istore_n 2, 1) := dr_61  pk_dece_297.2.2.2.2.2.2.2.2.2.2.2.2.1
theorem dX9_last_20 : decode cX9_last 20 = .ok (.goto (-18), 3) := dr_167 255 238  pk_dece_297.2.2.2.2.2.2.2.2.2.2.2.2.2.1
theorem dX9_last_23 : decode cX9_last 23 = .ok (.iload_n 2, 1) := dr_28  pk_dece_297.2.2.2.2.2.2.2.2.2.2.2.2.2.2.1
theorem dX9_last_24 : decode cX9_last 24 = .ok (.ireturn, 1) := dr_172  pk_dece_297.2.2.2.2.2.2.2.2.2.2.2.2.2.2.2
set_option maxRecDepth 20000 in
theorem pk_dece_298 : (bq cX9_chain 0 42 = true) ∧ (bq cX9_chain 1 27 = true) ∧ ((bq cX9_chain 2 182 && bq cX9_chain (2 + 1) 0 && bq cX9_chain (2 + 2) 178 && (0 * 256 + 178 == 178)) = true) ∧ ((bq cX9_chain 5 153 && bq cX9_chain (5 + 1) 0 && bq cX9_chain (5 + 2) 18 && (Reader.signed 16 (0 * 256 + 18) == 18)) = true) ∧ (bq cX9_chain 8 28 = true) ∧ (bq cX9_chain 9 2 = true) ∧ (bq cX9_chain 10 42 = true) ∧ (bq cX9_chain 11 27 = true) ∧ ((bq cX9_chain 12 182 && bq cX9_chain (12 + 1) 0 && bq cX9_chain (12 + 2) 223 && (0 * 256 + 223 == 223)) = true) ∧ (bq cX9_chain 15 4 = true) ∧ (bq cX9_chain 16 100 = true) ∧ ((bq cX9_chain 17 184 && bq cX9_chain (17 + 1) 0 && bq cX9_chain (17 + 2) 75 && (0 * 256 + 75 == 75)) = true) ∧ ((bq cX9_chain 20 154 && bq cX9_chain (20 + 1) 0 && bq cX9_chain (20 + 2) 5 && (Reader.signed 16 (0 * 256 + 5) == 5)) = true) ∧ (bq cX9_chain 23 2 = true) ∧ (bq cX9_chain 24 172 = true) ∧ (bq cX9_chain 25 27 = true) ∧ (bq cX9_chain 26 62 = true) ∧ (bq cX9_chain 27 3 = true) ∧ ((bq cX9_chain 28 54 && bq cX9_chain (28 + 1) 4) = true) ∧ ((bq cX9_chain 30 21 && bq cX9_chain (30 + 1) 4) = true) ∧ (bq cX9_chain 32 28 = true) ∧ ((bq cX9_chain 33 162 && bq cX9_chain (33 + 1) 0 && bq cX9_chain (33 + 2) 16 && (Reader.signed 16 (0 * 256 + 16) == 16)) = true) ∧ (bq cX9_chain 36 42 = true) ∧ ((bq cX9_chain 37 180 && bq cX9_chain (37 + 1) 0 && bq cX9_chain (37 + 2) 35 && (0 * 256 + 35 == 35)) = true) ∧ (bq cX9_chain 40 29 = true) ∧ (bq cX9_chain 41 46 = true) ∧ (bq cX9_chain 42 62 = true) := by decide +kernel
theorem dX9_chain_0 : decode cX9_chain 0 = .ok (.aload_n 0, 1) := dr_42  pk_dece_298.1
theorem dX9_chain_1 : decode cX9_chain 1 = .ok (.iload_n 1, 1) := dr_27  pk_dece_298.2.1
theorem dX9_chain_2 : decode cX9_chain 2 = .ok (.invokevirtual 178, 3) := dr_182 0 178  pk_dece_298.2.2.1
theorem dX9_chain_5 : decode cX9_chain 5 = .ok (.ifCond .eq 18, 3) := dr_153 0 18  pk_dece_298.2.2.2.1
theorem dX9_chain_8 : decode cX9_chain 8 = .ok (.iload_n 2, 1) := dr_28  pk_dece_298.2.2.2.2.1
theorem dX9_chain_9 : decode cX9_chain 9 = .ok (.iconst (-1), 1) := dr_2  pk_dece_298.2.2.2.2.2.1
theorem dX9_chain_10 : decode cX9_chain 10 = .ok (.aload_n 0, 1) := dr_42  pk_dece_298.2.2.2.2.2.2.1
theorem dX9_chain_11 : decode cX9_chain 11 = .ok (.iload_n 1, 1) := dr_27  pk_dece_298.2.2.2.2.2.2.2.1
theorem dX9_chain_12 : decode cX9_chain 12 = .ok (.invokevirtual 223, 3) := dr_182 0 223  pk_dece_298.2.2.2.2.2.2.2.2.1
theorem dX9_chain_15 : decode cX9_chain 15 = .ok (.iconst 1, 1) := dr_4  pk_dece_298.2.2.2.2.2.2.2.2.2.1
theorem dX9_chain_16 : decode cX9_chain 16 = .ok (.isub, 1) := dr_100  pk_dece_298.2.2.2.2.2.2.2.2.2.2.1
theorem dX9_chain_17 : decode cX9_chain 17 = .ok (.invokestatic 75, 3) := dr_184 0 75  pk_dece_298.2.2.2.2.2.2.2.2.2.2.2.1
theorem dX9_chain_20 : decode cX9_chain 20 = .ok (.ifCond .ne 5, 3) := dr_154 0 5  pk_dece_298.2.2.2.2.2.2.2.2.2.2.2.2.1
theorem dX9_chain_23 : decode cX9_chain 23 = .ok (.iconst (-1), 1) := dr_2  pk_dece_298.2.2.2.2.2.2.2.2.2.2.2.2.2.1
theorem dX9_chain_24 : decode cX9_chain 24 = .ok (.ireturn, 1) := dr_172  pk_dece_298.2.2.2.2.2.2.2.2.2.2.2.2.2.2.1
theorem dX9_chain_25 : decode cX9_chain 25 = .ok (.iload_n 1, 1) := dr_27  pk_dece_298.2.2.2.2.2.2.2.2.2.2.2.2.2.2.2.1
theorem dX9_chain_26 : decode cX9_chain 26 = .ok (.istore_n 3, 1) := dr_62  pk_dece_298.2.2.2.2.2.2.2.2.2.2.2.2.2.2.2.2.1
theorem dX9_chain_27 : decode cX9_chain 27 = .ok (.iconst 0, 1) := dr_3  pk_dece_298.2.2.2.2.2.2.2.2.2.2.2.2.2.2.2.2.2.1
theorem dX9_chain_28 : decode cX9_chain 28 = .ok (.istore 4, 2) := dr_54  pk_dece_298.2.2.2.2.2.2.2.2.2.2.2.2.2.2.2.2.2.2.1
theorem dX9_chain_30 : decode cX9_chain 30 = .ok (.iload 4, 2) := dr_21  pk_dece_298.2.2.2.2.2.2.2.2.2.2.2.2.2.2.2.2.2.2.2.1
theorem dX9_chain_32 : decode cX9_chain 32 = .ok (.iload_n 2, 1) := dr_28  pk_dece_298.2.2.2.2.2.2.2.2.2.2.2.2.2.2.2.2.2.2.2.2.1
theorem dX9_chain_33 : decode cX9_chain 33 = .ok (.if_icmp .ge 16, 3) := dr_162 0 16  pk_dece_298.2.2.2.2.2.2.2.2.2.2.2.2.2.2.2.2.2.2.2.2.2.1
theorem dX9_chain_36 : decode cX9_chain 36 = .ok (.aload_n 0, 1) := dr_42  pk_dece_298.2.2.2.2.2.2.2.2.2.2.2.2.2.2.2.2.2.2.2.2.2.2.1
theorem dX9_chain_37 : decode cX9_chain 37 = .ok (.getfield 35, 3) := dr_180 0 35  pk_dece_298.2.2.2.2.2.2.2.2.2.2.2.2.2.2.2.2.2.2.2.2.2.2.2.1
theorem dX9_chain_40 : decode cX9_chain 40 = .ok (.iload_n 3, 1) := dr_29  pk_dece_298.2.2.2.2.2.2.2.2.2.2.2.2.2.2.2.2.2.2.2.2.2.2.2.2.1
theorem dX9_chain_41 : decode cX9_chain 41 = .ok (.iaload, 1) := dr_46  pk_dece_298.2.2.2.2.2.2.2.2.2.2.2.2.2.2.2.2.2.2.2.2.2.2.2.2.2.1
theorem dX9_chain_42 : decode cX9_chain 42 = .ok (.istore_n 3, 1) := dr_62  pk_dece_298.2.2.2.2.2.2.2.2.2.2.2.2.2.2.2.2.2.2.2.2.2.2.2.2.2.2
theorem dX9_chain_43 : decode cX9_chain 43 = .ok (.iinc 4 1, 3) := by decide +kernel
set_option maxRecDepth 20000 in
theorem pk_dece_299 : ((bq cX9_chain 46 167 && bq cX9_chain (46 + 1) 255 && bq cX9_chain (46 + 2) 240 && (Reader.signed 16 (255 * 256 + 240) == (-16))) = true) ∧ (bq cX9_chain 49 28 = true) ∧ ((bq cX9_chain 50 156 && bq cX9_chain (50 + 1) 0 && bq cX9_chain (50 + 2) 11 && (Reader.signed 16 (0 * 256 + 11) == 11)) = true) ∧ (bq cX9_chain 53 42 = true) ∧ (bq cX9_chain 54 27 = true) ∧ ((bq cX9_chain 55 182 && bq cX9_chain (55 + 1) 0 && bq cX9_chain (55 + 2) 223 && (0 * 256 + 223 == 223)) = true) ∧ ((bq cX9_chain 58 167 && bq cX9_chain (58 + 1) 0 && bq cX9_chain (58 + 2) 4 && (Reader.signed 16 (0 * 256 + 4) == 4)) = true) ∧ (bq cX9_chain 61 29 = true) ∧ (bq cX9_chain 62 172 = true) := by decide +kernel
theorem dX9_chain_46 : decode cX9_chain 46 = .ok (.goto (-16), 3) := dr_167 255 240  pk_dece_299.1
theorem dX9_chain_49 : decode cX9_chain 49 = .ok (.iload_n 2, 1) := dr_28  pk_dece_299.2.1
theorem dX9_chain_50 : decode cX9_chain 50 = .ok (.ifCond .ge 11, 3) := dr_156 0 11  pk_dece_299.2.2.1
theorem dX9_chain_53 : decode cX9_chain 53 = .ok (.aload_n 0, 1) := dr_42  pk_dece_299.2.2.2.1
theorem dX9_chain_54 : decode cX9_chain 54 = .ok (.iload_n 1, 1) := dr_27  pk_dece_299.2.2.2.2.1
theorem dX9_chain_55 : decode cX9_chain 55 = .ok (.invokevirtual 223, 3) := dr_182 0 223  pk_dece_299.2.2.2.2.2.1
theorem dX9_chain_58 : decode cX9_chain 58 = .ok (.goto 4, 3) := dr_167 0 4  pk_dece_299.2.2.2.2.2.2.1
theorem dX9_chain_61 : decode cX9_chain 61 = .ok (.iload_n 3, 1) := dr_29  pk_dece_299.2.2.2.2.2.2.2.1
theorem dX9_chain_62 : decode cX9_chain 62 = .ok (.ireturn, 1) := dr_172  pk_dece_299.2.2.2.2.2.2.2.2
set_option maxRecDepth 20000 in
theorem pk_dece_300 : (bq cX9_sealedOnes 0 42 = true) ∧ ((bq cX9_sealedOnes 1 182 && bq cX9_sealedOnes (1 + 1) 0 && bq cX9_sealedOnes (1 + 2) 226 && (0 * 256 + 226 == 226)) = true) ∧ (bq cX9_sealedOnes 4 60 = true) ∧ (bq cX9_sealedOnes 5 3 = true) ∧ (bq cX9_sealedOnes 6 61 = true) ∧ (bq cX9_sealedOnes 7 3 = true) ∧ (bq cX9_sealedOnes 8 62 = true) ∧ (bq cX9_sealedOnes 9 29 = true) ∧ (bq cX9_sealedOnes 10 42 = true) ∧ ((bq cX9_sealedOnes 11 180 && bq cX9_sealedOnes (11 + 1) 0 && bq cX9_sealedOnes (11 + 2) 85 && (0 * 256 + 85 == 85)) = true) ∧ ((bq cX9_sealedOnes 14 162 && bq cX9_sealedOnes (14 + 1) 0 && bq cX9_sealedOnes (14 + 2) 41 && (Reader.signed 16 (0 * 256 + 41) == 41)) = true) ∧ (bq cX9_sealedOnes 17 28 = true) ∧ (bq cX9_sealedOnes 18 27 = true) ∧ (bq cX9_sealedOnes 19 29 = true) ∧ (bq cX9_sealedOnes 20 122 = true) ∧ (bq cX9_sealedOnes 21 4 = true) ∧ (bq cX9_sealedOnes 22 126 = true) ∧ ((bq cX9_sealedOnes 23 154 && bq cX9_sealedOnes (23 + 1) 0 && bq cX9_sealedOnes (23 + 2) 23 && (Reader.signed 16 (0 * 256 + 23) == 23)) = true) ∧ (bq cX9_sealedOnes 26 42 = true) ∧ ((bq cX9_sealedOnes 27 180 && bq cX9_sealedOnes (27 + 1) 0 && bq cX9_sealedOnes (27 + 2) 38 && (0 * 256 + 38 == 38)) = true) ∧ (bq cX9_sealedOnes 30 42 = true) ∧ (bq cX9_sealedOnes 31 29 = true) ∧ ((bq cX9_sealedOnes 32 182 && bq cX9_sealedOnes (32 + 1) 0 && bq cX9_sealedOnes (32 + 2) 229 && (0 * 256 + 229 == 229)) = true) ∧ (bq cX9_sealedOnes 35 46 = true) ∧ (bq cX9_sealedOnes 36 4 = true) ∧ ((bq cX9_sealedOnes 37 160 && bq cX9_sealedOnes (37 + 1) 0 && bq cX9_sealedOnes (37 + 2) 9 && (Reader.signed 16 (0 * 256 + 9) == 9)) = true) ∧ (bq cX9_sealedOnes 40 4 = true) ∧ (bq cX9_sealedOnes 41 29 = true) ∧ (bq cX9_sealedOnes 42 120 = true) ∧ ((bq cX9_sealedOnes 43 167 && bq cX9_sealedOnes (43 + 1) 0 && bq cX9_sealedOnes (43 + 2) 4 && (Reader.signed 16 (0 * 256 + 4) == 4)) = true) ∧ (bq cX9_sealedOnes 46 3 = true) ∧ (bq cX9_sealedOnes 47 128 = true) := by decide +kernel
theorem dX9_sealedOnes_0 : decode cX9_sealedOnes 0 = .ok (.aload_n 0, 1) := dr_42  pk_dece_300.1
theorem dX9_sealedOnes_1 : decode cX9_sealedOnes 1 = .ok (.invokevirtual 226, 3) := dr_182 0 226  pk_dece_300.2.1
theorem dX9_sealedOnes_4 : decode cX9_sealedOnes 4 = .ok (.istore_n 1, 1) := dr_60  pk_dece_300.2.2.1
theorem dX9_sealedOnes_5 : decode cX9_sealedOnes 5 = .ok (.iconst 0, 1) := dr_3  pk_dece_300.2.2.2.1
theorem dX9_sealedOnes_6 : decode cX9_sealedOnes 6 = .ok (.istore_n 2, 1) := dr_61  pk_dece_300.2.2.2.2.1
theorem dX9_sealedOnes_7 : decode cX9_sealedOnes 7 = .ok (.iconst 0, 1) := dr_3  pk_dece_300.2.2.2.2.2.1
theorem dX9_sealedOnes_8 : decode cX9_sealedOnes 8 = .ok (.istore_n 3, 1) := dr_62  pk_dece_300.2.2.2.2.2.2.1
theorem dX9_sealedOnes_9 : decode cX9_sealedOnes 9 = .ok (.iload_n 3, 1) := dr_29  pk_dece_300.2.2.2.2.2.2.2.1
theorem dX9_sealedOnes_10 : decode cX9_sealedOnes 10 = .ok (.aload_n 0, 1) := dr_42  pk_dece_300.2.2.2.2.2.2.2.2.1
theorem dX9_sealedOnes_11 : decode cX9_sealedOnes 11 = .ok (.getfield 85, 3) := dr_180 0 85  pk_dece_300.2.2.2.2.2.2.2.2.2.1
theorem dX9_sealedOnes_14 : decode cX9_sealedOnes 14 = .ok (.if_icmp .ge 41, 3) := dr_162 0 41  pk_dece_300.2.2.2.2.2.2.2.2.2.2.1
theorem dX9_sealedOnes_17 : decode cX9_sealedOnes 17 = .ok (.iload_n 2, 1) := dr_28  pk_dece_300.2.2.2.2.2.2.2.2.2.2.2.1
theorem dX9_sealedOnes_18 : decode cX9_sealedOnes 18 = .ok (.iload_n 1, 1) := dr_27  pk_dece_300.2.2.2.2.2.2.2.2.2.2.2.2.1
theorem dX9_sealedOnes_19 : decode cX9_sealedOnes 19 = .ok (.iload_n 3, 1) := dr_29  pk_dece_300.2.2.2.2.2.2.2.2.2.2.2.2.2.1
theorem dX9_sealedOnes_20 : decode cX9_sealedOnes 20 = .ok (.ishr, 1) := dr_122  pk_dece_300.2.2.2.2.2.2.2.2.2.2.2.2.2.2.1
theorem dX9_sealedOnes_21 : decode cX9_sealedOnes 21 = .ok (.iconst 1, 1) := dr_4  pk_dece_300.2.2.2.2.2.2.2.2.2.2.2.2.2.2.2.1
theorem dX9_sealedOnes_22 : decode cX9_sealedOnes 22 = .ok (.iand, 1) := dr_126  pk_dece_300.2.2.2.2.2.2.2.2.2.2.2.2.2.2.2.2.1
theorem dX9_sealedOnes_23 : decode cX9_sealedOnes 23 = .ok (.ifCond .ne 23, 3) := dr_154 0 23  pk_dece_300.2.2.2.2.2.2.2.2.2.2.2.2.2.2.2.2.2.1
theorem dX9_sealedOnes_26 : decode cX9_sealedOnes 26 = .ok (.aload_n 0, 1) := dr_42  pk_dece_300.2.2.2.2.2.2.2.2.2.2.2.2.2.2.2.2.2.2.1
theorem dX9_sealedOnes_27 : decode cX9_sealedOnes 27 = .ok (.getfield 38, 3) := dr_180 0 38  pk_dece_300.2.2.2.2.2.2.2.2.2.2.2.2.2.2.2.2.2.2.2.1
theorem dX9_sealedOnes_30 : decode cX9_sealedOnes 30 = .ok (.aload_n 0, 1) := dr_42  pk_dece_300.2.2.2.2.2.2.2.2.2.2.2.2.2.2.2.2.2.2.2.2.1
theorem dX9_sealedOnes_31 : decode cX9_sealedOnes 31 = .ok (.iload_n 3, 1) := dr_29  pk_dece_300.2.2.2.2.2.2.2.2.2.2.2.2.2.2.2.2.2.2.2.2.2.1
theorem dX9_sealedOnes_32 : decode cX9_sealedOnes 32 = .ok (.invokevirtual 229, 3) := dr_182 0 229  pk_dece_300.2.2.2.2.2.2.2.2.2.2.2.2.2.2.2.2.2.2.2.2.2.2.1
theorem dX9_sealedOnes_35 : decode cX9_sealedOnes 35 = .ok (.iaload, 1) := dr_46  pk_dece_300.2.2.2.2.2.2.2.2.2.2.2.2.2.2.2.2.2.2.2.2.2.2.2.1
theorem dX9_sealedOnes_36 : decode cX9_sealedOnes 36 = .ok (.iconst 1, 1) := dr_4  pk_dece_300.2.2.2.2.2.2.2.2.2.2.2.2.2.2.2.2.2.2.2.2.2.2.2.2.1
theorem dX9_sealedOnes_37 : decode cX9_sealedOnes 37 = .ok (.if_icmp .ne 9, 3) := dr_160 0 9  pk_dece_300.2.2.2.2.2.2.2.2.2.2.2.2.2.2.2.2.2.2.2.2.2.2.2.2.2.1
theorem dX9_sealedOnes_40 : decode cX9_sealedOnes 40 = .ok (.iconst 1, 1) := dr_4  pk_dece_300.2.2.2.2.2.2.2.2.2.2.2.2.2.2.2.2.2.2.2.2.2.2.2.2.2.2.1
theorem dX9_sealedOnes_41 : decode cX9_sealedOnes 41 = .ok (.iload_n 3, 1) := dr_29  pk_dece_300.2.2.2.2.2.2.2.2.2.2.2.2.2.2.2.2.2.2.2.2.2.2.2.2.2.2.2.1
theorem dX9_sealedOnes_42 : decode cX9_sealedOnes 42 = .ok (.ishl, 1) := dr_120  pk_dece_300.2.2.2.2.2.2.2.2.2.2.2.2.2.2.2.2.2.2.2.2.2.2.2.2.2.2.2.2.1
theorem dX9_sealedOnes_43 : decode cX9_sealedOnes 43 = .ok (.goto 4, 3) := dr_167 0 4  pk_dece_300.2.2.2.2.2.2.2.2.2.2.2.2.2.2.2.2.2.2.2.2.2.2.2.2.2.2.2.2.2.1
theorem dX9_sealedOnes_46 : decode cX9_sealedOnes 46 = .ok (.iconst 0, 1) := dr_3  pk_dece_300.2.2.2.2.2.2.2.2.2.2.2.2.2.2.2.2.2.2.2.2.2.2.2.2.2.2.2.2.2.2.1
theorem dX9_sealedOnes_47 : decode cX9_sealedOnes 47 = .ok (.ior, 1) := dr_128  pk_dece_300.2.2.2.2.2.2.2.2.2.2.2.2.2.2.2.2.2.2.2.2.2.2.2.2.2.2.2.2.2.2.2
set_option maxRecDepth 20000 in
theorem pk_dece_301 : (bq cX9_sealedOnes 48 61 = true) := by decide +kernel
theorem dX9_sealedOnes_48 : decode cX9_sealedOnes 48 = .ok (.istore_n 2, 1) := dr_61  pk_dece_301
theorem dX9_sealedOnes_49 : decode cX9_sealedOnes 49 = .ok (.iinc 3 1, 3) := by decide +kernel
set_option maxRecDepth 20000 in
theorem pk_dece_302 : ((bq cX9_sealedOnes 52 167 && bq cX9_sealedOnes (52 + 1) 255 && bq cX9_sealedOnes (52 + 2) 213 && (Reader.signed 16 (255 * 256 + 213) == (-43))) = true) ∧ (bq cX9_sealedOnes 55 28 = true) ∧ (bq cX9_sealedOnes 56 172 = true) := by decide +kernel
theorem dX9_sealedOnes_52 : decode cX9_sealedOnes 52 = .ok (.goto (-43), 3) := dr_167 255 213  pk_dece_302.1
theorem dX9_sealedOnes_55 : decode cX9_sealedOnes 55 = .ok (.iload_n 2, 1) := dr_28  pk_dece_302.2.1
theorem dX9_sealedOnes_56 : decode cX9_sealedOnes 56 = .ok (.ireturn, 1) := dr_172  pk_dece_302.2.2
set_option maxRecDepth 20000 in
theorem pk_dece_303 : (bq cX9_sealed 0 42 = true) ∧ (bq cX9_sealed 1 27 = true) ∧ ((bq cX9_sealed 2 182 && bq cX9_sealed (2 + 1) 0 && bq cX9_sealed (2 + 2) 178 && (0 * 256 + 178 == 178)) = true) ∧ ((bq cX9_sealed 5 153 && bq cX9_sealed (5 + 1) 0 && bq cX9_sealed (5 + 2) 14 && (Reader.signed 16 (0 * 256 + 14) == 14)) = true) ∧ (bq cX9_sealed 8 42 = true) ∧ ((bq cX9_sealed 9 182 && bq cX9_sealed (9 + 1) 0 && bq cX9_sealed (9 + 2) 232 && (0 * 256 + 232 == 232)) = true) ∧ (bq cX9_sealed 12 27 = true) ∧ (bq cX9_sealed 13 122 = true) ∧ (bq cX9_sealed 14 4 = true) ∧ (bq cX9_sealed 15 126 = true) ∧ ((bq cX9_sealed 16 167 && bq cX9_sealed (16 + 1) 0 && bq cX9_sealed (16 + 2) 4 && (Reader.signed 16 (0 * 256 + 4) == 4)) = true) ∧ (bq cX9_sealed 19 2 = true) ∧ (bq cX9_sealed 20 172 = true) := by decide +kernel
theorem dX9_sealed_0 : decode cX9_sealed 0 = .ok (.aload_n 0, 1) := dr_42  pk_dece_303.1
theorem dX9_sealed_1 : decode cX9_sealed 1 = .ok (.iload_n 1, 1) := dr_27  pk_dece_303.2.1
theorem dX9_sealed_2 : decode cX9_sealed 2 = .ok (.invokevirtual 178, 3) := dr_182 0 178  pk_dece_303.2.2.1
theorem dX9_sealed_5 : decode cX9_sealed 5 = .ok (.ifCond .eq 14, 3) := dr_153 0 14  pk_dece_303.2.2.2.1
theorem dX9_sealed_8 : decode cX9_sealed 8 = .ok (.aload_n 0, 1) := dr_42  pk_dece_303.2.2.2.2.1
theorem dX9_sealed_9 : decode cX9_sealed 9 = .ok (.invokevirtual 232, 3) := dr_182 0 232  pk_dece_303.2.2.2.2.2.1
theorem dX9_sealed_12 : decode cX9_sealed 12 = .ok (.iload_n 1, 1) := dr_27  pk_dece_303.2.2.2.2.2.2.1
theorem dX9_sealed_13 : decode cX9_sealed 13 = .ok (.ishr, 1) := dr_122  pk_dece_303.2.2.2.2.2.2.2.1
theorem dX9_sealed_14 : decode cX9_sealed 14 = .ok (.iconst 1, 1) := dr_4  pk_dece_303.2.2.2.2.2.2.2.2.1
theorem dX9_sealed_15 : decode cX9_sealed 15 = .ok (.iand, 1) := dr_126  pk_dece_303.2.2.2.2.2.2.2.2.2.1
theorem dX9_sealed_16 : decode cX9_sealed 16 = .ok (.goto 4, 3) := dr_167 0 4  pk_dece_303.2.2.2.2.2.2.2.2.2.2.1
theorem dX9_sealed_19 : decode cX9_sealed 19 = .ok (.iconst (-1), 1) := dr_2  pk_dece_303.2.2.2.2.2.2.2.2.2.2.2.1
theorem dX9_sealed_20 : decode cX9_sealed 20 = .ok (.ireturn, 1) := dr_172  pk_dece_303.2.2.2.2.2.2.2.2.2.2.2.2
set_option maxRecDepth 20000 in
theorem pk_dece_304 : (bq cX9_least 0 27 = true) ∧ (bq cX9_least 1 3 = true) ∧ (bq cX9_least 2 4 = true) ∧ (bq cX9_least 3 42 = true) ∧ ((bq cX9_least 4 180 && bq cX9_least (4 + 1) 0 && bq cX9_least (4 + 2) 85 && (0 * 256 + 85 == 85)) = true) ∧ (bq cX9_least 7 120 = true) ∧ (bq cX9_least 8 4 = true) ∧ (bq cX9_least 9 100 = true) ∧ ((bq cX9_least 10 184 && bq cX9_least (10 + 1) 0 && bq cX9_least (10 + 2) 75 && (0 * 256 + 75 == 75)) = true) ∧ ((bq cX9_least 13 154 && bq cX9_least (13 + 1) 0 && bq cX9_least (13 + 2) 5 && (Reader.signed 16 (0 * 256 + 5) == 5)) = true) ∧ (bq cX9_least 16 2 = true) ∧ (bq cX9_least 17 172 = true) ∧ (bq cX9_least 18 42 = true) ∧ ((bq cX9_least 19 182 && bq cX9_least (19 + 1) 0 && bq cX9_least (19 + 2) 226 && (0 * 256 + 226 == 226)) = true) ∧ (bq cX9_least 22 61 = true) ∧ (bq cX9_least 23 3 = true) ∧ (bq cX9_least 24 62 = true) ∧ (bq cX9_least 25 3 = true) ∧ ((bq cX9_least 26 54 && bq cX9_least (26 + 1) 4) = true) ∧ ((bq cX9_least 28 21 && bq cX9_least (28 + 1) 4) = true) ∧ (bq cX9_least 30 42 = true) ∧ ((bq cX9_least 31 180 && bq cX9_least (31 + 1) 0 && bq cX9_least (31 + 2) 85 && (0 * 256 + 85 == 85)) = true) ∧ ((bq cX9_least 34 162 && bq cX9_least (34 + 1) 0 && bq cX9_least (34 + 2) 78 && (Reader.signed 16 (0 * 256 + 78) == 78)) = true) ∧ (bq cX9_least 37 27 = true) ∧ (bq cX9_least 38 28 = true) ∧ (bq cX9_least 39 2 = true) ∧ (bq cX9_least 40 130 = true) ∧ (bq cX9_least 41 126 = true) ∧ ((bq cX9_least 42 21 && bq cX9_least (42 + 1) 4) = true) ∧ (bq cX9_least 44 122 = true) ∧ (bq cX9_least 45 4 = true) ∧ (bq cX9_least 46 126 = true) := by decide +kernel
theorem dX9_least_0 : decode cX9_least 0 = .ok (.iload_n 1, 1) := dr_27  pk_dece_304.1
theorem dX9_least_1 : decode cX9_least 1 = .ok (.iconst 0, 1) := dr_3  pk_dece_304.2.1
theorem dX9_least_2 : decode cX9_least 2 = .ok (.iconst 1, 1) := dr_4  pk_dece_304.2.2.1
theorem dX9_least_3 : decode cX9_least 3 = .ok (.aload_n 0, 1) := dr_42  pk_dece_304.2.2.2.1
theorem dX9_least_4 : decode cX9_least 4 = .ok (.getfield 85, 3) := dr_180 0 85  pk_dece_304.2.2.2.2.1
theorem dX9_least_7 : decode cX9_least 7 = .ok (.ishl, 1) := dr_120  pk_dece_304.2.2.2.2.2.1
theorem dX9_least_8 : decode cX9_least 8 = .ok (.iconst 1, 1) := dr_4  pk_dece_304.2.2.2.2.2.2.1
theorem dX9_least_9 : decode cX9_least 9 = .ok (.isub, 1) := dr_100  pk_dece_304.2.2.2.2.2.2.2.1
theorem dX9_least_10 : decode cX9_least 10 = .ok (.invokestatic 75, 3) := dr_184 0 75  pk_dece_304.2.2.2.2.2.2.2.2.1
theorem dX9_least_13 : decode cX9_least 13 = .ok (.ifCond .ne 5, 3) := dr_154 0 5  pk_dece_304.2.2.2.2.2.2.2.2.2.1
theorem dX9_least_16 : decode cX9_least 16 = .ok (.iconst (-1), 1) := dr_2  pk_dece_304.2.2.2.2.2.2.2.2.2.2.1
theorem dX9_least_17 : decode cX9_least 17 = .ok (.ireturn, 1) := dr_172  pk_dece_304.2.2.2.2.2.2.2.2.2.2.2.1
theorem dX9_least_18 : decode cX9_least 18 = .ok (.aload_n 0, 1) := dr_42  pk_dece_304.2.2.2.2.2.2.2.2.2.2.2.2.1
theorem dX9_least_19 : decode cX9_least 19 = .ok (.invokevirtual 226, 3) := dr_182 0 226  pk_dece_304.2.2.2.2.2.2.2.2.2.2.2.2.2.1
theorem dX9_least_22 : decode cX9_least 22 = .ok (.istore_n 2, 1) := dr_61  pk_dece_304.2.2.2.2.2.2.2.2.2.2.2.2.2.2.1
theorem dX9_least_23 : decode cX9_least 23 = .ok (.iconst 0, 1) := dr_3  pk_dece_304.2.2.2.2.2.2.2.2.2.2.2.2.2.2.2.1
theorem dX9_least_24 : decode cX9_least 24 = .ok (.istore_n 3, 1) := dr_62  pk_dece_304.2.2.2.2.2.2.2.2.2.2.2.2.2.2.2.2.1
theorem dX9_least_25 : decode cX9_least 25 = .ok (.iconst 0, 1) := dr_3  pk_dece_304.2.2.2.2.2.2.2.2.2.2.2.2.2.2.2.2.2.1
theorem dX9_least_26 : decode cX9_least 26 = .ok (.istore 4, 2) := dr_54  pk_dece_304.2.2.2.2.2.2.2.2.2.2.2.2.2.2.2.2.2.2.1
theorem dX9_least_28 : decode cX9_least 28 = .ok (.iload 4, 2) := dr_21  pk_dece_304.2.2.2.2.2.2.2.2.2.2.2.2.2.2.2.2.2.2.2.1
theorem dX9_least_30 : decode cX9_least 30 = .ok (.aload_n 0, 1) := dr_42  pk_dece_304.2.2.2.2.2.2.2.2.2.2.2.2.2.2.2.2.2.2.2.2.1
theorem dX9_least_31 : decode cX9_least 31 = .ok (.getfield 85, 3) := dr_180 0 85  pk_dece_304.2.2.2.2.2.2.2.2.2.2.2.2.2.2.2.2.2.2.2.2.2.1
theorem dX9_least_34 : decode cX9_least 34 = .ok (.if_icmp .ge 78, 3) := dr_162 0 78  pk_dece_304.2.2.2.2.2.2.2.2.2.2.2.2.2.2.2.2.2.2.2.2.2.2.1
theorem dX9_least_37 : decode cX9_least 37 = .ok (.iload_n 1, 1) := dr_27  pk_dece_304.2.2.2.2.2.2.2.2.2.2.2.2.2.2.2.2.2.2.2.2.2.2.2.1
theorem dX9_least_38 : decode cX9_least 38 = .ok (.iload_n 2, 1) := dr_28  pk_dece_304.2.2.2.2.2.2.2.2.2.2.2.2.2.2.2.2.2.2.2.2.2.2.2.2.1
theorem dX9_least_39 : decode cX9_least 39 = .ok (.iconst (-1), 1) := dr_2  pk_dece_304.2.2.2.2.2.2.2.2.2.2.2.2.2.2.2.2.2.2.2.2.2.2.2.2.2.1
theorem dX9_least_40 : decode cX9_least 40 = .ok (.ixor, 1) := dr_130  pk_dece_304.2.2.2.2.2.2.2.2.2.2.2.2.2.2.2.2.2.2.2.2.2.2.2.2.2.2.1
theorem dX9_least_41 : decode cX9_least 41 = .ok (.iand, 1) := dr_126  pk_dece_304.2.2.2.2.2.2.2.2.2.2.2.2.2.2.2.2.2.2.2.2.2.2.2.2.2.2.2.1
theorem dX9_least_42 : decode cX9_least 42 = .ok (.iload 4, 2) := dr_21  pk_dece_304.2.2.2.2.2.2.2.2.2.2.2.2.2.2.2.2.2.2.2.2.2.2.2.2.2.2.2.2.1
theorem dX9_least_44 : decode cX9_least 44 = .ok (.ishr, 1) := dr_122  pk_dece_304.2.2.2.2.2.2.2.2.2.2.2.2.2.2.2.2.2.2.2.2.2.2.2.2.2.2.2.2.2.1
theorem dX9_least_45 : decode cX9_least 45 = .ok (.iconst 1, 1) := dr_4  pk_dece_304.2.2.2.2.2.2.2.2.2.2.2.2.2.2.2.2.2.2.2.2.2.2.2.2.2.2.2.2.2.2.1
theorem dX9_least_46 : decode cX9_least 46 = .ok (.iand, 1) := dr_126  pk_dece_304.2.2.2.2.2.2.2.2.2.2.2.2.2.2.2.2.2.2.2.2.2.2.2.2.2.2.2.2.2.2.2
set_option maxRecDepth 20000 in
theorem pk_dece_305 : (bq cX9_least 47 4 = true) ∧ ((bq cX9_least 48 160 && bq cX9_least (48 + 1) 0 && bq cX9_least (48 + 2) 7 && (Reader.signed 16 (0 * 256 + 7) == 7)) = true) ∧ (bq cX9_least 51 4 = true) ∧ ((bq cX9_least 52 167 && bq cX9_least (52 + 1) 0 && bq cX9_least (52 + 2) 4 && (Reader.signed 16 (0 * 256 + 4) == 4)) = true) ∧ (bq cX9_least 55 3 = true) ∧ ((bq cX9_least 56 54 && bq cX9_least (56 + 1) 5) = true) ∧ (bq cX9_least 58 29 = true) ∧ ((bq cX9_least 59 21 && bq cX9_least (59 + 1) 5) = true) ∧ ((bq cX9_least 61 153 && bq cX9_least (61 + 1) 0 && bq cX9_least (61 + 2) 42 && (Reader.signed 16 (0 * 256 + 42) == 42)) = true) ∧ (bq cX9_least 64 42 = true) ∧ ((bq cX9_least 65 180 && bq cX9_least (65 + 1) 0 && bq cX9_least (65 + 2) 29 && (0 * 256 + 29 == 29)) = true) ∧ (bq cX9_least 68 42 = true) ∧ ((bq cX9_least 69 21 && bq cX9_least (69 + 1) 4) = true) ∧ ((bq cX9_least 71 182 && bq cX9_least (71 + 1) 0 && bq cX9_least (71 + 2) 229 && (0 * 256 + 229 == 229)) = true) ∧ (bq cX9_least 74 46 = true) ∧ ((bq cX9_least 75 154 && bq cX9_least (75 + 1) 0 && bq cX9_least (75 + 2) 28 && (Reader.signed 16 (0 * 256 + 28) == 28)) = true) ∧ (bq cX9_least 78 42 = true) ∧ ((bq cX9_least 79 180 && bq cX9_least (79 + 1) 0 && bq cX9_least (79 + 2) 38 && (0 * 256 + 38 == 38)) = true) ∧ (bq cX9_least 82 42 = true) ∧ ((bq cX9_least 83 21 && bq cX9_least (83 + 1) 4) = true) ∧ ((bq cX9_least 85 182 && bq cX9_least (85 + 1) 0 && bq cX9_least (85 + 2) 229 && (0 * 256 + 229 == 229)) = true) ∧ (bq cX9_least 88 46 = true) ∧ ((bq cX9_least 89 154 && bq cX9_least (89 + 1) 0 && bq cX9_least (89 + 2) 14 && (Reader.signed 16 (0 * 256 + 14) == 14)) = true) ∧ (bq cX9_least 92 4 = true) ∧ (bq cX9_least 93 42 = true) ∧ ((bq cX9_least 94 21 && bq cX9_least (94 + 1) 4) = true) ∧ ((bq cX9_least 96 182 && bq cX9_least (96 + 1) 0 && bq cX9_least (96 + 2) 229 && (0 * 256 + 229 == 229)) = true) ∧ (bq cX9_least 99 120 = true) ∧ ((bq cX9_least 100 167 && bq cX9_least (100 + 1) 0 && bq cX9_least (100 + 2) 4 && (Reader.signed 16 (0 * 256 + 4) == 4)) = true) ∧ (bq cX9_least 103 3 = true) ∧ (bq cX9_least 104 128 = true) ∧ (bq cX9_least 105 62 = true) := by decide +kernel
theorem dX9_least_47 : decode cX9_least 47 = .ok (.iconst 1, 1) := dr_4  pk_dece_305.1
theorem dX9_least_48 : decode cX9_least 48 = .ok (.if_icmp .ne 7, 3) := dr_160 0 7  pk_dece_305.2.1
theorem dX9_least_51 : decode cX9_least 51 = .ok (.iconst 1, 1) := dr_4  pk_dece_305.2.2.1
theorem dX9_least_52 : decode cX9_least 52 = .ok (.goto 4, 3) := dr_167 0 4  pk_dece_305.2.2.2.1
theorem dX9_least_55 : decode cX9_least 55 = .ok (.iconst 0, 1) := dr_3  pk_dece_305.2.2.2.2.1
theorem dX9_least_56 : decode cX9_least 56 = .ok (.istore 5, 2) := dr_54  pk_dece_305.2.2.2.2.2.1
theorem dX9_least_58 : decode cX9_least 58 = .ok (.iload_n 3, 1) := dr_29  pk_dece_305.2.2.2.2.2.2.1
theorem dX9_least_59 : decode cX9_least 59 = .ok (.iload 5, 2) := dr_21  pk_dece_305.2.2.2.2.2.2.2.1
theorem dX9_least_61 : decode cX9_least 61 = .ok (.ifCond .eq 42, 3) := dr_153 0 42  pk_dece_305.2.2.2.2.2.2.2.2.1
theorem dX9_least_64 : decode cX9_least 64 = .ok (.aload_n 0, 1) := dr_42  pk_dece_305.2.2.2.2.2.2.2.2.2.1
theorem dX9_least_65 : decode cX9_least 65 = .ok (.getfield 29, 3) := dr_180 0 29  pk_dece_305.2.2.2.2.2.2.2.2.2.2.1
theorem dX9_least_68 : decode cX9_least 68 = .ok (.aload_n 0, 1) := dr_42  pk_dece_305.2.2.2.2.2.2.2.2.2.2.2.1
theorem dX9_least_69 : decode cX9_least 69 = .ok (.iload 4, 2) := dr_21  pk_dece_305.2.2.2.2.2.2.2.2.2.2.2.2.1
theorem dX9_least_71 : decode cX9_least 71 = .ok (.invokevirtual 229, 3) := dr_182 0 229  pk_dece_305.2.2.2.2.2.2.2.2.2.2.2.2.2.1
theorem dX9_least_74 : decode cX9_least 74 = .ok (.iaload, 1) := dr_46  pk_dece_305.2.2.2.2.2.2.2.2.2.2.2.2.2.2.1
theorem dX9_least_75 : decode cX9_least 75 = .ok (.ifCond .ne 28, 3) := dr_154 0 28  pk_dece_305.2.2.2.2.2.2.2.2.2.2.2.2.2.2.2.1
theorem dX9_least_78 : decode cX9_least 78 = .ok (.aload_n 0, 1) := dr_42  pk_dece_305.2.2.2.2.2.2.2.2.2.2.2.2.2.2.2.2.1
theorem dX9_least_79 : decode cX9_least 79 = .ok (.getfield 38, 3) := dr_180 0 38  pk_dece_305.2.2.2.2.2.2.2.2.2.2.2.2.2.2.2.2.2.1
theorem dX9_least_82 : decode cX9_least 82 = .ok (.aload_n 0, 1) := dr_42  pk_dece_305.2.2.2.2.2.2.2.2.2.2.2.2.2.2.2.2.2.2.1
theorem dX9_least_83 : decode cX9_least 83 = .ok (.iload 4, 2) := dr_21  pk_dece_305.2.2.2.2.2.2.2.2.2.2.2.2.2.2.2.2.2.2.2.1
theorem dX9_least_85 : decode cX9_least 85 = .ok (.invokevirtual 229, 3) := dr_182 0 229  pk_dece_305.2.2.2.2.2.2.2.2.2.2.2.2.2.2.2.2.2.2.2.2.1
theorem dX9_least_88 : decode cX9_least 88 = .ok (.iaload, 1) := dr_46  pk_dece_305.2.2.2.2.2.2.2.2.2.2.2.2.2.2.2.2.2.2.2.2.2.1
theorem dX9_least_89 : decode cX9_least 89 = .ok (.ifCond .ne 14, 3) := dr_154 0 14  pk_dece_305.2.2.2.2.2.2.2.2.2.2.2.2.2.2.2.2.2.2.2.2.2.2.1
theorem dX9_least_92 : decode cX9_least 92 = .ok (.iconst 1, 1) := dr_4  pk_dece_305.2.2.2.2.2.2.2.2.2.2.2.2.2.2.2.2.2.2.2.2.2.2.2.1
theorem dX9_least_93 : decode cX9_least 93 = .ok (.aload_n 0, 1) := dr_42  pk_dece_305.2.2.2.2.2.2.2.2.2.2.2.2.2.2.2.2.2.2.2.2.2.2.2.2.1
theorem dX9_least_94 : decode cX9_least 94 = .ok (.iload 4, 2) := dr_21  pk_dece_305.2.2.2.2.2.2.2.2.2.2.2.2.2.2.2.2.2.2.2.2.2.2.2.2.2.1
theorem dX9_least_96 : decode cX9_least 96 = .ok (.invokevirtual 229, 3) := dr_182 0 229  pk_dece_305.2.2.2.2.2.2.2.2.2.2.2.2.2.2.2.2.2.2.2.2.2.2.2.2.2.2.1
theorem dX9_least_99 : decode cX9_least 99 = .ok (.ishl, 1) := dr_120  pk_dece_305.2.2.2.2.2.2.2.2.2.2.2.2.2.2.2.2.2.2.2.2.2.2.2.2.2.2.2.1
theorem dX9_least_100 : decode cX9_least 100 = .ok (.goto 4, 3) := dr_167 0 4  pk_dece_305.2.2.2.2.2.2.2.2.2.2.2.2.2.2.2.2.2.2.2.2.2.2.2.2.2.2.2.2.1
theorem dX9_least_103 : decode cX9_least 103 = .ok (.iconst 0, 1) := dr_3  pk_dece_305.2.2.2.2.2.2.2.2.2.2.2.2.2.2.2.2.2.2.2.2.2.2.2.2.2.2.2.2.2.1
theorem dX9_least_104 : decode cX9_least 104 = .ok (.ior, 1) := dr_128  pk_dece_305.2.2.2.2.2.2.2.2.2.2.2.2.2.2.2.2.2.2.2.2.2.2.2.2.2.2.2.2.2.2.1
theorem dX9_least_105 : decode cX9_least 105 = .ok (.istore_n 3, 1) := dr_62  pk_dece_305.2.2.2.2.2.2.2.2.2.2.2.2.2.2.2.2.2.2.2.2.2.2.2.2.2.2.2.2.2.2.2
theorem dX9_least_106 : decode cX9_least 106 = .ok (.iinc 4 1, 3) := by decide +kernel
set_option maxRecDepth 20000 in
theorem pk_dece_306 : ((bq cX9_least 109 167 && bq cX9_least (109 + 1) 255 && bq cX9_least (109 + 2) 175 && (Reader.signed 16 (255 * 256 + 175) == (-81))) = true) ∧ (bq cX9_least 112 29 = true) ∧ (bq cX9_least 113 172 = true) := by decide +kernel
theorem dX9_least_109 : decode cX9_least 109 = .ok (.goto (-81), 3) := dr_167 255 175  pk_dece_306.1
theorem dX9_least_112 : decode cX9_least 112 = .ok (.iload_n 3, 1) := dr_29  pk_dece_306.2.1
theorem dX9_least_113 : decode cX9_least 113 = .ok (.ireturn, 1) := dr_172  pk_dece_306.2.2
set_option maxRecDepth 20000 in
theorem pk_dece_307 : (bq cX9_same 0 42 = true) ∧ (bq cX9_same 1 27 = true) ∧ ((bq cX9_same 2 182 && bq cX9_same (2 + 1) 0 && bq cX9_same (2 + 2) 178 && (0 * 256 + 178 == 178)) = true) ∧ ((bq cX9_same 5 153 && bq cX9_same (5 + 1) 0 && bq cX9_same (5 + 2) 20 && (Reader.signed 16 (0 * 256 + 20) == 20)) = true) ∧ (bq cX9_same 8 42 = true) ∧ (bq cX9_same 9 28 = true) ∧ ((bq cX9_same 10 182 && bq cX9_same (10 + 1) 0 && bq cX9_same (10 + 2) 178 && (0 * 256 + 178 == 178)) = true) ∧ ((bq cX9_same 13 153 && bq cX9_same (13 + 1) 0 && bq cX9_same (13 + 2) 12 && (Reader.signed 16 (0 * 256 + 12) == 12)) = true) ∧ (bq cX9_same 16 42 = true) ∧ (bq cX9_same 17 27 = true) ∧ (bq cX9_same 18 28 = true) ∧ ((bq cX9_same 19 182 && bq cX9_same (19 + 1) 0 && bq cX9_same (19 + 2) 214 && (0 * 256 + 214 == 214)) = true) ∧ ((bq cX9_same 22 167 && bq cX9_same (22 + 1) 0 && bq cX9_same (22 + 2) 4 && (Reader.signed 16 (0 * 256 + 4) == 4)) = true) ∧ (bq cX9_same 25 2 = true) ∧ (bq cX9_same 26 172 = true) := by decide +kernel
theorem dX9_same_0 : decode cX9_same 0 = .ok (.aload_n 0, 1) := dr_42  pk_dece_307.1
theorem dX9_same_1 : decode cX9_same 1 = .ok (.iload_n 1, 1) := dr_27  pk_dece_307.2.1
theorem dX9_same_2 : decode cX9_same 2 = .ok (.invokevirtual 178, 3) := dr_182 0 178  pk_dece_307.2.2.1
theorem dX9_same_5 : decode cX9_same 5 = .ok (.ifCond .eq 20, 3) := dr_153 0 20  pk_dece_307.2.2.2.1
theorem dX9_same_8 : decode cX9_same 8 = .ok (.aload_n 0, 1) := dr_42  pk_dece_307.2.2.2.2.1
theorem dX9_same_9 : decode cX9_same 9 = .ok (.iload_n 2, 1) := dr_28  pk_dece_307.2.2.2.2.2.1
theorem dX9_same_10 : decode cX9_same 10 = .ok (.invokevirtual 178, 3) := dr_182 0 178  pk_dece_307.2.2.2.2.2.2.1
theorem dX9_same_13 : decode cX9_same 13 = .ok (.ifCond .eq 12, 3) := dr_153 0 12  pk_dece_307.2.2.2.2.2.2.2.1
theorem dX9_same_16 : decode cX9_same 16 = .ok (.aload_n 0, 1) := dr_42  pk_dece_307.2.2.2.2.2.2.2.2.1
theorem dX9_same_17 : decode cX9_same 17 = .ok (.iload_n 1, 1) := dr_27  pk_dece_307.2.2.2.2.2.2.2.2.2.1
theorem dX9_same_18 : decode cX9_same 18 = .ok (.iload_n 2, 1) := dr_28  pk_dece_307.2.2.2.2.2.2.2.2.2.2.1
theorem dX9_same_19 : decode cX9_same 19 = .ok (.invokevirtual 214, 3) := dr_182 0 214  pk_dece_307.2.2.2.2.2.2.2.2.2.2.2.1
theorem dX9_same_22 : decode cX9_same 22 = .ok (.goto 4, 3) := dr_167 0 4  pk_dece_307.2.2.2.2.2.2.2.2.2.2.2.2.1
theorem dX9_same_25 : decode cX9_same 25 = .ok (.iconst (-1), 1) := dr_2  pk_dece_307.2.2.2.2.2.2.2.2.2.2.2.2.2.1
theorem dX9_same_26 : decode cX9_same 26 = .ok (.ireturn, 1) := dr_172  pk_dece_307.2.2.2.2.2.2.2.2.2.2.2.2.2.2
set_option maxRecDepth 20000 in
theorem pk_dece_308 : (bq cX9_edition 0 27 = true) ∧ (bq cX9_edition 1 3 = true) ∧ ((bq cX9_edition 2 18 && bq cX9_edition (2 + 1) 235) = true) ∧ ((bq cX9_edition 4 184 && bq cX9_edition (4 + 1) 0 && bq cX9_edition (4 + 2) 75 && (0 * 256 + 75 == 75)) = true) ∧ ((bq cX9_edition 7 153 && bq cX9_edition (7 + 1) 0 && bq cX9_edition (7 + 2) 13 && (Reader.signed 16 (0 * 256 + 13) == 13)) = true) ∧ (bq cX9_edition 10 28 = true) ∧ (bq cX9_edition 11 3 = true) ∧ ((bq cX9_edition 12 18 && bq cX9_edition (12 + 1) 235) = true) ∧ ((bq cX9_edition 14 184 && bq cX9_edition (14 + 1) 0 && bq cX9_edition (14 + 2) 75 && (0 * 256 + 75 == 75)) = true) ∧ ((bq cX9_edition 17 154 && bq cX9_edition (17 + 1) 0 && bq cX9_edition (17 + 2) 5 && (Reader.signed 16 (0 * 256 + 5) == 5)) = true) ∧ (bq cX9_edition 20 2 = true) ∧ (bq cX9_edition 21 172 = true) ∧ (bq cX9_edition 22 42 = true) ∧ ((bq cX9_edition 23 180 && bq cX9_edition (23 + 1) 0 && bq cX9_edition (23 + 2) 236 && (0 * 256 + 236 == 236)) = true) ∧ ((bq cX9_edition 26 16 && bq cX9_edition (26 + 1) 12 && (Reader.signed 8 12 == 12)) = true) ∧ ((bq cX9_edition 28 160 && bq cX9_edition (28 + 1) 0 && bq cX9_edition (28 + 2) 6 && (Reader.signed 16 (0 * 256 + 6) == 6)) = true) ∧ ((bq cX9_edition 31 16 && bq cX9_edition (31 + 1) 253 && (Reader.signed 8 253 == (-3))) = true) ∧ (bq cX9_edition 33 172 = true) ∧ (bq cX9_edition 34 42 = true) ∧ ((bq cX9_edition 35 180 && bq cX9_edition (35 + 1) 0 && bq cX9_edition (35 + 2) 62 && (0 * 256 + 62 == 62)) = true) ∧ (bq cX9_edition 38 42 = true) ∧ ((bq cX9_edition 39 180 && bq cX9_edition (39 + 1) 0 && bq cX9_edition (39 + 2) 236 && (0 * 256 + 236 == 236)) = true) ∧ (bq cX9_edition 42 27 = true) ∧ (bq cX9_edition 43 79 = true) ∧ (bq cX9_edition 44 42 = true) ∧ ((bq cX9_edition 45 180 && bq cX9_edition (45 + 1) 0 && bq cX9_edition (45 + 2) 65 && (0 * 256 + 65 == 65)) = true) ∧ (bq cX9_edition 48 42 = true) ∧ ((bq cX9_edition 49 180 && bq cX9_edition (49 + 1) 0 && bq cX9_edition (49 + 2) 236 && (0 * 256 + 236 == 236)) = true) ∧ (bq cX9_edition 52 28 = true) ∧ (bq cX9_edition 53 79 = true) ∧ (bq cX9_edition 54 42 = true) ∧ (bq cX9_edition 55 89 = true) := by decide +kernel
theorem dX9_edition_0 : decode cX9_edition 0 = .ok (.iload_n 1, 1) := dr_27  pk_dece_308.1
theorem dX9_edition_1 : decode cX9_edition 1 = .ok (.iconst 0, 1) := dr_3  pk_dece_308.2.1
theorem dX9_edition_2 : decode cX9_edition 2 = .ok (.ldc 235, 2) := dr_18  pk_dece_308.2.2.1
theorem dX9_edition_4 : decode cX9_edition 4 = .ok (.invokestatic 75, 3) := dr_184 0 75  pk_dece_308.2.2.2.1
theorem dX9_edition_7 : decode cX9_edition 7 = .ok (.ifCond .eq 13, 3) := dr_153 0 13  pk_dece_308.2.2.2.2.1
theorem dX9_edition_10 : decode cX9_edition 10 = .ok (.iload_n 2, 1) := dr_28  pk_dece_308.2.2.2.2.2.1
theorem dX9_edition_11 : decode cX9_edition 11 = .ok (.iconst 0, 1) := dr_3  pk_dece_308.2.2.2.2.2.2.1
theorem dX9_edition_12 : decode cX9_edition 12 = .ok (.ldc 235, 2) := dr_18  pk_dece_308.2.2.2.2.2.2.2.1
theorem dX9_edition_14 : decode cX9_edition 14 = .ok (.invokestatic 75, 3) := dr_184 0 75  pk_dece_308.2.2.2.2.2.2.2.2.1
theorem dX9_edition_17 : decode cX9_edition 17 = .ok (.ifCond .ne 5, 3) := dr_154 0 5  pk_dece_308.2.2.2.2.2.2.2.2.2.1
theorem dX9_edition_20 : decode cX9_edition 20 = .ok (.iconst (-1), 1) := dr_2  pk_dece_308.2.2.2.2.2.2.2.2.2.2.1
theorem dX9_edition_21 : decode cX9_edition 21 = .ok (.ireturn, 1) := dr_172  pk_dece_308.2.2.2.2.2.2.2.2.2.2.2.1
theorem dX9_edition_22 : decode cX9_edition 22 = .ok (.aload_n 0, 1) := dr_42  pk_dece_308.2.2.2.2.2.2.2.2.2.2.2.2.1
theorem dX9_edition_23 : decode cX9_edition 23 = .ok (.getfield 236, 3) := dr_180 0 236  pk_dece_308.2.2.2.2.2.2.2.2.2.2.2.2.2.1
theorem dX9_edition_26 : decode cX9_edition 26 = .ok (.bipush 12, 2) := dr_16 12  pk_dece_308.2.2.2.2.2.2.2.2.2.2.2.2.2.2.1
theorem dX9_edition_28 : decode cX9_edition 28 = .ok (.if_icmp .ne 6, 3) := dr_160 0 6  pk_dece_308.2.2.2.2.2.2.2.2.2.2.2.2.2.2.2.1
theorem dX9_edition_31 : decode cX9_edition 31 = .ok (.bipush (-3), 2) := dr_16 253  pk_dece_308.2.2.2.2.2.2.2.2.2.2.2.2.2.2.2.2.1
theorem dX9_edition_33 : decode cX9_edition 33 = .ok (.ireturn, 1) := dr_172  pk_dece_308.2.2.2.2.2.2.2.2.2.2.2.2.2.2.2.2.2.1
theorem dX9_edition_34 : decode cX9_edition 34 = .ok (.aload_n 0, 1) := dr_42  pk_dece_308.2.2.2.2.2.2.2.2.2.2.2.2.2.2.2.2.2.2.1
theorem dX9_edition_35 : decode cX9_edition 35 = .ok (.getfield 62, 3) := dr_180 0 62  pk_dece_308.2.2.2.2.2.2.2.2.2.2.2.2.2.2.2.2.2.2.2.1
theorem dX9_edition_38 : decode cX9_edition 38 = .ok (.aload_n 0, 1) := dr_42  pk_dece_308.2.2.2.2.2.2.2.2.2.2.2.2.2.2.2.2.2.2.2.2.1
theorem dX9_edition_39 : decode cX9_edition 39 = .ok (.getfield 236, 3) := dr_180 0 236  pk_dece_308.2.2.2.2.2.2.2.2.2.2.2.2.2.2.2.2.2.2.2.2.2.1
theorem dX9_edition_42 : decode cX9_edition 42 = .ok (.iload_n 1, 1) := dr_27  pk_dece_308.2.2.2.2.2.2.2.2.2.2.2.2.2.2.2.2.2.2.2.2.2.2.1
theorem dX9_edition_43 : decode cX9_edition 43 = .ok (.iastore, 1) := dr_79  pk_dece_308.2.2.2.2.2.2.2.2.2.2.2.2.2.2.2.2.2.2.2.2.2.2.2.1
theorem dX9_edition_44 : decode cX9_edition 44 = .ok (.aload_n 0, 1) := dr_42  pk_dece_308.2.2.2.2.2.2.2.2.2.2.2.2.2.2.2.2.2.2.2.2.2.2.2.2.1
theorem dX9_edition_45 : decode cX9_edition 45 = .ok (.getfield 65, 3) := dr_180 0 65  pk_dece_308.2.2.2.2.2.2.2.2.2.2.2.2.2.2.2.2.2.2.2.2.2.2.2.2.2.1
theorem dX9_edition_48 : decode cX9_edition 48 = .ok (.aload_n 0, 1) := dr_42  pk_dece_308.2.2.2.2.2.2.2.2.2.2.2.2.2.2.2.2.2.2.2.2.2.2.2.2.2.2.1
theorem dX9_edition_49 : decode cX9_edition 49 = .ok (.getfield 236, 3) := dr_180 0 236  pk_dece_308.2.2.2.2.2.2.2.2.2.2.2.2.2.2.2.2.2.2.2.2.2.2.2.2.2.2.2.1
theorem dX9_edition_52 : decode cX9_edition 52 = .ok (.iload_n 2, 1) := dr_28  pk_dece_308.2.2.2.2.2.2.2.2.2.2.2.2.2.2.2.2.2.2.2.2.2.2.2.2.2.2.2.2.1
theorem dX9_edition_53 : decode cX9_edition 53 = .ok (.iastore, 1) := dr_79  pk_dece_308.2.2.2.2.2.2.2.2.2.2.2.2.2.2.2.2.2.2.2.2.2.2.2.2.2.2.2.2.2.1
theorem dX9_edition_54 : decode cX9_edition 54 = .ok (.aload_n 0, 1) := dr_42  pk_dece_308.2.2.2.2.2.2.2.2.2.2.2.2.2.2.2.2.2.2.2.2.2.2.2.2.2.2.2.2.2.2.1
theorem dX9_edition_55 : decode cX9_edition 55 = .ok (.dup, 1) := dr_89  pk_dece_308.2.2.2.2.2.2.2.2.2.2.2.2.2.2.2.2.2.2.2.2.2.2.2.2.2.2.2.2.2.2.2
set_option maxRecDepth 20000 in
theorem pk_dece_309 : ((bq cX9_edition 56 180 && bq cX9_edition (56 + 1) 0 && bq cX9_edition (56 + 2) 236 && (0 * 256 + 236 == 236)) = true) ∧ (bq cX9_edition 59 4 = true) ∧ (bq cX9_edition 60 96 = true) ∧ ((bq cX9_edition 61 181 && bq cX9_edition (61 + 1) 0 && bq cX9_edition (61 + 2) 236 && (0 * 256 + 236 == 236)) = true) ∧ (bq cX9_edition 64 42 = true) ∧ ((bq cX9_edition 65 180 && bq cX9_edition (65 + 1) 0 && bq cX9_edition (65 + 2) 236 && (0 * 256 + 236 == 236)) = true) ∧ (bq cX9_edition 68 4 = true) ∧ (bq cX9_edition 69 100 = true) ∧ (bq cX9_edition 70 172 = true) := by decide +kernel
theorem dX9_edition_56 : decode cX9_edition 56 = .ok (.getfield 236, 3) := dr_180 0 236  pk_dece_309.1
theorem dX9_edition_59 : decode cX9_edition 59 = .ok (.iconst 1, 1) := dr_4  pk_dece_309.2.1
theorem dX9_edition_60 : decode cX9_edition 60 = .ok (.iadd, 1) := dr_96  pk_dece_309.2.2.1
theorem dX9_edition_61 : decode cX9_edition 61 = .ok (.putfield 236, 3) := dr_181 0 236  pk_dece_309.2.2.2.1
theorem dX9_edition_64 : decode cX9_edition 64 = .ok (.aload_n 0, 1) := dr_42  pk_dece_309.2.2.2.2.1
theorem dX9_edition_65 : decode cX9_edition 65 = .ok (.getfield 236, 3) := dr_180 0 236  pk_dece_309.2.2.2.2.2.1
theorem dX9_edition_68 : decode cX9_edition 68 = .ok (.iconst 1, 1) := dr_4  pk_dece_309.2.2.2.2.2.2.1
theorem dX9_edition_69 : decode cX9_edition 69 = .ok (.isub, 1) := dr_100  pk_dece_309.2.2.2.2.2.2.2.1
theorem dX9_edition_70 : decode cX9_edition 70 = .ok (.ireturn, 1) := dr_172  pk_dece_309.2.2.2.2.2.2.2.2
set_option maxRecDepth 20000 in
theorem pk_dece_310 : (bq cX9_isEdition 0 27 = true) ∧ (bq cX9_isEdition 1 3 = true) ∧ (bq cX9_isEdition 2 42 = true) ∧ ((bq cX9_isEdition 3 180 && bq cX9_isEdition (3 + 1) 0 && bq cX9_isEdition (3 + 2) 236 && (0 * 256 + 236 == 236)) = true) ∧ (bq cX9_isEdition 6 4 = true) ∧ (bq cX9_isEdition 7 100 = true) ∧ ((bq cX9_isEdition 8 184 && bq cX9_isEdition (8 + 1) 0 && bq cX9_isEdition (8 + 2) 75 && (0 * 256 + 75 == 75)) = true) ∧ (bq cX9_isEdition 11 172 = true) := by decide +kernel
theorem dX9_isEdition_0 : decode cX9_isEdition 0 = .ok (.iload_n 1, 1) := dr_27  pk_dece_310.1
theorem dX9_isEdition_1 : decode cX9_isEdition 1 = .ok (.iconst 0, 1) := dr_3  pk_dece_310.2.1
theorem dX9_isEdition_2 : decode cX9_isEdition 2 = .ok (.aload_n 0, 1) := dr_42  pk_dece_310.2.2.1
theorem dX9_isEdition_3 : decode cX9_isEdition 3 = .ok (.getfield 236, 3) := dr_180 0 236  pk_dece_310.2.2.2.1
theorem dX9_isEdition_6 : decode cX9_isEdition 6 = .ok (.iconst 1, 1) := dr_4  pk_dece_310.2.2.2.2.1
theorem dX9_isEdition_7 : decode cX9_isEdition 7 = .ok (.isub, 1) := dr_100  pk_dece_310.2.2.2.2.2.1
theorem dX9_isEdition_8 : decode cX9_isEdition 8 = .ok (.invokestatic 75, 3) := dr_184 0 75  pk_dece_310.2.2.2.2.2.2.1
theorem dX9_isEdition_11 : decode cX9_isEdition 11 = .ok (.ireturn, 1) := dr_172  pk_dece_310.2.2.2.2.2.2.2
set_option maxRecDepth 20000 in
theorem pk_dece_311 : (bq cX9_climb 0 3 = true) ∧ ((bq cX9_climb 1 54 && bq cX9_climb (1 + 1) 4) = true) ∧ ((bq cX9_climb 3 21 && bq cX9_climb (3 + 1) 4) = true) ∧ (bq cX9_climb 5 42 = true) ∧ ((bq cX9_climb 6 180 && bq cX9_climb (6 + 1) 0 && bq cX9_climb (6 + 2) 236 && (0 * 256 + 236 == 236)) = true) ∧ ((bq cX9_climb 9 162 && bq cX9_climb (9 + 1) 0 && bq cX9_climb (9 + 2) 28 && (Reader.signed 16 (0 * 256 + 28) == 28)) = true) ∧ (bq cX9_climb 12 42 = true) ∧ ((bq cX9_climb 13 180 && bq cX9_climb (13 + 1) 0 && bq cX9_climb (13 + 2) 68 && (0 * 256 + 68 == 68)) = true) ∧ ((bq cX9_climb 16 21 && bq cX9_climb (16 + 1) 4) = true) ∧ ((bq cX9_climb 18 21 && bq cX9_climb (18 + 1) 4) = true) ∧ (bq cX9_climb 20 28 = true) ∧ ((bq cX9_climb 21 160 && bq cX9_climb (21 + 1) 0 && bq cX9_climb (21 + 2) 7 && (Reader.signed 16 (0 * 256 + 7) == 7)) = true) ∧ (bq cX9_climb 24 3 = true) ∧ ((bq cX9_climb 25 167 && bq cX9_climb (25 + 1) 0 && bq cX9_climb (25 + 2) 5 && (Reader.signed 16 (0 * 256 + 5) == 5)) = true) ∧ ((bq cX9_climb 28 16 && bq cX9_climb (28 + 1) 247 && (Reader.signed 8 247 == (-9))) = true) ∧ (bq cX9_climb 30 79 = true) := by decide +kernel
theorem dX9_climb_0 : decode cX9_climb 0 = .ok (.iconst 0, 1) := dr_3  pk_dece_311.1
theorem dX9_climb_1 : decode cX9_climb 1 = .ok (.istore 4, 2) := dr_54  pk_dece_311.2.1
theorem dX9_climb_3 : decode cX9_climb 3 = .ok (.iload 4, 2) := dr_21  pk_dece_311.2.2.1
theorem dX9_climb_5 : decode cX9_climb 5 = .ok (.aload_n 0, 1) := dr_42  pk_dece_311.2.2.2.1
theorem dX9_climb_6 : decode cX9_climb 6 = .ok (.getfield 236, 3) := dr_180 0 236  pk_dece_311.2.2.2.2.1
theorem dX9_climb_9 : decode cX9_climb 9 = .ok (.if_icmp .ge 28, 3) := dr_162 0 28  pk_dece_311.2.2.2.2.2.1
theorem dX9_climb_12 : decode cX9_climb 12 = .ok (.aload_n 0, 1) := dr_42  pk_dece_311.2.2.2.2.2.2.1
theorem dX9_climb_13 : decode cX9_climb 13 = .ok (.getfield 68, 3) := dr_180 0 68  pk_dece_311.2.2.2.2.2.2.2.1
theorem dX9_climb_16 : decode cX9_climb 16 = .ok (.iload 4, 2) := dr_21  pk_dece_311.2.2.2.2.2.2.2.2.1
theorem dX9_climb_18 : decode cX9_climb 18 = .ok (.iload 4, 2) := dr_21  pk_dece_311.2.2.2.2.2.2.2.2.2.1
theorem dX9_climb_20 : decode cX9_climb 20 = .ok (.iload_n 2, 1) := dr_28  pk_dece_311.2.2.2.2.2.2.2.2.2.2.1
theorem dX9_climb_21 : decode cX9_climb 21 = .ok (.if_icmp .ne 7, 3) := dr_160 0 7  pk_dece_311.2.2.2.2.2.2.2.2.2.2.2.1
theorem dX9_climb_24 : decode cX9_climb 24 = .ok (.iconst 0, 1) := dr_3  pk_dece_311.2.2.2.2.2.2.2.2.2.2.2.2.1
theorem dX9_climb_25 : decode cX9_climb 25 = .ok (.goto 5, 3) := dr_167 0 5  pk_dece_311.2.2.2.2.2.2.2.2.2.2.2.2.2.1
theorem dX9_climb_28 : decode cX9_climb 28 = .ok (.bipush (-9), 2) := dr_16 247  pk_dece_311.2.2.2.2.2.2.2.2.2.2.2.2.2.2.1
theorem dX9_climb_30 : decode cX9_climb 30 = .ok (.iastore, 1) := dr_79  pk_dece_311.2.2.2.2.2.2.2.2.2.2.2.2.2.2.2
theorem dX9_climb_31 : decode cX9_climb 31 = .ok (.iinc 4 1, 3) := by decide +kernel
set_option maxRecDepth 20000 in
theorem pk_dece_312 : ((bq cX9_climb 34 167 && bq cX9_climb (34 + 1) 255 && bq cX9_climb (34 + 2) 225 && (Reader.signed 16 (255 * 256 + 225) == (-31))) = true) ∧ (bq cX9_climb 37 4 = true) ∧ ((bq cX9_climb 38 54 && bq cX9_climb (38 + 1) 4) = true) ∧ ((bq cX9_climb 40 21 && bq cX9_climb (40 + 1) 4) = true) ∧ (bq cX9_climb 42 42 = true) ∧ ((bq cX9_climb 43 180 && bq cX9_climb (43 + 1) 0 && bq cX9_climb (43 + 2) 236 && (0 * 256 + 236 == 236)) = true) ∧ ((bq cX9_climb 46 162 && bq cX9_climb (46 + 1) 0 && bq cX9_climb (46 + 2) 146 && (Reader.signed 16 (0 * 256 + 146) == 146)) = true) ∧ (bq cX9_climb 49 3 = true) ∧ ((bq cX9_climb 50 54 && bq cX9_climb (50 + 1) 5) = true) ∧ ((bq cX9_climb 52 21 && bq cX9_climb (52 + 1) 5) = true) ∧ (bq cX9_climb 54 42 = true) ∧ ((bq cX9_climb 55 180 && bq cX9_climb (55 + 1) 0 && bq cX9_climb (55 + 2) 236 && (0 * 256 + 236 == 236)) = true) ∧ ((bq cX9_climb 58 162 && bq cX9_climb (58 + 1) 0 && bq cX9_climb (58 + 2) 128 && (Reader.signed 16 (0 * 256 + 128) == 128)) = true) ∧ (bq cX9_climb 61 3 = true) ∧ ((bq cX9_climb 62 54 && bq cX9_climb (62 + 1) 6) = true) ∧ (bq cX9_climb 64 3 = true) ∧ ((bq cX9_climb 65 54 && bq cX9_climb (65 + 1) 7) = true) ∧ ((bq cX9_climb 67 21 && bq cX9_climb (67 + 1) 7) = true) ∧ (bq cX9_climb 69 42 = true) ∧ ((bq cX9_climb 70 180 && bq cX9_climb (70 + 1) 0 && bq cX9_climb (70 + 2) 236 && (0 * 256 + 236 == 236)) = true) ∧ ((bq cX9_climb 73 162 && bq cX9_climb (73 + 1) 0 && bq cX9_climb (73 + 2) 71 && (Reader.signed 16 (0 * 256 + 71) == 71)) = true) ∧ (bq cX9_climb 76 42 = true) ∧ ((bq cX9_climb 77 180 && bq cX9_climb (77 + 1) 0 && bq cX9_climb (77 + 2) 65 && (0 * 256 + 65 == 65)) = true) ∧ ((bq cX9_climb 80 21 && bq cX9_climb (80 + 1) 5) = true) ∧ (bq cX9_climb 82 46 = true) ∧ ((bq cX9_climb 83 21 && bq cX9_climb (83 + 1) 5) = true) ∧ (bq cX9_climb 85 27 = true) ∧ ((bq cX9_climb 86 160 && bq cX9_climb (86 + 1) 0 && bq cX9_climb (86 + 2) 7 && (Reader.signed 16 (0 * 256 + 7) == 7)) = true) ∧ (bq cX9_climb 89 29 = true) ∧ ((bq cX9_climb 90 167 && bq cX9_climb (90 + 1) 0 && bq cX9_climb (90 + 2) 4 && (Reader.signed 16 (0 * 256 + 4) == 4)) = true) ∧ (bq cX9_climb 93 3 = true) ∧ (bq cX9_climb 94 128 = true) := by decide +kernel
theorem dX9_climb_34 : decode cX9_climb 34 = .ok (.goto (-31), 3) := dr_167 255 225  pk_dece_312.1
theorem dX9_climb_37 : decode cX9_climb 37 = .ok (.iconst 1, 1) := dr_4  pk_dece_312.2.1
theorem dX9_climb_38 : decode cX9_climb 38 = .ok (.istore 4, 2) := dr_54  pk_dece_312.2.2.1
theorem dX9_climb_40 : decode cX9_climb 40 = .ok (.iload 4, 2) := dr_21  pk_dece_312.2.2.2.1
theorem dX9_climb_42 : decode cX9_climb 42 = .ok (.aload_n 0, 1) := dr_42  pk_dece_312.2.2.2.2.1
theorem dX9_climb_43 : decode cX9_climb 43 = .ok (.getfield 236, 3) := dr_180 0 236  pk_dece_312.2.2.2.2.2.1
theorem dX9_climb_46 : decode cX9_climb 46 = .ok (.if_icmp .ge 146, 3) := dr_162 0 146  pk_dece_312.2.2.2.2.2.2.1
theorem dX9_climb_49 : decode cX9_climb 49 = .ok (.iconst 0, 1) := dr_3  pk_dece_312.2.2.2.2.2.2.2.1
theorem dX9_climb_50 : decode cX9_climb 50 = .ok (.istore 5, 2) := dr_54  pk_dece_312.2.2.2.2.2.2.2.2.1
theorem dX9_climb_52 : decode cX9_climb 52 = .ok (.iload 5, 2) := dr_21  pk_dece_312.2.2.2.2.2.2.2.2.2.1
theorem dX9_climb_54 : decode cX9_climb 54 = .ok (.aload_n 0, 1) := dr_42  pk_dece_312.2.2.2.2.2.2.2.2.2.2.1
theorem dX9_climb_55 : decode cX9_climb 55 = .ok (.getfield 236, 3) := dr_180 0 236  pk_dece_312.2.2.2.2.2.2.2.2.2.2.2.1
theorem dX9_climb_58 : decode cX9_climb 58 = .ok (.if_icmp .ge 128, 3) := dr_162 0 128  pk_dece_312.2.2.2.2.2.2.2.2.2.2.2.2.1
theorem dX9_climb_61 : decode cX9_climb 61 = .ok (.iconst 0, 1) := dr_3  pk_dece_312.2.2.2.2.2.2.2.2.2.2.2.2.2.1
theorem dX9_climb_62 : decode cX9_climb 62 = .ok (.istore 6, 2) := dr_54  pk_dece_312.2.2.2.2.2.2.2.2.2.2.2.2.2.2.1
theorem dX9_climb_64 : decode cX9_climb 64 = .ok (.iconst 0, 1) := dr_3  pk_dece_312.2.2.2.2.2.2.2.2.2.2.2.2.2.2.2.1
theorem dX9_climb_65 : decode cX9_climb 65 = .ok (.istore 7, 2) := dr_54  pk_dece_312.2.2.2.2.2.2.2.2.2.2.2.2.2.2.2.2.1
theorem dX9_climb_67 : decode cX9_climb 67 = .ok (.iload 7, 2) := dr_21  pk_dece_312.2.2.2.2.2.2.2.2.2.2.2.2.2.2.2.2.2.1
theorem dX9_climb_69 : decode cX9_climb 69 = .ok (.aload_n 0, 1) := dr_42  pk_dece_312.2.2.2.2.2.2.2.2.2.2.2.2.2.2.2.2.2.2.1
theorem dX9_climb_70 : decode cX9_climb 70 = .ok (.getfield 236, 3) := dr_180 0 236  pk_dece_312.2.2.2.2.2.2.2.2.2.2.2.2.2.2.2.2.2.2.2.1
theorem dX9_climb_73 : decode cX9_climb 73 = .ok (.if_icmp .ge 71, 3) := dr_162 0 71  pk_dece_312.2.2.2.2.2.2.2.2.2.2.2.2.2.2.2.2.2.2.2.2.1
theorem dX9_climb_76 : decode cX9_climb 76 = .ok (.aload_n 0, 1) := dr_42  pk_dece_312.2.2.2.2.2.2.2.2.2.2.2.2.2.2.2.2.2.2.2.2.2.1
theorem dX9_climb_77 : decode cX9_climb 77 = .ok (.getfield 65, 3) := dr_180 0 65  pk_dece_312.2.2.2.2.2.2.2.2.2.2.2.2.2.2.2.2.2.2.2.2.2.2.1
theorem dX9_climb_80 : decode cX9_climb 80 = .ok (.iload 5, 2) := dr_21  pk_dece_312.2.2.2.2.2.2.2.2.2.2.2.2.2.2.2.2.2.2.2.2.2.2.2.1
theorem dX9_climb_82 : decode cX9_climb 82 = .ok (.iaload, 1) := dr_46  pk_dece_312.2.2.2.2.2.2.2.2.2.2.2.2.2.2.2.2.2.2.2.2.2.2.2.2.1
theorem dX9_climb_83 : decode cX9_climb 83 = .ok (.iload 5, 2) := dr_21  pk_dece_312.2.2.2.2.2.2.2.2.2.2.2.2.2.2.2.2.2.2.2.2.2.2.2.2.2.1
theorem dX9_climb_85 : decode cX9_climb 85 = .ok (.iload_n 1, 1) := dr_27  pk_dece_312.2.2.2.2.2.2.2.2.2.2.2.2.2.2.2.2.2.2.2.2.2.2.2.2.2.2.1
theorem dX9_climb_86 : decode cX9_climb 86 = .ok (.if_icmp .ne 7, 3) := dr_160 0 7  pk_dece_312.2.2.2.2.2.2.2.2.2.2.2.2.2.2.2.2.2.2.2.2.2.2.2.2.2.2.2.1
theorem dX9_climb_89 : decode cX9_climb 89 = .ok (.iload_n 3, 1) := dr_29  pk_dece_312.2.2.2.2.2.2.2.2.2.2.2.2.2.2.2.2.2.2.2.2.2.2.2.2.2.2.2.2.1
theorem dX9_climb_90 : decode cX9_climb 90 = .ok (.goto 4, 3) := dr_167 0 4  pk_dece_312.2.2.2.2.2.2.2.2.2.2.2.2.2.2.2.2.2.2.2.2.2.2.2.2.2.2.2.2.2.1
theorem dX9_climb_93 : decode cX9_climb 93 = .ok (.iconst 0, 1) := dr_3  pk_dece_312.2.2.2.2.2.2.2.2.2.2.2.2.2.2.2.2.2.2.2.2.2.2.2.2.2.2.2.2.2.2.1
theorem dX9_climb_94 : decode cX9_climb 94 = .ok (.ior, 1) := dr_128  pk_dece_312.2.2.2.2.2.2.2.2.2.2.2.2.2.2.2.2.2.2.2.2.2.2.2.2.2.2.2.2.2.2.2
set_option maxRecDepth 20000 in
theorem pk_dece_313 : ((bq cX9_climb 95 54 && bq cX9_climb (95 + 1) 8) = true) ∧ ((bq cX9_climb 97 21 && bq cX9_climb (97 + 1) 6) = true) ∧ ((bq cX9_climb 99 154 && bq cX9_climb (99 + 1) 0 && bq cX9_climb (99 + 2) 32 && (Reader.signed 16 (0 * 256 + 32) == 32)) = true) ∧ (bq cX9_climb 102 42 = true) ∧ ((bq cX9_climb 103 180 && bq cX9_climb (103 + 1) 0 && bq cX9_climb (103 + 2) 68 && (0 * 256 + 68 == 68)) = true) ∧ ((bq cX9_climb 106 21 && bq cX9_climb (106 + 1) 7) = true) ∧ (bq cX9_climb 108 46 = true) ∧ ((bq cX9_climb 109 21 && bq cX9_climb (109 + 1) 4) = true) ∧ (bq cX9_climb 111 4 = true) ∧ (bq cX9_climb 112 100 = true) ∧ ((bq cX9_climb 113 160 && bq cX9_climb (113 + 1) 0 && bq cX9_climb (113 + 2) 22 && (Reader.signed 16 (0 * 256 + 22) == 22)) = true) ∧ (bq cX9_climb 116 42 = true) ∧ ((bq cX9_climb 117 180 && bq cX9_climb (117 + 1) 0 && bq cX9_climb (117 + 2) 62 && (0 * 256 + 62 == 62)) = true) ∧ ((bq cX9_climb 120 21 && bq cX9_climb (120 + 1) 7) = true) ∧ (bq cX9_climb 122 46 = true) ∧ ((bq cX9_climb 123 21 && bq cX9_climb (123 + 1) 8) = true) ∧ (bq cX9_climb 125 2 = true) ∧ (bq cX9_climb 126 130 = true) ∧ (bq cX9_climb 127 126 = true) ∧ ((bq cX9_climb 128 154 && bq cX9_climb (128 + 1) 0 && bq cX9_climb (128 + 2) 7 && (Reader.signed 16 (0 * 256 + 7) == 7)) = true) ∧ (bq cX9_climb 131 4 = true) ∧ ((bq cX9_climb 132 167 && bq cX9_climb (132 + 1) 0 && bq cX9_climb (132 + 2) 4 && (Reader.signed 16 (0 * 256 + 4) == 4)) = true) ∧ (bq cX9_climb 135 3 = true) ∧ ((bq cX9_climb 136 54 && bq cX9_climb (136 + 1) 6) = true) := by decide +kernel
theorem dX9_climb_95 : decode cX9_climb 95 = .ok (.istore 8, 2) := dr_54  pk_dece_313.1
theorem dX9_climb_97 : decode cX9_climb 97 = .ok (.iload 6, 2) := dr_21  pk_dece_313.2.1
theorem dX9_climb_99 : decode cX9_climb 99 = .ok (.ifCond .ne 32, 3) := dr_154 0 32  pk_dece_313.2.2.1
theorem dX9_climb_102 : decode cX9_climb 102 = .ok (.aload_n 0, 1) := dr_42  pk_dece_313.2.2.2.1
theorem dX9_climb_103 : decode cX9_climb 103 = .ok (.getfield 68, 3) := dr_180 0 68  pk_dece_313.2.2.2.2.1
theorem dX9_climb_106 : decode cX9_climb 106 = .ok (.iload 7, 2) := dr_21  pk_dece_313.2.2.2.2.2.1
theorem dX9_climb_108 : decode cX9_climb 108 = .ok (.iaload, 1) := dr_46  pk_dece_313.2.2.2.2.2.2.1
theorem dX9_climb_109 : decode cX9_climb 109 = .ok (.iload 4, 2) := dr_21  pk_dece_313.2.2.2.2.2.2.2.1
theorem dX9_climb_111 : decode cX9_climb 111 = .ok (.iconst 1, 1) := dr_4  pk_dece_313.2.2.2.2.2.2.2.2.1
theorem dX9_climb_112 : decode cX9_climb 112 = .ok (.isub, 1) := dr_100  pk_dece_313.2.2.2.2.2.2.2.2.2.1
theorem dX9_climb_113 : decode cX9_climb 113 = .ok (.if_icmp .ne 22, 3) := dr_160 0 22  pk_dece_313.2.2.2.2.2.2.2.2.2.2.1
theorem dX9_climb_116 : decode cX9_climb 116 = .ok (.aload_n 0, 1) := dr_42  pk_dece_313.2.2.2.2.2.2.2.2.2.2.2.1
theorem dX9_climb_117 : decode cX9_climb 117 = .ok (.getfield 62, 3) := dr_180 0 62  pk_dece_313.2.2.2.2.2.2.2.2.2.2.2.2.1
theorem dX9_climb_120 : decode cX9_climb 120 = .ok (.iload 7, 2) := dr_21  pk_dece_313.2.2.2.2.2.2.2.2.2.2.2.2.2.1
theorem dX9_climb_122 : decode cX9_climb 122 = .ok (.iaload, 1) := dr_46  pk_dece_313.2.2.2.2.2.2.2.2.2.2.2.2.2.2.1
theorem dX9_climb_123 : decode cX9_climb 123 = .ok (.iload 8, 2) := dr_21  pk_dece_313.2.2.2.2.2.2.2.2.2.2.2.2.2.2.2.1
theorem dX9_climb_125 : decode cX9_climb 125 = .ok (.iconst (-1), 1) := dr_2  pk_dece_313.2.2.2.2.2.2.2.2.2.2.2.2.2.2.2.2.1
theorem dX9_climb_126 : decode cX9_climb 126 = .ok (.ixor, 1) := dr_130  pk_dece_313.2.2.2.2.2.2.2.2.2.2.2.2.2.2.2.2.2.1
theorem dX9_climb_127 : decode cX9_climb 127 = .ok (.iand, 1) := dr_126  pk_dece_313.2.2.2.2.2.2.2.2.2.2.2.2.2.2.2.2.2.2.1
theorem dX9_climb_128 : decode cX9_climb 128 = .ok (.ifCond .ne 7, 3) := dr_154 0 7  pk_dece_313.2.2.2.2.2.2.2.2.2.2.2.2.2.2.2.2.2.2.2.1
theorem dX9_climb_131 : decode cX9_climb 131 = .ok (.iconst 1, 1) := dr_4  pk_dece_313.2.2.2.2.2.2.2.2.2.2.2.2.2.2.2.2.2.2.2.2.1
theorem dX9_climb_132 : decode cX9_climb 132 = .ok (.goto 4, 3) := dr_167 0 4  pk_dece_313.2.2.2.2.2.2.2.2.2.2.2.2.2.2.2.2.2.2.2.2.2.1
theorem dX9_climb_135 : decode cX9_climb 135 = .ok (.iconst 0, 1) := dr_3  pk_dece_313.2.2.2.2.2.2.2.2.2.2.2.2.2.2.2.2.2.2.2.2.2.2.1
theorem dX9_climb_136 : decode cX9_climb 136 = .ok (.istore 6, 2) := dr_54  pk_dece_313.2.2.2.2.2.2.2.2.2.2.2.2.2.2.2.2.2.2.2.2.2.2.2
theorem dX9_climb_138 : decode cX9_climb 138 = .ok (.iinc 7 1, 3) := by decide +kernel
set_option maxRecDepth 20000 in
theorem pk_dece_314 : ((bq cX9_climb 141 167 && bq cX9_climb (141 + 1) 255 && bq cX9_climb (141 + 2) 182 && (Reader.signed 16 (255 * 256 + 182) == (-74))) = true) ∧ (bq cX9_climb 144 42 = true) ∧ ((bq cX9_climb 145 180 && bq cX9_climb (145 + 1) 0 && bq cX9_climb (145 + 2) 68 && (0 * 256 + 68 == 68)) = true) ∧ ((bq cX9_climb 148 21 && bq cX9_climb (148 + 1) 5) = true) ∧ (bq cX9_climb 150 42 = true) ∧ ((bq cX9_climb 151 180 && bq cX9_climb (151 + 1) 0 && bq cX9_climb (151 + 2) 68 && (0 * 256 + 68 == 68)) = true) ∧ ((bq cX9_climb 154 21 && bq cX9_climb (154 + 1) 5) = true) ∧ (bq cX9_climb 156 46 = true) ∧ ((bq cX9_climb 157 16 && bq cX9_climb (157 + 1) 247 && (Reader.signed 8 247 == (-9))) = true) ∧ ((bq cX9_climb 159 160 && bq cX9_climb (159 + 1) 0 && bq cX9_climb (159 + 2) 13 && (Reader.signed 16 (0 * 256 + 13) == 13)) = true) ∧ ((bq cX9_climb 162 21 && bq cX9_climb (162 + 1) 6) = true) ∧ ((bq cX9_climb 164 153 && bq cX9_climb (164 + 1) 0 && bq cX9_climb (164 + 2) 8 && (Reader.signed 16 (0 * 256 + 8) == 8)) = true) ∧ ((bq cX9_climb 167 21 && bq cX9_climb (167 + 1) 4) = true) ∧ ((bq cX9_climb 169 167 && bq cX9_climb (169 + 1) 0 && bq cX9_climb (169 + 2) 10 && (Reader.signed 16 (0 * 256 + 10) == 10)) = true) ∧ (bq cX9_climb 172 42 = true) ∧ ((bq cX9_climb 173 180 && bq cX9_climb (173 + 1) 0 && bq cX9_climb (173 + 2) 68 && (0 * 256 + 68 == 68)) = true) ∧ ((bq cX9_climb 176 21 && bq cX9_climb (176 + 1) 5) = true) ∧ (bq cX9_climb 178 46 = true) ∧ (bq cX9_climb 179 79 = true) := by decide +kernel
theorem dX9_climb_141 : decode cX9_climb 141 = .ok (.goto (-74), 3) := dr_167 255 182  pk_dece_314.1
theorem dX9_climb_144 : decode cX9_climb 144 = .ok (.aload_n 0, 1) := dr_42  pk_dece_314.2.1
theorem dX9_climb_145 : decode cX9_climb 145 = .ok (.getfield 68, 3) := dr_180 0 68  pk_dece_314.2.2.1
theorem dX9_climb_148 : decode cX9_climb 148 = .ok (.iload 5, 2) := dr_21  pk_dece_314.2.2.2.1
theorem dX9_climb_150 : decode cX9_climb 150 = .ok (.aload_n 0, 1) := dr_42  pk_dece_314.2.2.2.2.1
theorem dX9_climb_151 : decode cX9_climb 151 = .ok (.getfield 68, 3) := dr_180 0 68  pk_dece_314.2.2.2.2.2.1
theorem dX9_climb_154 : decode cX9_climb 154 = .ok (.iload 5, 2) := dr_21  pk_dece_314.2.2.2.2.2.2.1
theorem dX9_climb_156 : decode cX9_climb 156 = .ok (.iaload, 1) := dr_46  pk_dece_314.2.2.2.2.2.2.2.1
theorem dX9_climb_157 : decode cX9_climb 157 = .ok (.bipush (-9), 2) := dr_16 247  pk_dece_314.2.2.2.2.2.2.2.2.1
theorem dX9_climb_159 : decode cX9_climb 159 = .ok (.if_icmp .ne 13, 3) := dr_160 0 13  pk_dece_314.2.2.2.2.2.2.2.2.2.1
theorem dX9_climb_162 : decode cX9_climb 162 = .ok (.iload 6, 2) := dr_21  pk_dece_314.2.2.2.2.2.2.2.2.2.2.1
theorem dX9_climb_164 : decode cX9_climb 164 = .ok (.ifCond .eq 8, 3) := dr_153 0 8  pk_dece_314.2.2.2.2.2.2.2.2.2.2.2.1
theorem dX9_climb_167 : decode cX9_climb 167 = .ok (.iload 4, 2) := dr_21  pk_dece_314.2.2.2.2.2.2.2.2.2.2.2.2.1
theorem dX9_climb_169 : decode cX9_climb 169 = .ok (.goto 10, 3) := dr_167 0 10  pk_dece_314.2.2.2.2.2.2.2.2.2.2.2.2.2.1
theorem dX9_climb_172 : decode cX9_climb 172 = .ok (.aload_n 0, 1) := dr_42  pk_dece_314.2.2.2.2.2.2.2.2.2.2.2.2.2.2.1
theorem dX9_climb_173 : decode cX9_climb 173 = .ok (.getfield 68, 3) := dr_180 0 68  pk_dece_314.2.2.2.2.2.2.2.2.2.2.2.2.2.2.2.1
theorem dX9_climb_176 : decode cX9_climb 176 = .ok (.iload 5, 2) := dr_21  pk_dece_314.2.2.2.2.2.2.2.2.2.2.2.2.2.2.2.2.1
theorem dX9_climb_178 : decode cX9_climb 178 = .ok (.iaload, 1) := dr_46  pk_dece_314.2.2.2.2.2.2.2.2.2.2.2.2.2.2.2.2.2.1
theorem dX9_climb_179 : decode cX9_climb 179 = .ok (.iastore, 1) := dr_79  pk_dece_314.2.2.2.2.2.2.2.2.2.2.2.2.2.2.2.2.2.2
theorem dX9_climb_180 : decode cX9_climb 180 = .ok (.iinc 5 1, 3) := by decide +kernel
set_option maxRecDepth 20000 in
theorem pk_dece_315 : ((bq cX9_climb 183 167 && bq cX9_climb (183 + 1) 255 && bq cX9_climb (183 + 2) 125 && (Reader.signed 16 (255 * 256 + 125) == (-131))) = true) := by decide +kernel
theorem dX9_climb_183 : decode cX9_climb 183 = .ok (.goto (-131), 3) := dr_167 255 125  pk_dece_315
theorem dX9_climb_186 : decode cX9_climb 186 = .ok (.iinc 4 1, 3) := by decide +kernel
set_option maxRecDepth 20000 in
theorem pk_dece_316 : ((bq cX9_climb 189 167 && bq cX9_climb (189 + 1) 255 && bq cX9_climb (189 + 2) 107 && (Reader.signed 16 (255 * 256 + 107) == (-149))) = true) ∧ (bq cX9_climb 192 42 = true) ∧ ((bq cX9_climb 193 180 && bq cX9_climb (193 + 1) 0 && bq cX9_climb (193 + 2) 68 && (0 * 256 + 68 == 68)) = true) ∧ (bq cX9_climb 196 27 = true) ∧ (bq cX9_climb 197 46 = true) ∧ (bq cX9_climb 198 172 = true) := by decide +kernel
theorem dX9_climb_189 : decode cX9_climb 189 = .ok (.goto (-149), 3) := dr_167 255 107  pk_dece_316.1
theorem dX9_climb_192 : decode cX9_climb 192 = .ok (.aload_n 0, 1) := dr_42  pk_dece_316.2.1
theorem dX9_climb_193 : decode cX9_climb 193 = .ok (.getfield 68, 3) := dr_180 0 68  pk_dece_316.2.2.1
theorem dX9_climb_196 : decode cX9_climb 196 = .ok (.iload_n 1, 1) := dr_27  pk_dece_316.2.2.2.1
theorem dX9_climb_197 : decode cX9_climb 197 = .ok (.iaload, 1) := dr_46  pk_dece_316.2.2.2.2.1
theorem dX9_climb_198 : decode cX9_climb 198 = .ok (.ireturn, 1) := dr_172  pk_dece_316.2.2.2.2.2
set_option maxRecDepth 20000 in
theorem pk_dece_317 : (bq cX9_ladder 0 42 = true) ∧ (bq cX9_ladder 1 27 = true) ∧ ((bq cX9_ladder 2 182 && bq cX9_ladder (2 + 1) 0 && bq cX9_ladder (2 + 2) 239 && (0 * 256 + 239 == 239)) = true) ∧ ((bq cX9_ladder 5 153 && bq cX9_ladder (5 + 1) 0 && bq cX9_ladder (5 + 2) 16 && (Reader.signed 16 (0 * 256 + 16) == 16)) = true) ∧ (bq cX9_ladder 8 42 = true) ∧ (bq cX9_ladder 9 28 = true) ∧ ((bq cX9_ladder 10 182 && bq cX9_ladder (10 + 1) 0 && bq cX9_ladder (10 + 2) 239 && (0 * 256 + 239 == 239)) = true) ∧ ((bq cX9_ladder 13 153 && bq cX9_ladder (13 + 1) 0 && bq cX9_ladder (13 + 2) 8 && (Reader.signed 16 (0 * 256 + 8) == 8)) = true) ∧ (bq cX9_ladder 16 29 = true) ∧ (bq cX9_ladder 17 2 = true) ∧ ((bq cX9_ladder 18 162 && bq cX9_ladder (18 + 1) 0 && bq cX9_ladder (18 + 2) 5 && (Reader.signed 16 (0 * 256 + 5) == 5)) = true) ∧ (bq cX9_ladder 21 2 = true) ∧ (bq cX9_ladder 22 172 = true) ∧ (bq cX9_ladder 23 42 = true) ∧ (bq cX9_ladder 24 27 = true) ∧ (bq cX9_ladder 25 28 = true) ∧ (bq cX9_ladder 26 3 = true) ∧ ((bq cX9_ladder 27 182 && bq cX9_ladder (27 + 1) 0 && bq cX9_ladder (27 + 2) 242 && (0 * 256 + 242 == 242)) = true) ∧ ((bq cX9_ladder 30 54 && bq cX9_ladder (30 + 1) 4) = true) ∧ ((bq cX9_ladder 32 21 && bq cX9_ladder (32 + 1) 4) = true) ∧ ((bq cX9_ladder 34 16 && bq cX9_ladder (34 + 1) 247 && (Reader.signed 8 247 == (-9))) = true) ∧ ((bq cX9_ladder 36 159 && bq cX9_ladder (36 + 1) 0 && bq cX9_ladder (36 + 2) 7 && (Reader.signed 16 (0 * 256 + 7) == 7)) = true) ∧ (bq cX9_ladder 39 29 = true) ∧ ((bq cX9_ladder 40 156 && bq cX9_ladder (40 + 1) 0 && bq cX9_ladder (40 + 2) 6 && (Reader.signed 16 (0 * 256 + 6) == 6)) = true) ∧ ((bq cX9_ladder 43 21 && bq cX9_ladder (43 + 1) 4) = true) ∧ (bq cX9_ladder 45 172 = true) ∧ (bq cX9_ladder 46 29 = true) ∧ ((bq cX9_ladder 47 21 && bq cX9_ladder (47 + 1) 4) = true) ∧ ((bq cX9_ladder 49 164 && bq cX9_ladder (49 + 1) 0 && bq cX9_ladder (49 + 2) 6 && (Reader.signed 16 (0 * 256 + 6) == 6)) = true) ∧ ((bq cX9_ladder 52 16 && bq cX9_ladder (52 + 1) 247 && (Reader.signed 8 247 == (-9))) = true) ∧ (bq cX9_ladder 54 172 = true) ∧ (bq cX9_ladder 55 27 = true) := by decide +kernel
theorem dX9_ladder_0 : decode cX9_ladder 0 = .ok (.aload_n 0, 1) := dr_42  pk_dece_317.1
theorem dX9_ladder_1 : decode cX9_ladder 1 = .ok (.iload_n 1, 1) := dr_27  pk_dece_317.2.1
theorem dX9_ladder_2 : decode cX9_ladder 2 = .ok (.invokevirtual 239, 3) := dr_182 0 239  pk_dece_317.2.2.1
theorem dX9_ladder_5 : decode cX9_ladder 5 = .ok (.ifCond .eq 16, 3) := dr_153 0 16  pk_dece_317.2.2.2.1
theorem dX9_ladder_8 : decode cX9_ladder 8 = .ok (.aload_n 0, 1) := dr_42  pk_dece_317.2.2.2.2.1
theorem dX9_ladder_9 : decode cX9_ladder 9 = .ok (.iload_n 2, 1) := dr_28  pk_dece_317.2.2.2.2.2.1
theorem dX9_ladder_10 : decode cX9_ladder 10 = .ok (.invokevirtual 239, 3) := dr_182 0 239  pk_dece_317.2.2.2.2.2.2.1
theorem dX9_ladder_13 : decode cX9_ladder 13 = .ok (.ifCond .eq 8, 3) := dr_153 0 8  pk_dece_317.2.2.2.2.2.2.2.1
theorem dX9_ladder_16 : decode cX9_ladder 16 = .ok (.iload_n 3, 1) := dr_29  pk_dece_317.2.2.2.2.2.2.2.2.1
theorem dX9_ladder_17 : decode cX9_ladder 17 = .ok (.iconst (-1), 1) := dr_2  pk_dece_317.2.2.2.2.2.2.2.2.2.1
theorem dX9_ladder_18 : decode cX9_ladder 18 = .ok (.if_icmp .ge 5, 3) := dr_162 0 5  pk_dece_317.2.2.2.2.2.2.2.2.2.2.1
theorem dX9_ladder_21 : decode cX9_ladder 21 = .ok (.iconst (-1), 1) := dr_2  pk_dece_317.2.2.2.2.2.2.2.2.2.2.2.1
theorem dX9_ladder_22 : decode cX9_ladder 22 = .ok (.ireturn, 1) := dr_172  pk_dece_317.2.2.2.2.2.2.2.2.2.2.2.2.1
theorem dX9_ladder_23 : decode cX9_ladder 23 = .ok (.aload_n 0, 1) := dr_42  pk_dece_317.2.2.2.2.2.2.2.2.2.2.2.2.2.1
theorem dX9_ladder_24 : decode cX9_ladder 24 = .ok (.iload_n 1, 1) := dr_27  pk_dece_317.2.2.2.2.2.2.2.2.2.2.2.2.2.2.1
theorem dX9_ladder_25 : decode cX9_ladder 25 = .ok (.iload_n 2, 1) := dr_28  pk_dece_317.2.2.2.2.2.2.2.2.2.2.2.2.2.2.2.1
theorem dX9_ladder_26 : decode cX9_ladder 26 = .ok (.iconst 0, 1) := dr_3  pk_dece_317.2.2.2.2.2.2.2.2.2.2.2.2.2.2.2.2.1
theorem dX9_ladder_27 : decode cX9_ladder 27 = .ok (.invokevirtual 242, 3) := dr_182 0 242  pk_dece_317.2.2.2.2.2.2.2.2.2.2.2.2.2.2.2.2.2.1
theorem dX9_ladder_30 : decode cX9_ladder 30 = .ok (.istore 4, 2) := dr_54  pk_dece_317.2.2.2.2.2.2.2.2.2.2.2.2.2.2.2.2.2.2.1
theorem dX9_ladder_32 : decode cX9_ladder 32 = .ok (.iload 4, 2) := dr_21  pk_dece_317.2.2.2.2.2.2.2.2.2.2.2.2.2.2.2.2.2.2.2.1
theorem dX9_ladder_34 : decode cX9_ladder 34 = .ok (.bipush (-9), 2) := dr_16 247  pk_dece_317.2.2.2.2.2.2.2.2.2.2.2.2.2.2.2.2.2.2.2.2.1
theorem dX9_ladder_36 : decode cX9_ladder 36 = .ok (.if_icmp .eq 7, 3) := dr_159 0 7  pk_dece_317.2.2.2.2.2.2.2.2.2.2.2.2.2.2.2.2.2.2.2.2.2.1
theorem dX9_ladder_39 : decode cX9_ladder 39 = .ok (.iload_n 3, 1) := dr_29  pk_dece_317.2.2.2.2.2.2.2.2.2.2.2.2.2.2.2.2.2.2.2.2.2.2.1
theorem dX9_ladder_40 : decode cX9_ladder 40 = .ok (.ifCond .ge 6, 3) := dr_156 0 6  pk_dece_317.2.2.2.2.2.2.2.2.2.2.2.2.2.2.2.2.2.2.2.2.2.2.2.1
theorem dX9_ladder_43 : decode cX9_ladder 43 = .ok (.iload 4, 2) := dr_21  pk_dece_317.2.2.2.2.2.2.2.2.2.2.2.2.2.2.2.2.2.2.2.2.2.2.2.2.1
theorem dX9_ladder_45 : decode cX9_ladder 45 = .ok (.ireturn, 1) := dr_172  pk_dece_317.2.2.2.2.2.2.2.2.2.2.2.2.2.2.2.2.2.2.2.2.2.2.2.2.2.1
theorem dX9_ladder_46 : decode cX9_ladder 46 = .ok (.iload_n 3, 1) := dr_29  pk_dece_317.2.2.2.2.2.2.2.2.2.2.2.2.2.2.2.2.2.2.2.2.2.2.2.2.2.2.1
theorem dX9_ladder_47 : decode cX9_ladder 47 = .ok (.iload 4, 2) := dr_21  pk_dece_317.2.2.2.2.2.2.2.2.2.2.2.2.2.2.2.2.2.2.2.2.2.2.2.2.2.2.2.1
theorem dX9_ladder_49 : decode cX9_ladder 49 = .ok (.if_icmp .le 6, 3) := dr_164 0 6  pk_dece_317.2.2.2.2.2.2.2.2.2.2.2.2.2.2.2.2.2.2.2.2.2.2.2.2.2.2.2.2.1
theorem dX9_ladder_52 : decode cX9_ladder 52 = .ok (.bipush (-9), 2) := dr_16 247  pk_dece_317.2.2.2.2.2.2.2.2.2.2.2.2.2.2.2.2.2.2.2.2.2.2.2.2.2.2.2.2.2.1
theorem dX9_ladder_54 : decode cX9_ladder 54 = .ok (.ireturn, 1) := dr_172  pk_dece_317.2.2.2.2.2.2.2.2.2.2.2.2.2.2.2.2.2.2.2.2.2.2.2.2.2.2.2.2.2.2.1
theorem dX9_ladder_55 : decode cX9_ladder 55 = .ok (.iload_n 1, 1) := dr_27  pk_dece_317.2.2.2.2.2.2.2.2.2.2.2.2.2.2.2.2.2.2.2.2.2.2.2.2.2.2.2.2.2.2.2
set_option maxRecDepth 20000 in
theorem pk_dece_318 : ((bq cX9_ladder 56 54 && bq cX9_ladder (56 + 1) 5) = true) ∧ (bq cX9_ladder 58 3 = true) ∧ ((bq cX9_ladder 59 54 && bq cX9_ladder (59 + 1) 6) = true) ∧ ((bq cX9_ladder 61 21 && bq cX9_ladder (61 + 1) 6) = true) ∧ (bq cX9_ladder 63 29 = true) ∧ ((bq cX9_ladder 64 162 && bq cX9_ladder (64 + 1) 0 && bq cX9_ladder (64 + 2) 90 && (Reader.signed 16 (0 * 256 + 90) == 90)) = true) ∧ ((bq cX9_ladder 67 16 && bq cX9_ladder (67 + 1) 247 && (Reader.signed 8 247 == (-9))) = true) ∧ ((bq cX9_ladder 69 54 && bq cX9_ladder (69 + 1) 7) = true) ∧ (bq cX9_ladder 71 3 = true) ∧ ((bq cX9_ladder 72 54 && bq cX9_ladder (72 + 1) 8) = true) ∧ ((bq cX9_ladder 74 21 && bq cX9_ladder (74 + 1) 8) = true) ∧ (bq cX9_ladder 76 42 = true) ∧ ((bq cX9_ladder 77 180 && bq cX9_ladder (77 + 1) 0 && bq cX9_ladder (77 + 2) 236 && (0 * 256 + 236 == 236)) = true) ∧ ((bq cX9_ladder 80 162 && bq cX9_ladder (80 + 1) 0 && bq cX9_ladder (80 + 2) 64 && (Reader.signed 16 (0 * 256 + 64) == 64)) = true) ∧ ((bq cX9_ladder 83 21 && bq cX9_ladder (83 + 1) 7) = true) ∧ ((bq cX9_ladder 85 16 && bq cX9_ladder (85 + 1) 247 && (Reader.signed 8 247 == (-9))) = true) ∧ ((bq cX9_ladder 87 160 && bq cX9_ladder (87 + 1) 0 && bq cX9_ladder (87 + 2) 47 && (Reader.signed 16 (0 * 256 + 47) == 47)) = true) ∧ (bq cX9_ladder 90 42 = true) ∧ ((bq cX9_ladder 91 180 && bq cX9_ladder (91 + 1) 0 && bq cX9_ladder (91 + 2) 68 && (0 * 256 + 68 == 68)) = true) ∧ ((bq cX9_ladder 94 21 && bq cX9_ladder (94 + 1) 8) = true) ∧ (bq cX9_ladder 96 46 = true) ∧ (bq cX9_ladder 97 42 = true) ∧ ((bq cX9_ladder 98 180 && bq cX9_ladder (98 + 1) 0 && bq cX9_ladder (98 + 2) 68 && (0 * 256 + 68 == 68)) = true) ∧ ((bq cX9_ladder 101 21 && bq cX9_ladder (101 + 1) 5) = true) ∧ (bq cX9_ladder 103 46 = true) ∧ (bq cX9_ladder 104 4 = true) ∧ (bq cX9_ladder 105 100 = true) ∧ ((bq cX9_ladder 106 160 && bq cX9_ladder (106 + 1) 0 && bq cX9_ladder (106 + 2) 28 && (Reader.signed 16 (0 * 256 + 28) == 28)) = true) ∧ (bq cX9_ladder 109 42 = true) ∧ ((bq cX9_ladder 110 180 && bq cX9_ladder (110 + 1) 0 && bq cX9_ladder (110 + 2) 62 && (0 * 256 + 62 == 62)) = true) ∧ ((bq cX9_ladder 113 21 && bq cX9_ladder (113 + 1) 8) = true) ∧ (bq cX9_ladder 115 46 = true) := by decide +kernel
theorem dX9_ladder_56 : decode cX9_ladder 56 = .ok (.istore 5, 2) := dr_54  pk_dece_318.1
theorem dX9_ladder_58 : decode cX9_ladder 58 = .ok (.iconst 0, 1) := dr_3  pk_dece_318.2.1
theorem dX9_ladder_59 : decode cX9_ladder 59 = .ok (.istore 6, 2) := dr_54  pk_dece_318.2.2.1
theorem dX9_ladder_61 : decode cX9_ladder 61 = .ok (.iload 6, 2) := dr_21  pk_dece_318.2.2.2.1
theorem dX9_ladder_63 : decode cX9_ladder 63 = .ok (.iload_n 3, 1) := dr_29  pk_dece_318.2.2.2.2.1
theorem dX9_ladder_64 : decode cX9_ladder 64 = .ok (.if_icmp .ge 90, 3) := dr_162 0 90  pk_dece_318.2.2.2.2.2.1
theorem dX9_ladder_67 : decode cX9_ladder 67 = .ok (.bipush (-9), 2) := dr_16 247  pk_dece_318.2.2.2.2.2.2.1
theorem dX9_ladder_69 : decode cX9_ladder 69 = .ok (.istore 7, 2) := dr_54  pk_dece_318.2.2.2.2.2.2.2.1
theorem dX9_ladder_71 : decode cX9_ladder 71 = .ok (.iconst 0, 1) := dr_3  pk_dece_318.2.2.2.2.2.2.2.2.1
theorem dX9_ladder_72 : decode cX9_ladder 72 = .ok (.istore 8, 2) := dr_54  pk_dece_318.2.2.2.2.2.2.2.2.2.1
theorem dX9_ladder_74 : decode cX9_ladder 74 = .ok (.iload 8, 2) := dr_21  pk_dece_318.2.2.2.2.2.2.2.2.2.2.1
theorem dX9_ladder_76 : decode cX9_ladder 76 = .ok (.aload_n 0, 1) := dr_42  pk_dece_318.2.2.2.2.2.2.2.2.2.2.2.1
theorem dX9_ladder_77 : decode cX9_ladder 77 = .ok (.getfield 236, 3) := dr_180 0 236  pk_dece_318.2.2.2.2.2.2.2.2.2.2.2.2.1
theorem dX9_ladder_80 : decode cX9_ladder 80 = .ok (.if_icmp .ge 64, 3) := dr_162 0 64  pk_dece_318.2.2.2.2.2.2.2.2.2.2.2.2.2.1
theorem dX9_ladder_83 : decode cX9_ladder 83 = .ok (.iload 7, 2) := dr_21  pk_dece_318.2.2.2.2.2.2.2.2.2.2.2.2.2.2.1
theorem dX9_ladder_85 : decode cX9_ladder 85 = .ok (.bipush (-9), 2) := dr_16 247  pk_dece_318.2.2.2.2.2.2.2.2.2.2.2.2.2.2.2.1
theorem dX9_ladder_87 : decode cX9_ladder 87 = .ok (.if_icmp .ne 47, 3) := dr_160 0 47  pk_dece_318.2.2.2.2.2.2.2.2.2.2.2.2.2.2.2.2.1
theorem dX9_ladder_90 : decode cX9_ladder 90 = .ok (.aload_n 0, 1) := dr_42  pk_dece_318.2.2.2.2.2.2.2.2.2.2.2.2.2.2.2.2.2.1
theorem dX9_ladder_91 : decode cX9_ladder 91 = .ok (.getfield 68, 3) := dr_180 0 68  pk_dece_318.2.2.2.2.2.2.2.2.2.2.2.2.2.2.2.2.2.2.1
theorem dX9_ladder_94 : decode cX9_ladder 94 = .ok (.iload 8, 2) := dr_21  pk_dece_318.2.2.2.2.2.2.2.2.2.2.2.2.2.2.2.2.2.2.2.1
theorem dX9_ladder_96 : decode cX9_ladder 96 = .ok (.iaload, 1) := dr_46  pk_dece_318.2.2.2.2.2.2.2.2.2.2.2.2.2.2.2.2.2.2.2.2.1
theorem dX9_ladder_97 : decode cX9_ladder 97 = .ok (.aload_n 0, 1) := dr_42  pk_dece_318.2.2.2.2.2.2.2.2.2.2.2.2.2.2.2.2.2.2.2.2.2.1
theorem dX9_ladder_98 : decode cX9_ladder 98 = .ok (.getfield 68, 3) := dr_180 0 68  pk_dece_318.2.2.2.2.2.2.2.2.2.2.2.2.2.2.2.2.2.2.2.2.2.2.1
theorem dX9_ladder_101 : decode cX9_ladder 101 = .ok (.iload 5, 2) := dr_21  pk_dece_318.2.2.2.2.2.2.2.2.2.2.2.2.2.2.2.2.2.2.2.2.2.2.2.1
theorem dX9_ladder_103 : decode cX9_ladder 103 = .ok (.iaload, 1) := dr_46  pk_dece_318.2.2.2.2.2.2.2.2.2.2.2.2.2.2.2.2.2.2.2.2.2.2.2.2.1
theorem dX9_ladder_104 : decode cX9_ladder 104 = .ok (.iconst 1, 1) := dr_4  pk_dece_318.2.2.2.2.2.2.2.2.2.2.2.2.2.2.2.2.2.2.2.2.2.2.2.2.2.1
theorem dX9_ladder_105 : decode cX9_ladder 105 = .ok (.isub, 1) := dr_100  pk_dece_318.2.2.2.2.2.2.2.2.2.2.2.2.2.2.2.2.2.2.2.2.2.2.2.2.2.2.1
theorem dX9_ladder_106 : decode cX9_ladder 106 = .ok (.if_icmp .ne 28, 3) := dr_160 0 28  pk_dece_318.2.2.2.2.2.2.2.2.2.2.2.2.2.2.2.2.2.2.2.2.2.2.2.2.2.2.2.1
theorem dX9_ladder_109 : decode cX9_ladder 109 = .ok (.aload_n 0, 1) := dr_42  pk_dece_318.2.2.2.2.2.2.2.2.2.2.2.2.2.2.2.2.2.2.2.2.2.2.2.2.2.2.2.2.1
theorem dX9_ladder_110 : decode cX9_ladder 110 = .ok (.getfield 62, 3) := dr_180 0 62  pk_dece_318.2.2.2.2.2.2.2.2.2.2.2.2.2.2.2.2.2.2.2.2.2.2.2.2.2.2.2.2.2.1
theorem dX9_ladder_113 : decode cX9_ladder 113 = .ok (.iload 8, 2) := dr_21  pk_dece_318.2.2.2.2.2.2.2.2.2.2.2.2.2.2.2.2.2.2.2.2.2.2.2.2.2.2.2.2.2.2.1
theorem dX9_ladder_115 : decode cX9_ladder 115 = .ok (.iaload, 1) := dr_46  pk_dece_318.2.2.2.2.2.2.2.2.2.2.2.2.2.2.2.2.2.2.2.2.2.2.2.2.2.2.2.2.2.2.2
set_option maxRecDepth 20000 in
theorem pk_dece_319 : (bq cX9_ladder 116 42 = true) ∧ ((bq cX9_ladder 117 180 && bq cX9_ladder (117 + 1) 0 && bq cX9_ladder (117 + 2) 65 && (0 * 256 + 65 == 65)) = true) ∧ ((bq cX9_ladder 120 21 && bq cX9_ladder (120 + 1) 5) = true) ∧ (bq cX9_ladder 122 46 = true) ∧ (bq cX9_ladder 123 2 = true) ∧ (bq cX9_ladder 124 130 = true) ∧ (bq cX9_ladder 125 126 = true) ∧ ((bq cX9_ladder 126 154 && bq cX9_ladder (126 + 1) 0 && bq cX9_ladder (126 + 2) 8 && (Reader.signed 16 (0 * 256 + 8) == 8)) = true) ∧ ((bq cX9_ladder 129 21 && bq cX9_ladder (129 + 1) 8) = true) ∧ ((bq cX9_ladder 131 167 && bq cX9_ladder (131 + 1) 0 && bq cX9_ladder (131 + 2) 5 && (Reader.signed 16 (0 * 256 + 5) == 5)) = true) ∧ ((bq cX9_ladder 134 21 && bq cX9_ladder (134 + 1) 7) = true) ∧ ((bq cX9_ladder 136 54 && bq cX9_ladder (136 + 1) 7) = true) := by decide +kernel
theorem dX9_ladder_116 : decode cX9_ladder 116 = .ok (.aload_n 0, 1) := dr_42  pk_dece_319.1
theorem dX9_ladder_117 : decode cX9_ladder 117 = .ok (.getfield 65, 3) := dr_180 0 65  pk_dece_319.2.1
theorem dX9_ladder_120 : decode cX9_ladder 120 = .ok (.iload 5, 2) := dr_21  pk_dece_319.2.2.1
theorem dX9_ladder_122 : decode cX9_ladder 122 = .ok (.iaload, 1) := dr_46  pk_dece_319.2.2.2.1
theorem dX9_ladder_123 : decode cX9_ladder 123 = .ok (.iconst (-1), 1) := dr_2  pk_dece_319.2.2.2.2.1
theorem dX9_ladder_124 : decode cX9_ladder 124 = .ok (.ixor, 1) := dr_130  pk_dece_319.2.2.2.2.2.1
theorem dX9_ladder_125 : decode cX9_ladder 125 = .ok (.iand, 1) := dr_126  pk_dece_319.2.2.2.2.2.2.1
theorem dX9_ladder_126 : decode cX9_ladder 126 = .ok (.ifCond .ne 8, 3) := dr_154 0 8  pk_dece_319.2.2.2.2.2.2.2.1
theorem dX9_ladder_129 : decode cX9_ladder 129 = .ok (.iload 8, 2) := dr_21  pk_dece_319.2.2.2.2.2.2.2.2.1
theorem dX9_ladder_131 : decode cX9_ladder 131 = .ok (.goto 5, 3) := dr_167 0 5  pk_dece_319.2.2.2.2.2.2.2.2.2.1
theorem dX9_ladder_134 : decode cX9_ladder 134 = .ok (.iload 7, 2) := dr_21  pk_dece_319.2.2.2.2.2.2.2.2.2.2.1
theorem dX9_ladder_136 : decode cX9_ladder 136 = .ok (.istore 7, 2) := dr_54  pk_dece_319.2.2.2.2.2.2.2.2.2.2.2
theorem dX9_ladder_138 : decode cX9_ladder 138 = .ok (.iinc 8 1, 3) := by decide +kernel
set_option maxRecDepth 20000 in
theorem pk_dece_320 : ((bq cX9_ladder 141 167 && bq cX9_ladder (141 + 1) 255 && bq cX9_ladder (141 + 2) 189 && (Reader.signed 16 (255 * 256 + 189) == (-67))) = true) ∧ ((bq cX9_ladder 144 21 && bq cX9_ladder (144 + 1) 7) = true) ∧ ((bq cX9_ladder 146 54 && bq cX9_ladder (146 + 1) 5) = true) := by decide +kernel
theorem dX9_ladder_141 : decode cX9_ladder 141 = .ok (.goto (-67), 3) := dr_167 255 189  pk_dece_320.1
theorem dX9_ladder_144 : decode cX9_ladder 144 = .ok (.iload 7, 2) := dr_21  pk_dece_320.2.1
theorem dX9_ladder_146 : decode cX9_ladder 146 = .ok (.istore 5, 2) := dr_54  pk_dece_320.2.2
theorem dX9_ladder_148 : decode cX9_ladder 148 = .ok (.iinc 6 1, 3) := by decide +kernel
set_option maxRecDepth 20000 in
theorem pk_dece_321 : ((bq cX9_ladder 151 167 && bq cX9_ladder (151 + 1) 255 && bq cX9_ladder (151 + 2) 166 && (Reader.signed 16 (255 * 256 + 166) == (-90))) = true) ∧ ((bq cX9_ladder 154 21 && bq cX9_ladder (154 + 1) 5) = true) ∧ (bq cX9_ladder 156 172 = true) := by decide +kernel
theorem dX9_ladder_151 : decode cX9_ladder 151 = .ok (.goto (-90), 3) := dr_167 255 166  pk_dece_321.1
theorem dX9_ladder_154 : decode cX9_ladder 154 = .ok (.iload 5, 2) := dr_21  pk_dece_321.2.1
theorem dX9_ladder_156 : decode cX9_ladder 156 = .ok (.ireturn, 1) := dr_172  pk_dece_321.2.2
set_option maxRecDepth 20000 in
theorem pk_dece_322 : (bq cX9_needed 0 42 = true) ∧ (bq cX9_needed 1 27 = true) ∧ ((bq cX9_needed 2 182 && bq cX9_needed (2 + 1) 0 && bq cX9_needed (2 + 2) 239 && (0 * 256 + 239 == 239)) = true) ∧ ((bq cX9_needed 5 153 && bq cX9_needed (5 + 1) 0 && bq cX9_needed (5 + 2) 20 && (Reader.signed 16 (0 * 256 + 20) == 20)) = true) ∧ (bq cX9_needed 8 42 = true) ∧ (bq cX9_needed 9 28 = true) ∧ ((bq cX9_needed 10 182 && bq cX9_needed (10 + 1) 0 && bq cX9_needed (10 + 2) 239 && (0 * 256 + 239 == 239)) = true) ∧ ((bq cX9_needed 13 153 && bq cX9_needed (13 + 1) 0 && bq cX9_needed (13 + 2) 12 && (Reader.signed 16 (0 * 256 + 12) == 12)) = true) ∧ (bq cX9_needed 16 29 = true) ∧ (bq cX9_needed 17 3 = true) ∧ (bq cX9_needed 18 4 = true) ∧ ((bq cX9_needed 19 184 && bq cX9_needed (19 + 1) 0 && bq cX9_needed (19 + 2) 75 && (0 * 256 + 75 == 75)) = true) ∧ ((bq cX9_needed 22 154 && bq cX9_needed (22 + 1) 0 && bq cX9_needed (22 + 2) 5 && (Reader.signed 16 (0 * 256 + 5) == 5)) = true) ∧ (bq cX9_needed 25 2 = true) ∧ (bq cX9_needed 26 172 = true) ∧ ((bq cX9_needed 27 16 && bq cX9_needed (27 + 1) 247 && (Reader.signed 8 247 == (-9))) = true) ∧ ((bq cX9_needed 29 54 && bq cX9_needed (29 + 1) 4) = true) ∧ (bq cX9_needed 31 42 = true) ∧ (bq cX9_needed 32 27 = true) ∧ (bq cX9_needed 33 28 = true) ∧ (bq cX9_needed 34 3 = true) ∧ ((bq cX9_needed 35 182 && bq cX9_needed (35 + 1) 0 && bq cX9_needed (35 + 2) 242 && (0 * 256 + 242 == 242)) = true) ∧ ((bq cX9_needed 38 54 && bq cX9_needed (38 + 1) 5) = true) ∧ (bq cX9_needed 40 3 = true) ∧ ((bq cX9_needed 41 54 && bq cX9_needed (41 + 1) 6) = true) ∧ ((bq cX9_needed 43 21 && bq cX9_needed (43 + 1) 6) = true) ∧ ((bq cX9_needed 45 16 && bq cX9_needed (45 + 1) 16 && (Reader.signed 8 16 == 16)) = true) ∧ ((bq cX9_needed 47 162 && bq cX9_needed (47 + 1) 0 && bq cX9_needed (47 + 2) 77 && (Reader.signed 16 (0 * 256 + 77) == 77)) = true) ∧ (bq cX9_needed 50 42 = true) ∧ (bq cX9_needed 51 27 = true) ∧ (bq cX9_needed 52 28 = true) ∧ (bq cX9_needed 53 4 = true) := by decide +kernel
theorem dX9_needed_0 : decode cX9_needed 0 = .ok (.aload_n 0, 1) := dr_42  pk_dece_322.1
theorem dX9_needed_1 : decode cX9_needed 1 = .ok (.iload_n 1, 1) := dr_27  pk_dece_322.2.1
theorem dX9_needed_2 : decode cX9_needed 2 = .ok (.invokevirtual 239, 3) := dr_182 0 239  pk_dece_322.2.2.1
theorem dX9_needed_5 : decode cX9_needed 5 = .ok (.ifCond .eq 20, 3) := dr_153 0 20  pk_dece_322.2.2.2.1
theorem dX9_needed_8 : decode cX9_needed 8 = .ok (.aload_n 0, 1) := dr_42  pk_dece_322.2.2.2.2.1
theorem dX9_needed_9 : decode cX9_needed 9 = .ok (.iload_n 2, 1) := dr_28  pk_dece_322.2.2.2.2.2.1
theorem dX9_needed_10 : decode cX9_needed 10 = .ok (.invokevirtual 239, 3) := dr_182 0 239  pk_dece_322.2.2.2.2.2.2.1
theorem dX9_needed_13 : decode cX9_needed 13 = .ok (.ifCond .eq 12, 3) := dr_153 0 12  pk_dece_322.2.2.2.2.2.2.2.1
theorem dX9_needed_16 : decode cX9_needed 16 = .ok (.iload_n 3, 1) := dr_29  pk_dece_322.2.2.2.2.2.2.2.2.1
theorem dX9_needed_17 : decode cX9_needed 17 = .ok (.iconst 0, 1) := dr_3  pk_dece_322.2.2.2.2.2.2.2.2.2.1
theorem dX9_needed_18 : decode cX9_needed 18 = .ok (.iconst 1, 1) := dr_4  pk_dece_322.2.2.2.2.2.2.2.2.2.2.1
theorem dX9_needed_19 : decode cX9_needed 19 = .ok (.invokestatic 75, 3) := dr_184 0 75  pk_dece_322.2.2.2.2.2.2.2.2.2.2.2.1
theorem dX9_needed_22 : decode cX9_needed 22 = .ok (.ifCond .ne 5, 3) := dr_154 0 5  pk_dece_322.2.2.2.2.2.2.2.2.2.2.2.2.1
theorem dX9_needed_25 : decode cX9_needed 25 = .ok (.iconst (-1), 1) := dr_2  pk_dece_322.2.2.2.2.2.2.2.2.2.2.2.2.2.1
theorem dX9_needed_26 : decode cX9_needed 26 = .ok (.ireturn, 1) := dr_172  pk_dece_322.2.2.2.2.2.2.2.2.2.2.2.2.2.2.1
theorem dX9_needed_27 : decode cX9_needed 27 = .ok (.bipush (-9), 2) := dr_16 247  pk_dece_322.2.2.2.2.2.2.2.2.2.2.2.2.2.2.2.1
theorem dX9_needed_29 : decode cX9_needed 29 = .ok (.istore 4, 2) := dr_54  pk_dece_322.2.2.2.2.2.2.2.2.2.2.2.2.2.2.2.2.1
theorem dX9_needed_31 : decode cX9_needed 31 = .ok (.aload_n 0, 1) := dr_42  pk_dece_322.2.2.2.2.2.2.2.2.2.2.2.2.2.2.2.2.2.1
theorem dX9_needed_32 : decode cX9_needed 32 = .ok (.iload_n 1, 1) := dr_27  pk_dece_322.2.2.2.2.2.2.2.2.2.2.2.2.2.2.2.2.2.2.1
theorem dX9_needed_33 : decode cX9_needed 33 = .ok (.iload_n 2, 1) := dr_28  pk_dece_322.2.2.2.2.2.2.2.2.2.2.2.2.2.2.2.2.2.2.2.1
theorem dX9_needed_34 : decode cX9_needed 34 = .ok (.iconst 0, 1) := dr_3  pk_dece_322.2.2.2.2.2.2.2.2.2.2.2.2.2.2.2.2.2.2.2.2.1
theorem dX9_needed_35 : decode cX9_needed 35 = .ok (.invokevirtual 242, 3) := dr_182 0 242  pk_dece_322.2.2.2.2.2.2.2.2.2.2.2.2.2.2.2.2.2.2.2.2.2.1
theorem dX9_needed_38 : decode cX9_needed 38 = .ok (.istore 5, 2) := dr_54  pk_dece_322.2.2.2.2.2.2.2.2.2.2.2.2.2.2.2.2.2.2.2.2.2.2.1
theorem dX9_needed_40 : decode cX9_needed 40 = .ok (.iconst 0, 1) := dr_3  pk_dece_322.2.2.2.2.2.2.2.2.2.2.2.2.2.2.2.2.2.2.2.2.2.2.2.1
theorem dX9_needed_41 : decode cX9_needed 41 = .ok (.istore 6, 2) := dr_54  pk_dece_322.2.2.2.2.2.2.2.2.2.2.2.2.2.2.2.2.2.2.2.2.2.2.2.2.1
theorem dX9_needed_43 : decode cX9_needed 43 = .ok (.iload 6, 2) := dr_21  pk_dece_322.2.2.2.2.2.2.2.2.2.2.2.2.2.2.2.2.2.2.2.2.2.2.2.2.2.1
theorem dX9_needed_45 : decode cX9_needed 45 = .ok (.bipush 16, 2) := dr_16 16  pk_dece_322.2.2.2.2.2.2.2.2.2.2.2.2.2.2.2.2.2.2.2.2.2.2.2.2.2.2.1
theorem dX9_needed_47 : decode cX9_needed 47 = .ok (.if_icmp .ge 77, 3) := dr_162 0 77  pk_dece_322.2.2.2.2.2.2.2.2.2.2.2.2.2.2.2.2.2.2.2.2.2.2.2.2.2.2.2.1
theorem dX9_needed_50 : decode cX9_needed 50 = .ok (.aload_n 0, 1) := dr_42  pk_dece_322.2.2.2.2.2.2.2.2.2.2.2.2.2.2.2.2.2.2.2.2.2.2.2.2.2.2.2.2.1
theorem dX9_needed_51 : decode cX9_needed 51 = .ok (.iload_n 1, 1) := dr_27  pk_dece_322.2.2.2.2.2.2.2.2.2.2.2.2.2.2.2.2.2.2.2.2.2.2.2.2.2.2.2.2.2.1
theorem dX9_needed_52 : decode cX9_needed 52 = .ok (.iload_n 2, 1) := dr_28  pk_dece_322.2.2.2.2.2.2.2.2.2.2.2.2.2.2.2.2.2.2.2.2.2.2.2.2.2.2.2.2.2.2.1
theorem dX9_needed_53 : decode cX9_needed 53 = .ok (.iconst 1, 1) := dr_4  pk_dece_322.2.2.2.2.2.2.2.2.2.2.2.2.2.2.2.2.2.2.2.2.2.2.2.2.2.2.2.2.2.2.2
set_option maxRecDepth 20000 in
theorem pk_dece_323 : ((bq cX9_needed 54 21 && bq cX9_needed (54 + 1) 6) = true) ∧ (bq cX9_needed 56 120 = true) ∧ ((bq cX9_needed 57 182 && bq cX9_needed (57 + 1) 0 && bq cX9_needed (57 + 2) 242 && (0 * 256 + 242 == 242)) = true) ∧ ((bq cX9_needed 60 54 && bq cX9_needed (60 + 1) 7) = true) ∧ ((bq cX9_needed 62 21 && bq cX9_needed (62 + 1) 7) = true) ∧ ((bq cX9_needed 64 16 && bq cX9_needed (64 + 1) 247 && (Reader.signed 8 247 == (-9))) = true) ∧ ((bq cX9_needed 66 159 && bq cX9_needed (66 + 1) 0 && bq cX9_needed (66 + 2) 21 && (Reader.signed 16 (0 * 256 + 21) == 21)) = true) ∧ ((bq cX9_needed 69 21 && bq cX9_needed (69 + 1) 5) = true) ∧ ((bq cX9_needed 71 16 && bq cX9_needed (71 + 1) 247 && (Reader.signed 8 247 == (-9))) = true) ∧ ((bq cX9_needed 73 159 && bq cX9_needed (73 + 1) 0 && bq cX9_needed (73 + 2) 10 && (Reader.signed 16 (0 * 256 + 10) == 10)) = true) ∧ ((bq cX9_needed 76 21 && bq cX9_needed (76 + 1) 7) = true) ∧ ((bq cX9_needed 78 21 && bq cX9_needed (78 + 1) 5) = true) ∧ ((bq cX9_needed 80 162 && bq cX9_needed (80 + 1) 0 && bq cX9_needed (80 + 2) 7 && (Reader.signed 16 (0 * 256 + 7) == 7)) = true) ∧ (bq cX9_needed 83 4 = true) ∧ ((bq cX9_needed 84 167 && bq cX9_needed (84 + 1) 0 && bq cX9_needed (84 + 2) 4 && (Reader.signed 16 (0 * 256 + 4) == 4)) = true) ∧ (bq cX9_needed 87 3 = true) ∧ ((bq cX9_needed 88 54 && bq cX9_needed (88 + 1) 8) = true) ∧ ((bq cX9_needed 90 21 && bq cX9_needed (90 + 1) 8) = true) ∧ ((bq cX9_needed 92 153 && bq cX9_needed (92 + 1) 0 && bq cX9_needed (92 + 2) 8 && (Reader.signed 16 (0 * 256 + 8) == 8)) = true) ∧ ((bq cX9_needed 95 21 && bq cX9_needed (95 + 1) 6) = true) ∧ ((bq cX9_needed 97 167 && bq cX9_needed (97 + 1) 0 && bq cX9_needed (97 + 2) 5 && (Reader.signed 16 (0 * 256 + 5) == 5)) = true) ∧ ((bq cX9_needed 100 21 && bq cX9_needed (100 + 1) 4) = true) ∧ ((bq cX9_needed 102 54 && bq cX9_needed (102 + 1) 4) = true) ∧ ((bq cX9_needed 104 21 && bq cX9_needed (104 + 1) 8) = true) ∧ ((bq cX9_needed 106 153 && bq cX9_needed (106 + 1) 0 && bq cX9_needed (106 + 2) 8 && (Reader.signed 16 (0 * 256 + 8) == 8)) = true) ∧ ((bq cX9_needed 109 21 && bq cX9_needed (109 + 1) 7) = true) ∧ ((bq cX9_needed 111 167 && bq cX9_needed (111 + 1) 0 && bq cX9_needed (111 + 2) 5 && (Reader.signed 16 (0 * 256 + 5) == 5)) = true) ∧ ((bq cX9_needed 114 21 && bq cX9_needed (114 + 1) 5) = true) ∧ ((bq cX9_needed 116 54 && bq cX9_needed (116 + 1) 5) = true) := by decide +kernel
theorem dX9_needed_54 : decode cX9_needed 54 = .ok (.iload 6, 2) := dr_21  pk_dece_323.1
theorem dX9_needed_56 : decode cX9_needed 56 = .ok (.ishl, 1) := dr_120  pk_dece_323.2.1
theorem dX9_needed_57 : decode cX9_needed 57 = .ok (.invokevirtual 242, 3) := dr_182 0 242  pk_dece_323.2.2.1
theorem dX9_needed_60 : decode cX9_needed 60 = .ok (.istore 7, 2) := dr_54  pk_dece_323.2.2.2.1
theorem dX9_needed_62 : decode cX9_needed 62 = .ok (.iload 7, 2) := dr_21  pk_dece_323.2.2.2.2.1
theorem dX9_needed_64 : decode cX9_needed 64 = .ok (.bipush (-9), 2) := dr_16 247  pk_dece_323.2.2.2.2.2.1
theorem dX9_needed_66 : decode cX9_needed 66 = .ok (.if_icmp .eq 21, 3) := dr_159 0 21  pk_dece_323.2.2.2.2.2.2.1
theorem dX9_needed_69 : decode cX9_needed 69 = .ok (.iload 5, 2) := dr_21  pk_dece_323.2.2.2.2.2.2.2.1
theorem dX9_needed_71 : decode cX9_needed 71 = .ok (.bipush (-9), 2) := dr_16 247  pk_dece_323.2.2.2.2.2.2.2.2.1
theorem dX9_needed_73 : decode cX9_needed 73 = .ok (.if_icmp .eq 10, 3) := dr_159 0 10  pk_dece_323.2.2.2.2.2.2.2.2.2.1
theorem dX9_needed_76 : decode cX9_needed 76 = .ok (.iload 7, 2) := dr_21  pk_dece_323.2.2.2.2.2.2.2.2.2.2.1
theorem dX9_needed_78 : decode cX9_needed 78 = .ok (.iload 5, 2) := dr_21  pk_dece_323.2.2.2.2.2.2.2.2.2.2.2.1
theorem dX9_needed_80 : decode cX9_needed 80 = .ok (.if_icmp .ge 7, 3) := dr_162 0 7  pk_dece_323.2.2.2.2.2.2.2.2.2.2.2.2.1
theorem dX9_needed_83 : decode cX9_needed 83 = .ok (.iconst 1, 1) := dr_4  pk_dece_323.2.2.2.2.2.2.2.2.2.2.2.2.2.1
theorem dX9_needed_84 : decode cX9_needed 84 = .ok (.goto 4, 3) := dr_167 0 4  pk_dece_323.2.2.2.2.2.2.2.2.2.2.2.2.2.2.1
theorem dX9_needed_87 : decode cX9_needed 87 = .ok (.iconst 0, 1) := dr_3  pk_dece_323.2.2.2.2.2.2.2.2.2.2.2.2.2.2.2.1
theorem dX9_needed_88 : decode cX9_needed 88 = .ok (.istore 8, 2) := dr_54  pk_dece_323.2.2.2.2.2.2.2.2.2.2.2.2.2.2.2.2.1
theorem dX9_needed_90 : decode cX9_needed 90 = .ok (.iload 8, 2) := dr_21  pk_dece_323.2.2.2.2.2.2.2.2.2.2.2.2.2.2.2.2.2.1
theorem dX9_needed_92 : decode cX9_needed 92 = .ok (.ifCond .eq 8, 3) := dr_153 0 8  pk_dece_323.2.2.2.2.2.2.2.2.2.2.2.2.2.2.2.2.2.2.1
theorem dX9_needed_95 : decode cX9_needed 95 = .ok (.iload 6, 2) := dr_21  pk_dece_323.2.2.2.2.2.2.2.2.2.2.2.2.2.2.2.2.2.2.2.1
theorem dX9_needed_97 : decode cX9_needed 97 = .ok (.goto 5, 3) := dr_167 0 5  pk_dece_323.2.2.2.2.2.2.2.2.2.2.2.2.2.2.2.2.2.2.2.2.1
theorem dX9_needed_100 : decode cX9_needed 100 = .ok (.iload 4, 2) := dr_21  pk_dece_323.2.2.2.2.2.2.2.2.2.2.2.2.2.2.2.2.2.2.2.2.2.1
theorem dX9_needed_102 : decode cX9_needed 102 = .ok (.istore 4, 2) := dr_54  pk_dece_323.2.2.2.2.2.2.2.2.2.2.2.2.2.2.2.2.2.2.2.2.2.2.1
theorem dX9_needed_104 : decode cX9_needed 104 = .ok (.iload 8, 2) := dr_21  pk_dece_323.2.2.2.2.2.2.2.2.2.2.2.2.2.2.2.2.2.2.2.2.2.2.2.1
theorem dX9_needed_106 : decode cX9_needed 106 = .ok (.ifCond .eq 8, 3) := dr_153 0 8  pk_dece_323.2.2.2.2.2.2.2.2.2.2.2.2.2.2.2.2.2.2.2.2.2.2.2.2.1
theorem dX9_needed_109 : decode cX9_needed 109 = .ok (.iload 7, 2) := dr_21  pk_dece_323.2.2.2.2.2.2.2.2.2.2.2.2.2.2.2.2.2.2.2.2.2.2.2.2.2.1
theorem dX9_needed_111 : decode cX9_needed 111 = .ok (.goto 5, 3) := dr_167 0 5  pk_dece_323.2.2.2.2.2.2.2.2.2.2.2.2.2.2.2.2.2.2.2.2.2.2.2.2.2.2.1
theorem dX9_needed_114 : decode cX9_needed 114 = .ok (.iload 5, 2) := dr_21  pk_dece_323.2.2.2.2.2.2.2.2.2.2.2.2.2.2.2.2.2.2.2.2.2.2.2.2.2.2.2.1
theorem dX9_needed_116 : decode cX9_needed 116 = .ok (.istore 5, 2) := dr_54  pk_dece_323.2.2.2.2.2.2.2.2.2.2.2.2.2.2.2.2.2.2.2.2.2.2.2.2.2.2.2.2
theorem dX9_needed_118 : decode cX9_needed 118 = .ok (.iinc 6 1, 3) := by decide +kernel
set_option maxRecDepth 20000 in
theorem pk_dece_324 : ((bq cX9_needed 121 167 && bq cX9_needed (121 + 1) 255 && bq cX9_needed (121 + 2) 178 && (Reader.signed 16 (255 * 256 + 178) == (-78))) = true) ∧ ((bq cX9_needed 124 21 && bq cX9_needed (124 + 1) 4) = true) ∧ ((bq cX9_needed 126 16 && bq cX9_needed (126 + 1) 247 && (Reader.signed 8 247 == (-9))) = true) ∧ ((bq cX9_needed 128 159 && bq cX9_needed (128 + 1) 0 && bq cX9_needed (128 + 2) 7 && (Reader.signed 16 (0 * 256 + 7) == 7)) = true) ∧ (bq cX9_needed 131 29 = true) ∧ ((bq cX9_needed 132 154 && bq cX9_needed (132 + 1) 0 && bq cX9_needed (132 + 2) 8 && (Reader.signed 16 (0 * 256 + 8) == 8)) = true) ∧ ((bq cX9_needed 135 21 && bq cX9_needed (135 + 1) 4) = true) ∧ ((bq cX9_needed 137 167 && bq cX9_needed (137 + 1) 0 && bq cX9_needed (137 + 2) 5 && (Reader.signed 16 (0 * 256 + 5) == 5)) = true) ∧ ((bq cX9_needed 140 21 && bq cX9_needed (140 + 1) 5) = true) ∧ (bq cX9_needed 142 172 = true) := by decide +kernel
theorem dX9_needed_121 : decode cX9_needed 121 = .ok (.goto (-78), 3) := dr_167 255 178  pk_dece_324.1
theorem dX9_needed_124 : decode cX9_needed 124 = .ok (.iload 4, 2) := dr_21  pk_dece_324.2.1
theorem dX9_needed_126 : decode cX9_needed 126 = .ok (.bipush (-9), 2) := dr_16 247  pk_dece_324.2.2.1
theorem dX9_needed_128 : decode cX9_needed 128 = .ok (.if_icmp .eq 7, 3) := dr_159 0 7  pk_dece_324.2.2.2.1
theorem dX9_needed_131 : decode cX9_needed 131 = .ok (.iload_n 3, 1) := dr_29  pk_dece_324.2.2.2.2.1
theorem dX9_needed_132 : decode cX9_needed 132 = .ok (.ifCond .ne 8, 3) := dr_154 0 8  pk_dece_324.2.2.2.2.2.1
theorem dX9_needed_135 : decode cX9_needed 135 = .ok (.iload 4, 2) := dr_21  pk_dece_324.2.2.2.2.2.2.1
theorem dX9_needed_137 : decode cX9_needed 137 = .ok (.goto 5, 3) := dr_167 0 5  pk_dece_324.2.2.2.2.2.2.2.1
theorem dX9_needed_140 : decode cX9_needed 140 = .ok (.iload 5, 2) := dr_21  pk_dece_324.2.2.2.2.2.2.2.2.1
theorem dX9_needed_142 : decode cX9_needed 142 = .ok (.ireturn, 1) := dr_172  pk_dece_324.2.2.2.2.2.2.2.2.2
set_option maxRecDepth 20000 in
theorem pk_dece_325 : (bq cX9_weight 0 27 = true) ∧ (bq cX9_weight 1 3 = true) ∧ (bq cX9_weight 2 8 = true) ∧ ((bq cX9_weight 3 184 && bq cX9_weight (3 + 1) 0 && bq cX9_weight (3 + 2) 75 && (0 * 256 + 75 == 75)) = true) ∧ ((bq cX9_weight 6 153 && bq cX9_weight (6 + 1) 0 && bq cX9_weight (6 + 2) 11 && (Reader.signed 16 (0 * 256 + 11) == 11)) = true) ∧ (bq cX9_weight 9 42 = true) ∧ (bq cX9_weight 10 28 = true) ∧ ((bq cX9_weight 11 182 && bq cX9_weight (11 + 1) 0 && bq cX9_weight (11 + 2) 178 && (0 * 256 + 178 == 178)) = true) ∧ ((bq cX9_weight 14 154 && bq cX9_weight (14 + 1) 0 && bq cX9_weight (14 + 2) 5 && (Reader.signed 16 (0 * 256 + 5) == 5)) = true) ∧ (bq cX9_weight 17 2 = true) ∧ (bq cX9_weight 18 172 = true) ∧ (bq cX9_weight 19 3 = true) ∧ (bq cX9_weight 20 62 = true) ∧ (bq cX9_weight 21 3 = true) ∧ ((bq cX9_weight 22 54 && bq cX9_weight (22 + 1) 4) = true) ∧ ((bq cX9_weight 24 21 && bq cX9_weight (24 + 1) 4) = true) ∧ (bq cX9_weight 26 42 = true) ∧ ((bq cX9_weight 27 180 && bq cX9_weight (27 + 1) 0 && bq cX9_weight (27 + 2) 26 && (0 * 256 + 26 == 26)) = true) ∧ (bq cX9_weight 30 28 = true) ∧ (bq cX9_weight 31 46 = true) ∧ ((bq cX9_weight 32 162 && bq cX9_weight (32 + 1) 0 && bq cX9_weight (32 + 2) 35 && (Reader.signed 16 (0 * 256 + 35) == 35)) = true) ∧ (bq cX9_weight 35 29 = true) ∧ (bq cX9_weight 36 42 = true) ∧ ((bq cX9_weight 37 180 && bq cX9_weight (37 + 1) 0 && bq cX9_weight (37 + 2) 20 && (0 * 256 + 20 == 20)) = true) ∧ ((bq cX9_weight 40 17 && bq cX9_weight (40 + 1) 1 && bq cX9_weight (40 + 2) 0 && (Reader.signed 16 (1 * 256 + 0) == 256)) = true) ∧ (bq cX9_weight 43 28 = true) ∧ (bq cX9_weight 44 104 = true) ∧ ((bq cX9_weight 45 21 && bq cX9_weight (45 + 1) 4) = true) ∧ (bq cX9_weight 47 96 = true) ∧ (bq cX9_weight 48 46 = true) ∧ ((bq cX9_weight 49 16 && bq cX9_weight (49 + 1) 15 && (Reader.signed 8 15 == 15)) = true) ∧ ((bq cX9_weight 51 164 && bq cX9_weight (51 + 1) 0 && bq cX9_weight (51 + 2) 7 && (Reader.signed 16 (0 * 256 + 7) == 7)) = true) := by decide +kernel
theorem dX9_weight_0 : decode cX9_weight 0 = .ok (.iload_n 1, 1) := dr_27  pk_dece_325.1
theorem dX9_weight_1 : decode cX9_weight 1 = .ok (.iconst 0, 1) := dr_3  pk_dece_325.2.1
theorem dX9_weight_2 : decode cX9_weight 2 = .ok (.iconst 5, 1) := dr_8  pk_dece_325.2.2.1
theorem dX9_weight_3 : decode cX9_weight 3 = .ok (.invokestatic 75, 3) := dr_184 0 75  pk_dece_325.2.2.2.1
theorem dX9_weight_6 : decode cX9_weight 6 = .ok (.ifCond .eq 11, 3) := dr_153 0 11  pk_dece_325.2.2.2.2.1
theorem dX9_weight_9 : decode cX9_weight 9 = .ok (.aload_n 0, 1) := dr_42  pk_dece_325.2.2.2.2.2.1
theorem dX9_weight_10 : decode cX9_weight 10 = .ok (.iload_n 2, 1) := dr_28  pk_dece_325.2.2.2.2.2.2.1
theorem dX9_weight_11 : decode cX9_weight 11 = .ok (.invokevirtual 178, 3) := dr_182 0 178  pk_dece_325.2.2.2.2.2.2.2.1
theorem dX9_weight_14 : decode cX9_weight 14 = .ok (.ifCond .ne 5, 3) := dr_154 0 5  pk_dece_325.2.2.2.2.2.2.2.2.1
theorem dX9_weight_17 : decode cX9_weight 17 = .ok (.iconst (-1), 1) := dr_2  pk_dece_325.2.2.2.2.2.2.2.2.2.1
theorem dX9_weight_18 : decode cX9_weight 18 = .ok (.ireturn, 1) := dr_172  pk_dece_325.2.2.2.2.2.2.2.2.2.2.1
theorem dX9_weight_19 : decode cX9_weight 19 = .ok (.iconst 0, 1) := dr_3  pk_dece_325.2.2.2.2.2.2.2.2.2.2.2.1
theorem dX9_weight_20 : decode cX9_weight 20 = .ok (.istore_n 3, 1) := dr_62  pk_dece_325.2.2.2.2.2.2.2.2.2.2.2.2.1
theorem dX9_weight_21 : decode cX9_weight 21 = .ok (.iconst 0, 1) := dr_3  pk_dece_325.2.2.2.2.2.2.2.2.2.2.2.2.2.1
theorem dX9_weight_22 : decode cX9_weight 22 = .ok (.istore 4, 2) := dr_54  pk_dece_325.2.2.2.2.2.2.2.2.2.2.2.2.2.2.1
theorem dX9_weight_24 : decode cX9_weight 24 = .ok (.iload 4, 2) := dr_21  pk_dece_325.2.2.2.2.2.2.2.2.2.2.2.2.2.2.2.1
theorem dX9_weight_26 : decode cX9_weight 26 = .ok (.aload_n 0, 1) := dr_42  pk_dece_325.2.2.2.2.2.2.2.2.2.2.2.2.2.2.2.2.1
theorem dX9_weight_27 : decode cX9_weight 27 = .ok (.getfield 26, 3) := dr_180 0 26  pk_dece_325.2.2.2.2.2.2.2.2.2.2.2.2.2.2.2.2.2.1
theorem dX9_weight_30 : decode cX9_weight 30 = .ok (.iload_n 2, 1) := dr_28  pk_dece_325.2.2.2.2.2.2.2.2.2.2.2.2.2.2.2.2.2.2.1
theorem dX9_weight_31 : decode cX9_weight 31 = .ok (.iaload, 1) := dr_46  pk_dece_325.2.2.2.2.2.2.2.2.2.2.2.2.2.2.2.2.2.2.2.1
theorem dX9_weight_32 : decode cX9_weight 32 = .ok (.if_icmp .ge 35, 3) := dr_162 0 35  pk_dece_325.2.2.2.2.2.2.2.2.2.2.2.2.2.2.2.2.2.2.2.2.1
theorem dX9_weight_35 : decode cX9_weight 35 = .ok (.iload_n 3, 1) := dr_29  pk_dece_325.2.2.2.2.2.2.2.2.2.2.2.2.2.2.2.2.2.2.2.2.2.1
theorem dX9_weight_36 : decode cX9_weight 36 = .ok (.aload_n 0, 1) := dr_42  pk_dece_325.2.2.2.2.2.2.2.2.2.2.2.2.2.2.2.2.2.2.2.2.2.2.1
theorem dX9_weight_37 : decode cX9_weight 37 = .ok (.getfield 20, 3) := dr_180 0 20  pk_dece_325.2.2.2.2.2.2.2.2.2.2.2.2.2.2.2.2.2.2.2.2.2.2.2.1
theorem dX9_weight_40 : decode cX9_weight 40 = .ok (.sipush 256, 3) := dr_17 1 0  pk_dece_325.2.2.2.2.2.2.2.2.2.2.2.2.2.2.2.2.2.2.2.2.2.2.2.2.1
theorem dX9_weight_43 : decode cX9_weight 43 = .ok (.iload_n 2, 1) := dr_28  pk_dece_325.2.2.2.2.2.2.2.2.2.2.2.2.2.2.2.2.2.2.2.2.2.2.2.2.2.1
theorem dX9_weight_44 : decode cX9_weight 44 = .ok (.imul, 1) := dr_104  pk_dece_325.2.2.2.2.2.2.2.2.2.2.2.2.2.2.2.2.2.2.2.2.2.2.2.2.2.2.1
theorem dX9_weight_45 : decode cX9_weight 45 = .ok (.iload 4, 2) := dr_21  pk_dece_325.2.2.2.2.2.2.2.2.2.2.2.2.2.2.2.2.2.2.2.2.2.2.2.2.2.2.2.1
theorem dX9_weight_47 : decode cX9_weight 47 = .ok (.iadd, 1) := dr_96  pk_dece_325.2.2.2.2.2.2.2.2.2.2.2.2.2.2.2.2.2.2.2.2.2.2.2.2.2.2.2.2.1
theorem dX9_weight_48 : decode cX9_weight 48 = .ok (.iaload, 1) := dr_46  pk_dece_325.2.2.2.2.2.2.2.2.2.2.2.2.2.2.2.2.2.2.2.2.2.2.2.2.2.2.2.2.2.1
theorem dX9_weight_49 : decode cX9_weight 49 = .ok (.bipush 15, 2) := dr_16 15  pk_dece_325.2.2.2.2.2.2.2.2.2.2.2.2.2.2.2.2.2.2.2.2.2.2.2.2.2.2.2.2.2.2.1
theorem dX9_weight_51 : decode cX9_weight 51 = .ok (.if_icmp .le 7, 3) := dr_164 0 7  pk_dece_325.2.2.2.2.2.2.2.2.2.2.2.2.2.2.2.2.2.2.2.2.2.2.2.2.2.2.2.2.2.2.2
set_option maxRecDepth 20000 in
theorem pk_dece_326 : (bq cX9_weight 54 4 = true) ∧ ((bq cX9_weight 55 167 && bq cX9_weight (55 + 1) 0 && bq cX9_weight (55 + 2) 4 && (Reader.signed 16 (0 * 256 + 4) == 4)) = true) ∧ (bq cX9_weight 58 3 = true) ∧ (bq cX9_weight 59 96 = true) ∧ (bq cX9_weight 60 62 = true) := by decide +kernel
theorem dX9_weight_54 : decode cX9_weight 54 = .ok (.iconst 1, 1) := dr_4  pk_dece_326.1
theorem dX9_weight_55 : decode cX9_weight 55 = .ok (.goto 4, 3) := dr_167 0 4  pk_dece_326.2.1
theorem dX9_weight_58 : decode cX9_weight 58 = .ok (.iconst 0, 1) := dr_3  pk_dece_326.2.2.1
theorem dX9_weight_59 : decode cX9_weight 59 = .ok (.iadd, 1) := dr_96  pk_dece_326.2.2.2.1
theorem dX9_weight_60 : decode cX9_weight 60 = .ok (.istore_n 3, 1) := dr_62  pk_dece_326.2.2.2.2
theorem dX9_weight_61 : decode cX9_weight 61 = .ok (.iinc 4 1, 3) := by decide +kernel
set_option maxRecDepth 20000 in
theorem pk_dece_327 : ((bq cX9_weight 64 167 && bq cX9_weight (64 + 1) 255 && bq cX9_weight (64 + 2) 216 && (Reader.signed 16 (255 * 256 + 216) == (-40))) = true) ∧ (bq cX9_weight 67 42 = true) ∧ ((bq cX9_weight 68 180 && bq cX9_weight (68 + 1) 0 && bq cX9_weight (68 + 2) 26 && (0 * 256 + 26 == 26)) = true) ∧ (bq cX9_weight 71 28 = true) ∧ (bq cX9_weight 72 46 = true) ∧ (bq cX9_weight 73 5 = true) ∧ (bq cX9_weight 74 29 = true) ∧ (bq cX9_weight 75 104 = true) ∧ (bq cX9_weight 76 96 = true) ∧ ((bq cX9_weight 77 54 && bq cX9_weight (77 + 1) 4) = true) ∧ ((bq cX9_weight 79 21 && bq cX9_weight (79 + 1) 4) = true) ∧ (bq cX9_weight 81 42 = true) ∧ (bq cX9_weight 82 28 = true) ∧ ((bq cX9_weight 83 182 && bq cX9_weight (83 + 1) 0 && bq cX9_weight (83 + 2) 223 && (0 * 256 + 223 == 223)) = true) ∧ (bq cX9_weight 86 96 = true) ∧ ((bq cX9_weight 87 54 && bq cX9_weight (87 + 1) 5) = true) ∧ (bq cX9_weight 89 42 = true) ∧ (bq cX9_weight 90 89 = true) ∧ ((bq cX9_weight 91 180 && bq cX9_weight (91 + 1) 0 && bq cX9_weight (91 + 2) 245 && (0 * 256 + 245 == 245)) = true) ∧ (bq cX9_weight 94 27 = true) ∧ ((bq cX9_weight 95 154 && bq cX9_weight (95 + 1) 0 && bq cX9_weight (95 + 2) 7 && (Reader.signed 16 (0 * 256 + 7) == 7)) = true) ∧ (bq cX9_weight 98 10 = true) ∧ ((bq cX9_weight 99 167 && bq cX9_weight (99 + 1) 0 && bq cX9_weight (99 + 2) 50 && (Reader.signed 16 (0 * 256 + 50) == 50)) = true) ∧ (bq cX9_weight 102 27 = true) ∧ (bq cX9_weight 103 4 = true) ∧ ((bq cX9_weight 104 160 && bq cX9_weight (104 + 1) 0 && bq cX9_weight (104 + 2) 9 && (Reader.signed 16 (0 * 256 + 9) == 9)) = true) ∧ ((bq cX9_weight 107 20 && bq cX9_weight (107 + 1) 0 && bq cX9_weight (107 + 2) 249 && (0 * 256 + 249 == 249)) = true) ∧ ((bq cX9_weight 110 167 && bq cX9_weight (110 + 1) 0 && bq cX9_weight (110 + 2) 39 && (Reader.signed 16 (0 * 256 + 39) == 39)) = true) ∧ (bq cX9_weight 113 27 = true) ∧ (bq cX9_weight 114 5 = true) ∧ ((bq cX9_weight 115 160 && bq cX9_weight (115 + 1) 0 && bq cX9_weight (115 + 2) 9 && (Reader.signed 16 (0 * 256 + 9) == 9)) = true) ∧ ((bq cX9_weight 118 20 && bq cX9_weight (118 + 1) 0 && bq cX9_weight (118 + 2) 251 && (0 * 256 + 251 == 251)) = true) := by decide +kernel
theorem dX9_weight_64 : decode cX9_weight 64 = .ok (.goto (-40), 3) := dr_167 255 216  pk_dece_327.1
theorem dX9_weight_67 : decode cX9_weight 67 = .ok (.aload_n 0, 1) := dr_42  pk_dece_327.2.1
theorem dX9_weight_68 : decode cX9_weight 68 = .ok (.getfield 26, 3) := dr_180 0 26  pk_dece_327.2.2.1
theorem dX9_weight_71 : decode cX9_weight 71 = .ok (.iload_n 2, 1) := dr_28  pk_dece_327.2.2.2.1
theorem dX9_weight_72 : decode cX9_weight 72 = .ok (.iaload, 1) := dr_46  pk_dece_327.2.2.2.2.1
theorem dX9_weight_73 : decode cX9_weight 73 = .ok (.iconst 2, 1) := dr_5  pk_dece_327.2.2.2.2.2.1
theorem dX9_weight_74 : decode cX9_weight 74 = .ok (.iload_n 3, 1) := dr_29  pk_dece_327.2.2.2.2.2.2.1
theorem dX9_weight_75 : decode cX9_weight 75 = .ok (.imul, 1) := dr_104  pk_dece_327.2.2.2.2.2.2.2.1
theorem dX9_weight_76 : decode cX9_weight 76 = .ok (.iadd, 1) := dr_96  pk_dece_327.2.2.2.2.2.2.2.2.1
theorem dX9_weight_77 : decode cX9_weight 77 = .ok (.istore 4, 2) := dr_54  pk_dece_327.2.2.2.2.2.2.2.2.2.1
theorem dX9_weight_79 : decode cX9_weight 79 = .ok (.iload 4, 2) := dr_21  pk_dece_327.2.2.2.2.2.2.2.2.2.2.1
theorem dX9_weight_81 : decode cX9_weight 81 = .ok (.aload_n 0, 1) := dr_42  pk_dece_327.2.2.2.2.2.2.2.2.2.2.2.1
theorem dX9_weight_82 : decode cX9_weight 82 = .ok (.iload_n 2, 1) := dr_28  pk_dece_327.2.2.2.2.2.2.2.2.2.2.2.2.1
theorem dX9_weight_83 : decode cX9_weight 83 = .ok (.invokevirtual 223, 3) := dr_182 0 223  pk_dece_327.2.2.2.2.2.2.2.2.2.2.2.2.2.1
theorem dX9_weight_86 : decode cX9_weight 86 = .ok (.iadd, 1) := dr_96  pk_dece_327.2.2.2.2.2.2.2.2.2.2.2.2.2.2.1
theorem dX9_weight_87 : decode cX9_weight 87 = .ok (.istore 5, 2) := dr_54  pk_dece_327.2.2.2.2.2.2.2.2.2.2.2.2.2.2.2.1
theorem dX9_weight_89 : decode cX9_weight 89 = .ok (.aload_n 0, 1) := dr_42  pk_dece_327.2.2.2.2.2.2.2.2.2.2.2.2.2.2.2.2.1
theorem dX9_weight_90 : decode cX9_weight 90 = .ok (.dup, 1) := dr_89  pk_dece_327.2.2.2.2.2.2.2.2.2.2.2.2.2.2.2.2.2.1
theorem dX9_weight_91 : decode cX9_weight 91 = .ok (.getfield 245, 3) := dr_180 0 245  pk_dece_327.2.2.2.2.2.2.2.2.2.2.2.2.2.2.2.2.2.2.1
theorem dX9_weight_94 : decode cX9_weight 94 = .ok (.iload_n 1, 1) := dr_27  pk_dece_327.2.2.2.2.2.2.2.2.2.2.2.2.2.2.2.2.2.2.2.1
theorem dX9_weight_95 : decode cX9_weight 95 = .ok (.ifCond .ne 7, 3) := dr_154 0 7  pk_dece_327.2.2.2.2.2.2.2.2.2.2.2.2.2.2.2.2.2.2.2.2.1
theorem dX9_weight_98 : decode cX9_weight 98 = .ok (.lconst 1, 1) := dr_10  pk_dece_327.2.2.2.2.2.2.2.2.2.2.2.2.2.2.2.2.2.2.2.2.2.1
theorem dX9_weight_99 : decode cX9_weight 99 = .ok (.goto 50, 3) := dr_167 0 50  pk_dece_327.2.2.2.2.2.2.2.2.2.2.2.2.2.2.2.2.2.2.2.2.2.2.1
theorem dX9_weight_102 : decode cX9_weight 102 = .ok (.iload_n 1, 1) := dr_27  pk_dece_327.2.2.2.2.2.2.2.2.2.2.2.2.2.2.2.2.2.2.2.2.2.2.2.1
theorem dX9_weight_103 : decode cX9_weight 103 = .ok (.iconst 1, 1) := dr_4  pk_dece_327.2.2.2.2.2.2.2.2.2.2.2.2.2.2.2.2.2.2.2.2.2.2.2.2.1
theorem dX9_weight_104 : decode cX9_weight 104 = .ok (.if_icmp .ne 9, 3) := dr_160 0 9  pk_dece_327.2.2.2.2.2.2.2.2.2.2.2.2.2.2.2.2.2.2.2.2.2.2.2.2.2.1
theorem dX9_weight_107 : decode cX9_weight 107 = .ok (.ldc2_w 249, 3) := dr_20 0 249  pk_dece_327.2.2.2.2.2.2.2.2.2.2.2.2.2.2.2.2.2.2.2.2.2.2.2.2.2.2.1
theorem dX9_weight_110 : decode cX9_weight 110 = .ok (.goto 39, 3) := dr_167 0 39  pk_dece_327.2.2.2.2.2.2.2.2.2.2.2.2.2.2.2.2.2.2.2.2.2.2.2.2.2.2.2.1
theorem dX9_weight_113 : decode cX9_weight 113 = .ok (.iload_n 1, 1) := dr_27  pk_dece_327.2.2.2.2.2.2.2.2.2.2.2.2.2.2.2.2.2.2.2.2.2.2.2.2.2.2.2.2.1
theorem dX9_weight_114 : decode cX9_weight 114 = .ok (.iconst 2, 1) := dr_5  pk_dece_327.2.2.2.2.2.2.2.2.2.2.2.2.2.2.2.2.2.2.2.2.2.2.2.2.2.2.2.2.2.1
theorem dX9_weight_115 : decode cX9_weight 115 = .ok (.if_icmp .ne 9, 3) := dr_160 0 9  pk_dece_327.2.2.2.2.2.2.2.2.2.2.2.2.2.2.2.2.2.2.2.2.2.2.2.2.2.2.2.2.2.2.1
theorem dX9_weight_118 : decode cX9_weight 118 = .ok (.ldc2_w 251, 3) := dr_20 0 251  pk_dece_327.2.2.2.2.2.2.2.2.2.2.2.2.2.2.2.2.2.2.2.2.2.2.2.2.2.2.2.2.2.2.2
set_option maxRecDepth 20000 in
theorem pk_dece_328 : ((bq cX9_weight 121 167 && bq cX9_weight (121 + 1) 0 && bq cX9_weight (121 + 2) 28 && (Reader.signed 16 (0 * 256 + 28) == 28)) = true) ∧ (bq cX9_weight 124 27 = true) ∧ (bq cX9_weight 125 6 = true) ∧ ((bq cX9_weight 126 160 && bq cX9_weight (126 + 1) 0 && bq cX9_weight (126 + 2) 9 && (Reader.signed 16 (0 * 256 + 9) == 9)) = true) ∧ ((bq cX9_weight 129 20 && bq cX9_weight (129 + 1) 0 && bq cX9_weight (129 + 2) 253 && (0 * 256 + 253 == 253)) = true) ∧ ((bq cX9_weight 132 167 && bq cX9_weight (132 + 1) 0 && bq cX9_weight (132 + 2) 17 && (Reader.signed 16 (0 * 256 + 17) == 17)) = true) ∧ (bq cX9_weight 135 27 = true) ∧ (bq cX9_weight 136 7 = true) ∧ ((bq cX9_weight 137 160 && bq cX9_weight (137 + 1) 0 && bq cX9_weight (137 + 2) 9 && (Reader.signed 16 (0 * 256 + 9) == 9)) = true) ∧ ((bq cX9_weight 140 20 && bq cX9_weight (140 + 1) 0 && bq cX9_weight (140 + 2) 255 && (0 * 256 + 255 == 255)) = true) ∧ ((bq cX9_weight 143 167 && bq cX9_weight (143 + 1) 0 && bq cX9_weight (143 + 2) 6 && (Reader.signed 16 (0 * 256 + 6) == 6)) = true) ∧ ((bq cX9_weight 146 20 && bq cX9_weight (146 + 1) 1 && bq cX9_weight (146 + 2) 1 && (1 * 256 + 1 == 257)) = true) ∧ (bq cX9_weight 149 97 = true) ∧ ((bq cX9_weight 150 181 && bq cX9_weight (150 + 1) 0 && bq cX9_weight (150 + 2) 245 && (0 * 256 + 245 == 245)) = true) ∧ (bq cX9_weight 153 27 = true) ∧ ((bq cX9_weight 154 154 && bq cX9_weight (154 + 1) 0 && bq cX9_weight (154 + 2) 12 && (Reader.signed 16 (0 * 256 + 12) == 12)) = true) ∧ (bq cX9_weight 157 42 = true) ∧ ((bq cX9_weight 158 180 && bq cX9_weight (158 + 1) 0 && bq cX9_weight (158 + 2) 26 && (0 * 256 + 26 == 26)) = true) ∧ (bq cX9_weight 161 28 = true) ∧ (bq cX9_weight 162 46 = true) ∧ ((bq cX9_weight 163 167 && bq cX9_weight (163 + 1) 0 && bq cX9_weight (163 + 2) 71 && (Reader.signed 16 (0 * 256 + 71) == 71)) = true) ∧ (bq cX9_weight 166 27 = true) ∧ (bq cX9_weight 167 4 = true) ∧ ((bq cX9_weight 168 160 && bq cX9_weight (168 + 1) 0 && bq cX9_weight (168 + 2) 22 && (Reader.signed 16 (0 * 256 + 22) == 22)) = true) ∧ (bq cX9_weight 171 42 = true) ∧ ((bq cX9_weight 172 180 && bq cX9_weight (172 + 1) 0 && bq cX9_weight (172 + 2) 26 && (0 * 256 + 26 == 26)) = true) ∧ (bq cX9_weight 175 28 = true) ∧ (bq cX9_weight 176 46 = true) ∧ ((bq cX9_weight 177 16 && bq cX9_weight (177 + 1) 9 && (Reader.signed 8 9 == 9)) = true) ∧ (bq cX9_weight 179 42 = true) ∧ ((bq cX9_weight 180 180 && bq cX9_weight (180 + 1) 0 && bq cX9_weight (180 + 2) 38 && (0 * 256 + 38 == 38)) = true) ∧ (bq cX9_weight 183 28 = true) := by decide +kernel
theorem dX9_weight_121 : decode cX9_weight 121 = .ok (.goto 28, 3) := dr_167 0 28  pk_dece_328.1
theorem dX9_weight_124 : decode cX9_weight 124 = .ok (.iload_n 1, 1) := dr_27  pk_dece_328.2.1
theorem dX9_weight_125 : decode cX9_weight 125 = .ok (.iconst 3, 1) := dr_6  pk_dece_328.2.2.1
theorem dX9_weight_126 : decode cX9_weight 126 = .ok (.if_icmp .ne 9, 3) := dr_160 0 9  pk_dece_328.2.2.2.1
theorem dX9_weight_129 : decode cX9_weight 129 = .ok (.ldc2_w 253, 3) := dr_20 0 253  pk_dece_328.2.2.2.2.1
theorem dX9_weight_132 : decode cX9_weight 132 = .ok (.goto 17, 3) := dr_167 0 17  pk_dece_328.2.2.2.2.2.1
theorem dX9_weight_135 : decode cX9_weight 135 = .ok (.iload_n 1, 1) := dr_27  pk_dece_328.2.2.2.2.2.2.1
theorem dX9_weight_136 : decode cX9_weight 136 = .ok (.iconst 4, 1) := dr_7  pk_dece_328.2.2.2.2.2.2.2.1
theorem dX9_weight_137 : decode cX9_weight 137 = .ok (.if_icmp .ne 9, 3) := dr_160 0 9  pk_dece_328.2.2.2.2.2.2.2.2.1
theorem dX9_weight_140 : decode cX9_weight 140 = .ok (.ldc2_w 255, 3) := dr_20 0 255  pk_dece_328.2.2.2.2.2.2.2.2.2.1
theorem dX9_weight_143 : decode cX9_weight 143 = .ok (.goto 6, 3) := dr_167 0 6  pk_dece_328.2.2.2.2.2.2.2.2.2.2.1
theorem dX9_weight_146 : decode cX9_weight 146 = .ok (.ldc2_w 257, 3) := dr_20 1 1  pk_dece_328.2.2.2.2.2.2.2.2.2.2.2.1
theorem dX9_weight_149 : decode cX9_weight 149 = .ok (.ladd, 1) := dr_97  pk_dece_328.2.2.2.2.2.2.2.2.2.2.2.2.1
theorem dX9_weight_150 : decode cX9_weight 150 = .ok (.putfield 245, 3) := dr_181 0 245  pk_dece_328.2.2.2.2.2.2.2.2.2.2.2.2.2.1
theorem dX9_weight_153 : decode cX9_weight 153 = .ok (.iload_n 1, 1) := dr_27  pk_dece_328.2.2.2.2.2.2.2.2.2.2.2.2.2.2.1
theorem dX9_weight_154 : decode cX9_weight 154 = .ok (.ifCond .ne 12, 3) := dr_154 0 12  pk_dece_328.2.2.2.2.2.2.2.2.2.2.2.2.2.2.2.1
theorem dX9_weight_157 : decode cX9_weight 157 = .ok (.aload_n 0, 1) := dr_42  pk_dece_328.2.2.2.2.2.2.2.2.2.2.2.2.2.2.2.2.1
theorem dX9_weight_158 : decode cX9_weight 158 = .ok (.getfield 26, 3) := dr_180 0 26  pk_dece_328.2.2.2.2.2.2.2.2.2.2.2.2.2.2.2.2.2.1
theorem dX9_weight_161 : decode cX9_weight 161 = .ok (.iload_n 2, 1) := dr_28  pk_dece_328.2.2.2.2.2.2.2.2.2.2.2.2.2.2.2.2.2.2.1
theorem dX9_weight_162 : decode cX9_weight 162 = .ok (.iaload, 1) := dr_46  pk_dece_328.2.2.2.2.2.2.2.2.2.2.2.2.2.2.2.2.2.2.2.1
theorem dX9_weight_163 : decode cX9_weight 163 = .ok (.goto 71, 3) := dr_167 0 71  pk_dece_328.2.2.2.2.2.2.2.2.2.2.2.2.2.2.2.2.2.2.2.2.1
theorem dX9_weight_166 : decode cX9_weight 166 = .ok (.iload_n 1, 1) := dr_27  pk_dece_328.2.2.2.2.2.2.2.2.2.2.2.2.2.2.2.2.2.2.2.2.2.1
theorem dX9_weight_167 : decode cX9_weight 167 = .ok (.iconst 1, 1) := dr_4  pk_dece_328.2.2.2.2.2.2.2.2.2.2.2.2.2.2.2.2.2.2.2.2.2.2.1
theorem dX9_weight_168 : decode cX9_weight 168 = .ok (.if_icmp .ne 22, 3) := dr_160 0 22  pk_dece_328.2.2.2.2.2.2.2.2.2.2.2.2.2.2.2.2.2.2.2.2.2.2.2.1
theorem dX9_weight_171 : decode cX9_weight 171 = .ok (.aload_n 0, 1) := dr_42  pk_dece_328.2.2.2.2.2.2.2.2.2.2.2.2.2.2.2.2.2.2.2.2.2.2.2.2.1
theorem dX9_weight_172 : decode cX9_weight 172 = .ok (.getfield 26, 3) := dr_180 0 26  pk_dece_328.2.2.2.2.2.2.2.2.2.2.2.2.2.2.2.2.2.2.2.2.2.2.2.2.2.1
theorem dX9_weight_175 : decode cX9_weight 175 = .ok (.iload_n 2, 1) := dr_28  pk_dece_328.2.2.2.2.2.2.2.2.2.2.2.2.2.2.2.2.2.2.2.2.2.2.2.2.2.2.1
theorem dX9_weight_176 : decode cX9_weight 176 = .ok (.iaload, 1) := dr_46  pk_dece_328.2.2.2.2.2.2.2.2.2.2.2.2.2.2.2.2.2.2.2.2.2.2.2.2.2.2.2.1
theorem dX9_weight_177 : decode cX9_weight 177 = .ok (.bipush 9, 2) := dr_16 9  pk_dece_328.2.2.2.2.2.2.2.2.2.2.2.2.2.2.2.2.2.2.2.2.2.2.2.2.2.2.2.2.1
theorem dX9_weight_179 : decode cX9_weight 179 = .ok (.aload_n 0, 1) := dr_42  pk_dece_328.2.2.2.2.2.2.2.2.2.2.2.2.2.2.2.2.2.2.2.2.2.2.2.2.2.2.2.2.2.1
theorem dX9_weight_180 : decode cX9_weight 180 = .ok (.getfield 38, 3) := dr_180 0 38  pk_dece_328.2.2.2.2.2.2.2.2.2.2.2.2.2.2.2.2.2.2.2.2.2.2.2.2.2.2.2.2.2.2.1
theorem dX9_weight_183 : decode cX9_weight 183 = .ok (.iload_n 2, 1) := dr_28  pk_dece_328.2.2.2.2.2.2.2.2.2.2.2.2.2.2.2.2.2.2.2.2.2.2.2.2.2.2.2.2.2.2.2
set_option maxRecDepth 20000 in
theorem pk_dece_329 : (bq cX9_weight 184 46 = true) ∧ (bq cX9_weight 185 104 = true) ∧ (bq cX9_weight 186 96 = true) ∧ ((bq cX9_weight 187 167 && bq cX9_weight (187 + 1) 0 && bq cX9_weight (187 + 2) 47 && (Reader.signed 16 (0 * 256 + 47) == 47)) = true) ∧ (bq cX9_weight 190 27 = true) ∧ (bq cX9_weight 191 5 = true) ∧ ((bq cX9_weight 192 160 && bq cX9_weight (192 + 1) 0 && bq cX9_weight (192 + 2) 8 && (Reader.signed 16 (0 * 256 + 8) == 8)) = true) ∧ ((bq cX9_weight 195 21 && bq cX9_weight (195 + 1) 4) = true) ∧ ((bq cX9_weight 197 167 && bq cX9_weight (197 + 1) 0 && bq cX9_weight (197 + 2) 37 && (Reader.signed 16 (0 * 256 + 37) == 37)) = true) ∧ (bq cX9_weight 200 27 = true) ∧ (bq cX9_weight 201 6 = true) ∧ ((bq cX9_weight 202 160 && bq cX9_weight (202 + 1) 0 && bq cX9_weight (202 + 2) 8 && (Reader.signed 16 (0 * 256 + 8) == 8)) = true) ∧ ((bq cX9_weight 205 21 && bq cX9_weight (205 + 1) 5) = true) ∧ ((bq cX9_weight 207 167 && bq cX9_weight (207 + 1) 0 && bq cX9_weight (207 + 2) 27 && (Reader.signed 16 (0 * 256 + 27) == 27)) = true) ∧ (bq cX9_weight 210 27 = true) ∧ (bq cX9_weight 211 7 = true) ∧ ((bq cX9_weight 212 160 && bq cX9_weight (212 + 1) 0 && bq cX9_weight (212 + 2) 14 && (Reader.signed 16 (0 * 256 + 14) == 14)) = true) ∧ (bq cX9_weight 215 6 = true) ∧ ((bq cX9_weight 216 21 && bq cX9_weight (216 + 1) 5) = true) ∧ (bq cX9_weight 218 104 = true) ∧ ((bq cX9_weight 219 17 && bq cX9_weight (219 + 1) 0 && bq cX9_weight (219 + 2) 251 && (Reader.signed 16 (0 * 256 + 251) == 251)) = true) ∧ (bq cX9_weight 222 112 = true) ∧ ((bq cX9_weight 223 167 && bq cX9_weight (223 + 1) 0 && bq cX9_weight (223 + 2) 11 && (Reader.signed 16 (0 * 256 + 11) == 11)) = true) ∧ (bq cX9_weight 226 42 = true) ∧ ((bq cX9_weight 227 180 && bq cX9_weight (227 + 1) 0 && bq cX9_weight (227 + 2) 26 && (0 * 256 + 26 == 26)) = true) ∧ (bq cX9_weight 230 28 = true) ∧ (bq cX9_weight 231 46 = true) ∧ (bq cX9_weight 232 6 = true) ∧ (bq cX9_weight 233 108 = true) ∧ (bq cX9_weight 234 172 = true) := by decide +kernel
theorem dX9_weight_184 : decode cX9_weight 184 = .ok (.iaload, 1) := dr_46  pk_dece_329.1
theorem dX9_weight_185 : decode cX9_weight 185 = .ok (.imul, 1) := dr_104  pk_dece_329.2.1
theorem dX9_weight_186 : decode cX9_weight 186 = .ok (.iadd, 1) := dr_96  pk_dece_329.2.2.1
theorem dX9_weight_187 : decode cX9_weight 187 = .ok (.goto 47, 3) := dr_167 0 47  pk_dece_329.2.2.2.1
theorem dX9_weight_190 : decode cX9_weight 190 = .ok (.iload_n 1, 1) := dr_27  pk_dece_329.2.2.2.2.1
theorem dX9_weight_191 : decode cX9_weight 191 = .ok (.iconst 2, 1) := dr_5  pk_dece_329.2.2.2.2.2.1
theorem dX9_weight_192 : decode cX9_weight 192 = .ok (.if_icmp .ne 8, 3) := dr_160 0 8  pk_dece_329.2.2.2.2.2.2.1
theorem dX9_weight_195 : decode cX9_weight 195 = .ok (.iload 4, 2) := dr_21  pk_dece_329.2.2.2.2.2.2.2.1
theorem dX9_weight_197 : decode cX9_weight 197 = .ok (.goto 37, 3) := dr_167 0 37  pk_dece_329.2.2.2.2.2.2.2.2.1
theorem dX9_weight_200 : decode cX9_weight 200 = .ok (.iload_n 1, 1) := dr_27  pk_dece_329.2.2.2.2.2.2.2.2.2.1
theorem dX9_weight_201 : decode cX9_weight 201 = .ok (.iconst 3, 1) := dr_6  pk_dece_329.2.2.2.2.2.2.2.2.2.2.1
theorem dX9_weight_202 : decode cX9_weight 202 = .ok (.if_icmp .ne 8, 3) := dr_160 0 8  pk_dece_329.2.2.2.2.2.2.2.2.2.2.2.1
theorem dX9_weight_205 : decode cX9_weight 205 = .ok (.iload 5, 2) := dr_21  pk_dece_329.2.2.2.2.2.2.2.2.2.2.2.2.1
theorem dX9_weight_207 : decode cX9_weight 207 = .ok (.goto 27, 3) := dr_167 0 27  pk_dece_329.2.2.2.2.2.2.2.2.2.2.2.2.2.1
theorem dX9_weight_210 : decode cX9_weight 210 = .ok (.iload_n 1, 1) := dr_27  pk_dece_329.2.2.2.2.2.2.2.2.2.2.2.2.2.2.1
theorem dX9_weight_211 : decode cX9_weight 211 = .ok (.iconst 4, 1) := dr_7  pk_dece_329.2.2.2.2.2.2.2.2.2.2.2.2.2.2.2.1
theorem dX9_weight_212 : decode cX9_weight 212 = .ok (.if_icmp .ne 14, 3) := dr_160 0 14  pk_dece_329.2.2.2.2.2.2.2.2.2.2.2.2.2.2.2.2.1
theorem dX9_weight_215 : decode cX9_weight 215 = .ok (.iconst 3, 1) := dr_6  pk_dece_329.2.2.2.2.2.2.2.2.2.2.2.2.2.2.2.2.2.1
theorem dX9_weight_216 : decode cX9_weight 216 = .ok (.iload 5, 2) := dr_21  pk_dece_329.2.2.2.2.2.2.2.2.2.2.2.2.2.2.2.2.2.2.1
theorem dX9_weight_218 : decode cX9_weight 218 = .ok (.imul, 1) := dr_104  pk_dece_329.2.2.2.2.2.2.2.2.2.2.2.2.2.2.2.2.2.2.2.1
theorem dX9_weight_219 : decode cX9_weight 219 = .ok (.sipush 251, 3) := dr_17 0 251  pk_dece_329.2.2.2.2.2.2.2.2.2.2.2.2.2.2.2.2.2.2.2.2.1
theorem dX9_weight_222 : decode cX9_weight 222 = .ok (.irem, 1) := dr_112  pk_dece_329.2.2.2.2.2.2.2.2.2.2.2.2.2.2.2.2.2.2.2.2.2.1
theorem dX9_weight_223 : decode cX9_weight 223 = .ok (.goto 11, 3) := dr_167 0 11  pk_dece_329.2.2.2.2.2.2.2.2.2.2.2.2.2.2.2.2.2.2.2.2.2.2.1
theorem dX9_weight_226 : decode cX9_weight 226 = .ok (.aload_n 0, 1) := dr_42  pk_dece_329.2.2.2.2.2.2.2.2.2.2.2.2.2.2.2.2.2.2.2.2.2.2.2.1
theorem dX9_weight_227 : decode cX9_weight 227 = .ok (.getfield 26, 3) := dr_180 0 26  pk_dece_329.2.2.2.2.2.2.2.2.2.2.2.2.2.2.2.2.2.2.2.2.2.2.2.2.1
theorem dX9_weight_230 : decode cX9_weight 230 = .ok (.iload_n 2, 1) := dr_28  pk_dece_329.2.2.2.2.2.2.2.2.2.2.2.2.2.2.2.2.2.2.2.2.2.2.2.2.2.1
theorem dX9_weight_231 : decode cX9_weight 231 = .ok (.iaload, 1) := dr_46  pk_dece_329.2.2.2.2.2.2.2.2.2.2.2.2.2.2.2.2.2.2.2.2.2.2.2.2.2.2.1
theorem dX9_weight_232 : decode cX9_weight 232 = .ok (.iconst 3, 1) := dr_6  pk_dece_329.2.2.2.2.2.2.2.2.2.2.2.2.2.2.2.2.2.2.2.2.2.2.2.2.2.2.2.1
theorem dX9_weight_233 : decode cX9_weight 233 = .ok (.idiv, 1) := dr_108  pk_dece_329.2.2.2.2.2.2.2.2.2.2.2.2.2.2.2.2.2.2.2.2.2.2.2.2.2.2.2.2.1
theorem dX9_weight_234 : decode cX9_weight 234 = .ok (.ireturn, 1) := dr_172  pk_dece_329.2.2.2.2.2.2.2.2.2.2.2.2.2.2.2.2.2.2.2.2.2.2.2.2.2.2.2.2.2
set_option maxRecDepth 20000 in
theorem pk_dece_330 : (bq cX9_count 0 3 = true) ∧ (bq cX9_count 1 61 = true) ∧ (bq cX9_count 2 27 = true) ∧ (bq cX9_count 3 7 = true) ∧ ((bq cX9_count 4 160 && bq cX9_count (4 + 1) 0 && bq cX9_count (4 + 2) 10 && (Reader.signed 16 (0 * 256 + 10) == 10)) = true) ∧ (bq cX9_count 7 42 = true) ∧ ((bq cX9_count 8 182 && bq cX9_count (8 + 1) 0 && bq cX9_count (8 + 2) 232 && (0 * 256 + 232 == 232)) = true) ∧ ((bq cX9_count 11 167 && bq cX9_count (11 + 1) 0 && bq cX9_count (11 + 2) 4 && (Reader.signed 16 (0 * 256 + 4) == 4)) = true) ∧ (bq cX9_count 14 3 = true) ∧ (bq cX9_count 15 62 = true) ∧ (bq cX9_count 16 27 = true) := by decide +kernel
theorem dX9_count_0 : decode cX9_count 0 = .ok (.iconst 0, 1) := dr_3  pk_dece_330.1
theorem dX9_count_1 : decode cX9_count 1 = .ok (.istore_n 2, 1) := dr_61  pk_dece_330.2.1
theorem dX9_count_2 : decode cX9_count 2 = .ok (.iload_n 1, 1) := dr_27  pk_dece_330.2.2.1
theorem dX9_count_3 : decode cX9_count 3 = .ok (.iconst 4, 1) := dr_7  pk_dece_330.2.2.2.1
theorem dX9_count_4 : decode cX9_count 4 = .ok (.if_icmp .ne 10, 3) := dr_160 0 10  pk_dece_330.2.2.2.2.1
theorem dX9_count_7 : decode cX9_count 7 = .ok (.aload_n 0, 1) := dr_42  pk_dece_330.2.2.2.2.2.1
theorem dX9_count_8 : decode cX9_count 8 = .ok (.invokevirtual 232, 3) := dr_182 0 232  pk_dece_330.2.2.2.2.2.2.1
theorem dX9_count_11 : decode cX9_count 11 = .ok (.goto 4, 3) := dr_167 0 4  pk_dece_330.2.2.2.2.2.2.2.1
theorem dX9_count_14 : decode cX9_count 14 = .ok (.iconst 0, 1) := dr_3  pk_dece_330.2.2.2.2.2.2.2.2.1
theorem dX9_count_15 : decode cX9_count 15 = .ok (.istore_n 3, 1) := dr_62  pk_dece_330.2.2.2.2.2.2.2.2.2.1
theorem dX9_count_16 : decode cX9_count 16 = .ok (.iload_n 1, 1) := dr_27  pk_dece_330.2.2.2.2.2.2.2.2.2.2
theorem dX9_count_17 : decode cX9_count 17 = .ok (.tableswitch 109 0 4 #[35, 40, 45, 50, 80], 35) := by decide +kernel
set_option maxRecDepth 20000 in
theorem pk_dece_331 : (bq cX9_count 52 42 = true) ∧ ((bq cX9_count 53 180 && bq cX9_count (53 + 1) 0 && bq cX9_count (53 + 2) 85 && (0 * 256 + 85 == 85)) = true) ∧ (bq cX9_count 56 172 = true) ∧ (bq cX9_count 57 42 = true) ∧ ((bq cX9_count 58 180 && bq cX9_count (58 + 1) 0 && bq cX9_count (58 + 2) 236 && (0 * 256 + 236 == 236)) = true) ∧ (bq cX9_count 61 172 = true) ∧ (bq cX9_count 62 42 = true) ∧ ((bq cX9_count 63 180 && bq cX9_count (63 + 1) 0 && bq cX9_count (63 + 2) 71 && (0 * 256 + 71 == 71)) = true) ∧ (bq cX9_count 66 172 = true) ∧ (bq cX9_count 67 3 = true) ∧ ((bq cX9_count 68 54 && bq cX9_count (68 + 1) 4) = true) ∧ ((bq cX9_count 70 21 && bq cX9_count (70 + 1) 4) = true) ∧ (bq cX9_count 72 42 = true) ∧ ((bq cX9_count 73 180 && bq cX9_count (73 + 1) 0 && bq cX9_count (73 + 2) 85 && (0 * 256 + 85 == 85)) = true) ∧ ((bq cX9_count 76 162 && bq cX9_count (76 + 1) 0 && bq cX9_count (76 + 2) 19 && (Reader.signed 16 (0 * 256 + 19) == 19)) = true) ∧ (bq cX9_count 79 28 = true) ∧ (bq cX9_count 80 42 = true) ∧ ((bq cX9_count 81 180 && bq cX9_count (81 + 1) 0 && bq cX9_count (81 + 2) 38 && (0 * 256 + 38 == 38)) = true) ∧ ((bq cX9_count 84 21 && bq cX9_count (84 + 1) 4) = true) ∧ (bq cX9_count 86 46 = true) ∧ (bq cX9_count 87 96 = true) ∧ (bq cX9_count 88 61 = true) := by decide +kernel
theorem dX9_count_52 : decode cX9_count 52 = .ok (.aload_n 0, 1) := dr_42  pk_dece_331.1
theorem dX9_count_53 : decode cX9_count 53 = .ok (.getfield 85, 3) := dr_180 0 85  pk_dece_331.2.1
theorem dX9_count_56 : decode cX9_count 56 = .ok (.ireturn, 1) := dr_172  pk_dece_331.2.2.1
theorem dX9_count_57 : decode cX9_count 57 = .ok (.aload_n 0, 1) := dr_42  pk_dece_331.2.2.2.1
theorem dX9_count_58 : decode cX9_count 58 = .ok (.getfield 236, 3) := dr_180 0 236  pk_dece_331.2.2.2.2.1
theorem dX9_count_61 : decode cX9_count 61 = .ok (.ireturn, 1) := dr_172  pk_dece_331.2.2.2.2.2.1
theorem dX9_count_62 : decode cX9_count 62 = .ok (.aload_n 0, 1) := dr_42  pk_dece_331.2.2.2.2.2.2.1
theorem dX9_count_63 : decode cX9_count 63 = .ok (.getfield 71, 3) := dr_180 0 71  pk_dece_331.2.2.2.2.2.2.2.1
theorem dX9_count_66 : decode cX9_count 66 = .ok (.ireturn, 1) := dr_172  pk_dece_331.2.2.2.2.2.2.2.2.1
theorem dX9_count_67 : decode cX9_count 67 = .ok (.iconst 0, 1) := dr_3  pk_dece_331.2.2.2.2.2.2.2.2.2.1
theorem dX9_count_68 : decode cX9_count 68 = .ok (.istore 4, 2) := dr_54  pk_dece_331.2.2.2.2.2.2.2.2.2.2.1
theorem dX9_count_70 : decode cX9_count 70 = .ok (.iload 4, 2) := dr_21  pk_dece_331.2.2.2.2.2.2.2.2.2.2.2.1
theorem dX9_count_72 : decode cX9_count 72 = .ok (.aload_n 0, 1) := dr_42  pk_dece_331.2.2.2.2.2.2.2.2.2.2.2.2.1
theorem dX9_count_73 : decode cX9_count 73 = .ok (.getfield 85, 3) := dr_180 0 85  pk_dece_331.2.2.2.2.2.2.2.2.2.2.2.2.2.1
theorem dX9_count_76 : decode cX9_count 76 = .ok (.if_icmp .ge 19, 3) := dr_162 0 19  pk_dece_331.2.2.2.2.2.2.2.2.2.2.2.2.2.2.1
theorem dX9_count_79 : decode cX9_count 79 = .ok (.iload_n 2, 1) := dr_28  pk_dece_331.2.2.2.2.2.2.2.2.2.2.2.2.2.2.2.1
theorem dX9_count_80 : decode cX9_count 80 = .ok (.aload_n 0, 1) := dr_42  pk_dece_331.2.2.2.2.2.2.2.2.2.2.2.2.2.2.2.2.1
theorem dX9_count_81 : decode cX9_count 81 = .ok (.getfield 38, 3) := dr_180 0 38  pk_dece_331.2.2.2.2.2.2.2.2.2.2.2.2.2.2.2.2.2.1
theorem dX9_count_84 : decode cX9_count 84 = .ok (.iload 4, 2) := dr_21  pk_dece_331.2.2.2.2.2.2.2.2.2.2.2.2.2.2.2.2.2.2.1
theorem dX9_count_86 : decode cX9_count 86 = .ok (.iaload, 1) := dr_46  pk_dece_331.2.2.2.2.2.2.2.2.2.2.2.2.2.2.2.2.2.2.2.1
theorem dX9_count_87 : decode cX9_count 87 = .ok (.iadd, 1) := dr_96  pk_dece_331.2.2.2.2.2.2.2.2.2.2.2.2.2.2.2.2.2.2.2.2.1
theorem dX9_count_88 : decode cX9_count 88 = .ok (.istore_n 2, 1) := dr_61  pk_dece_331.2.2.2.2.2.2.2.2.2.2.2.2.2.2.2.2.2.2.2.2.2
theorem dX9_count_89 : decode cX9_count 89 = .ok (.iinc 4 1, 3) := by decide +kernel
set_option maxRecDepth 20000 in
theorem pk_dece_332 : ((bq cX9_count 92 167 && bq cX9_count (92 + 1) 255 && bq cX9_count (92 + 2) 234 && (Reader.signed 16 (255 * 256 + 234) == (-22))) = true) ∧ (bq cX9_count 95 28 = true) ∧ (bq cX9_count 96 172 = true) ∧ (bq cX9_count 97 3 = true) ∧ ((bq cX9_count 98 54 && bq cX9_count (98 + 1) 4) = true) ∧ ((bq cX9_count 100 21 && bq cX9_count (100 + 1) 4) = true) ∧ (bq cX9_count 102 42 = true) ∧ ((bq cX9_count 103 180 && bq cX9_count (103 + 1) 0 && bq cX9_count (103 + 2) 85 && (0 * 256 + 85 == 85)) = true) ∧ ((bq cX9_count 106 162 && bq cX9_count (106 + 1) 0 && bq cX9_count (106 + 2) 18 && (Reader.signed 16 (0 * 256 + 18) == 18)) = true) ∧ (bq cX9_count 109 28 = true) ∧ (bq cX9_count 110 29 = true) ∧ ((bq cX9_count 111 21 && bq cX9_count (111 + 1) 4) = true) ∧ (bq cX9_count 113 122 = true) ∧ (bq cX9_count 114 4 = true) ∧ (bq cX9_count 115 126 = true) ∧ (bq cX9_count 116 96 = true) ∧ (bq cX9_count 117 61 = true) := by decide +kernel
theorem dX9_count_92 : decode cX9_count 92 = .ok (.goto (-22), 3) := dr_167 255 234  pk_dece_332.1
theorem dX9_count_95 : decode cX9_count 95 = .ok (.iload_n 2, 1) := dr_28  pk_dece_332.2.1
theorem dX9_count_96 : decode cX9_count 96 = .ok (.ireturn, 1) := dr_172  pk_dece_332.2.2.1
theorem dX9_count_97 : decode cX9_count 97 = .ok (.iconst 0, 1) := dr_3  pk_dece_332.2.2.2.1
theorem dX9_count_98 : decode cX9_count 98 = .ok (.istore 4, 2) := dr_54  pk_dece_332.2.2.2.2.1
theorem dX9_count_100 : decode cX9_count 100 = .ok (.iload 4, 2) := dr_21  pk_dece_332.2.2.2.2.2.1
theorem dX9_count_102 : decode cX9_count 102 = .ok (.aload_n 0, 1) := dr_42  pk_dece_332.2.2.2.2.2.2.1
theorem dX9_count_103 : decode cX9_count 103 = .ok (.getfield 85, 3) := dr_180 0 85  pk_dece_332.2.2.2.2.2.2.2.1
theorem dX9_count_106 : decode cX9_count 106 = .ok (.if_icmp .ge 18, 3) := dr_162 0 18  pk_dece_332.2.2.2.2.2.2.2.2.1
theorem dX9_count_109 : decode cX9_count 109 = .ok (.iload_n 2, 1) := dr_28  pk_dece_332.2.2.2.2.2.2.2.2.2.1
theorem dX9_count_110 : decode cX9_count 110 = .ok (.iload_n 3, 1) := dr_29  pk_dece_332.2.2.2.2.2.2.2.2.2.2.1
theorem dX9_count_111 : decode cX9_count 111 = .ok (.iload 4, 2) := dr_21  pk_dece_332.2.2.2.2.2.2.2.2.2.2.2.1
theorem dX9_count_113 : decode cX9_count 113 = .ok (.ishr, 1) := dr_122  pk_dece_332.2.2.2.2.2.2.2.2.2.2.2.2.1
theorem dX9_count_114 : decode cX9_count 114 = .ok (.iconst 1, 1) := dr_4  pk_dece_332.2.2.2.2.2.2.2.2.2.2.2.2.2.1
theorem dX9_count_115 : decode cX9_count 115 = .ok (.iand, 1) := dr_126  pk_dece_332.2.2.2.2.2.2.2.2.2.2.2.2.2.2.1
theorem dX9_count_116 : decode cX9_count 116 = .ok (.iadd, 1) := dr_96  pk_dece_332.2.2.2.2.2.2.2.2.2.2.2.2.2.2.2.1
theorem dX9_count_117 : decode cX9_count 117 = .ok (.istore_n 2, 1) := dr_61  pk_dece_332.2.2.2.2.2.2.2.2.2.2.2.2.2.2.2.2
theorem dX9_count_118 : decode cX9_count 118 = .ok (.iinc 4 1, 3) := by decide +kernel
set_option maxRecDepth 20000 in
theorem pk_dece_333 : ((bq cX9_count 121 167 && bq cX9_count (121 + 1) 255 && bq cX9_count (121 + 2) 235 && (Reader.signed 16 (255 * 256 + 235) == (-21))) = true) ∧ (bq cX9_count 124 28 = true) ∧ (bq cX9_count 125 172 = true) ∧ (bq cX9_count 126 2 = true) ∧ (bq cX9_count 127 172 = true) := by decide +kernel
theorem dX9_count_121 : decode cX9_count 121 = .ok (.goto (-21), 3) := dr_167 255 235  pk_dece_333.1
theorem dX9_count_124 : decode cX9_count 124 = .ok (.iload_n 2, 1) := dr_28  pk_dece_333.2.1
theorem dX9_count_125 : decode cX9_count 125 = .ok (.ireturn, 1) := dr_172  pk_dece_333.2.2.1
theorem dX9_count_126 : decode cX9_count 126 = .ok (.iconst (-1), 1) := dr_2  pk_dece_333.2.2.2.1
theorem dX9_count_127 : decode cX9_count 127 = .ok (.ireturn, 1) := dr_172  pk_dece_333.2.2.2.2
set_option maxRecDepth 20000 in
theorem pk_dece_334 : (bq cX9_trace 0 42 = true) ∧ ((bq cX9_trace 1 180 && bq cX9_trace (1 + 1) 0 && bq cX9_trace (1 + 2) 245 && (0 * 256 + 245 == 245)) = true) ∧ (bq cX9_trace 4 173 = true) := by decide +kernel
theorem dX9_trace_0 : decode cX9_trace 0 = .ok (.aload_n 0, 1) := dr_42  pk_dece_334.1
theorem dX9_trace_1 : decode cX9_trace 1 = .ok (.getfield 245, 3) := dr_180 0 245  pk_dece_334.2.1
theorem dX9_trace_4 : decode cX9_trace 4 = .ok (.lreturn, 1) := dr_173  pk_dece_334.2.2
