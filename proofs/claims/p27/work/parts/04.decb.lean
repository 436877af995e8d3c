set_option maxRecDepth 20000 in
theorem pk_decb_87 : ((bq cX6_at 9 162 && bq cX6_at (9 + 1) 0 && bq cX6_at (9 + 2) 10 && (Reader.signed 16 (0 * 256 + 10) == 10)) = true) ∧ (bq cX6_at 12 27 = true) ∧ ((bq cX6_at 13 17 && bq cX6_at (13 + 1) 0 && bq cX6_at (13 + 2) 200 && (Reader.signed 16 (0 * 256 + 200) == 200)) = true) ∧ ((bq cX6_at 16 161 && bq cX6_at (16 + 1) 0 && bq cX6_at (16 + 2) 7 && (Reader.signed 16 (0 * 256 + 7) == 7)) = true) ∧ (bq cX6_at 19 2 = true) ∧ ((bq cX6_at 20 167 && bq cX6_at (20 + 1) 0 && bq cX6_at (20 + 2) 9 && (Reader.signed 16 (0 * 256 + 9) == 9)) = true) ∧ (bq cX6_at 23 42 = true) ∧ ((bq cX6_at 24 180 && bq cX6_at (24 + 1) 0 && bq cX6_at (24 + 2) 9 && (0 * 256 + 9 == 9)) = true) ∧ (bq cX6_at 27 27 = true) ∧ (bq cX6_at 28 46 = true) ∧ (bq cX6_at 29 172 = true) := by decide +kernel
theorem dX6_at_9 : decode cX6_at 9 = .ok (.if_icmp .ge 10, 3) := dr_162 0 10  pk_decb_87.1
theorem dX6_at_12 : decode cX6_at 12 = .ok (.iload_n 1, 1) := dr_27  pk_decb_87.2.1
theorem dX6_at_13 : decode cX6_at 13 = .ok (.sipush 200, 3) := dr_17 0 200  pk_decb_87.2.2.1
theorem dX6_at_16 : decode cX6_at 16 = .ok (.if_icmp .lt 7, 3) := dr_161 0 7  pk_decb_87.2.2.2.1
theorem dX6_at_19 : decode cX6_at 19 = .ok (.iconst (-1), 1) := dr_2  pk_decb_87.2.2.2.2.1
theorem dX6_at_20 : decode cX6_at 20 = .ok (.goto 9, 3) := dr_167 0 9  pk_decb_87.2.2.2.2.2.1
theorem dX6_at_23 : decode cX6_at 23 = .ok (.aload_n 0, 1) := dr_42  pk_decb_87.2.2.2.2.2.2.1
theorem dX6_at_24 : decode cX6_at 24 = .ok (.getfield 9, 3) := dr_180 0 9  pk_decb_87.2.2.2.2.2.2.2.1
theorem dX6_at_27 : decode cX6_at 27 = .ok (.iload_n 1, 1) := dr_27  pk_decb_87.2.2.2.2.2.2.2.2.1
theorem dX6_at_28 : decode cX6_at 28 = .ok (.iaload, 1) := dr_46  pk_decb_87.2.2.2.2.2.2.2.2.2.1
theorem dX6_at_29 : decode cX6_at 29 = .ok (.ireturn, 1) := dr_172  pk_decb_87.2.2.2.2.2.2.2.2.2.2
set_option maxRecDepth 20000 in
theorem pk_decb_88 : (bq cX6_add 0 42 = true) ∧ ((bq cX6_add 1 180 && bq cX6_add (1 + 1) 0 && bq cX6_add (1 + 2) 15 && (0 * 256 + 15 == 15)) = true) ∧ ((bq cX6_add 4 155 && bq cX6_add (4 + 1) 0 && bq cX6_add (4 + 2) 33 && (Reader.signed 16 (0 * 256 + 33) == 33)) = true) ∧ (bq cX6_add 7 42 = true) ∧ ((bq cX6_add 8 180 && bq cX6_add (8 + 1) 0 && bq cX6_add (8 + 2) 15 && (0 * 256 + 15 == 15)) = true) ∧ ((bq cX6_add 11 17 && bq cX6_add (11 + 1) 0 && bq cX6_add (11 + 2) 200 && (Reader.signed 16 (0 * 256 + 200) == 200)) = true) ∧ ((bq cX6_add 14 162 && bq cX6_add (14 + 1) 0 && bq cX6_add (14 + 2) 23 && (Reader.signed 16 (0 * 256 + 23) == 23)) = true) ∧ (bq cX6_add 17 42 = true) ∧ ((bq cX6_add 18 180 && bq cX6_add (18 + 1) 0 && bq cX6_add (18 + 2) 9 && (0 * 256 + 9 == 9)) = true) ∧ (bq cX6_add 21 42 = true) ∧ ((bq cX6_add 22 180 && bq cX6_add (22 + 1) 0 && bq cX6_add (22 + 2) 15 && (0 * 256 + 15 == 15)) = true) ∧ (bq cX6_add 25 27 = true) ∧ (bq cX6_add 26 79 = true) ∧ (bq cX6_add 27 42 = true) ∧ (bq cX6_add 28 89 = true) ∧ ((bq cX6_add 29 180 && bq cX6_add (29 + 1) 0 && bq cX6_add (29 + 2) 15 && (0 * 256 + 15 == 15)) = true) ∧ (bq cX6_add 32 4 = true) ∧ (bq cX6_add 33 96 = true) ∧ ((bq cX6_add 34 181 && bq cX6_add (34 + 1) 0 && bq cX6_add (34 + 2) 15 && (0 * 256 + 15 == 15)) = true) ∧ (bq cX6_add 37 177 = true) := by decide +kernel
theorem dX6_add_0 : decode cX6_add 0 = .ok (.aload_n 0, 1) := dr_42  pk_decb_88.1
theorem dX6_add_1 : decode cX6_add 1 = .ok (.getfield 15, 3) := dr_180 0 15  pk_decb_88.2.1
theorem dX6_add_4 : decode cX6_add 4 = .ok (.ifCond .lt 33, 3) := dr_155 0 33  pk_decb_88.2.2.1
theorem dX6_add_7 : decode cX6_add 7 = .ok (.aload_n 0, 1) := dr_42  pk_decb_88.2.2.2.1
theorem dX6_add_8 : decode cX6_add 8 = .ok (.getfield 15, 3) := dr_180 0 15  pk_decb_88.2.2.2.2.1
theorem dX6_add_11 : decode cX6_add 11 = .ok (.sipush 200, 3) := dr_17 0 200  pk_decb_88.2.2.2.2.2.1
theorem dX6_add_14 : decode cX6_add 14 = .ok (.if_icmp .ge 23, 3) := dr_162 0 23  pk_decb_88.2.2.2.2.2.2.1
theorem dX6_add_17 : decode cX6_add 17 = .ok (.aload_n 0, 1) := dr_42  pk_decb_88.2.2.2.2.2.2.2.1
theorem dX6_add_18 : decode cX6_add 18 = .ok (.getfield 9, 3) := dr_180 0 9  pk_decb_88.2.2.2.2.2.2.2.2.1
theorem dX6_add_21 : decode cX6_add 21 = .ok (.aload_n 0, 1) := dr_42  pk_decb_88.2.2.2.2.2.2.2.2.2.1
theorem dX6_add_22 : decode cX6_add 22 = .ok (.getfield 15, 3) := dr_180 0 15  pk_decb_88.2.2.2.2.2.2.2.2.2.2.1
theorem dX6_add_25 : decode cX6_add 25 = .ok (.iload_n 1, 1) := dr_27  pk_decb_88.2.2.2.2.2.2.2.2.2.2.2.1
theorem dX6_add_26 : decode cX6_add 26 = .ok (.iastore, 1) := dr_79  pk_decb_88.2.2.2.2.2.2.2.2.2.2.2.2.1
theorem dX6_add_27 : decode cX6_add 27 = .ok (.aload_n 0, 1) := dr_42  pk_decb_88.2.2.2.2.2.2.2.2.2.2.2.2.2.1
theorem dX6_add_28 : decode cX6_add 28 = .ok (.dup, 1) := dr_89  pk_decb_88.2.2.2.2.2.2.2.2.2.2.2.2.2.2.1
theorem dX6_add_29 : decode cX6_add 29 = .ok (.getfield 15, 3) := dr_180 0 15  pk_decb_88.2.2.2.2.2.2.2.2.2.2.2.2.2.2.2.1
theorem dX6_add_32 : decode cX6_add 32 = .ok (.iconst 1, 1) := dr_4  pk_decb_88.2.2.2.2.2.2.2.2.2.2.2.2.2.2.2.2.1
theorem dX6_add_33 : decode cX6_add 33 = .ok (.iadd, 1) := dr_96  pk_decb_88.2.2.2.2.2.2.2.2.2.2.2.2.2.2.2.2.2.1
theorem dX6_add_34 : decode cX6_add 34 = .ok (.putfield 15, 3) := dr_181 0 15  pk_decb_88.2.2.2.2.2.2.2.2.2.2.2.2.2.2.2.2.2.2.1
theorem dX6_add_37 : decode cX6_add 37 = .ok (.return_, 1) := dr_177  pk_decb_88.2.2.2.2.2.2.2.2.2.2.2.2.2.2.2.2.2.2.2
set_option maxRecDepth 20000 in
theorem pk_decb_89 : (bq cX6_become 0 42 = true) ∧ (bq cX6_become 1 3 = true) ∧ ((bq cX6_become 2 181 && bq cX6_become (2 + 1) 0 && bq cX6_become (2 + 2) 15 && (0 * 256 + 15 == 15)) = true) ∧ (bq cX6_become 5 3 = true) ∧ (bq cX6_become 6 61 = true) ∧ (bq cX6_become 7 28 = true) ∧ (bq cX6_become 8 43 = true) ∧ ((bq cX6_become 9 180 && bq cX6_become (9 + 1) 0 && bq cX6_become (9 + 2) 15 && (0 * 256 + 15 == 15)) = true) ∧ ((bq cX6_become 12 162 && bq cX6_become (12 + 1) 0 && bq cX6_become (12 + 2) 18 && (Reader.signed 16 (0 * 256 + 18) == 18)) = true) ∧ (bq cX6_become 15 42 = true) ∧ (bq cX6_become 16 43 = true) ∧ (bq cX6_become 17 28 = true) ∧ ((bq cX6_become 18 182 && bq cX6_become (18 + 1) 0 && bq cX6_become (18 + 2) 19 && (0 * 256 + 19 == 19)) = true) ∧ ((bq cX6_become 21 182 && bq cX6_become (21 + 1) 0 && bq cX6_become (21 + 2) 23 && (0 * 256 + 23 == 23)) = true) := by decide +kernel
theorem dX6_become_0 : decode cX6_become 0 = .ok (.aload_n 0, 1) := dr_42  pk_decb_89.1
theorem dX6_become_1 : decode cX6_become 1 = .ok (.iconst 0, 1) := dr_3  pk_decb_89.2.1
theorem dX6_become_2 : decode cX6_become 2 = .ok (.putfield 15, 3) := dr_181 0 15  pk_decb_89.2.2.1
theorem dX6_become_5 : decode cX6_become 5 = .ok (.iconst 0, 1) := dr_3  pk_decb_89.2.2.2.1
theorem dX6_become_6 : decode cX6_become 6 = .ok (.istore_n 2, 1) := dr_61  pk_decb_89.2.2.2.2.1
theorem dX6_become_7 : decode cX6_become 7 = .ok (.iload_n 2, 1) := dr_28  pk_decb_89.2.2.2.2.2.1
theorem dX6_become_8 : decode cX6_become 8 = .ok (.aload_n 1, 1) := dr_43  pk_decb_89.2.2.2.2.2.2.1
theorem dX6_become_9 : decode cX6_become 9 = .ok (.getfield 15, 3) := dr_180 0 15  pk_decb_89.2.2.2.2.2.2.2.1
theorem dX6_become_12 : decode cX6_become 12 = .ok (.if_icmp .ge 18, 3) := dr_162 0 18  pk_decb_89.2.2.2.2.2.2.2.2.1
theorem dX6_become_15 : decode cX6_become 15 = .ok (.aload_n 0, 1) := dr_42  pk_decb_89.2.2.2.2.2.2.2.2.2.1
theorem dX6_become_16 : decode cX6_become 16 = .ok (.aload_n 1, 1) := dr_43  pk_decb_89.2.2.2.2.2.2.2.2.2.2.1
theorem dX6_become_17 : decode cX6_become 17 = .ok (.iload_n 2, 1) := dr_28  pk_decb_89.2.2.2.2.2.2.2.2.2.2.2.1
theorem dX6_become_18 : decode cX6_become 18 = .ok (.invokevirtual 19, 3) := dr_182 0 19  pk_decb_89.2.2.2.2.2.2.2.2.2.2.2.2.1
theorem dX6_become_21 : decode cX6_become 21 = .ok (.invokevirtual 23, 3) := dr_182 0 23  pk_decb_89.2.2.2.2.2.2.2.2.2.2.2.2.2
theorem dX6_become_24 : decode cX6_become 24 = .ok (.iinc 2 1, 3) := by decide +kernel
set_option maxRecDepth 20000 in
theorem pk_decb_90 : ((bq cX6_become 27 167 && bq cX6_become (27 + 1) 255 && bq cX6_become (27 + 2) 236 && (Reader.signed 16 (255 * 256 + 236) == (-20))) = true) ∧ (bq cX6_become 30 177 = true) := by decide +kernel
theorem dX6_become_27 : decode cX6_become 27 = .ok (.goto (-20), 3) := dr_167 255 236  pk_decb_90.1
theorem dX6_become_30 : decode cX6_become 30 = .ok (.return_, 1) := dr_177  pk_decb_90.2
set_option maxRecDepth 20000 in
theorem pk_decb_91 : (bq cX6_pastGap 0 3 = true) ∧ (bq cX6_pastGap 1 61 = true) ∧ (bq cX6_pastGap 2 27 = true) ∧ (bq cX6_pastGap 3 62 = true) ∧ (bq cX6_pastGap 4 29 = true) ∧ (bq cX6_pastGap 5 42 = true) ∧ ((bq cX6_pastGap 6 180 && bq cX6_pastGap (6 + 1) 0 && bq cX6_pastGap (6 + 2) 15 && (0 * 256 + 15 == 15)) = true) ∧ ((bq cX6_pastGap 9 162 && bq cX6_pastGap (9 + 1) 0 && bq cX6_pastGap (9 + 2) 53 && (Reader.signed 16 (0 * 256 + 53) == 53)) = true) ∧ (bq cX6_pastGap 12 42 = true) ∧ (bq cX6_pastGap 13 29 = true) ∧ ((bq cX6_pastGap 14 182 && bq cX6_pastGap (14 + 1) 0 && bq cX6_pastGap (14 + 2) 19 && (0 * 256 + 19 == 19)) = true) ∧ ((bq cX6_pastGap 17 54 && bq cX6_pastGap (17 + 1) 4) = true) ∧ ((bq cX6_pastGap 19 21 && bq cX6_pastGap (19 + 1) 4) = true) ∧ ((bq cX6_pastGap 21 16 && bq cX6_pastGap (21 + 1) 10 && (Reader.signed 8 10 == 10)) = true) ∧ ((bq cX6_pastGap 23 160 && bq cX6_pastGap (23 + 1) 0 && bq cX6_pastGap (23 + 2) 8 && (Reader.signed 16 (0 * 256 + 8) == 8)) = true) ∧ (bq cX6_pastGap 26 3 = true) ∧ (bq cX6_pastGap 27 61 = true) ∧ ((bq cX6_pastGap 28 167 && bq cX6_pastGap (28 + 1) 0 && bq cX6_pastGap (28 + 2) 28 && (Reader.signed 16 (0 * 256 + 28) == 28)) = true) ∧ ((bq cX6_pastGap 31 21 && bq cX6_pastGap (31 + 1) 4) = true) ∧ ((bq cX6_pastGap 33 16 && bq cX6_pastGap (33 + 1) 35 && (Reader.signed 8 35 == 35)) = true) ∧ ((bq cX6_pastGap 35 160 && bq cX6_pastGap (35 + 1) 0 && bq cX6_pastGap (35 + 2) 8 && (Reader.signed 16 (0 * 256 + 8) == 8)) = true) ∧ (bq cX6_pastGap 38 4 = true) ∧ (bq cX6_pastGap 39 61 = true) ∧ ((bq cX6_pastGap 40 167 && bq cX6_pastGap (40 + 1) 0 && bq cX6_pastGap (40 + 2) 16 && (Reader.signed 16 (0 * 256 + 16) == 16)) = true) ∧ (bq cX6_pastGap 43 28 = true) ∧ ((bq cX6_pastGap 44 154 && bq cX6_pastGap (44 + 1) 0 && bq cX6_pastGap (44 + 2) 12 && (Reader.signed 16 (0 * 256 + 12) == 12)) = true) ∧ ((bq cX6_pastGap 47 21 && bq cX6_pastGap (47 + 1) 4) = true) ∧ ((bq cX6_pastGap 49 16 && bq cX6_pastGap (49 + 1) 32 && (Reader.signed 8 32 == 32)) = true) ∧ ((bq cX6_pastGap 51 159 && bq cX6_pastGap (51 + 1) 0 && bq cX6_pastGap (51 + 2) 5 && (Reader.signed 16 (0 * 256 + 5) == 5)) = true) ∧ (bq cX6_pastGap 54 29 = true) ∧ (bq cX6_pastGap 55 172 = true) := by decide +kernel
theorem dX6_pastGap_0 : decode cX6_pastGap 0 = .ok (.iconst 0, 1) := dr_3  pk_decb_91.1
theorem dX6_pastGap_1 : decode cX6_pastGap 1 = .ok (.istore_n 2, 1) := dr_61  pk_decb_91.2.1
theorem dX6_pastGap_2 : decode cX6_pastGap 2 = .ok (.iload_n 1, 1) := dr_27  pk_decb_91.2.2.1
theorem dX6_pastGap_3 : decode cX6_pastGap 3 = .ok (.istore_n 3, 1) := dr_62  pk_decb_91.2.2.2.1
theorem dX6_pastGap_4 : decode cX6_pastGap 4 = .ok (.iload_n 3, 1) := dr_29  pk_decb_91.2.2.2.2.1
theorem dX6_pastGap_5 : decode cX6_pastGap 5 = .ok (.aload_n 0, 1) := dr_42  pk_decb_91.2.2.2.2.2.1
theorem dX6_pastGap_6 : decode cX6_pastGap 6 = .ok (.getfield 15, 3) := dr_180 0 15  pk_decb_91.2.2.2.2.2.2.1
theorem dX6_pastGap_9 : decode cX6_pastGap 9 = .ok (.if_icmp .ge 53, 3) := dr_162 0 53  pk_decb_91.2.2.2.2.2.2.2.1
theorem dX6_pastGap_12 : decode cX6_pastGap 12 = .ok (.aload_n 0, 1) := dr_42  pk_decb_91.2.2.2.2.2.2.2.2.1
theorem dX6_pastGap_13 : decode cX6_pastGap 13 = .ok (.iload_n 3, 1) := dr_29  pk_decb_91.2.2.2.2.2.2.2.2.2.1
theorem dX6_pastGap_14 : decode cX6_pastGap 14 = .ok (.invokevirtual 19, 3) := dr_182 0 19  pk_decb_91.2.2.2.2.2.2.2.2.2.2.1
theorem dX6_pastGap_17 : decode cX6_pastGap 17 = .ok (.istore 4, 2) := dr_54  pk_decb_91.2.2.2.2.2.2.2.2.2.2.2.1
theorem dX6_pastGap_19 : decode cX6_pastGap 19 = .ok (.iload 4, 2) := dr_21  pk_decb_91.2.2.2.2.2.2.2.2.2.2.2.2.1
theorem dX6_pastGap_21 : decode cX6_pastGap 21 = .ok (.bipush 10, 2) := dr_16 10  pk_decb_91.2.2.2.2.2.2.2.2.2.2.2.2.2.1
theorem dX6_pastGap_23 : decode cX6_pastGap 23 = .ok (.if_icmp .ne 8, 3) := dr_160 0 8  pk_decb_91.2.2.2.2.2.2.2.2.2.2.2.2.2.2.1
theorem dX6_pastGap_26 : decode cX6_pastGap 26 = .ok (.iconst 0, 1) := dr_3  pk_decb_91.2.2.2.2.2.2.2.2.2.2.2.2.2.2.2.1
theorem dX6_pastGap_27 : decode cX6_pastGap 27 = .ok (.istore_n 2, 1) := dr_61  pk_decb_91.2.2.2.2.2.2.2.2.2.2.2.2.2.2.2.2.1
theorem dX6_pastGap_28 : decode cX6_pastGap 28 = .ok (.goto 28, 3) := dr_167 0 28  pk_decb_91.2.2.2.2.2.2.2.2.2.2.2.2.2.2.2.2.2.1
theorem dX6_pastGap_31 : decode cX6_pastGap 31 = .ok (.iload 4, 2) := dr_21  pk_decb_91.2.2.2.2.2.2.2.2.2.2.2.2.2.2.2.2.2.2.1
theorem dX6_pastGap_33 : decode cX6_pastGap 33 = .ok (.bipush 35, 2) := dr_16 35  pk_decb_91.2.2.2.2.2.2.2.2.2.2.2.2.2.2.2.2.2.2.2.1
theorem dX6_pastGap_35 : decode cX6_pastGap 35 = .ok (.if_icmp .ne 8, 3) := dr_160 0 8  pk_decb_91.2.2.2.2.2.2.2.2.2.2.2.2.2.2.2.2.2.2.2.2.1
theorem dX6_pastGap_38 : decode cX6_pastGap 38 = .ok (.iconst 1, 1) := dr_4  pk_decb_91.2.2.2.2.2.2.2.2.2.2.2.2.2.2.2.2.2.2.2.2.2.1
theorem dX6_pastGap_39 : decode cX6_pastGap 39 = .ok (.istore_n 2, 1) := dr_61  pk_decb_91.2.2.2.2.2.2.2.2.2.2.2.2.2.2.2.2.2.2.2.2.2.2.1
theorem dX6_pastGap_40 : decode cX6_pastGap 40 = .ok (.goto 16, 3) := dr_167 0 16  pk_decb_91.2.2.2.2.2.2.2.2.2.2.2.2.2.2.2.2.2.2.2.2.2.2.2.1
theorem dX6_pastGap_43 : decode cX6_pastGap 43 = .ok (.iload_n 2, 1) := dr_28  pk_decb_91.2.2.2.2.2.2.2.2.2.2.2.2.2.2.2.2.2.2.2.2.2.2.2.2.1
theorem dX6_pastGap_44 : decode cX6_pastGap 44 = .ok (.ifCond .ne 12, 3) := dr_154 0 12  pk_decb_91.2.2.2.2.2.2.2.2.2.2.2.2.2.2.2.2.2.2.2.2.2.2.2.2.2.1
theorem dX6_pastGap_47 : decode cX6_pastGap 47 = .ok (.iload 4, 2) := dr_21  pk_decb_91.2.2.2.2.2.2.2.2.2.2.2.2.2.2.2.2.2.2.2.2.2.2.2.2.2.2.1
theorem dX6_pastGap_49 : decode cX6_pastGap 49 = .ok (.bipush 32, 2) := dr_16 32  pk_decb_91.2.2.2.2.2.2.2.2.2.2.2.2.2.2.2.2.2.2.2.2.2.2.2.2.2.2.2.1
theorem dX6_pastGap_51 : decode cX6_pastGap 51 = .ok (.if_icmp .eq 5, 3) := dr_159 0 5  pk_decb_91.2.2.2.2.2.2.2.2.2.2.2.2.2.2.2.2.2.2.2.2.2.2.2.2.2.2.2.2.1
theorem dX6_pastGap_54 : decode cX6_pastGap 54 = .ok (.iload_n 3, 1) := dr_29  pk_decb_91.2.2.2.2.2.2.2.2.2.2.2.2.2.2.2.2.2.2.2.2.2.2.2.2.2.2.2.2.2.1
theorem dX6_pastGap_55 : decode cX6_pastGap 55 = .ok (.ireturn, 1) := dr_172  pk_decb_91.2.2.2.2.2.2.2.2.2.2.2.2.2.2.2.2.2.2.2.2.2.2.2.2.2.2.2.2.2.2
theorem dX6_pastGap_56 : decode cX6_pastGap 56 = .ok (.iinc 3 1, 3) := by decide +kernel
set_option maxRecDepth 20000 in
theorem pk_decb_92 : ((bq cX6_pastGap 59 167 && bq cX6_pastGap (59 + 1) 255 && bq cX6_pastGap (59 + 2) 201 && (Reader.signed 16 (255 * 256 + 201) == (-55))) = true) ∧ (bq cX6_pastGap 62 42 = true) ∧ ((bq cX6_pastGap 63 180 && bq cX6_pastGap (63 + 1) 0 && bq cX6_pastGap (63 + 2) 15 && (0 * 256 + 15 == 15)) = true) ∧ (bq cX6_pastGap 66 172 = true) := by decide +kernel
theorem dX6_pastGap_59 : decode cX6_pastGap 59 = .ok (.goto (-55), 3) := dr_167 255 201  pk_decb_92.1
theorem dX6_pastGap_62 : decode cX6_pastGap 62 = .ok (.aload_n 0, 1) := dr_42  pk_decb_92.2.1
theorem dX6_pastGap_63 : decode cX6_pastGap 63 = .ok (.getfield 15, 3) := dr_180 0 15  pk_decb_92.2.2.1
theorem dX6_pastGap_66 : decode cX6_pastGap 66 = .ok (.ireturn, 1) := dr_172  pk_decb_92.2.2.2
set_option maxRecDepth 20000 in
theorem pk_decb_93 : (bq cX7_init 0 42 = true) ∧ ((bq cX7_init 1 183 && bq cX7_init (1 + 1) 0 && bq cX7_init (1 + 2) 1 && (0 * 256 + 1 == 1)) = true) ∧ (bq cX7_init 4 42 = true) ∧ (bq cX7_init 5 3 = true) ∧ ((bq cX7_init 6 181 && bq cX7_init (6 + 1) 0 && bq cX7_init (6 + 2) 7 && (0 * 256 + 7 == 7)) = true) ∧ (bq cX7_init 9 42 = true) ∧ (bq cX7_init 10 43 = true) ∧ ((bq cX7_init 11 181 && bq cX7_init (11 + 1) 0 && bq cX7_init (11 + 2) 13 && (0 * 256 + 13 == 13)) = true) ∧ (bq cX7_init 14 42 = true) ∧ (bq cX7_init 15 28 = true) ∧ ((bq cX7_init 16 181 && bq cX7_init (16 + 1) 0 && bq cX7_init (16 + 2) 17 && (0 * 256 + 17 == 17)) = true) ∧ (bq cX7_init 19 42 = true) ∧ (bq cX7_init 20 29 = true) ∧ ((bq cX7_init 21 181 && bq cX7_init (21 + 1) 0 && bq cX7_init (21 + 2) 21 && (0 * 256 + 21 == 21)) = true) ∧ (bq cX7_init 24 42 = true) ∧ ((bq cX7_init 25 21 && bq cX7_init (25 + 1) 4) = true) ∧ ((bq cX7_init 27 181 && bq cX7_init (27 + 1) 0 && bq cX7_init (27 + 2) 24 && (0 * 256 + 24 == 24)) = true) ∧ (bq cX7_init 30 177 = true) := by decide +kernel
theorem dX7_init_0 : decode cX7_init 0 = .ok (.aload_n 0, 1) := dr_42  pk_decb_93.1
theorem dX7_init_1 : decode cX7_init 1 = .ok (.invokespecial 1, 3) := dr_183 0 1  pk_decb_93.2.1
theorem dX7_init_4 : decode cX7_init 4 = .ok (.aload_n 0, 1) := dr_42  pk_decb_93.2.2.1
theorem dX7_init_5 : decode cX7_init 5 = .ok (.iconst 0, 1) := dr_3  pk_decb_93.2.2.2.1
theorem dX7_init_6 : decode cX7_init 6 = .ok (.putfield 7, 3) := dr_181 0 7  pk_decb_93.2.2.2.2.1
theorem dX7_init_9 : decode cX7_init 9 = .ok (.aload_n 0, 1) := dr_42  pk_decb_93.2.2.2.2.2.1
theorem dX7_init_10 : decode cX7_init 10 = .ok (.aload_n 1, 1) := dr_43  pk_decb_93.2.2.2.2.2.2.1
theorem dX7_init_11 : decode cX7_init 11 = .ok (.putfield 13, 3) := dr_181 0 13  pk_decb_93.2.2.2.2.2.2.2.1
theorem dX7_init_14 : decode cX7_init 14 = .ok (.aload_n 0, 1) := dr_42  pk_decb_93.2.2.2.2.2.2.2.2.1
theorem dX7_init_15 : decode cX7_init 15 = .ok (.iload_n 2, 1) := dr_28  pk_decb_93.2.2.2.2.2.2.2.2.2.1
theorem dX7_init_16 : decode cX7_init 16 = .ok (.putfield 17, 3) := dr_181 0 17  pk_decb_93.2.2.2.2.2.2.2.2.2.2.1
theorem dX7_init_19 : decode cX7_init 19 = .ok (.aload_n 0, 1) := dr_42  pk_decb_93.2.2.2.2.2.2.2.2.2.2.2.1
theorem dX7_init_20 : decode cX7_init 20 = .ok (.iload_n 3, 1) := dr_29  pk_decb_93.2.2.2.2.2.2.2.2.2.2.2.2.1
theorem dX7_init_21 : decode cX7_init 21 = .ok (.putfield 21, 3) := dr_181 0 21  pk_decb_93.2.2.2.2.2.2.2.2.2.2.2.2.2.1
theorem dX7_init_24 : decode cX7_init 24 = .ok (.aload_n 0, 1) := dr_42  pk_decb_93.2.2.2.2.2.2.2.2.2.2.2.2.2.2.1
theorem dX7_init_25 : decode cX7_init 25 = .ok (.iload 4, 2) := dr_21  pk_decb_93.2.2.2.2.2.2.2.2.2.2.2.2.2.2.2.1
theorem dX7_init_27 : decode cX7_init 27 = .ok (.putfield 24, 3) := dr_181 0 24  pk_decb_93.2.2.2.2.2.2.2.2.2.2.2.2.2.2.2.2.1
theorem dX7_init_30 : decode cX7_init 30 = .ok (.return_, 1) := dr_177  pk_decb_93.2.2.2.2.2.2.2.2.2.2.2.2.2.2.2.2.2
set_option maxRecDepth 20000 in
theorem pk_decb_94 : (bq cX8_init 0 42 = true) ∧ ((bq cX8_init 1 183 && bq cX8_init (1 + 1) 0 && bq cX8_init (1 + 2) 1 && (0 * 256 + 1 == 1)) = true) ∧ (bq cX8_init 4 42 = true) ∧ ((bq cX8_init 5 187 && bq cX8_init (5 + 1) 0 && bq cX8_init (5 + 2) 7 && (0 * 256 + 7 == 7)) = true) ∧ (bq cX8_init 8 89 = true) ∧ ((bq cX8_init 9 183 && bq cX8_init (9 + 1) 0 && bq cX8_init (9 + 2) 9 && (0 * 256 + 9 == 9)) = true) ∧ ((bq cX8_init 12 181 && bq cX8_init (12 + 1) 0 && bq cX8_init (12 + 2) 10 && (0 * 256 + 10 == 10)) = true) ∧ (bq cX8_init 15 42 = true) ∧ ((bq cX8_init 16 16 && bq cX8_init (16 + 1) 8 && (Reader.signed 8 8 == 8)) = true) ∧ ((bq cX8_init 18 189 && bq cX8_init (18 + 1) 0 && bq cX8_init (18 + 2) 7 && (0 * 256 + 7 == 7)) = true) ∧ ((bq cX8_init 21 181 && bq cX8_init (21 + 1) 0 && bq cX8_init (21 + 2) 16 && (0 * 256 + 16 == 16)) = true) ∧ (bq cX8_init 24 42 = true) ∧ ((bq cX8_init 25 16 && bq cX8_init (25 + 1) 12 && (Reader.signed 8 12 == 12)) = true) ∧ ((bq cX8_init 27 189 && bq cX8_init (27 + 1) 0 && bq cX8_init (27 + 2) 20 && (0 * 256 + 20 == 20)) = true) ∧ ((bq cX8_init 30 181 && bq cX8_init (30 + 1) 0 && bq cX8_init (30 + 2) 22 && (0 * 256 + 22 == 22)) = true) ∧ (bq cX8_init 33 42 = true) ∧ (bq cX8_init 34 3 = true) ∧ ((bq cX8_init 35 181 && bq cX8_init (35 + 1) 0 && bq cX8_init (35 + 2) 26 && (0 * 256 + 26 == 26)) = true) ∧ (bq cX8_init 38 42 = true) ∧ ((bq cX8_init 39 187 && bq cX8_init (39 + 1) 0 && bq cX8_init (39 + 2) 30 && (0 * 256 + 30 == 30)) = true) ∧ (bq cX8_init 42 89 = true) ∧ ((bq cX8_init 43 183 && bq cX8_init (43 + 1) 0 && bq cX8_init (43 + 2) 32 && (0 * 256 + 32 == 32)) = true) ∧ ((bq cX8_init 46 181 && bq cX8_init (46 + 1) 0 && bq cX8_init (46 + 2) 33 && (0 * 256 + 33 == 33)) = true) ∧ (bq cX8_init 49 42 = true) ∧ ((bq cX8_init 50 187 && bq cX8_init (50 + 1) 0 && bq cX8_init (50 + 2) 37 && (0 * 256 + 37 == 37)) = true) ∧ (bq cX8_init 53 89 = true) ∧ ((bq cX8_init 54 183 && bq cX8_init (54 + 1) 0 && bq cX8_init (54 + 2) 39 && (0 * 256 + 39 == 39)) = true) ∧ ((bq cX8_init 57 181 && bq cX8_init (57 + 1) 0 && bq cX8_init (57 + 2) 40 && (0 * 256 + 40 == 40)) = true) ∧ (bq cX8_init 60 42 = true) ∧ ((bq cX8_init 61 187 && bq cX8_init (61 + 1) 0 && bq cX8_init (61 + 2) 43 && (0 * 256 + 43 == 43)) = true) ∧ (bq cX8_init 64 89 = true) ∧ ((bq cX8_init 65 183 && bq cX8_init (65 + 1) 0 && bq cX8_init (65 + 2) 45 && (0 * 256 + 45 == 45)) = true) := by decide +kernel
theorem dX8_init_0 : decode cX8_init 0 = .ok (.aload_n 0, 1) := dr_42  pk_decb_94.1
theorem dX8_init_1 : decode cX8_init 1 = .ok (.invokespecial 1, 3) := dr_183 0 1  pk_decb_94.2.1
theorem dX8_init_4 : decode cX8_init 4 = .ok (.aload_n 0, 1) := dr_42  pk_decb_94.2.2.1
theorem dX8_init_5 : decode cX8_init 5 = .ok (.new 7, 3) := dr_187 0 7  pk_decb_94.2.2.2.1
theorem dX8_init_8 : decode cX8_init 8 = .ok (.dup, 1) := dr_89  pk_decb_94.2.2.2.2.1
theorem dX8_init_9 : decode cX8_init 9 = .ok (.invokespecial 9, 3) := dr_183 0 9  pk_decb_94.2.2.2.2.2.1
theorem dX8_init_12 : decode cX8_init 12 = .ok (.putfield 10, 3) := dr_181 0 10  pk_decb_94.2.2.2.2.2.2.1
theorem dX8_init_15 : decode cX8_init 15 = .ok (.aload_n 0, 1) := dr_42  pk_decb_94.2.2.2.2.2.2.2.1
theorem dX8_init_16 : decode cX8_init 16 = .ok (.bipush 8, 2) := dr_16 8  pk_decb_94.2.2.2.2.2.2.2.2.1
theorem dX8_init_18 : decode cX8_init 18 = .ok (.anewarray 7, 3) := dr_189 0 7  pk_decb_94.2.2.2.2.2.2.2.2.2.1
theorem dX8_init_21 : decode cX8_init 21 = .ok (.putfield 16, 3) := dr_181 0 16  pk_decb_94.2.2.2.2.2.2.2.2.2.2.1
theorem dX8_init_24 : decode cX8_init 24 = .ok (.aload_n 0, 1) := dr_42  pk_decb_94.2.2.2.2.2.2.2.2.2.2.2.1
theorem dX8_init_25 : decode cX8_init 25 = .ok (.bipush 12, 2) := dr_16 12  pk_decb_94.2.2.2.2.2.2.2.2.2.2.2.2.1
theorem dX8_init_27 : decode cX8_init 27 = .ok (.anewarray 20, 3) := dr_189 0 20  pk_decb_94.2.2.2.2.2.2.2.2.2.2.2.2.2.1
theorem dX8_init_30 : decode cX8_init 30 = .ok (.putfield 22, 3) := dr_181 0 22  pk_decb_94.2.2.2.2.2.2.2.2.2.2.2.2.2.2.1
theorem dX8_init_33 : decode cX8_init 33 = .ok (.aload_n 0, 1) := dr_42  pk_decb_94.2.2.2.2.2.2.2.2.2.2.2.2.2.2.2.1
theorem dX8_init_34 : decode cX8_init 34 = .ok (.iconst 0, 1) := dr_3  pk_decb_94.2.2.2.2.2.2.2.2.2.2.2.2.2.2.2.2.1
theorem dX8_init_35 : decode cX8_init 35 = .ok (.putfield 26, 3) := dr_181 0 26  pk_decb_94.2.2.2.2.2.2.2.2.2.2.2.2.2.2.2.2.2.1
theorem dX8_init_38 : decode cX8_init 38 = .ok (.aload_n 0, 1) := dr_42  pk_decb_94.2.2.2.2.2.2.2.2.2.2.2.2.2.2.2.2.2.2.1
theorem dX8_init_39 : decode cX8_init 39 = .ok (.new 30, 3) := dr_187 0 30  pk_decb_94.2.2.2.2.2.2.2.2.2.2.2.2.2.2.2.2.2.2.2.1
theorem dX8_init_42 : decode cX8_init 42 = .ok (.dup, 1) := dr_89  pk_decb_94.2.2.2.2.2.2.2.2.2.2.2.2.2.2.2.2.2.2.2.2.1
theorem dX8_init_43 : decode cX8_init 43 = .ok (.invokespecial 32, 3) := dr_183 0 32  pk_decb_94.2.2.2.2.2.2.2.2.2.2.2.2.2.2.2.2.2.2.2.2.2.1
theorem dX8_init_46 : decode cX8_init 46 = .ok (.putfield 33, 3) := dr_181 0 33  pk_decb_94.2.2.2.2.2.2.2.2.2.2.2.2.2.2.2.2.2.2.2.2.2.2.1
theorem dX8_init_49 : decode cX8_init 49 = .ok (.aload_n 0, 1) := dr_42  pk_decb_94.2.2.2.2.2.2.2.2.2.2.2.2.2.2.2.2.2.2.2.2.2.2.2.1
theorem dX8_init_50 : decode cX8_init 50 = .ok (.new 37, 3) := dr_187 0 37  pk_decb_94.2.2.2.2.2.2.2.2.2.2.2.2.2.2.2.2.2.2.2.2.2.2.2.2.1
theorem dX8_init_53 : decode cX8_init 53 = .ok (.dup, 1) := dr_89  pk_decb_94.2.2.2.2.2.2.2.2.2.2.2.2.2.2.2.2.2.2.2.2.2.2.2.2.2.1
theorem dX8_init_54 : decode cX8_init 54 = .ok (.invokespecial 39, 3) := dr_183 0 39  pk_decb_94.2.2.2.2.2.2.2.2.2.2.2.2.2.2.2.2.2.2.2.2.2.2.2.2.2.2.1
theorem dX8_init_57 : decode cX8_init 57 = .ok (.putfield 40, 3) := dr_181 0 40  pk_decb_94.2.2.2.2.2.2.2.2.2.2.2.2.2.2.2.2.2.2.2.2.2.2.2.2.2.2.2.1
theorem dX8_init_60 : decode cX8_init 60 = .ok (.aload_n 0, 1) := dr_42  pk_decb_94.2.2.2.2.2.2.2.2.2.2.2.2.2.2.2.2.2.2.2.2.2.2.2.2.2.2.2.2.1
theorem dX8_init_61 : decode cX8_init 61 = .ok (.new 43, 3) := dr_187 0 43  pk_decb_94.2.2.2.2.2.2.2.2.2.2.2.2.2.2.2.2.2.2.2.2.2.2.2.2.2.2.2.2.2.1
theorem dX8_init_64 : decode cX8_init 64 = .ok (.dup, 1) := dr_89  pk_decb_94.2.2.2.2.2.2.2.2.2.2.2.2.2.2.2.2.2.2.2.2.2.2.2.2.2.2.2.2.2.2.1
theorem dX8_init_65 : decode cX8_init 65 = .ok (.invokespecial 45, 3) := dr_183 0 45  pk_decb_94.2.2.2.2.2.2.2.2.2.2.2.2.2.2.2.2.2.2.2.2.2.2.2.2.2.2.2.2.2.2.2
set_option maxRecDepth 20000 in
theorem pk_decb_95 : ((bq cX8_init 68 181 && bq cX8_init (68 + 1) 0 && bq cX8_init (68 + 2) 46 && (0 * 256 + 46 == 46)) = true) ∧ (bq cX8_init 71 42 = true) ∧ ((bq cX8_init 72 187 && bq cX8_init (72 + 1) 0 && bq cX8_init (72 + 2) 43 && (0 * 256 + 43 == 43)) = true) ∧ (bq cX8_init 75 89 = true) ∧ ((bq cX8_init 76 183 && bq cX8_init (76 + 1) 0 && bq cX8_init (76 + 2) 45 && (0 * 256 + 45 == 45)) = true) ∧ ((bq cX8_init 79 181 && bq cX8_init (79 + 1) 0 && bq cX8_init (79 + 2) 50 && (0 * 256 + 50 == 50)) = true) ∧ (bq cX8_init 82 42 = true) ∧ ((bq cX8_init 83 187 && bq cX8_init (83 + 1) 0 && bq cX8_init (83 + 2) 43 && (0 * 256 + 43 == 43)) = true) ∧ (bq cX8_init 86 89 = true) ∧ ((bq cX8_init 87 183 && bq cX8_init (87 + 1) 0 && bq cX8_init (87 + 2) 45 && (0 * 256 + 45 == 45)) = true) ∧ ((bq cX8_init 90 181 && bq cX8_init (90 + 1) 0 && bq cX8_init (90 + 2) 53 && (0 * 256 + 53 == 53)) = true) ∧ (bq cX8_init 93 42 = true) ∧ ((bq cX8_init 94 187 && bq cX8_init (94 + 1) 0 && bq cX8_init (94 + 2) 56 && (0 * 256 + 56 == 56)) = true) ∧ (bq cX8_init 97 89 = true) ∧ ((bq cX8_init 98 183 && bq cX8_init (98 + 1) 0 && bq cX8_init (98 + 2) 58 && (0 * 256 + 58 == 58)) = true) ∧ ((bq cX8_init 101 181 && bq cX8_init (101 + 1) 0 && bq cX8_init (101 + 2) 59 && (0 * 256 + 59 == 59)) = true) ∧ (bq cX8_init 104 42 = true) ∧ (bq cX8_init 105 9 = true) ∧ ((bq cX8_init 106 181 && bq cX8_init (106 + 1) 0 && bq cX8_init (106 + 2) 63 && (0 * 256 + 63 == 63)) = true) ∧ (bq cX8_init 109 3 = true) ∧ (bq cX8_init 110 60 = true) ∧ (bq cX8_init 111 27 = true) ∧ ((bq cX8_init 112 16 && bq cX8_init (112 + 1) 8 && (Reader.signed 8 8 == 8)) = true) ∧ ((bq cX8_init 114 162 && bq cX8_init (114 + 1) 0 && bq cX8_init (114 + 2) 22 && (Reader.signed 16 (0 * 256 + 22) == 22)) = true) ∧ (bq cX8_init 117 42 = true) ∧ ((bq cX8_init 118 180 && bq cX8_init (118 + 1) 0 && bq cX8_init (118 + 2) 16 && (0 * 256 + 16 == 16)) = true) ∧ (bq cX8_init 121 27 = true) ∧ ((bq cX8_init 122 187 && bq cX8_init (122 + 1) 0 && bq cX8_init (122 + 2) 7 && (0 * 256 + 7 == 7)) = true) ∧ (bq cX8_init 125 89 = true) ∧ ((bq cX8_init 126 183 && bq cX8_init (126 + 1) 0 && bq cX8_init (126 + 2) 9 && (0 * 256 + 9 == 9)) = true) ∧ (bq cX8_init 129 83 = true) := by decide +kernel
theorem dX8_init_68 : decode cX8_init 68 = .ok (.putfield 46, 3) := dr_181 0 46  pk_decb_95.1
theorem dX8_init_71 : decode cX8_init 71 = .ok (.aload_n 0, 1) := dr_42  pk_decb_95.2.1
theorem dX8_init_72 : decode cX8_init 72 = .ok (.new 43, 3) := dr_187 0 43  pk_decb_95.2.2.1
theorem dX8_init_75 : decode cX8_init 75 = .ok (.dup, 1) := dr_89  pk_decb_95.2.2.2.1
theorem dX8_init_76 : decode cX8_init 76 = .ok (.invokespecial 45, 3) := dr_183 0 45  pk_decb_95.2.2.2.2.1
theorem dX8_init_79 : decode cX8_init 79 = .ok (.putfield 50, 3) := dr_181 0 50  pk_decb_95.2.2.2.2.2.1
theorem dX8_init_82 : decode cX8_init 82 = .ok (.aload_n 0, 1) := dr_42  pk_decb_95.2.2.2.2.2.2.1
theorem dX8_init_83 : decode cX8_init 83 = .ok (.new 43, 3) := dr_187 0 43  pk_decb_95.2.2.2.2.2.2.2.1
theorem dX8_init_86 : decode cX8_init 86 = .ok (.dup, 1) := dr_89  pk_decb_95.2.2.2.2.2.2.2.2.1
theorem dX8_init_87 : decode cX8_init 87 = .ok (.invokespecial 45, 3) := dr_183 0 45  pk_decb_95.2.2.2.2.2.2.2.2.2.1
theorem dX8_init_90 : decode cX8_init 90 = .ok (.putfield 53, 3) := dr_181 0 53  pk_decb_95.2.2.2.2.2.2.2.2.2.2.1
theorem dX8_init_93 : decode cX8_init 93 = .ok (.aload_n 0, 1) := dr_42  pk_decb_95.2.2.2.2.2.2.2.2.2.2.2.1
theorem dX8_init_94 : decode cX8_init 94 = .ok (.new 56, 3) := dr_187 0 56  pk_decb_95.2.2.2.2.2.2.2.2.2.2.2.2.1
theorem dX8_init_97 : decode cX8_init 97 = .ok (.dup, 1) := dr_89  pk_decb_95.2.2.2.2.2.2.2.2.2.2.2.2.2.1
theorem dX8_init_98 : decode cX8_init 98 = .ok (.invokespecial 58, 3) := dr_183 0 58  pk_decb_95.2.2.2.2.2.2.2.2.2.2.2.2.2.2.1
theorem dX8_init_101 : decode cX8_init 101 = .ok (.putfield 59, 3) := dr_181 0 59  pk_decb_95.2.2.2.2.2.2.2.2.2.2.2.2.2.2.2.1
theorem dX8_init_104 : decode cX8_init 104 = .ok (.aload_n 0, 1) := dr_42  pk_decb_95.2.2.2.2.2.2.2.2.2.2.2.2.2.2.2.2.1
theorem dX8_init_105 : decode cX8_init 105 = .ok (.lconst 0, 1) := dr_9  pk_decb_95.2.2.2.2.2.2.2.2.2.2.2.2.2.2.2.2.2.1
theorem dX8_init_106 : decode cX8_init 106 = .ok (.putfield 63, 3) := dr_181 0 63  pk_decb_95.2.2.2.2.2.2.2.2.2.2.2.2.2.2.2.2.2.2.1
theorem dX8_init_109 : decode cX8_init 109 = .ok (.iconst 0, 1) := dr_3  pk_decb_95.2.2.2.2.2.2.2.2.2.2.2.2.2.2.2.2.2.2.2.1
theorem dX8_init_110 : decode cX8_init 110 = .ok (.istore_n 1, 1) := dr_60  pk_decb_95.2.2.2.2.2.2.2.2.2.2.2.2.2.2.2.2.2.2.2.2.1
theorem dX8_init_111 : decode cX8_init 111 = .ok (.iload_n 1, 1) := dr_27  pk_decb_95.2.2.2.2.2.2.2.2.2.2.2.2.2.2.2.2.2.2.2.2.2.1
theorem dX8_init_112 : decode cX8_init 112 = .ok (.bipush 8, 2) := dr_16 8  pk_decb_95.2.2.2.2.2.2.2.2.2.2.2.2.2.2.2.2.2.2.2.2.2.2.1
theorem dX8_init_114 : decode cX8_init 114 = .ok (.if_icmp .ge 22, 3) := dr_162 0 22  pk_decb_95.2.2.2.2.2.2.2.2.2.2.2.2.2.2.2.2.2.2.2.2.2.2.2.1
theorem dX8_init_117 : decode cX8_init 117 = .ok (.aload_n 0, 1) := dr_42  pk_decb_95.2.2.2.2.2.2.2.2.2.2.2.2.2.2.2.2.2.2.2.2.2.2.2.2.1
theorem dX8_init_118 : decode cX8_init 118 = .ok (.getfield 16, 3) := dr_180 0 16  pk_decb_95.2.2.2.2.2.2.2.2.2.2.2.2.2.2.2.2.2.2.2.2.2.2.2.2.2.1
theorem dX8_init_121 : decode cX8_init 121 = .ok (.iload_n 1, 1) := dr_27  pk_decb_95.2.2.2.2.2.2.2.2.2.2.2.2.2.2.2.2.2.2.2.2.2.2.2.2.2.2.1
theorem dX8_init_122 : decode cX8_init 122 = .ok (.new 7, 3) := dr_187 0 7  pk_decb_95.2.2.2.2.2.2.2.2.2.2.2.2.2.2.2.2.2.2.2.2.2.2.2.2.2.2.2.1
theorem dX8_init_125 : decode cX8_init 125 = .ok (.dup, 1) := dr_89  pk_decb_95.2.2.2.2.2.2.2.2.2.2.2.2.2.2.2.2.2.2.2.2.2.2.2.2.2.2.2.2.1
theorem dX8_init_126 : decode cX8_init 126 = .ok (.invokespecial 9, 3) := dr_183 0 9  pk_decb_95.2.2.2.2.2.2.2.2.2.2.2.2.2.2.2.2.2.2.2.2.2.2.2.2.2.2.2.2.2.1
theorem dX8_init_129 : decode cX8_init 129 = .ok (.aastore, 1) := dr_83  pk_decb_95.2.2.2.2.2.2.2.2.2.2.2.2.2.2.2.2.2.2.2.2.2.2.2.2.2.2.2.2.2.2
theorem dX8_init_130 : decode cX8_init 130 = .ok (.iinc 1 1, 3) := by decide +kernel
set_option maxRecDepth 20000 in
theorem pk_decb_96 : ((bq cX8_init 133 167 && bq cX8_init (133 + 1) 255 && bq cX8_init (133 + 2) 234 && (Reader.signed 16 (255 * 256 + 234) == (-22))) = true) ∧ (bq cX8_init 136 177 = true) := by decide +kernel
theorem dX8_init_133 : decode cX8_init 133 = .ok (.goto (-22), 3) := dr_167 255 234  pk_decb_96.1
theorem dX8_init_136 : decode cX8_init 136 = .ok (.return_, 1) := dr_177  pk_decb_96.2
set_option maxRecDepth 20000 in
theorem pk_decb_97 : (bq cX8_type 0 29 = true) ∧ (bq cX8_type 1 4 = true) ∧ ((bq cX8_type 2 161 && bq cX8_type (2 + 1) 0 && bq cX8_type (2 + 2) 9 && (Reader.signed 16 (0 * 256 + 9) == 9)) = true) ∧ (bq cX8_type 5 29 = true) ∧ ((bq cX8_type 6 16 && bq cX8_type (6 + 1) 8 && (Reader.signed 8 8 == 8)) = true) ∧ ((bq cX8_type 8 164 && bq cX8_type (8 + 1) 0 && bq cX8_type (8 + 2) 5 && (Reader.signed 16 (0 * 256 + 5) == 5)) = true) ∧ (bq cX8_type 11 2 = true) ∧ (bq cX8_type 12 172 = true) ∧ (bq cX8_type 13 42 = true) ∧ ((bq cX8_type 14 180 && bq cX8_type (14 + 1) 0 && bq cX8_type (14 + 2) 10 && (0 * 256 + 10 == 10)) = true) ∧ ((bq cX8_type 17 180 && bq cX8_type (17 + 1) 0 && bq cX8_type (17 + 2) 67 && (0 * 256 + 67 == 67)) = true) ∧ (bq cX8_type 20 29 = true) ∧ (bq cX8_type 21 96 = true) ∧ ((bq cX8_type 22 17 && bq cX8_type (22 + 1) 0 && bq cX8_type (22 + 2) 200 && (Reader.signed 16 (0 * 256 + 200) == 200)) = true) ∧ ((bq cX8_type 25 164 && bq cX8_type (25 + 1) 0 && bq cX8_type (25 + 2) 6 && (Reader.signed 16 (0 * 256 + 6) == 6)) = true) ∧ ((bq cX8_type 28 16 && bq cX8_type (28 + 1) 253 && (Reader.signed 8 253 == (-3))) = true) ∧ (bq cX8_type 30 172 = true) ∧ (bq cX8_type 31 29 = true) ∧ (bq cX8_type 32 4 = true) ∧ (bq cX8_type 33 100 = true) ∧ ((bq cX8_type 34 54 && bq cX8_type (34 + 1) 4) = true) ∧ ((bq cX8_type 36 21 && bq cX8_type (36 + 1) 4) = true) ∧ ((bq cX8_type 38 155 && bq cX8_type (38 + 1) 0 && bq cX8_type (38 + 2) 28 && (Reader.signed 16 (0 * 256 + 28) == 28)) = true) ∧ (bq cX8_type 41 42 = true) ∧ ((bq cX8_type 42 180 && bq cX8_type (42 + 1) 0 && bq cX8_type (42 + 2) 10 && (0 * 256 + 10 == 10)) = true) ∧ (bq cX8_type 45 31 = true) ∧ ((bq cX8_type 46 16 && bq cX8_type (46 + 1) 8 && (Reader.signed 8 8 == 8)) = true) ∧ ((bq cX8_type 48 21 && bq cX8_type (48 + 1) 4) = true) ∧ (bq cX8_type 50 104 = true) ∧ (bq cX8_type 51 125 = true) ∧ (bq cX8_type 52 136 = true) ∧ ((bq cX8_type 53 17 && bq cX8_type (53 + 1) 0 && bq cX8_type (53 + 2) 255 && (Reader.signed 16 (0 * 256 + 255) == 255)) = true) := by decide +kernel
theorem dX8_type_0 : decode cX8_type 0 = .ok (.iload_n 3, 1) := dr_29  pk_decb_97.1
theorem dX8_type_1 : decode cX8_type 1 = .ok (.iconst 1, 1) := dr_4  pk_decb_97.2.1
theorem dX8_type_2 : decode cX8_type 2 = .ok (.if_icmp .lt 9, 3) := dr_161 0 9  pk_decb_97.2.2.1
theorem dX8_type_5 : decode cX8_type 5 = .ok (.iload_n 3, 1) := dr_29  pk_decb_97.2.2.2.1
theorem dX8_type_6 : decode cX8_type 6 = .ok (.bipush 8, 2) := dr_16 8  pk_decb_97.2.2.2.2.1
theorem dX8_type_8 : decode cX8_type 8 = .ok (.if_icmp .le 5, 3) := dr_164 0 5  pk_decb_97.2.2.2.2.2.1
theorem dX8_type_11 : decode cX8_type 11 = .ok (.iconst (-1), 1) := dr_2  pk_decb_97.2.2.2.2.2.2.1
theorem dX8_type_12 : decode cX8_type 12 = .ok (.ireturn, 1) := dr_172  pk_decb_97.2.2.2.2.2.2.2.1
theorem dX8_type_13 : decode cX8_type 13 = .ok (.aload_n 0, 1) := dr_42  pk_decb_97.2.2.2.2.2.2.2.2.1
theorem dX8_type_14 : decode cX8_type 14 = .ok (.getfield 10, 3) := dr_180 0 10  pk_decb_97.2.2.2.2.2.2.2.2.2.1
theorem dX8_type_17 : decode cX8_type 17 = .ok (.getfield 67, 3) := dr_180 0 67  pk_decb_97.2.2.2.2.2.2.2.2.2.2.1
theorem dX8_type_20 : decode cX8_type 20 = .ok (.iload_n 3, 1) := dr_29  pk_decb_97.2.2.2.2.2.2.2.2.2.2.2.1
theorem dX8_type_21 : decode cX8_type 21 = .ok (.iadd, 1) := dr_96  pk_decb_97.2.2.2.2.2.2.2.2.2.2.2.2.1
theorem dX8_type_22 : decode cX8_type 22 = .ok (.sipush 200, 3) := dr_17 0 200  pk_decb_97.2.2.2.2.2.2.2.2.2.2.2.2.2.1
theorem dX8_type_25 : decode cX8_type 25 = .ok (.if_icmp .le 6, 3) := dr_164 0 6  pk_decb_97.2.2.2.2.2.2.2.2.2.2.2.2.2.2.1
theorem dX8_type_28 : decode cX8_type 28 = .ok (.bipush (-3), 2) := dr_16 253  pk_decb_97.2.2.2.2.2.2.2.2.2.2.2.2.2.2.2.1
theorem dX8_type_30 : decode cX8_type 30 = .ok (.ireturn, 1) := dr_172  pk_decb_97.2.2.2.2.2.2.2.2.2.2.2.2.2.2.2.2.1
theorem dX8_type_31 : decode cX8_type 31 = .ok (.iload_n 3, 1) := dr_29  pk_decb_97.2.2.2.2.2.2.2.2.2.2.2.2.2.2.2.2.2.1
theorem dX8_type_32 : decode cX8_type 32 = .ok (.iconst 1, 1) := dr_4  pk_decb_97.2.2.2.2.2.2.2.2.2.2.2.2.2.2.2.2.2.2.1
theorem dX8_type_33 : decode cX8_type 33 = .ok (.isub, 1) := dr_100  pk_decb_97.2.2.2.2.2.2.2.2.2.2.2.2.2.2.2.2.2.2.2.1
theorem dX8_type_34 : decode cX8_type 34 = .ok (.istore 4, 2) := dr_54  pk_decb_97.2.2.2.2.2.2.2.2.2.2.2.2.2.2.2.2.2.2.2.2.1
theorem dX8_type_36 : decode cX8_type 36 = .ok (.iload 4, 2) := dr_21  pk_decb_97.2.2.2.2.2.2.2.2.2.2.2.2.2.2.2.2.2.2.2.2.2.1
theorem dX8_type_38 : decode cX8_type 38 = .ok (.ifCond .lt 28, 3) := dr_155 0 28  pk_decb_97.2.2.2.2.2.2.2.2.2.2.2.2.2.2.2.2.2.2.2.2.2.2.1
theorem dX8_type_41 : decode cX8_type 41 = .ok (.aload_n 0, 1) := dr_42  pk_decb_97.2.2.2.2.2.2.2.2.2.2.2.2.2.2.2.2.2.2.2.2.2.2.2.1
theorem dX8_type_42 : decode cX8_type 42 = .ok (.getfield 10, 3) := dr_180 0 10  pk_decb_97.2.2.2.2.2.2.2.2.2.2.2.2.2.2.2.2.2.2.2.2.2.2.2.2.1
theorem dX8_type_45 : decode cX8_type 45 = .ok (.lload_n 1, 1) := dr_31  pk_decb_97.2.2.2.2.2.2.2.2.2.2.2.2.2.2.2.2.2.2.2.2.2.2.2.2.2.1
theorem dX8_type_46 : decode cX8_type 46 = .ok (.bipush 8, 2) := dr_16 8  pk_decb_97.2.2.2.2.2.2.2.2.2.2.2.2.2.2.2.2.2.2.2.2.2.2.2.2.2.2.1
theorem dX8_type_48 : decode cX8_type 48 = .ok (.iload 4, 2) := dr_21  pk_decb_97.2.2.2.2.2.2.2.2.2.2.2.2.2.2.2.2.2.2.2.2.2.2.2.2.2.2.2.1
theorem dX8_type_50 : decode cX8_type 50 = .ok (.imul, 1) := dr_104  pk_decb_97.2.2.2.2.2.2.2.2.2.2.2.2.2.2.2.2.2.2.2.2.2.2.2.2.2.2.2.2.1
theorem dX8_type_51 : decode cX8_type 51 = .ok (.lushr, 1) := dr_125  pk_decb_97.2.2.2.2.2.2.2.2.2.2.2.2.2.2.2.2.2.2.2.2.2.2.2.2.2.2.2.2.2.1
theorem dX8_type_52 : decode cX8_type 52 = .ok (.l2i, 1) := dr_136  pk_decb_97.2.2.2.2.2.2.2.2.2.2.2.2.2.2.2.2.2.2.2.2.2.2.2.2.2.2.2.2.2.2.1
theorem dX8_type_53 : decode cX8_type 53 = .ok (.sipush 255, 3) := dr_17 0 255  pk_decb_97.2.2.2.2.2.2.2.2.2.2.2.2.2.2.2.2.2.2.2.2.2.2.2.2.2.2.2.2.2.2.2
set_option maxRecDepth 20000 in
theorem pk_decb_98 : (bq cX8_type 56 126 = true) ∧ ((bq cX8_type 57 182 && bq cX8_type (57 + 1) 0 && bq cX8_type (57 + 2) 70 && (0 * 256 + 70 == 70)) = true) := by decide +kernel
theorem dX8_type_56 : decode cX8_type 56 = .ok (.iand, 1) := dr_126  pk_decb_98.1
theorem dX8_type_57 : decode cX8_type 57 = .ok (.invokevirtual 70, 3) := dr_182 0 70  pk_decb_98.2
theorem dX8_type_60 : decode cX8_type 60 = .ok (.iinc 4 (-1), 3) := by decide +kernel
set_option maxRecDepth 20000 in
theorem pk_decb_99 : ((bq cX8_type 63 167 && bq cX8_type (63 + 1) 255 && bq cX8_type (63 + 2) 229 && (Reader.signed 16 (255 * 256 + 229) == (-27))) = true) ∧ (bq cX8_type 66 42 = true) ∧ ((bq cX8_type 67 180 && bq cX8_type (67 + 1) 0 && bq cX8_type (67 + 2) 10 && (0 * 256 + 10 == 10)) = true) ∧ ((bq cX8_type 70 180 && bq cX8_type (70 + 1) 0 && bq cX8_type (70 + 2) 67 && (0 * 256 + 67 == 67)) = true) ∧ (bq cX8_type 73 172 = true) := by decide +kernel
theorem dX8_type_63 : decode cX8_type 63 = .ok (.goto (-27), 3) := dr_167 255 229  pk_decb_99.1
theorem dX8_type_66 : decode cX8_type 66 = .ok (.aload_n 0, 1) := dr_42  pk_decb_99.2.1
theorem dX8_type_67 : decode cX8_type 67 = .ok (.getfield 10, 3) := dr_180 0 10  pk_decb_99.2.2.1
theorem dX8_type_70 : decode cX8_type 70 = .ok (.getfield 67, 3) := dr_180 0 67  pk_decb_99.2.2.2.1
theorem dX8_type_73 : decode cX8_type 73 = .ok (.ireturn, 1) := dr_172  pk_decb_99.2.2.2.2
set_option maxRecDepth 20000 in
theorem pk_decb_100 : (bq cX8_clear 0 42 = true) ∧ ((bq cX8_clear 1 180 && bq cX8_clear (1 + 1) 0 && bq cX8_clear (1 + 2) 10 && (0 * 256 + 10 == 10)) = true) ∧ ((bq cX8_clear 4 180 && bq cX8_clear (4 + 1) 0 && bq cX8_clear (4 + 2) 67 && (0 * 256 + 67 == 67)) = true) ∧ (bq cX8_clear 7 60 = true) ∧ (bq cX8_clear 8 42 = true) ∧ ((bq cX8_clear 9 180 && bq cX8_clear (9 + 1) 0 && bq cX8_clear (9 + 2) 10 && (0 * 256 + 10 == 10)) = true) ∧ (bq cX8_clear 12 3 = true) ∧ ((bq cX8_clear 13 181 && bq cX8_clear (13 + 1) 0 && bq cX8_clear (13 + 2) 67 && (0 * 256 + 67 == 67)) = true) ∧ (bq cX8_clear 16 27 = true) ∧ (bq cX8_clear 17 172 = true) := by decide +kernel
theorem dX8_clear_0 : decode cX8_clear 0 = .ok (.aload_n 0, 1) := dr_42  pk_decb_100.1
theorem dX8_clear_1 : decode cX8_clear 1 = .ok (.getfield 10, 3) := dr_180 0 10  pk_decb_100.2.1
theorem dX8_clear_4 : decode cX8_clear 4 = .ok (.getfield 67, 3) := dr_180 0 67  pk_decb_100.2.2.1
theorem dX8_clear_7 : decode cX8_clear 7 = .ok (.istore_n 1, 1) := dr_60  pk_decb_100.2.2.2.1
theorem dX8_clear_8 : decode cX8_clear 8 = .ok (.aload_n 0, 1) := dr_42  pk_decb_100.2.2.2.2.1
theorem dX8_clear_9 : decode cX8_clear 9 = .ok (.getfield 10, 3) := dr_180 0 10  pk_decb_100.2.2.2.2.2.1
theorem dX8_clear_12 : decode cX8_clear 12 = .ok (.iconst 0, 1) := dr_3  pk_decb_100.2.2.2.2.2.2.1
theorem dX8_clear_13 : decode cX8_clear 13 = .ok (.putfield 67, 3) := dr_181 0 67  pk_decb_100.2.2.2.2.2.2.2.1
theorem dX8_clear_16 : decode cX8_clear 16 = .ok (.iload_n 1, 1) := dr_27  pk_decb_100.2.2.2.2.2.2.2.2.1
theorem dX8_clear_17 : decode cX8_clear 17 = .ok (.ireturn, 1) := dr_172  pk_decb_100.2.2.2.2.2.2.2.2.2
set_option maxRecDepth 20000 in
theorem pk_decb_101 : (bq cX8_text 0 42 = true) ∧ (bq cX8_text 1 27 = true) ∧ ((bq cX8_text 2 182 && bq cX8_text (2 + 1) 0 && bq cX8_text (2 + 2) 74 && (0 * 256 + 74 == 74)) = true) ∧ (bq cX8_text 5 77 = true) ∧ (bq cX8_text 6 44 = true) ∧ ((bq cX8_text 7 199 && bq cX8_text (7 + 1) 0 && bq cX8_text (7 + 2) 5 && (Reader.signed 16 (0 * 256 + 5) == 5)) = true) ∧ (bq cX8_text 10 2 = true) ∧ (bq cX8_text 11 172 = true) ∧ (bq cX8_text 12 44 = true) ∧ (bq cX8_text 13 42 = true) ∧ ((bq cX8_text 14 180 && bq cX8_text (14 + 1) 0 && bq cX8_text (14 + 2) 10 && (0 * 256 + 10 == 10)) = true) ∧ ((bq cX8_text 17 182 && bq cX8_text (17 + 1) 0 && bq cX8_text (17 + 2) 78 && (0 * 256 + 78 == 78)) = true) ∧ (bq cX8_text 20 42 = true) ∧ ((bq cX8_text 21 180 && bq cX8_text (21 + 1) 0 && bq cX8_text (21 + 2) 10 && (0 * 256 + 10 == 10)) = true) ∧ (bq cX8_text 24 3 = true) ∧ ((bq cX8_text 25 181 && bq cX8_text (25 + 1) 0 && bq cX8_text (25 + 2) 67 && (0 * 256 + 67 == 67)) = true) ∧ (bq cX8_text 28 44 = true) ∧ ((bq cX8_text 29 180 && bq cX8_text (29 + 1) 0 && bq cX8_text (29 + 2) 67 && (0 * 256 + 67 == 67)) = true) ∧ (bq cX8_text 32 172 = true) := by decide +kernel
theorem dX8_text_0 : decode cX8_text 0 = .ok (.aload_n 0, 1) := dr_42  pk_decb_101.1
theorem dX8_text_1 : decode cX8_text 1 = .ok (.iload_n 1, 1) := dr_27  pk_decb_101.2.1
theorem dX8_text_2 : decode cX8_text 2 = .ok (.invokevirtual 74, 3) := dr_182 0 74  pk_decb_101.2.2.1
theorem dX8_text_5 : decode cX8_text 5 = .ok (.astore_n 2, 1) := dr_77  pk_decb_101.2.2.2.1
theorem dX8_text_6 : decode cX8_text 6 = .ok (.aload_n 2, 1) := dr_44  pk_decb_101.2.2.2.2.1
theorem dX8_text_7 : decode cX8_text 7 = .ok (.ifnonnull 5, 3) := dr_199 0 5  pk_decb_101.2.2.2.2.2.1
theorem dX8_text_10 : decode cX8_text 10 = .ok (.iconst (-1), 1) := dr_2  pk_decb_101.2.2.2.2.2.2.1
theorem dX8_text_11 : decode cX8_text 11 = .ok (.ireturn, 1) := dr_172  pk_decb_101.2.2.2.2.2.2.2.1
theorem dX8_text_12 : decode cX8_text 12 = .ok (.aload_n 2, 1) := dr_44  pk_decb_101.2.2.2.2.2.2.2.2.1
theorem dX8_text_13 : decode cX8_text 13 = .ok (.aload_n 0, 1) := dr_42  pk_decb_101.2.2.2.2.2.2.2.2.2.1
theorem dX8_text_14 : decode cX8_text 14 = .ok (.getfield 10, 3) := dr_180 0 10  pk_decb_101.2.2.2.2.2.2.2.2.2.2.1
theorem dX8_text_17 : decode cX8_text 17 = .ok (.invokevirtual 78, 3) := dr_182 0 78  pk_decb_101.2.2.2.2.2.2.2.2.2.2.2.1
theorem dX8_text_20 : decode cX8_text 20 = .ok (.aload_n 0, 1) := dr_42  pk_decb_101.2.2.2.2.2.2.2.2.2.2.2.2.1
theorem dX8_text_21 : decode cX8_text 21 = .ok (.getfield 10, 3) := dr_180 0 10  pk_decb_101.2.2.2.2.2.2.2.2.2.2.2.2.2.1
theorem dX8_text_24 : decode cX8_text 24 = .ok (.iconst 0, 1) := dr_3  pk_decb_101.2.2.2.2.2.2.2.2.2.2.2.2.2.2.1
theorem dX8_text_25 : decode cX8_text 25 = .ok (.putfield 67, 3) := dr_181 0 67  pk_decb_101.2.2.2.2.2.2.2.2.2.2.2.2.2.2.2.1
theorem dX8_text_28 : decode cX8_text 28 = .ok (.aload_n 2, 1) := dr_44  pk_decb_101.2.2.2.2.2.2.2.2.2.2.2.2.2.2.2.2.1
theorem dX8_text_29 : decode cX8_text 29 = .ok (.getfield 67, 3) := dr_180 0 67  pk_decb_101.2.2.2.2.2.2.2.2.2.2.2.2.2.2.2.2.2.1
theorem dX8_text_32 : decode cX8_text 32 = .ok (.ireturn, 1) := dr_172  pk_decb_101.2.2.2.2.2.2.2.2.2.2.2.2.2.2.2.2.2.2
set_option maxRecDepth 20000 in
theorem pk_decb_102 : (bq cX8_read 0 42 = true) ∧ (bq cX8_read 1 27 = true) ∧ ((bq cX8_read 2 182 && bq cX8_read (2 + 1) 0 && bq cX8_read (2 + 2) 74 && (0 * 256 + 74 == 74)) = true) ∧ (bq cX8_read 5 78 = true) ∧ (bq cX8_read 6 45 = true) ∧ ((bq cX8_read 7 199 && bq cX8_read (7 + 1) 0 && bq cX8_read (7 + 2) 7 && (Reader.signed 16 (0 * 256 + 7) == 7)) = true) ∧ (bq cX8_read 10 2 = true) ∧ ((bq cX8_read 11 167 && bq cX8_read (11 + 1) 0 && bq cX8_read (11 + 2) 8 && (Reader.signed 16 (0 * 256 + 8) == 8)) = true) ∧ (bq cX8_read 14 45 = true) ∧ (bq cX8_read 15 28 = true) ∧ ((bq cX8_read 16 182 && bq cX8_read (16 + 1) 0 && bq cX8_read (16 + 2) 82 && (0 * 256 + 82 == 82)) = true) ∧ (bq cX8_read 19 172 = true) := by decide +kernel
theorem dX8_read_0 : decode cX8_read 0 = .ok (.aload_n 0, 1) := dr_42  pk_decb_102.1
theorem dX8_read_1 : decode cX8_read 1 = .ok (.iload_n 1, 1) := dr_27  pk_decb_102.2.1
theorem dX8_read_2 : decode cX8_read 2 = .ok (.invokevirtual 74, 3) := dr_182 0 74  pk_decb_102.2.2.1
theorem dX8_read_5 : decode cX8_read 5 = .ok (.astore_n 3, 1) := dr_78  pk_decb_102.2.2.2.1
theorem dX8_read_6 : decode cX8_read 6 = .ok (.aload_n 3, 1) := dr_45  pk_decb_102.2.2.2.2.1
theorem dX8_read_7 : decode cX8_read 7 = .ok (.ifnonnull 7, 3) := dr_199 0 7  pk_decb_102.2.2.2.2.2.1
theorem dX8_read_10 : decode cX8_read 10 = .ok (.iconst (-1), 1) := dr_2  pk_decb_102.2.2.2.2.2.2.1
theorem dX8_read_11 : decode cX8_read 11 = .ok (.goto 8, 3) := dr_167 0 8  pk_decb_102.2.2.2.2.2.2.2.1
theorem dX8_read_14 : decode cX8_read 14 = .ok (.aload_n 3, 1) := dr_45  pk_decb_102.2.2.2.2.2.2.2.2.1
theorem dX8_read_15 : decode cX8_read 15 = .ok (.iload_n 2, 1) := dr_28  pk_decb_102.2.2.2.2.2.2.2.2.2.1
theorem dX8_read_16 : decode cX8_read 16 = .ok (.invokevirtual 82, 3) := dr_182 0 82  pk_decb_102.2.2.2.2.2.2.2.2.2.2.1
theorem dX8_read_19 : decode cX8_read 19 = .ok (.ireturn, 1) := dr_172  pk_decb_102.2.2.2.2.2.2.2.2.2.2.2
set_option maxRecDepth 20000 in
theorem pk_decb_103 : (bq cX8_pairs 0 42 = true) ∧ (bq cX8_pairs 1 3 = true) ∧ (bq cX8_pairs 2 27 = true) ∧ ((bq cX8_pairs 3 182 && bq cX8_pairs (3 + 1) 0 && bq cX8_pairs (3 + 2) 86 && (0 * 256 + 86 == 86)) = true) ∧ (bq cX8_pairs 6 172 = true) := by decide +kernel
theorem dX8_pairs_0 : decode cX8_pairs 0 = .ok (.aload_n 0, 1) := dr_42  pk_decb_103.1
theorem dX8_pairs_1 : decode cX8_pairs 1 = .ok (.iconst 0, 1) := dr_3  pk_decb_103.2.1
theorem dX8_pairs_2 : decode cX8_pairs 2 = .ok (.iload_n 1, 1) := dr_27  pk_decb_103.2.2.1
theorem dX8_pairs_3 : decode cX8_pairs 3 = .ok (.invokevirtual 86, 3) := dr_182 0 86  pk_decb_103.2.2.2.1
theorem dX8_pairs_6 : decode cX8_pairs 6 = .ok (.ireturn, 1) := dr_172  pk_decb_103.2.2.2.2
set_option maxRecDepth 20000 in
theorem pk_decb_104 : (bq cX8_named 0 42 = true) ∧ (bq cX8_named 1 4 = true) ∧ (bq cX8_named 2 27 = true) ∧ ((bq cX8_named 3 182 && bq cX8_named (3 + 1) 0 && bq cX8_named (3 + 2) 86 && (0 * 256 + 86 == 86)) = true) ∧ (bq cX8_named 6 172 = true) := by decide +kernel
theorem dX8_named_0 : decode cX8_named 0 = .ok (.aload_n 0, 1) := dr_42  pk_decb_104.1
theorem dX8_named_1 : decode cX8_named 1 = .ok (.iconst 1, 1) := dr_4  pk_decb_104.2.1
theorem dX8_named_2 : decode cX8_named 2 = .ok (.iload_n 1, 1) := dr_27  pk_decb_104.2.2.1
theorem dX8_named_3 : decode cX8_named 3 = .ok (.invokevirtual 86, 3) := dr_182 0 86  pk_decb_104.2.2.2.1
theorem dX8_named_6 : decode cX8_named 6 = .ok (.ireturn, 1) := dr_172  pk_decb_104.2.2.2.2
set_option maxRecDepth 20000 in
theorem pk_decb_105 : (bq cX8_build 0 42 = true) ∧ (bq cX8_build 1 27 = true) ∧ ((bq cX8_build 2 182 && bq cX8_build (2 + 1) 0 && bq cX8_build (2 + 2) 90 && (0 * 256 + 90 == 90)) = true) ∧ (bq cX8_build 5 78 = true) ∧ (bq cX8_build 6 42 = true) ∧ (bq cX8_build 7 28 = true) ∧ ((bq cX8_build 8 182 && bq cX8_build (8 + 1) 0 && bq cX8_build (8 + 2) 74 && (0 * 256 + 74 == 74)) = true) ∧ ((bq cX8_build 11 58 && bq cX8_build (11 + 1) 4) = true) ∧ (bq cX8_build 13 45 = true) ∧ ((bq cX8_build 14 198 && bq cX8_build (14 + 1) 0 && bq cX8_build (14 + 2) 8 && (Reader.signed 16 (0 * 256 + 8) == 8)) = true) ∧ ((bq cX8_build 17 25 && bq cX8_build (17 + 1) 4) = true) ∧ ((bq cX8_build 19 199 && bq cX8_build (19 + 1) 0 && bq cX8_build (19 + 2) 5 && (Reader.signed 16 (0 * 256 + 5) == 5)) = true) ∧ (bq cX8_build 22 2 = true) ∧ (bq cX8_build 23 172 = true) ∧ (bq cX8_build 24 42 = true) ∧ ((bq cX8_build 25 180 && bq cX8_build (25 + 1) 0 && bq cX8_build (25 + 2) 50 && (0 * 256 + 50 == 50)) = true) ∧ (bq cX8_build 28 45 = true) ∧ ((bq cX8_build 29 180 && bq cX8_build (29 + 1) 0 && bq cX8_build (29 + 2) 94 && (0 * 256 + 94 == 94)) = true) ∧ ((bq cX8_build 32 25 && bq cX8_build (32 + 1) 4) = true) ∧ ((bq cX8_build 34 182 && bq cX8_build (34 + 1) 0 && bq cX8_build (34 + 2) 98 && (0 * 256 + 98 == 98)) = true) ∧ ((bq cX8_build 37 154 && bq cX8_build (37 + 1) 0 && bq cX8_build (37 + 2) 6 && (Reader.signed 16 (0 * 256 + 6) == 6)) = true) ∧ ((bq cX8_build 40 16 && bq cX8_build (40 + 1) 254 && (Reader.signed 8 254 == (-2))) = true) ∧ (bq cX8_build 42 172 = true) ∧ (bq cX8_build 43 42 = true) ∧ (bq cX8_build 44 42 = true) ∧ ((bq cX8_build 45 180 && bq cX8_build (45 + 1) 0 && bq cX8_build (45 + 2) 50 && (0 * 256 + 50 == 50)) = true) ∧ ((bq cX8_build 48 180 && bq cX8_build (48 + 1) 0 && bq cX8_build (48 + 2) 102 && (0 * 256 + 102 == 102)) = true) ∧ (bq cX8_build 51 5 = true) ∧ (bq cX8_build 52 28 = true) ∧ (bq cX8_build 53 27 = true) ∧ ((bq cX8_build 54 182 && bq cX8_build (54 + 1) 0 && bq cX8_build (54 + 2) 105 && (0 * 256 + 105 == 105)) = true) ∧ (bq cX8_build 57 172 = true) := by decide +kernel
theorem dX8_build_0 : decode cX8_build 0 = .ok (.aload_n 0, 1) := dr_42  pk_decb_105.1
theorem dX8_build_1 : decode cX8_build 1 = .ok (.iload_n 1, 1) := dr_27  pk_decb_105.2.1
theorem dX8_build_2 : decode cX8_build 2 = .ok (.invokevirtual 90, 3) := dr_182 0 90  pk_decb_105.2.2.1
theorem dX8_build_5 : decode cX8_build 5 = .ok (.astore_n 3, 1) := dr_78  pk_decb_105.2.2.2.1
theorem dX8_build_6 : decode cX8_build 6 = .ok (.aload_n 0, 1) := dr_42  pk_decb_105.2.2.2.2.1
theorem dX8_build_7 : decode cX8_build 7 = .ok (.iload_n 2, 1) := dr_28  pk_decb_105.2.2.2.2.2.1
theorem dX8_build_8 : decode cX8_build 8 = .ok (.invokevirtual 74, 3) := dr_182 0 74  pk_decb_105.2.2.2.2.2.2.1
theorem dX8_build_11 : decode cX8_build 11 = .ok (.astore 4, 2) := dr_58  pk_decb_105.2.2.2.2.2.2.2.1
theorem dX8_build_13 : decode cX8_build 13 = .ok (.aload_n 3, 1) := dr_45  pk_decb_105.2.2.2.2.2.2.2.2.1
theorem dX8_build_14 : decode cX8_build 14 = .ok (.ifnull 8, 3) := dr_198 0 8  pk_decb_105.2.2.2.2.2.2.2.2.2.1
theorem dX8_build_17 : decode cX8_build 17 = .ok (.aload 4, 2) := dr_25  pk_decb_105.2.2.2.2.2.2.2.2.2.2.1
theorem dX8_build_19 : decode cX8_build 19 = .ok (.ifnonnull 5, 3) := dr_199 0 5  pk_decb_105.2.2.2.2.2.2.2.2.2.2.2.1
theorem dX8_build_22 : decode cX8_build 22 = .ok (.iconst (-1), 1) := dr_2  pk_decb_105.2.2.2.2.2.2.2.2.2.2.2.2.1
theorem dX8_build_23 : decode cX8_build 23 = .ok (.ireturn, 1) := dr_172  pk_decb_105.2.2.2.2.2.2.2.2.2.2.2.2.2.1
theorem dX8_build_24 : decode cX8_build 24 = .ok (.aload_n 0, 1) := dr_42  pk_decb_105.2.2.2.2.2.2.2.2.2.2.2.2.2.2.1
theorem dX8_build_25 : decode cX8_build 25 = .ok (.getfield 50, 3) := dr_180 0 50  pk_decb_105.2.2.2.2.2.2.2.2.2.2.2.2.2.2.2.1
theorem dX8_build_28 : decode cX8_build 28 = .ok (.aload_n 3, 1) := dr_45  pk_decb_105.2.2.2.2.2.2.2.2.2.2.2.2.2.2.2.2.1
theorem dX8_build_29 : decode cX8_build 29 = .ok (.getfield 94, 3) := dr_180 0 94  pk_decb_105.2.2.2.2.2.2.2.2.2.2.2.2.2.2.2.2.2.1
theorem dX8_build_32 : decode cX8_build 32 = .ok (.aload 4, 2) := dr_25  pk_decb_105.2.2.2.2.2.2.2.2.2.2.2.2.2.2.2.2.2.2.1
theorem dX8_build_34 : decode cX8_build 34 = .ok (.invokevirtual 98, 3) := dr_182 0 98  pk_decb_105.2.2.2.2.2.2.2.2.2.2.2.2.2.2.2.2.2.2.2.1
theorem dX8_build_37 : decode cX8_build 37 = .ok (.ifCond .ne 6, 3) := dr_154 0 6  pk_decb_105.2.2.2.2.2.2.2.2.2.2.2.2.2.2.2.2.2.2.2.2.1
theorem dX8_build_40 : decode cX8_build 40 = .ok (.bipush (-2), 2) := dr_16 254  pk_decb_105.2.2.2.2.2.2.2.2.2.2.2.2.2.2.2.2.2.2.2.2.2.1
theorem dX8_build_42 : decode cX8_build 42 = .ok (.ireturn, 1) := dr_172  pk_decb_105.2.2.2.2.2.2.2.2.2.2.2.2.2.2.2.2.2.2.2.2.2.2.1
theorem dX8_build_43 : decode cX8_build 43 = .ok (.aload_n 0, 1) := dr_42  pk_decb_105.2.2.2.2.2.2.2.2.2.2.2.2.2.2.2.2.2.2.2.2.2.2.2.1
theorem dX8_build_44 : decode cX8_build 44 = .ok (.aload_n 0, 1) := dr_42  pk_decb_105.2.2.2.2.2.2.2.2.2.2.2.2.2.2.2.2.2.2.2.2.2.2.2.2.1
theorem dX8_build_45 : decode cX8_build 45 = .ok (.getfield 50, 3) := dr_180 0 50  pk_decb_105.2.2.2.2.2.2.2.2.2.2.2.2.2.2.2.2.2.2.2.2.2.2.2.2.2.1
theorem dX8_build_48 : decode cX8_build 48 = .ok (.getfield 102, 3) := dr_180 0 102  pk_decb_105.2.2.2.2.2.2.2.2.2.2.2.2.2.2.2.2.2.2.2.2.2.2.2.2.2.2.1
theorem dX8_build_51 : decode cX8_build 51 = .ok (.iconst 2, 1) := dr_5  pk_decb_105.2.2.2.2.2.2.2.2.2.2.2.2.2.2.2.2.2.2.2.2.2.2.2.2.2.2.2.1
theorem dX8_build_52 : decode cX8_build 52 = .ok (.iload_n 2, 1) := dr_28  pk_decb_105.2.2.2.2.2.2.2.2.2.2.2.2.2.2.2.2.2.2.2.2.2.2.2.2.2.2.2.2.1
theorem dX8_build_53 : decode cX8_build 53 = .ok (.iload_n 1, 1) := dr_27  pk_decb_105.2.2.2.2.2.2.2.2.2.2.2.2.2.2.2.2.2.2.2.2.2.2.2.2.2.2.2.2.2.1
theorem dX8_build_54 : decode cX8_build 54 = .ok (.invokevirtual 105, 3) := dr_182 0 105  pk_decb_105.2.2.2.2.2.2.2.2.2.2.2.2.2.2.2.2.2.2.2.2.2.2.2.2.2.2.2.2.2.2.1
theorem dX8_build_57 : decode cX8_build 57 = .ok (.ireturn, 1) := dr_172  pk_decb_105.2.2.2.2.2.2.2.2.2.2.2.2.2.2.2.2.2.2.2.2.2.2.2.2.2.2.2.2.2.2.2
set_option maxRecDepth 20000 in
theorem pk_decb_106 : (bq cX8_tool 0 42 = true) ∧ (bq cX8_tool 1 27 = true) ∧ ((bq cX8_tool 2 182 && bq cX8_tool (2 + 1) 0 && bq cX8_tool (2 + 2) 90 && (0 * 256 + 90 == 90)) = true) ∧ (bq cX8_tool 5 78 = true) ∧ (bq cX8_tool 6 45 = true) ∧ ((bq cX8_tool 7 199 && bq cX8_tool (7 + 1) 0 && bq cX8_tool (7 + 2) 5 && (Reader.signed 16 (0 * 256 + 5) == 5)) = true) ∧ (bq cX8_tool 10 2 = true) ∧ (bq cX8_tool 11 172 = true) ∧ (bq cX8_tool 12 28 = true) := by decide +kernel
theorem dX8_tool_0 : decode cX8_tool 0 = .ok (.aload_n 0, 1) := dr_42  pk_decb_106.1
theorem dX8_tool_1 : decode cX8_tool 1 = .ok (.iload_n 1, 1) := dr_27  pk_decb_106.2.1
theorem dX8_tool_2 : decode cX8_tool 2 = .ok (.invokevirtual 90, 3) := dr_182 0 90  pk_decb_106.2.2.1
theorem dX8_tool_5 : decode cX8_tool 5 = .ok (.astore_n 3, 1) := dr_78  pk_decb_106.2.2.2.1
theorem dX8_tool_6 : decode cX8_tool 6 = .ok (.aload_n 3, 1) := dr_45  pk_decb_106.2.2.2.2.1
theorem dX8_tool_7 : decode cX8_tool 7 = .ok (.ifnonnull 5, 3) := dr_199 0 5  pk_decb_106.2.2.2.2.2.1
theorem dX8_tool_10 : decode cX8_tool 10 = .ok (.iconst (-1), 1) := dr_2  pk_decb_106.2.2.2.2.2.2.1
theorem dX8_tool_11 : decode cX8_tool 11 = .ok (.ireturn, 1) := dr_172  pk_decb_106.2.2.2.2.2.2.2.1
theorem dX8_tool_12 : decode cX8_tool 12 = .ok (.iload_n 2, 1) := dr_28  pk_decb_106.2.2.2.2.2.2.2.2
theorem dX8_tool_13 : decode cX8_tool 13 = .ok (.tableswitch 71 0 4 #[35, 43, 48, 53, 58], 35) := by decide +kernel
set_option maxRecDepth 20000 in
theorem pk_decb_107 : (bq cX8_tool 48 45 = true) ∧ ((bq cX8_tool 49 180 && bq cX8_tool (49 + 1) 0 && bq cX8_tool (49 + 2) 94 && (0 * 256 + 94 == 94)) = true) ∧ ((bq cX8_tool 52 180 && bq cX8_tool (52 + 1) 0 && bq cX8_tool (52 + 2) 109 && (0 * 256 + 109 == 109)) = true) ∧ (bq cX8_tool 55 172 = true) ∧ (bq cX8_tool 56 45 = true) ∧ ((bq cX8_tool 57 180 && bq cX8_tool (57 + 1) 0 && bq cX8_tool (57 + 2) 112 && (0 * 256 + 112 == 112)) = true) ∧ (bq cX8_tool 60 172 = true) ∧ (bq cX8_tool 61 45 = true) ∧ ((bq cX8_tool 62 180 && bq cX8_tool (62 + 1) 0 && bq cX8_tool (62 + 2) 115 && (0 * 256 + 115 == 115)) = true) ∧ (bq cX8_tool 65 172 = true) ∧ (bq cX8_tool 66 45 = true) ∧ ((bq cX8_tool 67 180 && bq cX8_tool (67 + 1) 0 && bq cX8_tool (67 + 2) 118 && (0 * 256 + 118 == 118)) = true) ∧ (bq cX8_tool 70 172 = true) ∧ (bq cX8_tool 71 45 = true) ∧ ((bq cX8_tool 72 180 && bq cX8_tool (72 + 1) 0 && bq cX8_tool (72 + 2) 121 && (0 * 256 + 121 == 121)) = true) ∧ ((bq cX8_tool 75 153 && bq cX8_tool (75 + 1) 0 && bq cX8_tool (75 + 2) 7 && (Reader.signed 16 (0 * 256 + 7) == 7)) = true) ∧ (bq cX8_tool 78 4 = true) ∧ ((bq cX8_tool 79 167 && bq cX8_tool (79 + 1) 0 && bq cX8_tool (79 + 2) 4 && (Reader.signed 16 (0 * 256 + 4) == 4)) = true) ∧ (bq cX8_tool 82 3 = true) ∧ (bq cX8_tool 83 172 = true) ∧ (bq cX8_tool 84 2 = true) ∧ (bq cX8_tool 85 172 = true) := by decide +kernel
theorem dX8_tool_48 : decode cX8_tool 48 = .ok (.aload_n 3, 1) := dr_45  pk_decb_107.1
theorem dX8_tool_49 : decode cX8_tool 49 = .ok (.getfield 94, 3) := dr_180 0 94  pk_decb_107.2.1
theorem dX8_tool_52 : decode cX8_tool 52 = .ok (.getfield 109, 3) := dr_180 0 109  pk_decb_107.2.2.1
theorem dX8_tool_55 : decode cX8_tool 55 = .ok (.ireturn, 1) := dr_172  pk_decb_107.2.2.2.1
theorem dX8_tool_56 : decode cX8_tool 56 = .ok (.aload_n 3, 1) := dr_45  pk_decb_107.2.2.2.2.1
theorem dX8_tool_57 : decode cX8_tool 57 = .ok (.getfield 112, 3) := dr_180 0 112  pk_decb_107.2.2.2.2.2.1
theorem dX8_tool_60 : decode cX8_tool 60 = .ok (.ireturn, 1) := dr_172  pk_decb_107.2.2.2.2.2.2.1
theorem dX8_tool_61 : decode cX8_tool 61 = .ok (.aload_n 3, 1) := dr_45  pk_decb_107.2.2.2.2.2.2.2.1
theorem dX8_tool_62 : decode cX8_tool 62 = .ok (.getfield 115, 3) := dr_180 0 115  pk_decb_107.2.2.2.2.2.2.2.2.1
theorem dX8_tool_65 : decode cX8_tool 65 = .ok (.ireturn, 1) := dr_172  pk_decb_107.2.2.2.2.2.2.2.2.2.1
theorem dX8_tool_66 : decode cX8_tool 66 = .ok (.aload_n 3, 1) := dr_45  pk_decb_107.2.2.2.2.2.2.2.2.2.2.1
theorem dX8_tool_67 : decode cX8_tool 67 = .ok (.getfield 118, 3) := dr_180 0 118  pk_decb_107.2.2.2.2.2.2.2.2.2.2.2.1
theorem dX8_tool_70 : decode cX8_tool 70 = .ok (.ireturn, 1) := dr_172  pk_decb_107.2.2.2.2.2.2.2.2.2.2.2.2.1
theorem dX8_tool_71 : decode cX8_tool 71 = .ok (.aload_n 3, 1) := dr_45  pk_decb_107.2.2.2.2.2.2.2.2.2.2.2.2.2.1
theorem dX8_tool_72 : decode cX8_tool 72 = .ok (.getfield 121, 3) := dr_180 0 121  pk_decb_107.2.2.2.2.2.2.2.2.2.2.2.2.2.2.1
theorem dX8_tool_75 : decode cX8_tool 75 = .ok (.ifCond .eq 7, 3) := dr_153 0 7  pk_decb_107.2.2.2.2.2.2.2.2.2.2.2.2.2.2.2.1
theorem dX8_tool_78 : decode cX8_tool 78 = .ok (.iconst 1, 1) := dr_4  pk_decb_107.2.2.2.2.2.2.2.2.2.2.2.2.2.2.2.2.1
theorem dX8_tool_79 : decode cX8_tool 79 = .ok (.goto 4, 3) := dr_167 0 4  pk_decb_107.2.2.2.2.2.2.2.2.2.2.2.2.2.2.2.2.2.1
theorem dX8_tool_82 : decode cX8_tool 82 = .ok (.iconst 0, 1) := dr_3  pk_decb_107.2.2.2.2.2.2.2.2.2.2.2.2.2.2.2.2.2.2.1
theorem dX8_tool_83 : decode cX8_tool 83 = .ok (.ireturn, 1) := dr_172  pk_decb_107.2.2.2.2.2.2.2.2.2.2.2.2.2.2.2.2.2.2.2.1
theorem dX8_tool_84 : decode cX8_tool 84 = .ok (.iconst (-1), 1) := dr_2  pk_decb_107.2.2.2.2.2.2.2.2.2.2.2.2.2.2.2.2.2.2.2.2.1
theorem dX8_tool_85 : decode cX8_tool 85 = .ok (.ireturn, 1) := dr_172  pk_decb_107.2.2.2.2.2.2.2.2.2.2.2.2.2.2.2.2.2.2.2.2.2
set_option maxRecDepth 20000 in
theorem pk_decb_108 : (bq cX8_code 0 42 = true) ∧ (bq cX8_code 1 27 = true) ∧ ((bq cX8_code 2 182 && bq cX8_code (2 + 1) 0 && bq cX8_code (2 + 2) 90 && (0 * 256 + 90 == 90)) = true) ∧ ((bq cX8_code 5 58 && bq cX8_code (5 + 1) 4) = true) ∧ ((bq cX8_code 7 25 && bq cX8_code (7 + 1) 4) = true) ∧ ((bq cX8_code 9 198 && bq cX8_code (9 + 1) 0 && bq cX8_code (9 + 2) 12 && (Reader.signed 16 (0 * 256 + 12) == 12)) = true) ∧ (bq cX8_code 12 29 = true) ∧ ((bq cX8_code 13 155 && bq cX8_code (13 + 1) 0 && bq cX8_code (13 + 2) 8 && (Reader.signed 16 (0 * 256 + 8) == 8)) = true) ∧ (bq cX8_code 16 29 = true) ∧ (bq cX8_code 17 4 = true) ∧ ((bq cX8_code 18 164 && bq cX8_code (18 + 1) 0 && bq cX8_code (18 + 2) 5 && (Reader.signed 16 (0 * 256 + 5) == 5)) = true) ∧ (bq cX8_code 21 2 = true) ∧ (bq cX8_code 22 172 = true) ∧ (bq cX8_code 23 29 = true) ∧ ((bq cX8_code 24 154 && bq cX8_code (24 + 1) 0 && bq cX8_code (24 + 2) 15 && (Reader.signed 16 (0 * 256 + 15) == 15)) = true) ∧ ((bq cX8_code 27 25 && bq cX8_code (27 + 1) 4) = true) ∧ ((bq cX8_code 29 180 && bq cX8_code (29 + 1) 0 && bq cX8_code (29 + 2) 94 && (0 * 256 + 94 == 94)) = true) ∧ (bq cX8_code 32 28 = true) ∧ ((bq cX8_code 33 182 && bq cX8_code (33 + 1) 0 && bq cX8_code (33 + 2) 125 && (0 * 256 + 125 == 125)) = true) ∧ ((bq cX8_code 36 167 && bq cX8_code (36 + 1) 0 && bq cX8_code (36 + 2) 12 && (Reader.signed 16 (0 * 256 + 12) == 12)) = true) ∧ ((bq cX8_code 39 25 && bq cX8_code (39 + 1) 4) = true) ∧ ((bq cX8_code 41 180 && bq cX8_code (41 + 1) 0 && bq cX8_code (41 + 2) 94 && (0 * 256 + 94 == 94)) = true) ∧ (bq cX8_code 44 28 = true) ∧ ((bq cX8_code 45 182 && bq cX8_code (45 + 1) 0 && bq cX8_code (45 + 2) 126 && (0 * 256 + 126 == 126)) = true) ∧ (bq cX8_code 48 172 = true) := by decide +kernel
theorem dX8_code_0 : decode cX8_code 0 = .ok (.aload_n 0, 1) := dr_42  pk_decb_108.1
theorem dX8_code_1 : decode cX8_code 1 = .ok (.iload_n 1, 1) := dr_27  pk_decb_108.2.1
theorem dX8_code_2 : decode cX8_code 2 = .ok (.invokevirtual 90, 3) := dr_182 0 90  pk_decb_108.2.2.1
theorem dX8_code_5 : decode cX8_code 5 = .ok (.astore 4, 2) := dr_58  pk_decb_108.2.2.2.1
theorem dX8_code_7 : decode cX8_code 7 = .ok (.aload 4, 2) := dr_25  pk_decb_108.2.2.2.2.1
theorem dX8_code_9 : decode cX8_code 9 = .ok (.ifnull 12, 3) := dr_198 0 12  pk_decb_108.2.2.2.2.2.1
theorem dX8_code_12 : decode cX8_code 12 = .ok (.iload_n 3, 1) := dr_29  pk_decb_108.2.2.2.2.2.2.1
theorem dX8_code_13 : decode cX8_code 13 = .ok (.ifCond .lt 8, 3) := dr_155 0 8  pk_decb_108.2.2.2.2.2.2.2.1
theorem dX8_code_16 : decode cX8_code 16 = .ok (.iload_n 3, 1) := dr_29  pk_decb_108.2.2.2.2.2.2.2.2.1
theorem dX8_code_17 : decode cX8_code 17 = .ok (.iconst 1, 1) := dr_4  pk_decb_108.2.2.2.2.2.2.2.2.2.1
theorem dX8_code_18 : decode cX8_code 18 = .ok (.if_icmp .le 5, 3) := dr_164 0 5  pk_decb_108.2.2.2.2.2.2.2.2.2.2.1
theorem dX8_code_21 : decode cX8_code 21 = .ok (.iconst (-1), 1) := dr_2  pk_decb_108.2.2.2.2.2.2.2.2.2.2.2.1
theorem dX8_code_22 : decode cX8_code 22 = .ok (.ireturn, 1) := dr_172  pk_decb_108.2.2.2.2.2.2.2.2.2.2.2.2.1
theorem dX8_code_23 : decode cX8_code 23 = .ok (.iload_n 3, 1) := dr_29  pk_decb_108.2.2.2.2.2.2.2.2.2.2.2.2.2.1
theorem dX8_code_24 : decode cX8_code 24 = .ok (.ifCond .ne 15, 3) := dr_154 0 15  pk_decb_108.2.2.2.2.2.2.2.2.2.2.2.2.2.2.1
theorem dX8_code_27 : decode cX8_code 27 = .ok (.aload 4, 2) := dr_25  pk_decb_108.2.2.2.2.2.2.2.2.2.2.2.2.2.2.2.1
theorem dX8_code_29 : decode cX8_code 29 = .ok (.getfield 94, 3) := dr_180 0 94  pk_decb_108.2.2.2.2.2.2.2.2.2.2.2.2.2.2.2.2.1
theorem dX8_code_32 : decode cX8_code 32 = .ok (.iload_n 2, 1) := dr_28  pk_decb_108.2.2.2.2.2.2.2.2.2.2.2.2.2.2.2.2.2.1
theorem dX8_code_33 : decode cX8_code 33 = .ok (.invokevirtual 125, 3) := dr_182 0 125  pk_decb_108.2.2.2.2.2.2.2.2.2.2.2.2.2.2.2.2.2.2.1
theorem dX8_code_36 : decode cX8_code 36 = .ok (.goto 12, 3) := dr_167 0 12  pk_decb_108.2.2.2.2.2.2.2.2.2.2.2.2.2.2.2.2.2.2.2.1
theorem dX8_code_39 : decode cX8_code 39 = .ok (.aload 4, 2) := dr_25  pk_decb_108.2.2.2.2.2.2.2.2.2.2.2.2.2.2.2.2.2.2.2.2.1
theorem dX8_code_41 : decode cX8_code 41 = .ok (.getfield 94, 3) := dr_180 0 94  pk_decb_108.2.2.2.2.2.2.2.2.2.2.2.2.2.2.2.2.2.2.2.2.2.1
theorem dX8_code_44 : decode cX8_code 44 = .ok (.iload_n 2, 1) := dr_28  pk_decb_108.2.2.2.2.2.2.2.2.2.2.2.2.2.2.2.2.2.2.2.2.2.2.1
theorem dX8_code_45 : decode cX8_code 45 = .ok (.invokevirtual 126, 3) := dr_182 0 126  pk_decb_108.2.2.2.2.2.2.2.2.2.2.2.2.2.2.2.2.2.2.2.2.2.2.2.1
theorem dX8_code_48 : decode cX8_code 48 = .ok (.ireturn, 1) := dr_172  pk_decb_108.2.2.2.2.2.2.2.2.2.2.2.2.2.2.2.2.2.2.2.2.2.2.2.2
set_option maxRecDepth 20000 in
theorem pk_decb_109 : (bq cX8_run 0 42 = true) ∧ (bq cX8_run 1 27 = true) ∧ ((bq cX8_run 2 182 && bq cX8_run (2 + 1) 0 && bq cX8_run (2 + 2) 90 && (0 * 256 + 90 == 90)) = true) ∧ (bq cX8_run 5 78 = true) ∧ (bq cX8_run 6 42 = true) ∧ (bq cX8_run 7 28 = true) ∧ ((bq cX8_run 8 182 && bq cX8_run (8 + 1) 0 && bq cX8_run (8 + 2) 74 && (0 * 256 + 74 == 74)) = true) ∧ ((bq cX8_run 11 58 && bq cX8_run (11 + 1) 4) = true) ∧ (bq cX8_run 13 45 = true) ∧ ((bq cX8_run 14 198 && bq cX8_run (14 + 1) 0 && bq cX8_run (14 + 2) 8 && (Reader.signed 16 (0 * 256 + 8) == 8)) = true) ∧ ((bq cX8_run 17 25 && bq cX8_run (17 + 1) 4) = true) ∧ ((bq cX8_run 19 199 && bq cX8_run (19 + 1) 0 && bq cX8_run (19 + 2) 5 && (Reader.signed 16 (0 * 256 + 5) == 5)) = true) ∧ (bq cX8_run 22 2 = true) ∧ (bq cX8_run 23 172 = true) ∧ (bq cX8_run 24 42 = true) ∧ ((bq cX8_run 25 180 && bq cX8_run (25 + 1) 0 && bq cX8_run (25 + 2) 46 && (0 * 256 + 46 == 46)) = true) ∧ (bq cX8_run 28 45 = true) ∧ ((bq cX8_run 29 180 && bq cX8_run (29 + 1) 0 && bq cX8_run (29 + 2) 94 && (0 * 256 + 94 == 94)) = true) ∧ ((bq cX8_run 32 25 && bq cX8_run (32 + 1) 4) = true) ∧ ((bq cX8_run 34 182 && bq cX8_run (34 + 1) 0 && bq cX8_run (34 + 2) 129 && (0 * 256 + 129 == 129)) = true) ∧ (bq cX8_run 37 42 = true) ∧ ((bq cX8_run 38 180 && bq cX8_run (38 + 1) 0 && bq cX8_run (38 + 2) 46 && (0 * 256 + 46 == 46)) = true) ∧ ((bq cX8_run 41 180 && bq cX8_run (41 + 1) 0 && bq cX8_run (41 + 2) 133 && (0 * 256 + 133 == 133)) = true) ∧ ((bq cX8_run 44 154 && bq cX8_run (44 + 1) 0 && bq cX8_run (44 + 2) 16 && (Reader.signed 16 (0 * 256 + 16) == 16)) = true) ∧ (bq cX8_run 47 42 = true) ∧ ((bq cX8_run 48 180 && bq cX8_run (48 + 1) 0 && bq cX8_run (48 + 2) 46 && (0 * 256 + 46 == 46)) = true) ∧ ((bq cX8_run 51 180 && bq cX8_run (51 + 1) 0 && bq cX8_run (51 + 2) 102 && (0 * 256 + 102 == 102)) = true) ∧ ((bq cX8_run 54 180 && bq cX8_run (54 + 1) 0 && bq cX8_run (54 + 2) 109 && (0 * 256 + 109 == 109)) = true) ∧ ((bq cX8_run 57 167 && bq cX8_run (57 + 1) 0 && bq cX8_run (57 + 2) 13 && (Reader.signed 16 (0 * 256 + 13) == 13)) = true) ∧ ((bq cX8_run 60 16 && bq cX8_run (60 + 1) 246 && (Reader.signed 8 246 == (-10))) = true) ∧ (bq cX8_run 62 42 = true) ∧ ((bq cX8_run 63 180 && bq cX8_run (63 + 1) 0 && bq cX8_run (63 + 2) 46 && (0 * 256 + 46 == 46)) = true) := by decide +kernel
theorem dX8_run_0 : decode cX8_run 0 = .ok (.aload_n 0, 1) := dr_42  pk_decb_109.1
theorem dX8_run_1 : decode cX8_run 1 = .ok (.iload_n 1, 1) := dr_27  pk_decb_109.2.1
theorem dX8_run_2 : decode cX8_run 2 = .ok (.invokevirtual 90, 3) := dr_182 0 90  pk_decb_109.2.2.1
theorem dX8_run_5 : decode cX8_run 5 = .ok (.astore_n 3, 1) := dr_78  pk_decb_109.2.2.2.1
theorem dX8_run_6 : decode cX8_run 6 = .ok (.aload_n 0, 1) := dr_42  pk_decb_109.2.2.2.2.1
theorem dX8_run_7 : decode cX8_run 7 = .ok (.iload_n 2, 1) := dr_28  pk_decb_109.2.2.2.2.2.1
theorem dX8_run_8 : decode cX8_run 8 = .ok (.invokevirtual 74, 3) := dr_182 0 74  pk_decb_109.2.2.2.2.2.2.1
theorem dX8_run_11 : decode cX8_run 11 = .ok (.astore 4, 2) := dr_58  pk_decb_109.2.2.2.2.2.2.2.1
theorem dX8_run_13 : decode cX8_run 13 = .ok (.aload_n 3, 1) := dr_45  pk_decb_109.2.2.2.2.2.2.2.2.1
theorem dX8_run_14 : decode cX8_run 14 = .ok (.ifnull 8, 3) := dr_198 0 8  pk_decb_109.2.2.2.2.2.2.2.2.2.1
theorem dX8_run_17 : decode cX8_run 17 = .ok (.aload 4, 2) := dr_25  pk_decb_109.2.2.2.2.2.2.2.2.2.2.1
theorem dX8_run_19 : decode cX8_run 19 = .ok (.ifnonnull 5, 3) := dr_199 0 5  pk_decb_109.2.2.2.2.2.2.2.2.2.2.2.1
theorem dX8_run_22 : decode cX8_run 22 = .ok (.iconst (-1), 1) := dr_2  pk_decb_109.2.2.2.2.2.2.2.2.2.2.2.2.1
theorem dX8_run_23 : decode cX8_run 23 = .ok (.ireturn, 1) := dr_172  pk_decb_109.2.2.2.2.2.2.2.2.2.2.2.2.2.1
theorem dX8_run_24 : decode cX8_run 24 = .ok (.aload_n 0, 1) := dr_42  pk_decb_109.2.2.2.2.2.2.2.2.2.2.2.2.2.2.1
theorem dX8_run_25 : decode cX8_run 25 = .ok (.getfield 46, 3) := dr_180 0 46  pk_decb_109.2.2.2.2.2.2.2.2.2.2.2.2.2.2.2.1
theorem dX8_run_28 : decode cX8_run 28 = .ok (.aload_n 3, 1) := dr_45  pk_decb_109.2.2.2.2.2.2.2.2.2.2.2.2.2.2.2.2.1
theorem dX8_run_29 : decode cX8_run 29 = .ok (.getfield 94, 3) := dr_180 0 94  pk_decb_109.2.2.2.2.2.2.2.2.2.2.2.2.2.2.2.2.2.1
theorem dX8_run_32 : decode cX8_run 32 = .ok (.aload 4, 2) := dr_25  pk_decb_109.2.2.2.2.2.2.2.2.2.2.2.2.2.2.2.2.2.2.1
theorem dX8_run_34 : decode cX8_run 34 = .ok (.invokevirtual 129, 3) := dr_182 0 129  pk_decb_109.2.2.2.2.2.2.2.2.2.2.2.2.2.2.2.2.2.2.2.1
theorem dX8_run_37 : decode cX8_run 37 = .ok (.aload_n 0, 1) := dr_42  pk_decb_109.2.2.2.2.2.2.2.2.2.2.2.2.2.2.2.2.2.2.2.2.1
theorem dX8_run_38 : decode cX8_run 38 = .ok (.getfield 46, 3) := dr_180 0 46  pk_decb_109.2.2.2.2.2.2.2.2.2.2.2.2.2.2.2.2.2.2.2.2.2.1
theorem dX8_run_41 : decode cX8_run 41 = .ok (.getfield 133, 3) := dr_180 0 133  pk_decb_109.2.2.2.2.2.2.2.2.2.2.2.2.2.2.2.2.2.2.2.2.2.2.1
theorem dX8_run_44 : decode cX8_run 44 = .ok (.ifCond .ne 16, 3) := dr_154 0 16  pk_decb_109.2.2.2.2.2.2.2.2.2.2.2.2.2.2.2.2.2.2.2.2.2.2.2.1
theorem dX8_run_47 : decode cX8_run 47 = .ok (.aload_n 0, 1) := dr_42  pk_decb_109.2.2.2.2.2.2.2.2.2.2.2.2.2.2.2.2.2.2.2.2.2.2.2.2.1
theorem dX8_run_48 : decode cX8_run 48 = .ok (.getfield 46, 3) := dr_180 0 46  pk_decb_109.2.2.2.2.2.2.2.2.2.2.2.2.2.2.2.2.2.2.2.2.2.2.2.2.2.1
theorem dX8_run_51 : decode cX8_run 51 = .ok (.getfield 102, 3) := dr_180 0 102  pk_decb_109.2.2.2.2.2.2.2.2.2.2.2.2.2.2.2.2.2.2.2.2.2.2.2.2.2.2.1
theorem dX8_run_54 : decode cX8_run 54 = .ok (.getfield 109, 3) := dr_180 0 109  pk_decb_109.2.2.2.2.2.2.2.2.2.2.2.2.2.2.2.2.2.2.2.2.2.2.2.2.2.2.2.1
theorem dX8_run_57 : decode cX8_run 57 = .ok (.goto 13, 3) := dr_167 0 13  pk_decb_109.2.2.2.2.2.2.2.2.2.2.2.2.2.2.2.2.2.2.2.2.2.2.2.2.2.2.2.2.1
theorem dX8_run_60 : decode cX8_run 60 = .ok (.bipush (-10), 2) := dr_16 246  pk_decb_109.2.2.2.2.2.2.2.2.2.2.2.2.2.2.2.2.2.2.2.2.2.2.2.2.2.2.2.2.2.1
theorem dX8_run_62 : decode cX8_run 62 = .ok (.aload_n 0, 1) := dr_42  pk_decb_109.2.2.2.2.2.2.2.2.2.2.2.2.2.2.2.2.2.2.2.2.2.2.2.2.2.2.2.2.2.2.1
theorem dX8_run_63 : decode cX8_run 63 = .ok (.getfield 46, 3) := dr_180 0 46  pk_decb_109.2.2.2.2.2.2.2.2.2.2.2.2.2.2.2.2.2.2.2.2.2.2.2.2.2.2.2.2.2.2.2
set_option maxRecDepth 20000 in
theorem pk_decb_110 : ((bq cX8_run 66 180 && bq cX8_run (66 + 1) 0 && bq cX8_run (66 + 2) 133 && (0 * 256 + 133 == 133)) = true) ∧ (bq cX8_run 69 100 = true) ∧ (bq cX8_run 70 172 = true) := by decide +kernel
theorem dX8_run_66 : decode cX8_run 66 = .ok (.getfield 133, 3) := dr_180 0 133  pk_decb_110.1
theorem dX8_run_69 : decode cX8_run 69 = .ok (.isub, 1) := dr_100  pk_decb_110.2.1
theorem dX8_run_70 : decode cX8_run 70 = .ok (.ireturn, 1) := dr_172  pk_decb_110.2.2
set_option maxRecDepth 20000 in
theorem pk_decb_111 : (bq cX8_ran 0 27 = true) := by decide +kernel
theorem dX8_ran_0 : decode cX8_ran 0 = .ok (.iload_n 1, 1) := dr_27  pk_decb_111
theorem dX8_ran_1 : decode cX8_ran 1 = .ok (.tableswitch 90 0 5 #[39, 47, 55, 63, 71, 79], 39) := by decide +kernel
set_option maxRecDepth 20000 in
theorem pk_decb_112 : (bq cX8_ran 40 42 = true) ∧ ((bq cX8_ran 41 180 && bq cX8_ran (41 + 1) 0 && bq cX8_ran (41 + 2) 46 && (0 * 256 + 46 == 46)) = true) ∧ ((bq cX8_ran 44 180 && bq cX8_ran (44 + 1) 0 && bq cX8_ran (44 + 2) 136 && (0 * 256 + 136 == 136)) = true) ∧ (bq cX8_ran 47 172 = true) ∧ (bq cX8_ran 48 42 = true) ∧ ((bq cX8_ran 49 180 && bq cX8_ran (49 + 1) 0 && bq cX8_ran (49 + 2) 46 && (0 * 256 + 46 == 46)) = true) ∧ ((bq cX8_ran 52 180 && bq cX8_ran (52 + 1) 0 && bq cX8_ran (52 + 2) 139 && (0 * 256 + 139 == 139)) = true) ∧ (bq cX8_ran 55 172 = true) ∧ (bq cX8_ran 56 42 = true) ∧ ((bq cX8_ran 57 180 && bq cX8_ran (57 + 1) 0 && bq cX8_ran (57 + 2) 46 && (0 * 256 + 46 == 46)) = true) ∧ ((bq cX8_ran 60 180 && bq cX8_ran (60 + 1) 0 && bq cX8_ran (60 + 2) 142 && (0 * 256 + 142 == 142)) = true) ∧ (bq cX8_ran 63 172 = true) ∧ (bq cX8_ran 64 42 = true) ∧ ((bq cX8_ran 65 180 && bq cX8_ran (65 + 1) 0 && bq cX8_ran (65 + 2) 46 && (0 * 256 + 46 == 46)) = true) ∧ ((bq cX8_ran 68 180 && bq cX8_ran (68 + 1) 0 && bq cX8_ran (68 + 2) 145 && (0 * 256 + 145 == 145)) = true) ∧ (bq cX8_ran 71 172 = true) ∧ (bq cX8_ran 72 42 = true) ∧ ((bq cX8_ran 73 180 && bq cX8_ran (73 + 1) 0 && bq cX8_ran (73 + 2) 46 && (0 * 256 + 46 == 46)) = true) ∧ ((bq cX8_ran 76 180 && bq cX8_ran (76 + 1) 0 && bq cX8_ran (76 + 2) 148 && (0 * 256 + 148 == 148)) = true) ∧ (bq cX8_ran 79 172 = true) ∧ (bq cX8_ran 80 42 = true) ∧ ((bq cX8_ran 81 180 && bq cX8_ran (81 + 1) 0 && bq cX8_ran (81 + 2) 46 && (0 * 256 + 46 == 46)) = true) ∧ ((bq cX8_ran 84 180 && bq cX8_ran (84 + 1) 0 && bq cX8_ran (84 + 2) 102 && (0 * 256 + 102 == 102)) = true) ∧ ((bq cX8_ran 87 180 && bq cX8_ran (87 + 1) 0 && bq cX8_ran (87 + 2) 109 && (0 * 256 + 109 == 109)) = true) ∧ (bq cX8_ran 90 172 = true) ∧ (bq cX8_ran 91 2 = true) ∧ (bq cX8_ran 92 172 = true) := by decide +kernel
theorem dX8_ran_40 : decode cX8_ran 40 = .ok (.aload_n 0, 1) := dr_42  pk_decb_112.1
theorem dX8_ran_41 : decode cX8_ran 41 = .ok (.getfield 46, 3) := dr_180 0 46  pk_decb_112.2.1
theorem dX8_ran_44 : decode cX8_ran 44 = .ok (.getfield 136, 3) := dr_180 0 136  pk_decb_112.2.2.1
theorem dX8_ran_47 : decode cX8_ran 47 = .ok (.ireturn, 1) := dr_172  pk_decb_112.2.2.2.1
theorem dX8_ran_48 : decode cX8_ran 48 = .ok (.aload_n 0, 1) := dr_42  pk_decb_112.2.2.2.2.1
theorem dX8_ran_49 : decode cX8_ran 49 = .ok (.getfield 46, 3) := dr_180 0 46  pk_decb_112.2.2.2.2.2.1
theorem dX8_ran_52 : decode cX8_ran 52 = .ok (.getfield 139, 3) := dr_180 0 139  pk_decb_112.2.2.2.2.2.2.1
theorem dX8_ran_55 : decode cX8_ran 55 = .ok (.ireturn, 1) := dr_172  pk_decb_112.2.2.2.2.2.2.2.1
theorem dX8_ran_56 : decode cX8_ran 56 = .ok (.aload_n 0, 1) := dr_42  pk_decb_112.2.2.2.2.2.2.2.2.1
theorem dX8_ran_57 : decode cX8_ran 57 = .ok (.getfield 46, 3) := dr_180 0 46  pk_decb_112.2.2.2.2.2.2.2.2.2.1
theorem dX8_ran_60 : decode cX8_ran 60 = .ok (.getfield 142, 3) := dr_180 0 142  pk_decb_112.2.2.2.2.2.2.2.2.2.2.1
theorem dX8_ran_63 : decode cX8_ran 63 = .ok (.ireturn, 1) := dr_172  pk_decb_112.2.2.2.2.2.2.2.2.2.2.2.1
theorem dX8_ran_64 : decode cX8_ran 64 = .ok (.aload_n 0, 1) := dr_42  pk_decb_112.2.2.2.2.2.2.2.2.2.2.2.2.1
theorem dX8_ran_65 : decode cX8_ran 65 = .ok (.getfield 46, 3) := dr_180 0 46  pk_decb_112.2.2.2.2.2.2.2.2.2.2.2.2.2.1
theorem dX8_ran_68 : decode cX8_ran 68 = .ok (.getfield 145, 3) := dr_180 0 145  pk_decb_112.2.2.2.2.2.2.2.2.2.2.2.2.2.2.1
theorem dX8_ran_71 : decode cX8_ran 71 = .ok (.ireturn, 1) := dr_172  pk_decb_112.2.2.2.2.2.2.2.2.2.2.2.2.2.2.2.1
theorem dX8_ran_72 : decode cX8_ran 72 = .ok (.aload_n 0, 1) := dr_42  pk_decb_112.2.2.2.2.2.2.2.2.2.2.2.2.2.2.2.2.1
theorem dX8_ran_73 : decode cX8_ran 73 = .ok (.getfield 46, 3) := dr_180 0 46  pk_decb_112.2.2.2.2.2.2.2.2.2.2.2.2.2.2.2.2.2.1
theorem dX8_ran_76 : decode cX8_ran 76 = .ok (.getfield 148, 3) := dr_180 0 148  pk_decb_112.2.2.2.2.2.2.2.2.2.2.2.2.2.2.2.2.2.2.1
theorem dX8_ran_79 : decode cX8_ran 79 = .ok (.ireturn, 1) := dr_172  pk_decb_112.2.2.2.2.2.2.2.2.2.2.2.2.2.2.2.2.2.2.2.1
theorem dX8_ran_80 : decode cX8_ran 80 = .ok (.aload_n 0, 1) := dr_42  pk_decb_112.2.2.2.2.2.2.2.2.2.2.2.2.2.2.2.2.2.2.2.2.1
theorem dX8_ran_81 : decode cX8_ran 81 = .ok (.getfield 46, 3) := dr_180 0 46  pk_decb_112.2.2.2.2.2.2.2.2.2.2.2.2.2.2.2.2.2.2.2.2.2.1
theorem dX8_ran_84 : decode cX8_ran 84 = .ok (.getfield 102, 3) := dr_180 0 102  pk_decb_112.2.2.2.2.2.2.2.2.2.2.2.2.2.2.2.2.2.2.2.2.2.2.1
theorem dX8_ran_87 : decode cX8_ran 87 = .ok (.getfield 109, 3) := dr_180 0 109  pk_decb_112.2.2.2.2.2.2.2.2.2.2.2.2.2.2.2.2.2.2.2.2.2.2.2.1
theorem dX8_ran_90 : decode cX8_ran 90 = .ok (.ireturn, 1) := dr_172  pk_decb_112.2.2.2.2.2.2.2.2.2.2.2.2.2.2.2.2.2.2.2.2.2.2.2.2.1
theorem dX8_ran_91 : decode cX8_ran 91 = .ok (.iconst (-1), 1) := dr_2  pk_decb_112.2.2.2.2.2.2.2.2.2.2.2.2.2.2.2.2.2.2.2.2.2.2.2.2.2.1
theorem dX8_ran_92 : decode cX8_ran 92 = .ok (.ireturn, 1) := dr_172  pk_decb_112.2.2.2.2.2.2.2.2.2.2.2.2.2.2.2.2.2.2.2.2.2.2.2.2.2.2
set_option maxRecDepth 20000 in
theorem pk_decb_113 : (bq cX8_tape 0 28 = true) ∧ ((bq cX8_tape 1 154 && bq cX8_tape (1 + 1) 0 && bq cX8_tape (1 + 2) 15 && (Reader.signed 16 (0 * 256 + 15) == 15)) = true) ∧ (bq cX8_tape 4 42 = true) ∧ ((bq cX8_tape 5 180 && bq cX8_tape (5 + 1) 0 && bq cX8_tape (5 + 2) 46 && (0 * 256 + 46 == 46)) = true) ∧ ((bq cX8_tape 8 180 && bq cX8_tape (8 + 1) 0 && bq cX8_tape (8 + 2) 102 && (0 * 256 + 102 == 102)) = true) ∧ (bq cX8_tape 11 27 = true) ∧ ((bq cX8_tape 12 182 && bq cX8_tape (12 + 1) 0 && bq cX8_tape (12 + 2) 125 && (0 * 256 + 125 == 125)) = true) ∧ (bq cX8_tape 15 172 = true) ∧ (bq cX8_tape 16 28 = true) ∧ (bq cX8_tape 17 4 = true) ∧ ((bq cX8_tape 18 160 && bq cX8_tape (18 + 1) 0 && bq cX8_tape (18 + 2) 14 && (Reader.signed 16 (0 * 256 + 14) == 14)) = true) ∧ (bq cX8_tape 21 42 = true) ∧ ((bq cX8_tape 22 180 && bq cX8_tape (22 + 1) 0 && bq cX8_tape (22 + 2) 46 && (0 * 256 + 46 == 46)) = true) ∧ (bq cX8_tape 25 27 = true) ∧ ((bq cX8_tape 26 182 && bq cX8_tape (26 + 1) 0 && bq cX8_tape (26 + 2) 151 && (0 * 256 + 151 == 151)) = true) ∧ ((bq cX8_tape 29 167 && bq cX8_tape (29 + 1) 0 && bq cX8_tape (29 + 2) 4 && (Reader.signed 16 (0 * 256 + 4) == 4)) = true) ∧ (bq cX8_tape 32 2 = true) ∧ (bq cX8_tape 33 172 = true) := by decide +kernel
theorem dX8_tape_0 : decode cX8_tape 0 = .ok (.iload_n 2, 1) := dr_28  pk_decb_113.1
theorem dX8_tape_1 : decode cX8_tape 1 = .ok (.ifCond .ne 15, 3) := dr_154 0 15  pk_decb_113.2.1
theorem dX8_tape_4 : decode cX8_tape 4 = .ok (.aload_n 0, 1) := dr_42  pk_decb_113.2.2.1
theorem dX8_tape_5 : decode cX8_tape 5 = .ok (.getfield 46, 3) := dr_180 0 46  pk_decb_113.2.2.2.1
theorem dX8_tape_8 : decode cX8_tape 8 = .ok (.getfield 102, 3) := dr_180 0 102  pk_decb_113.2.2.2.2.1
theorem dX8_tape_11 : decode cX8_tape 11 = .ok (.iload_n 1, 1) := dr_27  pk_decb_113.2.2.2.2.2.1
theorem dX8_tape_12 : decode cX8_tape 12 = .ok (.invokevirtual 125, 3) := dr_182 0 125  pk_decb_113.2.2.2.2.2.2.1
theorem dX8_tape_15 : decode cX8_tape 15 = .ok (.ireturn, 1) := dr_172  pk_decb_113.2.2.2.2.2.2.2.1
theorem dX8_tape_16 : decode cX8_tape 16 = .ok (.iload_n 2, 1) := dr_28  pk_decb_113.2.2.2.2.2.2.2.2.1
theorem dX8_tape_17 : decode cX8_tape 17 = .ok (.iconst 1, 1) := dr_4  pk_decb_113.2.2.2.2.2.2.2.2.2.1
theorem dX8_tape_18 : decode cX8_tape 18 = .ok (.if_icmp .ne 14, 3) := dr_160 0 14  pk_decb_113.2.2.2.2.2.2.2.2.2.2.1
theorem dX8_tape_21 : decode cX8_tape 21 = .ok (.aload_n 0, 1) := dr_42  pk_decb_113.2.2.2.2.2.2.2.2.2.2.2.1
theorem dX8_tape_22 : decode cX8_tape 22 = .ok (.getfield 46, 3) := dr_180 0 46  pk_decb_113.2.2.2.2.2.2.2.2.2.2.2.2.1
theorem dX8_tape_25 : decode cX8_tape 25 = .ok (.iload_n 1, 1) := dr_27  pk_decb_113.2.2.2.2.2.2.2.2.2.2.2.2.2.1
theorem dX8_tape_26 : decode cX8_tape 26 = .ok (.invokevirtual 151, 3) := dr_182 0 151  pk_decb_113.2.2.2.2.2.2.2.2.2.2.2.2.2.2.1
theorem dX8_tape_29 : decode cX8_tape 29 = .ok (.goto 4, 3) := dr_167 0 4  pk_decb_113.2.2.2.2.2.2.2.2.2.2.2.2.2.2.2.1
theorem dX8_tape_32 : decode cX8_tape 32 = .ok (.iconst (-1), 1) := dr_2  pk_decb_113.2.2.2.2.2.2.2.2.2.2.2.2.2.2.2.2.1
theorem dX8_tape_33 : decode cX8_tape 33 = .ok (.ireturn, 1) := dr_172  pk_decb_113.2.2.2.2.2.2.2.2.2.2.2.2.2.2.2.2.2
set_option maxRecDepth 20000 in
theorem pk_decb_114 : (bq cX8_rebuilt 0 42 = true) ∧ (bq cX8_rebuilt 1 27 = true) ∧ ((bq cX8_rebuilt 2 182 && bq cX8_rebuilt (2 + 1) 0 && bq cX8_rebuilt (2 + 2) 90 && (0 * 256 + 90 == 90)) = true) ∧ (bq cX8_rebuilt 5 77 = true) ∧ (bq cX8_rebuilt 6 44 = true) ∧ ((bq cX8_rebuilt 7 199 && bq cX8_rebuilt (7 + 1) 0 && bq cX8_rebuilt (7 + 2) 7 && (Reader.signed 16 (0 * 256 + 7) == 7)) = true) ∧ (bq cX8_rebuilt 10 2 = true) ∧ ((bq cX8_rebuilt 11 167 && bq cX8_rebuilt (11 + 1) 0 && bq cX8_rebuilt (11 + 2) 8 && (Reader.signed 16 (0 * 256 + 8) == 8)) = true) ∧ (bq cX8_rebuilt 14 42 = true) ∧ (bq cX8_rebuilt 15 44 = true) ∧ ((bq cX8_rebuilt 16 182 && bq cX8_rebuilt (16 + 1) 0 && bq cX8_rebuilt (16 + 2) 154 && (0 * 256 + 154 == 154)) = true) ∧ (bq cX8_rebuilt 19 172 = true) := by decide +kernel
theorem dX8_rebuilt_0 : decode cX8_rebuilt 0 = .ok (.aload_n 0, 1) := dr_42  pk_decb_114.1
theorem dX8_rebuilt_1 : decode cX8_rebuilt 1 = .ok (.iload_n 1, 1) := dr_27  pk_decb_114.2.1
theorem dX8_rebuilt_2 : decode cX8_rebuilt 2 = .ok (.invokevirtual 90, 3) := dr_182 0 90  pk_decb_114.2.2.1
theorem dX8_rebuilt_5 : decode cX8_rebuilt 5 = .ok (.astore_n 2, 1) := dr_77  pk_decb_114.2.2.2.1
theorem dX8_rebuilt_6 : decode cX8_rebuilt 6 = .ok (.aload_n 2, 1) := dr_44  pk_decb_114.2.2.2.2.1
theorem dX8_rebuilt_7 : decode cX8_rebuilt 7 = .ok (.ifnonnull 7, 3) := dr_199 0 7  pk_decb_114.2.2.2.2.2.1
theorem dX8_rebuilt_10 : decode cX8_rebuilt 10 = .ok (.iconst (-1), 1) := dr_2  pk_decb_114.2.2.2.2.2.2.1
theorem dX8_rebuilt_11 : decode cX8_rebuilt 11 = .ok (.goto 8, 3) := dr_167 0 8  pk_decb_114.2.2.2.2.2.2.2.1
theorem dX8_rebuilt_14 : decode cX8_rebuilt 14 = .ok (.aload_n 0, 1) := dr_42  pk_decb_114.2.2.2.2.2.2.2.2.1
theorem dX8_rebuilt_15 : decode cX8_rebuilt 15 = .ok (.aload_n 2, 1) := dr_44  pk_decb_114.2.2.2.2.2.2.2.2.2.1
theorem dX8_rebuilt_16 : decode cX8_rebuilt 16 = .ok (.invokevirtual 154, 3) := dr_182 0 154  pk_decb_114.2.2.2.2.2.2.2.2.2.2.1
theorem dX8_rebuilt_19 : decode cX8_rebuilt 19 = .ok (.ireturn, 1) := dr_172  pk_decb_114.2.2.2.2.2.2.2.2.2.2.2
set_option maxRecDepth 20000 in
theorem pk_decb_115 : (bq cX8_stale 0 42 = true) ∧ ((bq cX8_stale 1 182 && bq cX8_stale (1 + 1) 0 && bq cX8_stale (1 + 2) 158 && (0 * 256 + 158 == 158)) = true) ∧ (bq cX8_stale 4 172 = true) := by decide +kernel
theorem dX8_stale_0 : decode cX8_stale 0 = .ok (.aload_n 0, 1) := dr_42  pk_decb_115.1
theorem dX8_stale_1 : decode cX8_stale 1 = .ok (.invokevirtual 158, 3) := dr_182 0 158  pk_decb_115.2.1
theorem dX8_stale_4 : decode cX8_stale 4 = .ok (.ireturn, 1) := dr_172  pk_decb_115.2.2
set_option maxRecDepth 20000 in
theorem pk_decb_116 : (bq cX8_settles 0 42 = true) ∧ (bq cX8_settles 1 27 = true) ∧ ((bq cX8_settles 2 182 && bq cX8_settles (2 + 1) 0 && bq cX8_settles (2 + 2) 90 && (0 * 256 + 90 == 90)) = true) ∧ (bq cX8_settles 5 78 = true) ∧ (bq cX8_settles 6 42 = true) ∧ (bq cX8_settles 7 28 = true) ∧ ((bq cX8_settles 8 182 && bq cX8_settles (8 + 1) 0 && bq cX8_settles (8 + 2) 74 && (0 * 256 + 74 == 74)) = true) ∧ ((bq cX8_settles 11 58 && bq cX8_settles (11 + 1) 4) = true) ∧ (bq cX8_settles 13 45 = true) ∧ ((bq cX8_settles 14 198 && bq cX8_settles (14 + 1) 0 && bq cX8_settles (14 + 2) 8 && (Reader.signed 16 (0 * 256 + 8) == 8)) = true) ∧ ((bq cX8_settles 17 25 && bq cX8_settles (17 + 1) 4) = true) ∧ ((bq cX8_settles 19 199 && bq cX8_settles (19 + 1) 0 && bq cX8_settles (19 + 2) 5 && (Reader.signed 16 (0 * 256 + 5) == 5)) = true) ∧ (bq cX8_settles 22 2 = true) ∧ (bq cX8_settles 23 172 = true) ∧ (bq cX8_settles 24 45 = true) ∧ ((bq cX8_settles 25 180 && bq cX8_settles (25 + 1) 0 && bq cX8_settles (25 + 2) 94 && (0 * 256 + 94 == 94)) = true) ∧ ((bq cX8_settles 28 58 && bq cX8_settles (28 + 1) 5) = true) ∧ (bq cX8_settles 30 4 = true) ∧ ((bq cX8_settles 31 54 && bq cX8_settles (31 + 1) 6) = true) ∧ ((bq cX8_settles 33 21 && bq cX8_settles (33 + 1) 6) = true) ∧ ((bq cX8_settles 35 16 && bq cX8_settles (35 + 1) 6 && (Reader.signed 8 6 == 6)) = true) ∧ ((bq cX8_settles 37 163 && bq cX8_settles (37 + 1) 0 && bq cX8_settles (37 + 2) 68 && (Reader.signed 16 (0 * 256 + 68) == 68)) = true) ∧ ((bq cX8_settles 40 21 && bq cX8_settles (40 + 1) 6) = true) ∧ (bq cX8_settles 42 5 = true) ∧ (bq cX8_settles 43 112 = true) ∧ (bq cX8_settles 44 4 = true) ∧ ((bq cX8_settles 45 160 && bq cX8_settles (45 + 1) 0 && bq cX8_settles (45 + 2) 10 && (Reader.signed 16 (0 * 256 + 10) == 10)) = true) ∧ (bq cX8_settles 48 42 = true) ∧ ((bq cX8_settles 49 180 && bq cX8_settles (49 + 1) 0 && bq cX8_settles (49 + 2) 50 && (0 * 256 + 50 == 50)) = true) ∧ ((bq cX8_settles 52 167 && bq cX8_settles (52 + 1) 0 && bq cX8_settles (52 + 2) 7 && (Reader.signed 16 (0 * 256 + 7) == 7)) = true) ∧ (bq cX8_settles 55 42 = true) ∧ ((bq cX8_settles 56 180 && bq cX8_settles (56 + 1) 0 && bq cX8_settles (56 + 2) 53 && (0 * 256 + 53 == 53)) = true) := by decide +kernel
theorem dX8_settles_0 : decode cX8_settles 0 = .ok (.aload_n 0, 1) := dr_42  pk_decb_116.1
theorem dX8_settles_1 : decode cX8_settles 1 = .ok (.iload_n 1, 1) := dr_27  pk_decb_116.2.1
theorem dX8_settles_2 : decode cX8_settles 2 = .ok (.invokevirtual 90, 3) := dr_182 0 90  pk_decb_116.2.2.1
theorem dX8_settles_5 : decode cX8_settles 5 = .ok (.astore_n 3, 1) := dr_78  pk_decb_116.2.2.2.1
theorem dX8_settles_6 : decode cX8_settles 6 = .ok (.aload_n 0, 1) := dr_42  pk_decb_116.2.2.2.2.1
theorem dX8_settles_7 : decode cX8_settles 7 = .ok (.iload_n 2, 1) := dr_28  pk_decb_116.2.2.2.2.2.1
theorem dX8_settles_8 : decode cX8_settles 8 = .ok (.invokevirtual 74, 3) := dr_182 0 74  pk_decb_116.2.2.2.2.2.2.1
theorem dX8_settles_11 : decode cX8_settles 11 = .ok (.astore 4, 2) := dr_58  pk_decb_116.2.2.2.2.2.2.2.1
theorem dX8_settles_13 : decode cX8_settles 13 = .ok (.aload_n 3, 1) := dr_45  pk_decb_116.2.2.2.2.2.2.2.2.1
theorem dX8_settles_14 : decode cX8_settles 14 = .ok (.ifnull 8, 3) := dr_198 0 8  pk_decb_116.2.2.2.2.2.2.2.2.2.1
theorem dX8_settles_17 : decode cX8_settles 17 = .ok (.aload 4, 2) := dr_25  pk_decb_116.2.2.2.2.2.2.2.2.2.2.1
theorem dX8_settles_19 : decode cX8_settles 19 = .ok (.ifnonnull 5, 3) := dr_199 0 5  pk_decb_116.2.2.2.2.2.2.2.2.2.2.2.1
theorem dX8_settles_22 : decode cX8_settles 22 = .ok (.iconst (-1), 1) := dr_2  pk_decb_116.2.2.2.2.2.2.2.2.2.2.2.2.1
theorem dX8_settles_23 : decode cX8_settles 23 = .ok (.ireturn, 1) := dr_172  pk_decb_116.2.2.2.2.2.2.2.2.2.2.2.2.2.1
theorem dX8_settles_24 : decode cX8_settles 24 = .ok (.aload_n 3, 1) := dr_45  pk_decb_116.2.2.2.2.2.2.2.2.2.2.2.2.2.2.1
theorem dX8_settles_25 : decode cX8_settles 25 = .ok (.getfield 94, 3) := dr_180 0 94  pk_decb_116.2.2.2.2.2.2.2.2.2.2.2.2.2.2.2.1
theorem dX8_settles_28 : decode cX8_settles 28 = .ok (.astore 5, 2) := dr_58  pk_decb_116.2.2.2.2.2.2.2.2.2.2.2.2.2.2.2.2.1
theorem dX8_settles_30 : decode cX8_settles 30 = .ok (.iconst 1, 1) := dr_4  pk_decb_116.2.2.2.2.2.2.2.2.2.2.2.2.2.2.2.2.2.1
theorem dX8_settles_31 : decode cX8_settles 31 = .ok (.istore 6, 2) := dr_54  pk_decb_116.2.2.2.2.2.2.2.2.2.2.2.2.2.2.2.2.2.2.1
theorem dX8_settles_33 : decode cX8_settles 33 = .ok (.iload 6, 2) := dr_21  pk_decb_116.2.2.2.2.2.2.2.2.2.2.2.2.2.2.2.2.2.2.2.1
theorem dX8_settles_35 : decode cX8_settles 35 = .ok (.bipush 6, 2) := dr_16 6  pk_decb_116.2.2.2.2.2.2.2.2.2.2.2.2.2.2.2.2.2.2.2.2.1
theorem dX8_settles_37 : decode cX8_settles 37 = .ok (.if_icmp .gt 68, 3) := dr_163 0 68  pk_decb_116.2.2.2.2.2.2.2.2.2.2.2.2.2.2.2.2.2.2.2.2.2.1
theorem dX8_settles_40 : decode cX8_settles 40 = .ok (.iload 6, 2) := dr_21  pk_decb_116.2.2.2.2.2.2.2.2.2.2.2.2.2.2.2.2.2.2.2.2.2.2.1
theorem dX8_settles_42 : decode cX8_settles 42 = .ok (.iconst 2, 1) := dr_5  pk_decb_116.2.2.2.2.2.2.2.2.2.2.2.2.2.2.2.2.2.2.2.2.2.2.2.1
theorem dX8_settles_43 : decode cX8_settles 43 = .ok (.irem, 1) := dr_112  pk_decb_116.2.2.2.2.2.2.2.2.2.2.2.2.2.2.2.2.2.2.2.2.2.2.2.2.1
theorem dX8_settles_44 : decode cX8_settles 44 = .ok (.iconst 1, 1) := dr_4  pk_decb_116.2.2.2.2.2.2.2.2.2.2.2.2.2.2.2.2.2.2.2.2.2.2.2.2.2.1
theorem dX8_settles_45 : decode cX8_settles 45 = .ok (.if_icmp .ne 10, 3) := dr_160 0 10  pk_decb_116.2.2.2.2.2.2.2.2.2.2.2.2.2.2.2.2.2.2.2.2.2.2.2.2.2.2.1
theorem dX8_settles_48 : decode cX8_settles 48 = .ok (.aload_n 0, 1) := dr_42  pk_decb_116.2.2.2.2.2.2.2.2.2.2.2.2.2.2.2.2.2.2.2.2.2.2.2.2.2.2.2.1
theorem dX8_settles_49 : decode cX8_settles 49 = .ok (.getfield 50, 3) := dr_180 0 50  pk_decb_116.2.2.2.2.2.2.2.2.2.2.2.2.2.2.2.2.2.2.2.2.2.2.2.2.2.2.2.2.1
theorem dX8_settles_52 : decode cX8_settles 52 = .ok (.goto 7, 3) := dr_167 0 7  pk_decb_116.2.2.2.2.2.2.2.2.2.2.2.2.2.2.2.2.2.2.2.2.2.2.2.2.2.2.2.2.2.1
theorem dX8_settles_55 : decode cX8_settles 55 = .ok (.aload_n 0, 1) := dr_42  pk_decb_116.2.2.2.2.2.2.2.2.2.2.2.2.2.2.2.2.2.2.2.2.2.2.2.2.2.2.2.2.2.2.1
theorem dX8_settles_56 : decode cX8_settles 56 = .ok (.getfield 53, 3) := dr_180 0 53  pk_decb_116.2.2.2.2.2.2.2.2.2.2.2.2.2.2.2.2.2.2.2.2.2.2.2.2.2.2.2.2.2.2.2
set_option maxRecDepth 20000 in
theorem pk_decb_117 : ((bq cX8_settles 59 58 && bq cX8_settles (59 + 1) 7) = true) ∧ ((bq cX8_settles 61 25 && bq cX8_settles (61 + 1) 7) = true) ∧ ((bq cX8_settles 63 25 && bq cX8_settles (63 + 1) 5) = true) ∧ ((bq cX8_settles 65 25 && bq cX8_settles (65 + 1) 4) = true) ∧ ((bq cX8_settles 67 182 && bq cX8_settles (67 + 1) 0 && bq cX8_settles (67 + 2) 98 && (0 * 256 + 98 == 98)) = true) ∧ ((bq cX8_settles 70 154 && bq cX8_settles (70 + 1) 0 && bq cX8_settles (70 + 2) 6 && (Reader.signed 16 (0 * 256 + 6) == 6)) = true) ∧ ((bq cX8_settles 73 16 && bq cX8_settles (73 + 1) 247 && (Reader.signed 8 247 == (-9))) = true) ∧ (bq cX8_settles 75 172 = true) ∧ ((bq cX8_settles 76 25 && bq cX8_settles (76 + 1) 5) = true) ∧ ((bq cX8_settles 78 25 && bq cX8_settles (78 + 1) 7) = true) ∧ ((bq cX8_settles 80 180 && bq cX8_settles (80 + 1) 0 && bq cX8_settles (80 + 2) 102 && (0 * 256 + 102 == 102)) = true) ∧ ((bq cX8_settles 83 182 && bq cX8_settles (83 + 1) 0 && bq cX8_settles (83 + 2) 162 && (0 * 256 + 162 == 162)) = true) ∧ ((bq cX8_settles 86 154 && bq cX8_settles (86 + 1) 0 && bq cX8_settles (86 + 2) 6 && (Reader.signed 16 (0 * 256 + 6) == 6)) = true) ∧ ((bq cX8_settles 89 21 && bq cX8_settles (89 + 1) 6) = true) ∧ (bq cX8_settles 91 172 = true) ∧ ((bq cX8_settles 92 25 && bq cX8_settles (92 + 1) 7) = true) ∧ ((bq cX8_settles 94 180 && bq cX8_settles (94 + 1) 0 && bq cX8_settles (94 + 2) 102 && (0 * 256 + 102 == 102)) = true) ∧ ((bq cX8_settles 97 58 && bq cX8_settles (97 + 1) 5) = true) := by decide +kernel
theorem dX8_settles_59 : decode cX8_settles 59 = .ok (.astore 7, 2) := dr_58  pk_decb_117.1
theorem dX8_settles_61 : decode cX8_settles 61 = .ok (.aload 7, 2) := dr_25  pk_decb_117.2.1
theorem dX8_settles_63 : decode cX8_settles 63 = .ok (.aload 5, 2) := dr_25  pk_decb_117.2.2.1
theorem dX8_settles_65 : decode cX8_settles 65 = .ok (.aload 4, 2) := dr_25  pk_decb_117.2.2.2.1
theorem dX8_settles_67 : decode cX8_settles 67 = .ok (.invokevirtual 98, 3) := dr_182 0 98  pk_decb_117.2.2.2.2.1
theorem dX8_settles_70 : decode cX8_settles 70 = .ok (.ifCond .ne 6, 3) := dr_154 0 6  pk_decb_117.2.2.2.2.2.1
theorem dX8_settles_73 : decode cX8_settles 73 = .ok (.bipush (-9), 2) := dr_16 247  pk_decb_117.2.2.2.2.2.2.1
theorem dX8_settles_75 : decode cX8_settles 75 = .ok (.ireturn, 1) := dr_172  pk_decb_117.2.2.2.2.2.2.2.1
theorem dX8_settles_76 : decode cX8_settles 76 = .ok (.aload 5, 2) := dr_25  pk_decb_117.2.2.2.2.2.2.2.2.1
theorem dX8_settles_78 : decode cX8_settles 78 = .ok (.aload 7, 2) := dr_25  pk_decb_117.2.2.2.2.2.2.2.2.2.1
theorem dX8_settles_80 : decode cX8_settles 80 = .ok (.getfield 102, 3) := dr_180 0 102  pk_decb_117.2.2.2.2.2.2.2.2.2.2.1
theorem dX8_settles_83 : decode cX8_settles 83 = .ok (.invokevirtual 162, 3) := dr_182 0 162  pk_decb_117.2.2.2.2.2.2.2.2.2.2.2.1
theorem dX8_settles_86 : decode cX8_settles 86 = .ok (.ifCond .ne 6, 3) := dr_154 0 6  pk_decb_117.2.2.2.2.2.2.2.2.2.2.2.2.1
theorem dX8_settles_89 : decode cX8_settles 89 = .ok (.iload 6, 2) := dr_21  pk_decb_117.2.2.2.2.2.2.2.2.2.2.2.2.2.1
theorem dX8_settles_91 : decode cX8_settles 91 = .ok (.ireturn, 1) := dr_172  pk_decb_117.2.2.2.2.2.2.2.2.2.2.2.2.2.2.1
theorem dX8_settles_92 : decode cX8_settles 92 = .ok (.aload 7, 2) := dr_25  pk_decb_117.2.2.2.2.2.2.2.2.2.2.2.2.2.2.2.1
theorem dX8_settles_94 : decode cX8_settles 94 = .ok (.getfield 102, 3) := dr_180 0 102  pk_decb_117.2.2.2.2.2.2.2.2.2.2.2.2.2.2.2.2.1
theorem dX8_settles_97 : decode cX8_settles 97 = .ok (.astore 5, 2) := dr_58  pk_decb_117.2.2.2.2.2.2.2.2.2.2.2.2.2.2.2.2.2
theorem dX8_settles_99 : decode cX8_settles 99 = .ok (.iinc 6 1, 3) := by decide +kernel
set_option maxRecDepth 20000 in
theorem pk_decb_118 : ((bq cX8_settles 102 167 && bq cX8_settles (102 + 1) 255 && bq cX8_settles (102 + 2) 187 && (Reader.signed 16 (255 * 256 + 187) == (-69))) = true) ∧ ((bq cX8_settles 105 16 && bq cX8_settles (105 + 1) 247 && (Reader.signed 8 247 == (-9))) = true) ∧ (bq cX8_settles 107 172 = true) := by decide +kernel
theorem dX8_settles_102 : decode cX8_settles 102 = .ok (.goto (-69), 3) := dr_167 255 187  pk_decb_118.1
theorem dX8_settles_105 : decode cX8_settles 105 = .ok (.bipush (-9), 2) := dr_16 247  pk_decb_118.2.1
theorem dX8_settles_107 : decode cX8_settles 107 = .ok (.ireturn, 1) := dr_172  pk_decb_118.2.2
set_option maxRecDepth 20000 in
theorem pk_decb_119 : (bq cX8_round 0 42 = true) ∧ (bq cX8_round 1 27 = true) ∧ ((bq cX8_round 2 182 && bq cX8_round (2 + 1) 0 && bq cX8_round (2 + 2) 90 && (0 * 256 + 90 == 90)) = true) ∧ ((bq cX8_round 5 58 && bq cX8_round (5 + 1) 4) = true) ∧ (bq cX8_round 7 42 = true) ∧ (bq cX8_round 8 28 = true) ∧ ((bq cX8_round 9 182 && bq cX8_round (9 + 1) 0 && bq cX8_round (9 + 2) 90 && (0 * 256 + 90 == 90)) = true) ∧ ((bq cX8_round 12 58 && bq cX8_round (12 + 1) 5) = true) ∧ (bq cX8_round 14 42 = true) ∧ (bq cX8_round 15 29 = true) ∧ ((bq cX8_round 16 182 && bq cX8_round (16 + 1) 0 && bq cX8_round (16 + 2) 74 && (0 * 256 + 74 == 74)) = true) ∧ ((bq cX8_round 19 58 && bq cX8_round (19 + 1) 6) = true) ∧ ((bq cX8_round 21 25 && bq cX8_round (21 + 1) 4) = true) ∧ ((bq cX8_round 23 198 && bq cX8_round (23 + 1) 0 && bq cX8_round (23 + 2) 13 && (Reader.signed 16 (0 * 256 + 13) == 13)) = true) ∧ ((bq cX8_round 26 25 && bq cX8_round (26 + 1) 5) = true) ∧ ((bq cX8_round 28 198 && bq cX8_round (28 + 1) 0 && bq cX8_round (28 + 2) 8 && (Reader.signed 16 (0 * 256 + 8) == 8)) = true) ∧ ((bq cX8_round 31 25 && bq cX8_round (31 + 1) 6) = true) ∧ ((bq cX8_round 33 199 && bq cX8_round (33 + 1) 0 && bq cX8_round (33 + 2) 5 && (Reader.signed 16 (0 * 256 + 5) == 5)) = true) ∧ (bq cX8_round 36 2 = true) ∧ (bq cX8_round 37 172 = true) ∧ (bq cX8_round 38 42 = true) ∧ ((bq cX8_round 39 25 && bq cX8_round (39 + 1) 4) = true) ∧ ((bq cX8_round 41 25 && bq cX8_round (41 + 1) 5) = true) ∧ ((bq cX8_round 43 25 && bq cX8_round (43 + 1) 6) = true) ∧ ((bq cX8_round 45 182 && bq cX8_round (45 + 1) 0 && bq cX8_round (45 + 2) 166 && (0 * 256 + 166 == 166)) = true) ∧ (bq cX8_round 48 172 = true) := by decide +kernel
theorem dX8_round_0 : decode cX8_round 0 = .ok (.aload_n 0, 1) := dr_42  pk_decb_119.1
theorem dX8_round_1 : decode cX8_round 1 = .ok (.iload_n 1, 1) := dr_27  pk_decb_119.2.1
theorem dX8_round_2 : decode cX8_round 2 = .ok (.invokevirtual 90, 3) := dr_182 0 90  pk_decb_119.2.2.1
theorem dX8_round_5 : decode cX8_round 5 = .ok (.astore 4, 2) := dr_58  pk_decb_119.2.2.2.1
theorem dX8_round_7 : decode cX8_round 7 = .ok (.aload_n 0, 1) := dr_42  pk_decb_119.2.2.2.2.1
theorem dX8_round_8 : decode cX8_round 8 = .ok (.iload_n 2, 1) := dr_28  pk_decb_119.2.2.2.2.2.1
theorem dX8_round_9 : decode cX8_round 9 = .ok (.invokevirtual 90, 3) := dr_182 0 90  pk_decb_119.2.2.2.2.2.2.1
theorem dX8_round_12 : decode cX8_round 12 = .ok (.astore 5, 2) := dr_58  pk_decb_119.2.2.2.2.2.2.2.1
theorem dX8_round_14 : decode cX8_round 14 = .ok (.aload_n 0, 1) := dr_42  pk_decb_119.2.2.2.2.2.2.2.2.1
theorem dX8_round_15 : decode cX8_round 15 = .ok (.iload_n 3, 1) := dr_29  pk_decb_119.2.2.2.2.2.2.2.2.2.1
theorem dX8_round_16 : decode cX8_round 16 = .ok (.invokevirtual 74, 3) := dr_182 0 74  pk_decb_119.2.2.2.2.2.2.2.2.2.2.1
theorem dX8_round_19 : decode cX8_round 19 = .ok (.astore 6, 2) := dr_58  pk_decb_119.2.2.2.2.2.2.2.2.2.2.2.1
theorem dX8_round_21 : decode cX8_round 21 = .ok (.aload 4, 2) := dr_25  pk_decb_119.2.2.2.2.2.2.2.2.2.2.2.2.1
theorem dX8_round_23 : decode cX8_round 23 = .ok (.ifnull 13, 3) := dr_198 0 13  pk_decb_119.2.2.2.2.2.2.2.2.2.2.2.2.2.1
theorem dX8_round_26 : decode cX8_round 26 = .ok (.aload 5, 2) := dr_25  pk_decb_119.2.2.2.2.2.2.2.2.2.2.2.2.2.2.1
theorem dX8_round_28 : decode cX8_round 28 = .ok (.ifnull 8, 3) := dr_198 0 8  pk_decb_119.2.2.2.2.2.2.2.2.2.2.2.2.2.2.2.1
theorem dX8_round_31 : decode cX8_round 31 = .ok (.aload 6, 2) := dr_25  pk_decb_119.2.2.2.2.2.2.2.2.2.2.2.2.2.2.2.2.1
theorem dX8_round_33 : decode cX8_round 33 = .ok (.ifnonnull 5, 3) := dr_199 0 5  pk_decb_119.2.2.2.2.2.2.2.2.2.2.2.2.2.2.2.2.2.1
theorem dX8_round_36 : decode cX8_round 36 = .ok (.iconst (-1), 1) := dr_2  pk_decb_119.2.2.2.2.2.2.2.2.2.2.2.2.2.2.2.2.2.2.1
theorem dX8_round_37 : decode cX8_round 37 = .ok (.ireturn, 1) := dr_172  pk_decb_119.2.2.2.2.2.2.2.2.2.2.2.2.2.2.2.2.2.2.2.1
theorem dX8_round_38 : decode cX8_round 38 = .ok (.aload_n 0, 1) := dr_42  pk_decb_119.2.2.2.2.2.2.2.2.2.2.2.2.2.2.2.2.2.2.2.2.1
theorem dX8_round_39 : decode cX8_round 39 = .ok (.aload 4, 2) := dr_25  pk_decb_119.2.2.2.2.2.2.2.2.2.2.2.2.2.2.2.2.2.2.2.2.2.1
theorem dX8_round_41 : decode cX8_round 41 = .ok (.aload 5, 2) := dr_25  pk_decb_119.2.2.2.2.2.2.2.2.2.2.2.2.2.2.2.2.2.2.2.2.2.2.1
theorem dX8_round_43 : decode cX8_round 43 = .ok (.aload 6, 2) := dr_25  pk_decb_119.2.2.2.2.2.2.2.2.2.2.2.2.2.2.2.2.2.2.2.2.2.2.2.1
theorem dX8_round_45 : decode cX8_round 45 = .ok (.invokevirtual 166, 3) := dr_182 0 166  pk_decb_119.2.2.2.2.2.2.2.2.2.2.2.2.2.2.2.2.2.2.2.2.2.2.2.2.1
theorem dX8_round_48 : decode cX8_round 48 = .ok (.ireturn, 1) := dr_172  pk_decb_119.2.2.2.2.2.2.2.2.2.2.2.2.2.2.2.2.2.2.2.2.2.2.2.2.2
set_option maxRecDepth 20000 in
theorem pk_decb_120 : (bq cX8_hides 0 42 = true) ∧ (bq cX8_hides 1 27 = true) ∧ ((bq cX8_hides 2 182 && bq cX8_hides (2 + 1) 0 && bq cX8_hides (2 + 2) 90 && (0 * 256 + 90 == 90)) = true) ∧ ((bq cX8_hides 5 58 && bq cX8_hides (5 + 1) 4) = true) ∧ (bq cX8_hides 7 42 = true) ∧ (bq cX8_hides 8 28 = true) ∧ ((bq cX8_hides 9 182 && bq cX8_hides (9 + 1) 0 && bq cX8_hides (9 + 2) 90 && (0 * 256 + 90 == 90)) = true) ∧ ((bq cX8_hides 12 58 && bq cX8_hides (12 + 1) 5) = true) ∧ (bq cX8_hides 14 42 = true) ∧ (bq cX8_hides 15 29 = true) ∧ ((bq cX8_hides 16 182 && bq cX8_hides (16 + 1) 0 && bq cX8_hides (16 + 2) 74 && (0 * 256 + 74 == 74)) = true) ∧ ((bq cX8_hides 19 58 && bq cX8_hides (19 + 1) 6) = true) ∧ ((bq cX8_hides 21 25 && bq cX8_hides (21 + 1) 4) = true) ∧ ((bq cX8_hides 23 198 && bq cX8_hides (23 + 1) 0 && bq cX8_hides (23 + 2) 13 && (Reader.signed 16 (0 * 256 + 13) == 13)) = true) ∧ ((bq cX8_hides 26 25 && bq cX8_hides (26 + 1) 5) = true) ∧ ((bq cX8_hides 28 198 && bq cX8_hides (28 + 1) 0 && bq cX8_hides (28 + 2) 8 && (Reader.signed 16 (0 * 256 + 8) == 8)) = true) ∧ ((bq cX8_hides 31 25 && bq cX8_hides (31 + 1) 6) = true) ∧ ((bq cX8_hides 33 199 && bq cX8_hides (33 + 1) 0 && bq cX8_hides (33 + 2) 5 && (Reader.signed 16 (0 * 256 + 5) == 5)) = true) ∧ (bq cX8_hides 36 2 = true) ∧ (bq cX8_hides 37 172 = true) ∧ (bq cX8_hides 38 42 = true) ∧ ((bq cX8_hides 39 25 && bq cX8_hides (39 + 1) 4) = true) ∧ ((bq cX8_hides 41 25 && bq cX8_hides (41 + 1) 5) = true) ∧ ((bq cX8_hides 43 25 && bq cX8_hides (43 + 1) 6) = true) ∧ ((bq cX8_hides 45 182 && bq cX8_hides (45 + 1) 0 && bq cX8_hides (45 + 2) 166 && (0 * 256 + 166 == 166)) = true) ∧ ((bq cX8_hides 48 54 && bq cX8_hides (48 + 1) 7) = true) ∧ ((bq cX8_hides 50 21 && bq cX8_hides (50 + 1) 7) = true) ∧ ((bq cX8_hides 52 157 && bq cX8_hides (52 + 1) 0 && bq cX8_hides (52 + 2) 6 && (Reader.signed 16 (0 * 256 + 6) == 6)) = true) ∧ ((bq cX8_hides 55 21 && bq cX8_hides (55 + 1) 7) = true) ∧ (bq cX8_hides 57 172 = true) ∧ (bq cX8_hides 58 42 = true) ∧ ((bq cX8_hides 59 180 && bq cX8_hides (59 + 1) 0 && bq cX8_hides (59 + 2) 50 && (0 * 256 + 50 == 50)) = true) := by decide +kernel
theorem dX8_hides_0 : decode cX8_hides 0 = .ok (.aload_n 0, 1) := dr_42  pk_decb_120.1
theorem dX8_hides_1 : decode cX8_hides 1 = .ok (.iload_n 1, 1) := dr_27  pk_decb_120.2.1
theorem dX8_hides_2 : decode cX8_hides 2 = .ok (.invokevirtual 90, 3) := dr_182 0 90  pk_decb_120.2.2.1
theorem dX8_hides_5 : decode cX8_hides 5 = .ok (.astore 4, 2) := dr_58  pk_decb_120.2.2.2.1
theorem dX8_hides_7 : decode cX8_hides 7 = .ok (.aload_n 0, 1) := dr_42  pk_decb_120.2.2.2.2.1
theorem dX8_hides_8 : decode cX8_hides 8 = .ok (.iload_n 2, 1) := dr_28  pk_decb_120.2.2.2.2.2.1
theorem dX8_hides_9 : decode cX8_hides 9 = .ok (.invokevirtual 90, 3) := dr_182 0 90  pk_decb_120.2.2.2.2.2.2.1
theorem dX8_hides_12 : decode cX8_hides 12 = .ok (.astore 5, 2) := dr_58  pk_decb_120.2.2.2.2.2.2.2.1
theorem dX8_hides_14 : decode cX8_hides 14 = .ok (.aload_n 0, 1) := dr_42  pk_decb_120.2.2.2.2.2.2.2.2.1
theorem dX8_hides_15 : decode cX8_hides 15 = .ok (.iload_n 3, 1) := dr_29  pk_decb_120.2.2.2.2.2.2.2.2.2.1
theorem dX8_hides_16 : decode cX8_hides 16 = .ok (.invokevirtual 74, 3) := dr_182 0 74  pk_decb_120.2.2.2.2.2.2.2.2.2.2.1
theorem dX8_hides_19 : decode cX8_hides 19 = .ok (.astore 6, 2) := dr_58  pk_decb_120.2.2.2.2.2.2.2.2.2.2.2.1
theorem dX8_hides_21 : decode cX8_hides 21 = .ok (.aload 4, 2) := dr_25  pk_decb_120.2.2.2.2.2.2.2.2.2.2.2.2.1
theorem dX8_hides_23 : decode cX8_hides 23 = .ok (.ifnull 13, 3) := dr_198 0 13  pk_decb_120.2.2.2.2.2.2.2.2.2.2.2.2.2.1
theorem dX8_hides_26 : decode cX8_hides 26 = .ok (.aload 5, 2) := dr_25  pk_decb_120.2.2.2.2.2.2.2.2.2.2.2.2.2.2.1
theorem dX8_hides_28 : decode cX8_hides 28 = .ok (.ifnull 8, 3) := dr_198 0 8  pk_decb_120.2.2.2.2.2.2.2.2.2.2.2.2.2.2.2.1
theorem dX8_hides_31 : decode cX8_hides 31 = .ok (.aload 6, 2) := dr_25  pk_decb_120.2.2.2.2.2.2.2.2.2.2.2.2.2.2.2.2.1
theorem dX8_hides_33 : decode cX8_hides 33 = .ok (.ifnonnull 5, 3) := dr_199 0 5  pk_decb_120.2.2.2.2.2.2.2.2.2.2.2.2.2.2.2.2.2.1
theorem dX8_hides_36 : decode cX8_hides 36 = .ok (.iconst (-1), 1) := dr_2  pk_decb_120.2.2.2.2.2.2.2.2.2.2.2.2.2.2.2.2.2.2.1
theorem dX8_hides_37 : decode cX8_hides 37 = .ok (.ireturn, 1) := dr_172  pk_decb_120.2.2.2.2.2.2.2.2.2.2.2.2.2.2.2.2.2.2.2.1
theorem dX8_hides_38 : decode cX8_hides 38 = .ok (.aload_n 0, 1) := dr_42  pk_decb_120.2.2.2.2.2.2.2.2.2.2.2.2.2.2.2.2.2.2.2.2.1
theorem dX8_hides_39 : decode cX8_hides 39 = .ok (.aload 4, 2) := dr_25  pk_decb_120.2.2.2.2.2.2.2.2.2.2.2.2.2.2.2.2.2.2.2.2.2.1
theorem dX8_hides_41 : decode cX8_hides 41 = .ok (.aload 5, 2) := dr_25  pk_decb_120.2.2.2.2.2.2.2.2.2.2.2.2.2.2.2.2.2.2.2.2.2.2.1
theorem dX8_hides_43 : decode cX8_hides 43 = .ok (.aload 6, 2) := dr_25  pk_decb_120.2.2.2.2.2.2.2.2.2.2.2.2.2.2.2.2.2.2.2.2.2.2.2.1
theorem dX8_hides_45 : decode cX8_hides 45 = .ok (.invokevirtual 166, 3) := dr_182 0 166  pk_decb_120.2.2.2.2.2.2.2.2.2.2.2.2.2.2.2.2.2.2.2.2.2.2.2.2.1
theorem dX8_hides_48 : decode cX8_hides 48 = .ok (.istore 7, 2) := dr_54  pk_decb_120.2.2.2.2.2.2.2.2.2.2.2.2.2.2.2.2.2.2.2.2.2.2.2.2.2.1
theorem dX8_hides_50 : decode cX8_hides 50 = .ok (.iload 7, 2) := dr_21  pk_decb_120.2.2.2.2.2.2.2.2.2.2.2.2.2.2.2.2.2.2.2.2.2.2.2.2.2.2.1
theorem dX8_hides_52 : decode cX8_hides 52 = .ok (.ifCond .gt 6, 3) := dr_157 0 6  pk_decb_120.2.2.2.2.2.2.2.2.2.2.2.2.2.2.2.2.2.2.2.2.2.2.2.2.2.2.2.1
theorem dX8_hides_55 : decode cX8_hides 55 = .ok (.iload 7, 2) := dr_21  pk_decb_120.2.2.2.2.2.2.2.2.2.2.2.2.2.2.2.2.2.2.2.2.2.2.2.2.2.2.2.2.1
theorem dX8_hides_57 : decode cX8_hides 57 = .ok (.ireturn, 1) := dr_172  pk_decb_120.2.2.2.2.2.2.2.2.2.2.2.2.2.2.2.2.2.2.2.2.2.2.2.2.2.2.2.2.2.1
theorem dX8_hides_58 : decode cX8_hides 58 = .ok (.aload_n 0, 1) := dr_42  pk_decb_120.2.2.2.2.2.2.2.2.2.2.2.2.2.2.2.2.2.2.2.2.2.2.2.2.2.2.2.2.2.2.1
theorem dX8_hides_59 : decode cX8_hides 59 = .ok (.getfield 50, 3) := dr_180 0 50  pk_decb_120.2.2.2.2.2.2.2.2.2.2.2.2.2.2.2.2.2.2.2.2.2.2.2.2.2.2.2.2.2.2.2
set_option maxRecDepth 20000 in
theorem pk_decb_121 : ((bq cX8_hides 62 25 && bq cX8_hides (62 + 1) 4) = true) ∧ ((bq cX8_hides 64 180 && bq cX8_hides (64 + 1) 0 && bq cX8_hides (64 + 2) 94 && (0 * 256 + 94 == 94)) = true) ∧ ((bq cX8_hides 67 25 && bq cX8_hides (67 + 1) 6) = true) ∧ ((bq cX8_hides 69 182 && bq cX8_hides (69 + 1) 0 && bq cX8_hides (69 + 2) 98 && (0 * 256 + 98 == 98)) = true) ∧ ((bq cX8_hides 72 153 && bq cX8_hides (72 + 1) 0 && bq cX8_hides (72 + 2) 25 && (Reader.signed 16 (0 * 256 + 25) == 25)) = true) ∧ ((bq cX8_hides 75 25 && bq cX8_hides (75 + 1) 4) = true) ∧ ((bq cX8_hides 77 180 && bq cX8_hides (77 + 1) 0 && bq cX8_hides (77 + 2) 94 && (0 * 256 + 94 == 94)) = true) ∧ (bq cX8_hides 80 42 = true) ∧ ((bq cX8_hides 81 180 && bq cX8_hides (81 + 1) 0 && bq cX8_hides (81 + 2) 50 && (0 * 256 + 50 == 50)) = true) ∧ ((bq cX8_hides 84 180 && bq cX8_hides (84 + 1) 0 && bq cX8_hides (84 + 2) 102 && (0 * 256 + 102 == 102)) = true) ∧ ((bq cX8_hides 87 182 && bq cX8_hides (87 + 1) 0 && bq cX8_hides (87 + 2) 162 && (0 * 256 + 162 == 162)) = true) ∧ ((bq cX8_hides 90 154 && bq cX8_hides (90 + 1) 0 && bq cX8_hides (90 + 2) 7 && (Reader.signed 16 (0 * 256 + 7) == 7)) = true) ∧ (bq cX8_hides 93 4 = true) ∧ ((bq cX8_hides 94 167 && bq cX8_hides (94 + 1) 0 && bq cX8_hides (94 + 2) 4 && (Reader.signed 16 (0 * 256 + 4) == 4)) = true) ∧ (bq cX8_hides 97 3 = true) ∧ (bq cX8_hides 98 172 = true) := by decide +kernel
theorem dX8_hides_62 : decode cX8_hides 62 = .ok (.aload 4, 2) := dr_25  pk_decb_121.1
theorem dX8_hides_64 : decode cX8_hides 64 = .ok (.getfield 94, 3) := dr_180 0 94  pk_decb_121.2.1
theorem dX8_hides_67 : decode cX8_hides 67 = .ok (.aload 6, 2) := dr_25  pk_decb_121.2.2.1
theorem dX8_hides_69 : decode cX8_hides 69 = .ok (.invokevirtual 98, 3) := dr_182 0 98  pk_decb_121.2.2.2.1
theorem dX8_hides_72 : decode cX8_hides 72 = .ok (.ifCond .eq 25, 3) := dr_153 0 25  pk_decb_121.2.2.2.2.1
theorem dX8_hides_75 : decode cX8_hides 75 = .ok (.aload 4, 2) := dr_25  pk_decb_121.2.2.2.2.2.1
theorem dX8_hides_77 : decode cX8_hides 77 = .ok (.getfield 94, 3) := dr_180 0 94  pk_decb_121.2.2.2.2.2.2.1
theorem dX8_hides_80 : decode cX8_hides 80 = .ok (.aload_n 0, 1) := dr_42  pk_decb_121.2.2.2.2.2.2.2.1
theorem dX8_hides_81 : decode cX8_hides 81 = .ok (.getfield 50, 3) := dr_180 0 50  pk_decb_121.2.2.2.2.2.2.2.2.1
theorem dX8_hides_84 : decode cX8_hides 84 = .ok (.getfield 102, 3) := dr_180 0 102  pk_decb_121.2.2.2.2.2.2.2.2.2.1
theorem dX8_hides_87 : decode cX8_hides 87 = .ok (.invokevirtual 162, 3) := dr_182 0 162  pk_decb_121.2.2.2.2.2.2.2.2.2.2.1
theorem dX8_hides_90 : decode cX8_hides 90 = .ok (.ifCond .ne 7, 3) := dr_154 0 7  pk_decb_121.2.2.2.2.2.2.2.2.2.2.2.1
theorem dX8_hides_93 : decode cX8_hides 93 = .ok (.iconst 1, 1) := dr_4  pk_decb_121.2.2.2.2.2.2.2.2.2.2.2.2.1
theorem dX8_hides_94 : decode cX8_hides 94 = .ok (.goto 4, 3) := dr_167 0 4  pk_decb_121.2.2.2.2.2.2.2.2.2.2.2.2.2.1
theorem dX8_hides_97 : decode cX8_hides 97 = .ok (.iconst 0, 1) := dr_3  pk_decb_121.2.2.2.2.2.2.2.2.2.2.2.2.2.2.1
theorem dX8_hides_98 : decode cX8_hides 98 = .ok (.ireturn, 1) := dr_172  pk_decb_121.2.2.2.2.2.2.2.2.2.2.2.2.2.2.2
set_option maxRecDepth 20000 in
theorem pk_decb_122 : (bq cX8_check 0 42 = true) ∧ (bq cX8_check 1 27 = true) ∧ ((bq cX8_check 2 182 && bq cX8_check (2 + 1) 0 && bq cX8_check (2 + 2) 90 && (0 * 256 + 90 == 90)) = true) ∧ (bq cX8_check 5 78 = true) ∧ (bq cX8_check 6 45 = true) ∧ ((bq cX8_check 7 198 && bq cX8_check (7 + 1) 0 && bq cX8_check (7 + 2) 12 && (Reader.signed 16 (0 * 256 + 12) == 12)) = true) ∧ (bq cX8_check 10 28 = true) ∧ ((bq cX8_check 11 155 && bq cX8_check (11 + 1) 0 && bq cX8_check (11 + 2) 8 && (Reader.signed 16 (0 * 256 + 8) == 8)) = true) ∧ (bq cX8_check 14 28 = true) ∧ (bq cX8_check 15 4 = true) ∧ ((bq cX8_check 16 164 && bq cX8_check (16 + 1) 0 && bq cX8_check (16 + 2) 5 && (Reader.signed 16 (0 * 256 + 5) == 5)) = true) ∧ (bq cX8_check 19 2 = true) ∧ (bq cX8_check 20 172 = true) ∧ (bq cX8_check 21 45 = true) ∧ ((bq cX8_check 22 180 && bq cX8_check (22 + 1) 0 && bq cX8_check (22 + 2) 112 && (0 * 256 + 112 == 112)) = true) ∧ ((bq cX8_check 25 153 && bq cX8_check (25 + 1) 0 && bq cX8_check (25 + 2) 6 && (Reader.signed 16 (0 * 256 + 6) == 6)) = true) ∧ ((bq cX8_check 28 16 && bq cX8_check (28 + 1) 254 && (Reader.signed 8 254 == (-2))) = true) ∧ (bq cX8_check 30 172 = true) ∧ (bq cX8_check 31 45 = true) ∧ ((bq cX8_check 32 180 && bq cX8_check (32 + 1) 0 && bq cX8_check (32 + 2) 121 && (0 * 256 + 121 == 121)) = true) ∧ ((bq cX8_check 35 153 && bq cX8_check (35 + 1) 0 && bq cX8_check (35 + 2) 7 && (Reader.signed 16 (0 * 256 + 7) == 7)) = true) ∧ (bq cX8_check 38 4 = true) ∧ ((bq cX8_check 39 167 && bq cX8_check (39 + 1) 0 && bq cX8_check (39 + 2) 4 && (Reader.signed 16 (0 * 256 + 4) == 4)) = true) ∧ (bq cX8_check 42 3 = true) ∧ ((bq cX8_check 43 54 && bq cX8_check (43 + 1) 4) = true) ∧ (bq cX8_check 45 45 = true) ∧ (bq cX8_check 46 28 = true) ∧ (bq cX8_check 47 4 = true) ∧ ((bq cX8_check 48 160 && bq cX8_check (48 + 1) 0 && bq cX8_check (48 + 2) 7 && (Reader.signed 16 (0 * 256 + 7) == 7)) = true) ∧ (bq cX8_check 51 4 = true) ∧ ((bq cX8_check 52 167 && bq cX8_check (52 + 1) 0 && bq cX8_check (52 + 2) 4 && (Reader.signed 16 (0 * 256 + 4) == 4)) = true) ∧ (bq cX8_check 55 3 = true) := by decide +kernel
theorem dX8_check_0 : decode cX8_check 0 = .ok (.aload_n 0, 1) := dr_42  pk_decb_122.1
theorem dX8_check_1 : decode cX8_check 1 = .ok (.iload_n 1, 1) := dr_27  pk_decb_122.2.1
theorem dX8_check_2 : decode cX8_check 2 = .ok (.invokevirtual 90, 3) := dr_182 0 90  pk_decb_122.2.2.1
theorem dX8_check_5 : decode cX8_check 5 = .ok (.astore_n 3, 1) := dr_78  pk_decb_122.2.2.2.1
theorem dX8_check_6 : decode cX8_check 6 = .ok (.aload_n 3, 1) := dr_45  pk_decb_122.2.2.2.2.1
theorem dX8_check_7 : decode cX8_check 7 = .ok (.ifnull 12, 3) := dr_198 0 12  pk_decb_122.2.2.2.2.2.1
theorem dX8_check_10 : decode cX8_check 10 = .ok (.iload_n 2, 1) := dr_28  pk_decb_122.2.2.2.2.2.2.1
theorem dX8_check_11 : decode cX8_check 11 = .ok (.ifCond .lt 8, 3) := dr_155 0 8  pk_decb_122.2.2.2.2.2.2.2.1
theorem dX8_check_14 : decode cX8_check 14 = .ok (.iload_n 2, 1) := dr_28  pk_decb_122.2.2.2.2.2.2.2.2.1
theorem dX8_check_15 : decode cX8_check 15 = .ok (.iconst 1, 1) := dr_4  pk_decb_122.2.2.2.2.2.2.2.2.2.1
theorem dX8_check_16 : decode cX8_check 16 = .ok (.if_icmp .le 5, 3) := dr_164 0 5  pk_decb_122.2.2.2.2.2.2.2.2.2.2.1
theorem dX8_check_19 : decode cX8_check 19 = .ok (.iconst (-1), 1) := dr_2  pk_decb_122.2.2.2.2.2.2.2.2.2.2.2.1
theorem dX8_check_20 : decode cX8_check 20 = .ok (.ireturn, 1) := dr_172  pk_decb_122.2.2.2.2.2.2.2.2.2.2.2.2.1
theorem dX8_check_21 : decode cX8_check 21 = .ok (.aload_n 3, 1) := dr_45  pk_decb_122.2.2.2.2.2.2.2.2.2.2.2.2.2.1
theorem dX8_check_22 : decode cX8_check 22 = .ok (.getfield 112, 3) := dr_180 0 112  pk_decb_122.2.2.2.2.2.2.2.2.2.2.2.2.2.2.1
theorem dX8_check_25 : decode cX8_check 25 = .ok (.ifCond .eq 6, 3) := dr_153 0 6  pk_decb_122.2.2.2.2.2.2.2.2.2.2.2.2.2.2.2.1
theorem dX8_check_28 : decode cX8_check 28 = .ok (.bipush (-2), 2) := dr_16 254  pk_decb_122.2.2.2.2.2.2.2.2.2.2.2.2.2.2.2.2.1
theorem dX8_check_30 : decode cX8_check 30 = .ok (.ireturn, 1) := dr_172  pk_decb_122.2.2.2.2.2.2.2.2.2.2.2.2.2.2.2.2.2.1
theorem dX8_check_31 : decode cX8_check 31 = .ok (.aload_n 3, 1) := dr_45  pk_decb_122.2.2.2.2.2.2.2.2.2.2.2.2.2.2.2.2.2.2.1
theorem dX8_check_32 : decode cX8_check 32 = .ok (.getfield 121, 3) := dr_180 0 121  pk_decb_122.2.2.2.2.2.2.2.2.2.2.2.2.2.2.2.2.2.2.2.1
theorem dX8_check_35 : decode cX8_check 35 = .ok (.ifCond .eq 7, 3) := dr_153 0 7  pk_decb_122.2.2.2.2.2.2.2.2.2.2.2.2.2.2.2.2.2.2.2.2.1
theorem dX8_check_38 : decode cX8_check 38 = .ok (.iconst 1, 1) := dr_4  pk_decb_122.2.2.2.2.2.2.2.2.2.2.2.2.2.2.2.2.2.2.2.2.2.1
theorem dX8_check_39 : decode cX8_check 39 = .ok (.goto 4, 3) := dr_167 0 4  pk_decb_122.2.2.2.2.2.2.2.2.2.2.2.2.2.2.2.2.2.2.2.2.2.2.1
theorem dX8_check_42 : decode cX8_check 42 = .ok (.iconst 0, 1) := dr_3  pk_decb_122.2.2.2.2.2.2.2.2.2.2.2.2.2.2.2.2.2.2.2.2.2.2.2.1
theorem dX8_check_43 : decode cX8_check 43 = .ok (.istore 4, 2) := dr_54  pk_decb_122.2.2.2.2.2.2.2.2.2.2.2.2.2.2.2.2.2.2.2.2.2.2.2.2.1
theorem dX8_check_45 : decode cX8_check 45 = .ok (.aload_n 3, 1) := dr_45  pk_decb_122.2.2.2.2.2.2.2.2.2.2.2.2.2.2.2.2.2.2.2.2.2.2.2.2.2.1
theorem dX8_check_46 : decode cX8_check 46 = .ok (.iload_n 2, 1) := dr_28  pk_decb_122.2.2.2.2.2.2.2.2.2.2.2.2.2.2.2.2.2.2.2.2.2.2.2.2.2.2.1
theorem dX8_check_47 : decode cX8_check 47 = .ok (.iconst 1, 1) := dr_4  pk_decb_122.2.2.2.2.2.2.2.2.2.2.2.2.2.2.2.2.2.2.2.2.2.2.2.2.2.2.2.1
theorem dX8_check_48 : decode cX8_check 48 = .ok (.if_icmp .ne 7, 3) := dr_160 0 7  pk_decb_122.2.2.2.2.2.2.2.2.2.2.2.2.2.2.2.2.2.2.2.2.2.2.2.2.2.2.2.2.1
theorem dX8_check_51 : decode cX8_check 51 = .ok (.iconst 1, 1) := dr_4  pk_decb_122.2.2.2.2.2.2.2.2.2.2.2.2.2.2.2.2.2.2.2.2.2.2.2.2.2.2.2.2.2.1
theorem dX8_check_52 : decode cX8_check 52 = .ok (.goto 4, 3) := dr_167 0 4  pk_decb_122.2.2.2.2.2.2.2.2.2.2.2.2.2.2.2.2.2.2.2.2.2.2.2.2.2.2.2.2.2.2.1
theorem dX8_check_55 : decode cX8_check 55 = .ok (.iconst 0, 1) := dr_3  pk_decb_122.2.2.2.2.2.2.2.2.2.2.2.2.2.2.2.2.2.2.2.2.2.2.2.2.2.2.2.2.2.2.2
set_option maxRecDepth 20000 in
theorem pk_decb_123 : ((bq cX8_check 56 181 && bq cX8_check (56 + 1) 0 && bq cX8_check (56 + 2) 121 && (0 * 256 + 121 == 121)) = true) ∧ ((bq cX8_check 59 21 && bq cX8_check (59 + 1) 4) = true) ∧ (bq cX8_check 61 172 = true) := by decide +kernel
theorem dX8_check_56 : decode cX8_check 56 = .ok (.putfield 121, 3) := dr_181 0 121  pk_decb_123.1
theorem dX8_check_59 : decode cX8_check 59 = .ok (.iload 4, 2) := dr_21  pk_decb_123.2.1
theorem dX8_check_61 : decode cX8_check 61 = .ok (.ireturn, 1) := dr_172  pk_decb_123.2.2
set_option maxRecDepth 20000 in
theorem pk_decb_124 : (bq cX8_chain 0 42 = true) ∧ (bq cX8_chain 1 27 = true) ∧ ((bq cX8_chain 2 182 && bq cX8_chain (2 + 1) 0 && bq cX8_chain (2 + 2) 90 && (0 * 256 + 90 == 90)) = true) ∧ ((bq cX8_chain 5 199 && bq cX8_chain (5 + 1) 0 && bq cX8_chain (5 + 2) 5 && (Reader.signed 16 (0 * 256 + 5) == 5)) = true) ∧ (bq cX8_chain 8 2 = true) ∧ (bq cX8_chain 9 172 = true) ∧ (bq cX8_chain 10 42 = true) ∧ (bq cX8_chain 11 27 = true) ∧ ((bq cX8_chain 12 182 && bq cX8_chain (12 + 1) 0 && bq cX8_chain (12 + 2) 170 && (0 * 256 + 170 == 170)) = true) ∧ (bq cX8_chain 15 62 = true) ∧ (bq cX8_chain 16 28 = true) ∧ (bq cX8_chain 17 2 = true) ∧ ((bq cX8_chain 18 160 && bq cX8_chain (18 + 1) 0 && bq cX8_chain (18 + 2) 5 && (Reader.signed 16 (0 * 256 + 5) == 5)) = true) ∧ (bq cX8_chain 21 29 = true) ∧ (bq cX8_chain 22 172 = true) ∧ (bq cX8_chain 23 28 = true) ∧ ((bq cX8_chain 24 155 && bq cX8_chain (24 + 1) 0 && bq cX8_chain (24 + 2) 8 && (Reader.signed 16 (0 * 256 + 8) == 8)) = true) ∧ (bq cX8_chain 27 28 = true) ∧ (bq cX8_chain 28 29 = true) ∧ ((bq cX8_chain 29 161 && bq cX8_chain (29 + 1) 0 && bq cX8_chain (29 + 2) 7 && (Reader.signed 16 (0 * 256 + 7) == 7)) = true) ∧ (bq cX8_chain 32 2 = true) ∧ ((bq cX8_chain 33 167 && bq cX8_chain (33 + 1) 0 && bq cX8_chain (33 + 2) 9 && (Reader.signed 16 (0 * 256 + 9) == 9)) = true) ∧ (bq cX8_chain 36 42 = true) ∧ (bq cX8_chain 37 27 = true) ∧ (bq cX8_chain 38 28 = true) ∧ ((bq cX8_chain 39 182 && bq cX8_chain (39 + 1) 0 && bq cX8_chain (39 + 2) 173 && (0 * 256 + 173 == 173)) = true) ∧ (bq cX8_chain 42 172 = true) := by decide +kernel
theorem dX8_chain_0 : decode cX8_chain 0 = .ok (.aload_n 0, 1) := dr_42  pk_decb_124.1
theorem dX8_chain_1 : decode cX8_chain 1 = .ok (.iload_n 1, 1) := dr_27  pk_decb_124.2.1
theorem dX8_chain_2 : decode cX8_chain 2 = .ok (.invokevirtual 90, 3) := dr_182 0 90  pk_decb_124.2.2.1
theorem dX8_chain_5 : decode cX8_chain 5 = .ok (.ifnonnull 5, 3) := dr_199 0 5  pk_decb_124.2.2.2.1
theorem dX8_chain_8 : decode cX8_chain 8 = .ok (.iconst (-1), 1) := dr_2  pk_decb_124.2.2.2.2.1
theorem dX8_chain_9 : decode cX8_chain 9 = .ok (.ireturn, 1) := dr_172  pk_decb_124.2.2.2.2.2.1
theorem dX8_chain_10 : decode cX8_chain 10 = .ok (.aload_n 0, 1) := dr_42  pk_decb_124.2.2.2.2.2.2.1
theorem dX8_chain_11 : decode cX8_chain 11 = .ok (.iload_n 1, 1) := dr_27  pk_decb_124.2.2.2.2.2.2.2.1
theorem dX8_chain_12 : decode cX8_chain 12 = .ok (.invokevirtual 170, 3) := dr_182 0 170  pk_decb_124.2.2.2.2.2.2.2.2.1
theorem dX8_chain_15 : decode cX8_chain 15 = .ok (.istore_n 3, 1) := dr_62  pk_decb_124.2.2.2.2.2.2.2.2.2.1
theorem dX8_chain_16 : decode cX8_chain 16 = .ok (.iload_n 2, 1) := dr_28  pk_decb_124.2.2.2.2.2.2.2.2.2.2.1
theorem dX8_chain_17 : decode cX8_chain 17 = .ok (.iconst (-1), 1) := dr_2  pk_decb_124.2.2.2.2.2.2.2.2.2.2.2.1
theorem dX8_chain_18 : decode cX8_chain 18 = .ok (.if_icmp .ne 5, 3) := dr_160 0 5  pk_decb_124.2.2.2.2.2.2.2.2.2.2.2.2.1
theorem dX8_chain_21 : decode cX8_chain 21 = .ok (.iload_n 3, 1) := dr_29  pk_decb_124.2.2.2.2.2.2.2.2.2.2.2.2.2.1
theorem dX8_chain_22 : decode cX8_chain 22 = .ok (.ireturn, 1) := dr_172  pk_decb_124.2.2.2.2.2.2.2.2.2.2.2.2.2.2.1
theorem dX8_chain_23 : decode cX8_chain 23 = .ok (.iload_n 2, 1) := dr_28  pk_decb_124.2.2.2.2.2.2.2.2.2.2.2.2.2.2.2.1
theorem dX8_chain_24 : decode cX8_chain 24 = .ok (.ifCond .lt 8, 3) := dr_155 0 8  pk_decb_124.2.2.2.2.2.2.2.2.2.2.2.2.2.2.2.2.1
theorem dX8_chain_27 : decode cX8_chain 27 = .ok (.iload_n 2, 1) := dr_28  pk_decb_124.2.2.2.2.2.2.2.2.2.2.2.2.2.2.2.2.2.1
theorem dX8_chain_28 : decode cX8_chain 28 = .ok (.iload_n 3, 1) := dr_29  pk_decb_124.2.2.2.2.2.2.2.2.2.2.2.2.2.2.2.2.2.2.1
theorem dX8_chain_29 : decode cX8_chain 29 = .ok (.if_icmp .lt 7, 3) := dr_161 0 7  pk_decb_124.2.2.2.2.2.2.2.2.2.2.2.2.2.2.2.2.2.2.2.1
theorem dX8_chain_32 : decode cX8_chain 32 = .ok (.iconst (-1), 1) := dr_2  pk_decb_124.2.2.2.2.2.2.2.2.2.2.2.2.2.2.2.2.2.2.2.2.1
theorem dX8_chain_33 : decode cX8_chain 33 = .ok (.goto 9, 3) := dr_167 0 9  pk_decb_124.2.2.2.2.2.2.2.2.2.2.2.2.2.2.2.2.2.2.2.2.2.1
theorem dX8_chain_36 : decode cX8_chain 36 = .ok (.aload_n 0, 1) := dr_42  pk_decb_124.2.2.2.2.2.2.2.2.2.2.2.2.2.2.2.2.2.2.2.2.2.2.1
theorem dX8_chain_37 : decode cX8_chain 37 = .ok (.iload_n 1, 1) := dr_27  pk_decb_124.2.2.2.2.2.2.2.2.2.2.2.2.2.2.2.2.2.2.2.2.2.2.2.1
theorem dX8_chain_38 : decode cX8_chain 38 = .ok (.iload_n 2, 1) := dr_28  pk_decb_124.2.2.2.2.2.2.2.2.2.2.2.2.2.2.2.2.2.2.2.2.2.2.2.2.1
theorem dX8_chain_39 : decode cX8_chain 39 = .ok (.invokevirtual 173, 3) := dr_182 0 173  pk_decb_124.2.2.2.2.2.2.2.2.2.2.2.2.2.2.2.2.2.2.2.2.2.2.2.2.2.1
theorem dX8_chain_42 : decode cX8_chain 42 = .ok (.ireturn, 1) := dr_172  pk_decb_124.2.2.2.2.2.2.2.2.2.2.2.2.2.2.2.2.2.2.2.2.2.2.2.2.2.2
set_option maxRecDepth 20000 in
theorem pk_decb_125 : (bq cX8_sealed 0 42 = true) ∧ (bq cX8_sealed 1 27 = true) ∧ ((bq cX8_sealed 2 182 && bq cX8_sealed (2 + 1) 0 && bq cX8_sealed (2 + 2) 90 && (0 * 256 + 90 == 90)) = true) ∧ ((bq cX8_sealed 5 199 && bq cX8_sealed (5 + 1) 0 && bq cX8_sealed (5 + 2) 5 && (Reader.signed 16 (0 * 256 + 5) == 5)) = true) ∧ (bq cX8_sealed 8 2 = true) ∧ (bq cX8_sealed 9 172 = true) ∧ (bq cX8_sealed 10 42 = true) ∧ (bq cX8_sealed 11 27 = true) ∧ (bq cX8_sealed 12 42 = true) ∧ ((bq cX8_sealed 13 182 && bq cX8_sealed (13 + 1) 0 && bq cX8_sealed (13 + 2) 158 && (0 * 256 + 158 == 158)) = true) ∧ ((bq cX8_sealed 16 182 && bq cX8_sealed (16 + 1) 0 && bq cX8_sealed (16 + 2) 176 && (0 * 256 + 176 == 176)) = true) ∧ ((bq cX8_sealed 19 153 && bq cX8_sealed (19 + 1) 0 && bq cX8_sealed (19 + 2) 7 && (Reader.signed 16 (0 * 256 + 7) == 7)) = true) ∧ (bq cX8_sealed 22 4 = true) ∧ ((bq cX8_sealed 23 167 && bq cX8_sealed (23 + 1) 0 && bq cX8_sealed (23 + 2) 4 && (Reader.signed 16 (0 * 256 + 4) == 4)) = true) ∧ (bq cX8_sealed 26 3 = true) ∧ (bq cX8_sealed 27 172 = true) := by decide +kernel
theorem dX8_sealed_0 : decode cX8_sealed 0 = .ok (.aload_n 0, 1) := dr_42  pk_decb_125.1
theorem dX8_sealed_1 : decode cX8_sealed 1 = .ok (.iload_n 1, 1) := dr_27  pk_decb_125.2.1
theorem dX8_sealed_2 : decode cX8_sealed 2 = .ok (.invokevirtual 90, 3) := dr_182 0 90  pk_decb_125.2.2.1
theorem dX8_sealed_5 : decode cX8_sealed 5 = .ok (.ifnonnull 5, 3) := dr_199 0 5  pk_decb_125.2.2.2.1
theorem dX8_sealed_8 : decode cX8_sealed 8 = .ok (.iconst (-1), 1) := dr_2  pk_decb_125.2.2.2.2.1
theorem dX8_sealed_9 : decode cX8_sealed 9 = .ok (.ireturn, 1) := dr_172  pk_decb_125.2.2.2.2.2.1
theorem dX8_sealed_10 : decode cX8_sealed 10 = .ok (.aload_n 0, 1) := dr_42  pk_decb_125.2.2.2.2.2.2.1
theorem dX8_sealed_11 : decode cX8_sealed 11 = .ok (.iload_n 1, 1) := dr_27  pk_decb_125.2.2.2.2.2.2.2.1
theorem dX8_sealed_12 : decode cX8_sealed 12 = .ok (.aload_n 0, 1) := dr_42  pk_decb_125.2.2.2.2.2.2.2.2.1
theorem dX8_sealed_13 : decode cX8_sealed 13 = .ok (.invokevirtual 158, 3) := dr_182 0 158  pk_decb_125.2.2.2.2.2.2.2.2.2.1
theorem dX8_sealed_16 : decode cX8_sealed 16 = .ok (.invokevirtual 176, 3) := dr_182 0 176  pk_decb_125.2.2.2.2.2.2.2.2.2.2.1
theorem dX8_sealed_19 : decode cX8_sealed 19 = .ok (.ifCond .eq 7, 3) := dr_153 0 7  pk_decb_125.2.2.2.2.2.2.2.2.2.2.2.1
theorem dX8_sealed_22 : decode cX8_sealed 22 = .ok (.iconst 1, 1) := dr_4  pk_decb_125.2.2.2.2.2.2.2.2.2.2.2.2.1
theorem dX8_sealed_23 : decode cX8_sealed 23 = .ok (.goto 4, 3) := dr_167 0 4  pk_decb_125.2.2.2.2.2.2.2.2.2.2.2.2.2.1
theorem dX8_sealed_26 : decode cX8_sealed 26 = .ok (.iconst 0, 1) := dr_3  pk_decb_125.2.2.2.2.2.2.2.2.2.2.2.2.2.2.1
theorem dX8_sealed_27 : decode cX8_sealed 27 = .ok (.ireturn, 1) := dr_172  pk_decb_125.2.2.2.2.2.2.2.2.2.2.2.2.2.2.2
set_option maxRecDepth 20000 in
theorem pk_decb_126 : (bq cX8_least 0 27 = true) ∧ ((bq cX8_least 1 155 && bq cX8_least (1 + 1) 0 && bq cX8_least (1 + 2) 13 && (Reader.signed 16 (0 * 256 + 13) == 13)) = true) ∧ (bq cX8_least 4 27 = true) ∧ (bq cX8_least 5 4 = true) ∧ (bq cX8_least 6 42 = true) ∧ ((bq cX8_least 7 180 && bq cX8_least (7 + 1) 0 && bq cX8_least (7 + 2) 26 && (0 * 256 + 26 == 26)) = true) ∧ (bq cX8_least 10 120 = true) ∧ ((bq cX8_least 11 161 && bq cX8_least (11 + 1) 0 && bq cX8_least (11 + 2) 5 && (Reader.signed 16 (0 * 256 + 5) == 5)) = true) ∧ (bq cX8_least 14 2 = true) ∧ (bq cX8_least 15 172 = true) ∧ (bq cX8_least 16 27 = true) ∧ (bq cX8_least 17 42 = true) ∧ ((bq cX8_least 18 182 && bq cX8_least (18 + 1) 0 && bq cX8_least (18 + 2) 158 && (0 * 256 + 158 == 158)) = true) ∧ (bq cX8_least 21 2 = true) ∧ (bq cX8_least 22 130 = true) ∧ (bq cX8_least 23 126 = true) ∧ (bq cX8_least 24 61 = true) ∧ (bq cX8_least 25 3 = true) ∧ (bq cX8_least 26 62 = true) ∧ (bq cX8_least 27 3 = true) ∧ ((bq cX8_least 28 54 && bq cX8_least (28 + 1) 4) = true) ∧ ((bq cX8_least 30 21 && bq cX8_least (30 + 1) 4) = true) ∧ ((bq cX8_least 32 16 && bq cX8_least (32 + 1) 12 && (Reader.signed 8 12 == 12)) = true) ∧ ((bq cX8_least 34 162 && bq cX8_least (34 + 1) 0 && bq cX8_least (34 + 2) 62 && (Reader.signed 16 (0 * 256 + 62) == 62)) = true) ∧ (bq cX8_least 37 28 = true) ∧ ((bq cX8_least 38 21 && bq cX8_least (38 + 1) 4) = true) ∧ ((bq cX8_least 40 184 && bq cX8_least (40 + 1) 0 && bq cX8_least (40 + 2) 180 && (0 * 256 + 180 == 180)) = true) ∧ ((bq cX8_least 43 153 && bq cX8_least (43 + 1) 0 && bq cX8_least (43 + 2) 47 && (Reader.signed 16 (0 * 256 + 47) == 47)) = true) ∧ (bq cX8_least 46 42 = true) ∧ ((bq cX8_least 47 21 && bq cX8_least (47 + 1) 4) = true) ∧ ((bq cX8_least 49 182 && bq cX8_least (49 + 1) 0 && bq cX8_least (49 + 2) 183 && (0 * 256 + 183 == 183)) = true) ∧ ((bq cX8_least 52 54 && bq cX8_least (52 + 1) 5) = true) := by decide +kernel
theorem dX8_least_0 : decode cX8_least 0 = .ok (.iload_n 1, 1) := dr_27  pk_decb_126.1
theorem dX8_least_1 : decode cX8_least 1 = .ok (.ifCond .lt 13, 3) := dr_155 0 13  pk_decb_126.2.1
theorem dX8_least_4 : decode cX8_least 4 = .ok (.iload_n 1, 1) := dr_27  pk_decb_126.2.2.1
theorem dX8_least_5 : decode cX8_least 5 = .ok (.iconst 1, 1) := dr_4  pk_decb_126.2.2.2.1
theorem dX8_least_6 : decode cX8_least 6 = .ok (.aload_n 0, 1) := dr_42  pk_decb_126.2.2.2.2.1
theorem dX8_least_7 : decode cX8_least 7 = .ok (.getfield 26, 3) := dr_180 0 26  pk_decb_126.2.2.2.2.2.1
theorem dX8_least_10 : decode cX8_least 10 = .ok (.ishl, 1) := dr_120  pk_decb_126.2.2.2.2.2.2.1
theorem dX8_least_11 : decode cX8_least 11 = .ok (.if_icmp .lt 5, 3) := dr_161 0 5  pk_decb_126.2.2.2.2.2.2.2.1
theorem dX8_least_14 : decode cX8_least 14 = .ok (.iconst (-1), 1) := dr_2  pk_decb_126.2.2.2.2.2.2.2.2.1
theorem dX8_least_15 : decode cX8_least 15 = .ok (.ireturn, 1) := dr_172  pk_decb_126.2.2.2.2.2.2.2.2.2.1
theorem dX8_least_16 : decode cX8_least 16 = .ok (.iload_n 1, 1) := dr_27  pk_decb_126.2.2.2.2.2.2.2.2.2.2.1
theorem dX8_least_17 : decode cX8_least 17 = .ok (.aload_n 0, 1) := dr_42  pk_decb_126.2.2.2.2.2.2.2.2.2.2.2.1
theorem dX8_least_18 : decode cX8_least 18 = .ok (.invokevirtual 158, 3) := dr_182 0 158  pk_decb_126.2.2.2.2.2.2.2.2.2.2.2.2.1
theorem dX8_least_21 : decode cX8_least 21 = .ok (.iconst (-1), 1) := dr_2  pk_decb_126.2.2.2.2.2.2.2.2.2.2.2.2.2.1
theorem dX8_least_22 : decode cX8_least 22 = .ok (.ixor, 1) := dr_130  pk_decb_126.2.2.2.2.2.2.2.2.2.2.2.2.2.2.1
theorem dX8_least_23 : decode cX8_least 23 = .ok (.iand, 1) := dr_126  pk_decb_126.2.2.2.2.2.2.2.2.2.2.2.2.2.2.2.1
theorem dX8_least_24 : decode cX8_least 24 = .ok (.istore_n 2, 1) := dr_61  pk_decb_126.2.2.2.2.2.2.2.2.2.2.2.2.2.2.2.2.1
theorem dX8_least_25 : decode cX8_least 25 = .ok (.iconst 0, 1) := dr_3  pk_decb_126.2.2.2.2.2.2.2.2.2.2.2.2.2.2.2.2.2.1
theorem dX8_least_26 : decode cX8_least 26 = .ok (.istore_n 3, 1) := dr_62  pk_decb_126.2.2.2.2.2.2.2.2.2.2.2.2.2.2.2.2.2.2.1
theorem dX8_least_27 : decode cX8_least 27 = .ok (.iconst 0, 1) := dr_3  pk_decb_126.2.2.2.2.2.2.2.2.2.2.2.2.2.2.2.2.2.2.2.1
theorem dX8_least_28 : decode cX8_least 28 = .ok (.istore 4, 2) := dr_54  pk_decb_126.2.2.2.2.2.2.2.2.2.2.2.2.2.2.2.2.2.2.2.2.1
theorem dX8_least_30 : decode cX8_least 30 = .ok (.iload 4, 2) := dr_21  pk_decb_126.2.2.2.2.2.2.2.2.2.2.2.2.2.2.2.2.2.2.2.2.2.1
theorem dX8_least_32 : decode cX8_least 32 = .ok (.bipush 12, 2) := dr_16 12  pk_decb_126.2.2.2.2.2.2.2.2.2.2.2.2.2.2.2.2.2.2.2.2.2.2.1
theorem dX8_least_34 : decode cX8_least 34 = .ok (.if_icmp .ge 62, 3) := dr_162 0 62  pk_decb_126.2.2.2.2.2.2.2.2.2.2.2.2.2.2.2.2.2.2.2.2.2.2.2.1
theorem dX8_least_37 : decode cX8_least 37 = .ok (.iload_n 2, 1) := dr_28  pk_decb_126.2.2.2.2.2.2.2.2.2.2.2.2.2.2.2.2.2.2.2.2.2.2.2.2.1
theorem dX8_least_38 : decode cX8_least 38 = .ok (.iload 4, 2) := dr_21  pk_decb_126.2.2.2.2.2.2.2.2.2.2.2.2.2.2.2.2.2.2.2.2.2.2.2.2.2.1
theorem dX8_least_40 : decode cX8_least 40 = .ok (.invokestatic 180, 3) := dr_184 0 180  pk_decb_126.2.2.2.2.2.2.2.2.2.2.2.2.2.2.2.2.2.2.2.2.2.2.2.2.2.2.1
theorem dX8_least_43 : decode cX8_least 43 = .ok (.ifCond .eq 47, 3) := dr_153 0 47  pk_decb_126.2.2.2.2.2.2.2.2.2.2.2.2.2.2.2.2.2.2.2.2.2.2.2.2.2.2.2.1
theorem dX8_least_46 : decode cX8_least 46 = .ok (.aload_n 0, 1) := dr_42  pk_decb_126.2.2.2.2.2.2.2.2.2.2.2.2.2.2.2.2.2.2.2.2.2.2.2.2.2.2.2.2.1
theorem dX8_least_47 : decode cX8_least 47 = .ok (.iload 4, 2) := dr_21  pk_decb_126.2.2.2.2.2.2.2.2.2.2.2.2.2.2.2.2.2.2.2.2.2.2.2.2.2.2.2.2.2.1
theorem dX8_least_49 : decode cX8_least 49 = .ok (.invokevirtual 183, 3) := dr_182 0 183  pk_decb_126.2.2.2.2.2.2.2.2.2.2.2.2.2.2.2.2.2.2.2.2.2.2.2.2.2.2.2.2.2.2.1
theorem dX8_least_52 : decode cX8_least 52 = .ok (.istore 5, 2) := dr_54  pk_decb_126.2.2.2.2.2.2.2.2.2.2.2.2.2.2.2.2.2.2.2.2.2.2.2.2.2.2.2.2.2.2.2
set_option maxRecDepth 20000 in
theorem pk_decb_127 : (bq cX8_least 54 42 = true) ∧ ((bq cX8_least 55 21 && bq cX8_least (55 + 1) 5) = true) ∧ ((bq cX8_least 57 182 && bq cX8_least (57 + 1) 0 && bq cX8_least (57 + 2) 90 && (0 * 256 + 90 == 90)) = true) ∧ ((bq cX8_least 60 58 && bq cX8_least (60 + 1) 6) = true) ∧ ((bq cX8_least 62 25 && bq cX8_least (62 + 1) 6) = true) ∧ ((bq cX8_least 64 198 && bq cX8_least (64 + 1) 0 && bq cX8_least (64 + 2) 26 && (Reader.signed 16 (0 * 256 + 26) == 26)) = true) ∧ ((bq cX8_least 67 25 && bq cX8_least (67 + 1) 6) = true) ∧ ((bq cX8_least 69 180 && bq cX8_least (69 + 1) 0 && bq cX8_least (69 + 2) 112 && (0 * 256 + 112 == 112)) = true) ∧ ((bq cX8_least 72 154 && bq cX8_least (72 + 1) 0 && bq cX8_least (72 + 2) 18 && (Reader.signed 16 (0 * 256 + 18) == 18)) = true) ∧ ((bq cX8_least 75 25 && bq cX8_least (75 + 1) 6) = true) ∧ ((bq cX8_least 77 180 && bq cX8_least (77 + 1) 0 && bq cX8_least (77 + 2) 121 && (0 * 256 + 121 == 121)) = true) ∧ ((bq cX8_least 80 154 && bq cX8_least (80 + 1) 0 && bq cX8_least (80 + 2) 10 && (Reader.signed 16 (0 * 256 + 10) == 10)) = true) ∧ (bq cX8_least 83 29 = true) ∧ (bq cX8_least 84 4 = true) ∧ ((bq cX8_least 85 21 && bq cX8_least (85 + 1) 5) = true) ∧ (bq cX8_least 87 120 = true) ∧ (bq cX8_least 88 128 = true) ∧ (bq cX8_least 89 62 = true) := by decide +kernel
theorem dX8_least_54 : decode cX8_least 54 = .ok (.aload_n 0, 1) := dr_42  pk_decb_127.1
theorem dX8_least_55 : decode cX8_least 55 = .ok (.iload 5, 2) := dr_21  pk_decb_127.2.1
theorem dX8_least_57 : decode cX8_least 57 = .ok (.invokevirtual 90, 3) := dr_182 0 90  pk_decb_127.2.2.1
theorem dX8_least_60 : decode cX8_least 60 = .ok (.astore 6, 2) := dr_58  pk_decb_127.2.2.2.1
theorem dX8_least_62 : decode cX8_least 62 = .ok (.aload 6, 2) := dr_25  pk_decb_127.2.2.2.2.1
theorem dX8_least_64 : decode cX8_least 64 = .ok (.ifnull 26, 3) := dr_198 0 26  pk_decb_127.2.2.2.2.2.1
theorem dX8_least_67 : decode cX8_least 67 = .ok (.aload 6, 2) := dr_25  pk_decb_127.2.2.2.2.2.2.1
theorem dX8_least_69 : decode cX8_least 69 = .ok (.getfield 112, 3) := dr_180 0 112  pk_decb_127.2.2.2.2.2.2.2.1
theorem dX8_least_72 : decode cX8_least 72 = .ok (.ifCond .ne 18, 3) := dr_154 0 18  pk_decb_127.2.2.2.2.2.2.2.2.1
theorem dX8_least_75 : decode cX8_least 75 = .ok (.aload 6, 2) := dr_25  pk_decb_127.2.2.2.2.2.2.2.2.2.1
theorem dX8_least_77 : decode cX8_least 77 = .ok (.getfield 121, 3) := dr_180 0 121  pk_decb_127.2.2.2.2.2.2.2.2.2.2.1
theorem dX8_least_80 : decode cX8_least 80 = .ok (.ifCond .ne 10, 3) := dr_154 0 10  pk_decb_127.2.2.2.2.2.2.2.2.2.2.2.1
theorem dX8_least_83 : decode cX8_least 83 = .ok (.iload_n 3, 1) := dr_29  pk_decb_127.2.2.2.2.2.2.2.2.2.2.2.2.1
theorem dX8_least_84 : decode cX8_least 84 = .ok (.iconst 1, 1) := dr_4  pk_decb_127.2.2.2.2.2.2.2.2.2.2.2.2.2.1
theorem dX8_least_85 : decode cX8_least 85 = .ok (.iload 5, 2) := dr_21  pk_decb_127.2.2.2.2.2.2.2.2.2.2.2.2.2.2.1
theorem dX8_least_87 : decode cX8_least 87 = .ok (.ishl, 1) := dr_120  pk_decb_127.2.2.2.2.2.2.2.2.2.2.2.2.2.2.2.1
theorem dX8_least_88 : decode cX8_least 88 = .ok (.ior, 1) := dr_128  pk_decb_127.2.2.2.2.2.2.2.2.2.2.2.2.2.2.2.2.1
theorem dX8_least_89 : decode cX8_least 89 = .ok (.istore_n 3, 1) := dr_62  pk_decb_127.2.2.2.2.2.2.2.2.2.2.2.2.2.2.2.2.2
theorem dX8_least_90 : decode cX8_least 90 = .ok (.iinc 4 1, 3) := by decide +kernel
set_option maxRecDepth 20000 in
theorem pk_decb_128 : ((bq cX8_least 93 167 && bq cX8_least (93 + 1) 255 && bq cX8_least (93 + 2) 193 && (Reader.signed 16 (255 * 256 + 193) == (-63))) = true) ∧ (bq cX8_least 96 29 = true) ∧ (bq cX8_least 97 172 = true) := by decide +kernel
theorem dX8_least_93 : decode cX8_least 93 = .ok (.goto (-63), 3) := dr_167 255 193  pk_decb_128.1
theorem dX8_least_96 : decode cX8_least 96 = .ok (.iload_n 3, 1) := dr_29  pk_decb_128.2.1
theorem dX8_least_97 : decode cX8_least 97 = .ok (.ireturn, 1) := dr_172  pk_decb_128.2.2
set_option maxRecDepth 20000 in
theorem pk_decb_129 : (bq cX8_same 0 42 = true) ∧ (bq cX8_same 1 27 = true) ∧ ((bq cX8_same 2 182 && bq cX8_same (2 + 1) 0 && bq cX8_same (2 + 2) 90 && (0 * 256 + 90 == 90)) = true) ∧ (bq cX8_same 5 78 = true) ∧ (bq cX8_same 6 42 = true) ∧ (bq cX8_same 7 28 = true) ∧ ((bq cX8_same 8 182 && bq cX8_same (8 + 1) 0 && bq cX8_same (8 + 2) 90 && (0 * 256 + 90 == 90)) = true) ∧ ((bq cX8_same 11 58 && bq cX8_same (11 + 1) 4) = true) ∧ (bq cX8_same 13 45 = true) ∧ ((bq cX8_same 14 198 && bq cX8_same (14 + 1) 0 && bq cX8_same (14 + 2) 8 && (Reader.signed 16 (0 * 256 + 8) == 8)) = true) ∧ ((bq cX8_same 17 25 && bq cX8_same (17 + 1) 4) = true) ∧ ((bq cX8_same 19 199 && bq cX8_same (19 + 1) 0 && bq cX8_same (19 + 2) 7 && (Reader.signed 16 (0 * 256 + 7) == 7)) = true) ∧ (bq cX8_same 22 2 = true) ∧ ((bq cX8_same 23 167 && bq cX8_same (23 + 1) 0 && bq cX8_same (23 + 2) 15 && (Reader.signed 16 (0 * 256 + 15) == 15)) = true) ∧ (bq cX8_same 26 45 = true) ∧ ((bq cX8_same 27 180 && bq cX8_same (27 + 1) 0 && bq cX8_same (27 + 2) 94 && (0 * 256 + 94 == 94)) = true) ∧ ((bq cX8_same 30 25 && bq cX8_same (30 + 1) 4) = true) ∧ ((bq cX8_same 32 180 && bq cX8_same (32 + 1) 0 && bq cX8_same (32 + 2) 94 && (0 * 256 + 94 == 94)) = true) ∧ ((bq cX8_same 35 182 && bq cX8_same (35 + 1) 0 && bq cX8_same (35 + 2) 162 && (0 * 256 + 162 == 162)) = true) ∧ (bq cX8_same 38 172 = true) := by decide +kernel
theorem dX8_same_0 : decode cX8_same 0 = .ok (.aload_n 0, 1) := dr_42  pk_decb_129.1
theorem dX8_same_1 : decode cX8_same 1 = .ok (.iload_n 1, 1) := dr_27  pk_decb_129.2.1
theorem dX8_same_2 : decode cX8_same 2 = .ok (.invokevirtual 90, 3) := dr_182 0 90  pk_decb_129.2.2.1
theorem dX8_same_5 : decode cX8_same 5 = .ok (.astore_n 3, 1) := dr_78  pk_decb_129.2.2.2.1
theorem dX8_same_6 : decode cX8_same 6 = .ok (.aload_n 0, 1) := dr_42  pk_decb_129.2.2.2.2.1
theorem dX8_same_7 : decode cX8_same 7 = .ok (.iload_n 2, 1) := dr_28  pk_decb_129.2.2.2.2.2.1
theorem dX8_same_8 : decode cX8_same 8 = .ok (.invokevirtual 90, 3) := dr_182 0 90  pk_decb_129.2.2.2.2.2.2.1
theorem dX8_same_11 : decode cX8_same 11 = .ok (.astore 4, 2) := dr_58  pk_decb_129.2.2.2.2.2.2.2.1
theorem dX8_same_13 : decode cX8_same 13 = .ok (.aload_n 3, 1) := dr_45  pk_decb_129.2.2.2.2.2.2.2.2.1
theorem dX8_same_14 : decode cX8_same 14 = .ok (.ifnull 8, 3) := dr_198 0 8  pk_decb_129.2.2.2.2.2.2.2.2.2.1
theorem dX8_same_17 : decode cX8_same 17 = .ok (.aload 4, 2) := dr_25  pk_decb_129.2.2.2.2.2.2.2.2.2.2.1
theorem dX8_same_19 : decode cX8_same 19 = .ok (.ifnonnull 7, 3) := dr_199 0 7  pk_decb_129.2.2.2.2.2.2.2.2.2.2.2.1
theorem dX8_same_22 : decode cX8_same 22 = .ok (.iconst (-1), 1) := dr_2  pk_decb_129.2.2.2.2.2.2.2.2.2.2.2.2.1
theorem dX8_same_23 : decode cX8_same 23 = .ok (.goto 15, 3) := dr_167 0 15  pk_decb_129.2.2.2.2.2.2.2.2.2.2.2.2.2.1
theorem dX8_same_26 : decode cX8_same 26 = .ok (.aload_n 3, 1) := dr_45  pk_decb_129.2.2.2.2.2.2.2.2.2.2.2.2.2.2.1
theorem dX8_same_27 : decode cX8_same 27 = .ok (.getfield 94, 3) := dr_180 0 94  pk_decb_129.2.2.2.2.2.2.2.2.2.2.2.2.2.2.2.1
theorem dX8_same_30 : decode cX8_same 30 = .ok (.aload 4, 2) := dr_25  pk_decb_129.2.2.2.2.2.2.2.2.2.2.2.2.2.2.2.2.1
theorem dX8_same_32 : decode cX8_same 32 = .ok (.getfield 94, 3) := dr_180 0 94  pk_decb_129.2.2.2.2.2.2.2.2.2.2.2.2.2.2.2.2.2.1
theorem dX8_same_35 : decode cX8_same 35 = .ok (.invokevirtual 162, 3) := dr_182 0 162  pk_decb_129.2.2.2.2.2.2.2.2.2.2.2.2.2.2.2.2.2.2.1
theorem dX8_same_38 : decode cX8_same 38 = .ok (.ireturn, 1) := dr_172  pk_decb_129.2.2.2.2.2.2.2.2.2.2.2.2.2.2.2.2.2.2.2
set_option maxRecDepth 20000 in
theorem pk_decb_130 : (bq cX8_edition 0 27 = true) ∧ ((bq cX8_edition 1 155 && bq cX8_edition (1 + 1) 0 && bq cX8_edition (1 + 2) 19 && (Reader.signed 16 (0 * 256 + 19) == 19)) = true) ∧ (bq cX8_edition 4 27 = true) ∧ ((bq cX8_edition 5 18 && bq cX8_edition (5 + 1) 186) = true) ∧ ((bq cX8_edition 7 163 && bq cX8_edition (7 + 1) 0 && bq cX8_edition (7 + 2) 13 && (Reader.signed 16 (0 * 256 + 13) == 13)) = true) ∧ (bq cX8_edition 10 28 = true) ∧ ((bq cX8_edition 11 155 && bq cX8_edition (11 + 1) 0 && bq cX8_edition (11 + 2) 9 && (Reader.signed 16 (0 * 256 + 9) == 9)) = true) ∧ (bq cX8_edition 14 28 = true) ∧ ((bq cX8_edition 15 18 && bq cX8_edition (15 + 1) 186) = true) ∧ ((bq cX8_edition 17 164 && bq cX8_edition (17 + 1) 0 && bq cX8_edition (17 + 2) 5 && (Reader.signed 16 (0 * 256 + 5) == 5)) = true) ∧ (bq cX8_edition 20 2 = true) ∧ (bq cX8_edition 21 172 = true) ∧ (bq cX8_edition 22 42 = true) ∧ ((bq cX8_edition 23 180 && bq cX8_edition (23 + 1) 0 && bq cX8_edition (23 + 2) 59 && (0 * 256 + 59 == 59)) = true) ∧ (bq cX8_edition 26 27 = true) ∧ (bq cX8_edition 27 28 = true) ∧ ((bq cX8_edition 28 182 && bq cX8_edition (28 + 1) 0 && bq cX8_edition (28 + 2) 187 && (0 * 256 + 187 == 187)) = true) ∧ (bq cX8_edition 31 172 = true) := by decide +kernel
theorem dX8_edition_0 : decode cX8_edition 0 = .ok (.iload_n 1, 1) := dr_27  pk_decb_130.1
theorem dX8_edition_1 : decode cX8_edition 1 = .ok (.ifCond .lt 19, 3) := dr_155 0 19  pk_decb_130.2.1
theorem dX8_edition_4 : decode cX8_edition 4 = .ok (.iload_n 1, 1) := dr_27  pk_decb_130.2.2.1
theorem dX8_edition_5 : decode cX8_edition 5 = .ok (.ldc 186, 2) := dr_18  pk_decb_130.2.2.2.1
theorem dX8_edition_7 : decode cX8_edition 7 = .ok (.if_icmp .gt 13, 3) := dr_163 0 13  pk_decb_130.2.2.2.2.1
theorem dX8_edition_10 : decode cX8_edition 10 = .ok (.iload_n 2, 1) := dr_28  pk_decb_130.2.2.2.2.2.1
theorem dX8_edition_11 : decode cX8_edition 11 = .ok (.ifCond .lt 9, 3) := dr_155 0 9  pk_decb_130.2.2.2.2.2.2.1
theorem dX8_edition_14 : decode cX8_edition 14 = .ok (.iload_n 2, 1) := dr_28  pk_decb_130.2.2.2.2.2.2.2.1
theorem dX8_edition_15 : decode cX8_edition 15 = .ok (.ldc 186, 2) := dr_18  pk_decb_130.2.2.2.2.2.2.2.2.1
theorem dX8_edition_17 : decode cX8_edition 17 = .ok (.if_icmp .le 5, 3) := dr_164 0 5  pk_decb_130.2.2.2.2.2.2.2.2.2.1
theorem dX8_edition_20 : decode cX8_edition 20 = .ok (.iconst (-1), 1) := dr_2  pk_decb_130.2.2.2.2.2.2.2.2.2.2.1
theorem dX8_edition_21 : decode cX8_edition 21 = .ok (.ireturn, 1) := dr_172  pk_decb_130.2.2.2.2.2.2.2.2.2.2.2.1
theorem dX8_edition_22 : decode cX8_edition 22 = .ok (.aload_n 0, 1) := dr_42  pk_decb_130.2.2.2.2.2.2.2.2.2.2.2.2.1
theorem dX8_edition_23 : decode cX8_edition 23 = .ok (.getfield 59, 3) := dr_180 0 59  pk_decb_130.2.2.2.2.2.2.2.2.2.2.2.2.2.1
theorem dX8_edition_26 : decode cX8_edition 26 = .ok (.iload_n 1, 1) := dr_27  pk_decb_130.2.2.2.2.2.2.2.2.2.2.2.2.2.2.1
theorem dX8_edition_27 : decode cX8_edition 27 = .ok (.iload_n 2, 1) := dr_28  pk_decb_130.2.2.2.2.2.2.2.2.2.2.2.2.2.2.2.1
theorem dX8_edition_28 : decode cX8_edition 28 = .ok (.invokevirtual 187, 3) := dr_182 0 187  pk_decb_130.2.2.2.2.2.2.2.2.2.2.2.2.2.2.2.2.1
theorem dX8_edition_31 : decode cX8_edition 31 = .ok (.ireturn, 1) := dr_172  pk_decb_130.2.2.2.2.2.2.2.2.2.2.2.2.2.2.2.2.2
set_option maxRecDepth 20000 in
theorem pk_decb_131 : (bq cX8_ladder 0 42 = true) ∧ ((bq cX8_ladder 1 180 && bq cX8_ladder (1 + 1) 0 && bq cX8_ladder (1 + 2) 59 && (0 * 256 + 59 == 59)) = true) ∧ (bq cX8_ladder 4 27 = true) ∧ ((bq cX8_ladder 5 182 && bq cX8_ladder (5 + 1) 0 && bq cX8_ladder (5 + 2) 189 && (0 * 256 + 189 == 189)) = true) ∧ ((bq cX8_ladder 8 153 && bq cX8_ladder (8 + 1) 0 && bq cX8_ladder (8 + 2) 19 && (Reader.signed 16 (0 * 256 + 19) == 19)) = true) ∧ (bq cX8_ladder 11 42 = true) ∧ ((bq cX8_ladder 12 180 && bq cX8_ladder (12 + 1) 0 && bq cX8_ladder (12 + 2) 59 && (0 * 256 + 59 == 59)) = true) ∧ (bq cX8_ladder 15 28 = true) ∧ ((bq cX8_ladder 16 182 && bq cX8_ladder (16 + 1) 0 && bq cX8_ladder (16 + 2) 189 && (0 * 256 + 189 == 189)) = true) ∧ ((bq cX8_ladder 19 153 && bq cX8_ladder (19 + 1) 0 && bq cX8_ladder (19 + 2) 8 && (Reader.signed 16 (0 * 256 + 8) == 8)) = true) ∧ (bq cX8_ladder 22 29 = true) ∧ (bq cX8_ladder 23 2 = true) ∧ ((bq cX8_ladder 24 162 && bq cX8_ladder (24 + 1) 0 && bq cX8_ladder (24 + 2) 5 && (Reader.signed 16 (0 * 256 + 5) == 5)) = true) ∧ (bq cX8_ladder 27 2 = true) ∧ (bq cX8_ladder 28 172 = true) ∧ (bq cX8_ladder 29 42 = true) ∧ ((bq cX8_ladder 30 180 && bq cX8_ladder (30 + 1) 0 && bq cX8_ladder (30 + 2) 59 && (0 * 256 + 59 == 59)) = true) ∧ (bq cX8_ladder 33 27 = true) ∧ (bq cX8_ladder 34 28 = true) ∧ (bq cX8_ladder 35 3 = true) ∧ ((bq cX8_ladder 36 182 && bq cX8_ladder (36 + 1) 0 && bq cX8_ladder (36 + 2) 193 && (0 * 256 + 193 == 193)) = true) ∧ ((bq cX8_ladder 39 54 && bq cX8_ladder (39 + 1) 4) = true) ∧ ((bq cX8_ladder 41 21 && bq cX8_ladder (41 + 1) 4) = true) ∧ ((bq cX8_ladder 43 16 && bq cX8_ladder (43 + 1) 247 && (Reader.signed 8 247 == (-9))) = true) ∧ ((bq cX8_ladder 45 159 && bq cX8_ladder (45 + 1) 0 && bq cX8_ladder (45 + 2) 9 && (Reader.signed 16 (0 * 256 + 9) == 9)) = true) ∧ (bq cX8_ladder 48 29 = true) ∧ ((bq cX8_ladder 49 21 && bq cX8_ladder (49 + 1) 4) = true) ∧ ((bq cX8_ladder 51 164 && bq cX8_ladder (51 + 1) 0 && bq cX8_ladder (51 + 2) 6 && (Reader.signed 16 (0 * 256 + 6) == 6)) = true) ∧ ((bq cX8_ladder 54 16 && bq cX8_ladder (54 + 1) 247 && (Reader.signed 8 247 == (-9))) = true) ∧ (bq cX8_ladder 56 172 = true) ∧ (bq cX8_ladder 57 29 = true) ∧ (bq cX8_ladder 58 2 = true) := by decide +kernel
theorem dX8_ladder_0 : decode cX8_ladder 0 = .ok (.aload_n 0, 1) := dr_42  pk_decb_131.1
theorem dX8_ladder_1 : decode cX8_ladder 1 = .ok (.getfield 59, 3) := dr_180 0 59  pk_decb_131.2.1
theorem dX8_ladder_4 : decode cX8_ladder 4 = .ok (.iload_n 1, 1) := dr_27  pk_decb_131.2.2.1
theorem dX8_ladder_5 : decode cX8_ladder 5 = .ok (.invokevirtual 189, 3) := dr_182 0 189  pk_decb_131.2.2.2.1
theorem dX8_ladder_8 : decode cX8_ladder 8 = .ok (.ifCond .eq 19, 3) := dr_153 0 19  pk_decb_131.2.2.2.2.1
theorem dX8_ladder_11 : decode cX8_ladder 11 = .ok (.aload_n 0, 1) := dr_42  pk_decb_131.2.2.2.2.2.1
theorem dX8_ladder_12 : decode cX8_ladder 12 = .ok (.getfield 59, 3) := dr_180 0 59  pk_decb_131.2.2.2.2.2.2.1
theorem dX8_ladder_15 : decode cX8_ladder 15 = .ok (.iload_n 2, 1) := dr_28  pk_decb_131.2.2.2.2.2.2.2.1
theorem dX8_ladder_16 : decode cX8_ladder 16 = .ok (.invokevirtual 189, 3) := dr_182 0 189  pk_decb_131.2.2.2.2.2.2.2.2.1
theorem dX8_ladder_19 : decode cX8_ladder 19 = .ok (.ifCond .eq 8, 3) := dr_153 0 8  pk_decb_131.2.2.2.2.2.2.2.2.2.1
theorem dX8_ladder_22 : decode cX8_ladder 22 = .ok (.iload_n 3, 1) := dr_29  pk_decb_131.2.2.2.2.2.2.2.2.2.2.1
theorem dX8_ladder_23 : decode cX8_ladder 23 = .ok (.iconst (-1), 1) := dr_2  pk_decb_131.2.2.2.2.2.2.2.2.2.2.2.1
theorem dX8_ladder_24 : decode cX8_ladder 24 = .ok (.if_icmp .ge 5, 3) := dr_162 0 5  pk_decb_131.2.2.2.2.2.2.2.2.2.2.2.2.1
theorem dX8_ladder_27 : decode cX8_ladder 27 = .ok (.iconst (-1), 1) := dr_2  pk_decb_131.2.2.2.2.2.2.2.2.2.2.2.2.2.1
theorem dX8_ladder_28 : decode cX8_ladder 28 = .ok (.ireturn, 1) := dr_172  pk_decb_131.2.2.2.2.2.2.2.2.2.2.2.2.2.2.1
theorem dX8_ladder_29 : decode cX8_ladder 29 = .ok (.aload_n 0, 1) := dr_42  pk_decb_131.2.2.2.2.2.2.2.2.2.2.2.2.2.2.2.1
theorem dX8_ladder_30 : decode cX8_ladder 30 = .ok (.getfield 59, 3) := dr_180 0 59  pk_decb_131.2.2.2.2.2.2.2.2.2.2.2.2.2.2.2.2.1
theorem dX8_ladder_33 : decode cX8_ladder 33 = .ok (.iload_n 1, 1) := dr_27  pk_decb_131.2.2.2.2.2.2.2.2.2.2.2.2.2.2.2.2.2.1
theorem dX8_ladder_34 : decode cX8_ladder 34 = .ok (.iload_n 2, 1) := dr_28  pk_decb_131.2.2.2.2.2.2.2.2.2.2.2.2.2.2.2.2.2.2.1
theorem dX8_ladder_35 : decode cX8_ladder 35 = .ok (.iconst 0, 1) := dr_3  pk_decb_131.2.2.2.2.2.2.2.2.2.2.2.2.2.2.2.2.2.2.2.1
theorem dX8_ladder_36 : decode cX8_ladder 36 = .ok (.invokevirtual 193, 3) := dr_182 0 193  pk_decb_131.2.2.2.2.2.2.2.2.2.2.2.2.2.2.2.2.2.2.2.2.1
theorem dX8_ladder_39 : decode cX8_ladder 39 = .ok (.istore 4, 2) := dr_54  pk_decb_131.2.2.2.2.2.2.2.2.2.2.2.2.2.2.2.2.2.2.2.2.2.1
theorem dX8_ladder_41 : decode cX8_ladder 41 = .ok (.iload 4, 2) := dr_21  pk_decb_131.2.2.2.2.2.2.2.2.2.2.2.2.2.2.2.2.2.2.2.2.2.2.1
theorem dX8_ladder_43 : decode cX8_ladder 43 = .ok (.bipush (-9), 2) := dr_16 247  pk_decb_131.2.2.2.2.2.2.2.2.2.2.2.2.2.2.2.2.2.2.2.2.2.2.2.1
theorem dX8_ladder_45 : decode cX8_ladder 45 = .ok (.if_icmp .eq 9, 3) := dr_159 0 9  pk_decb_131.2.2.2.2.2.2.2.2.2.2.2.2.2.2.2.2.2.2.2.2.2.2.2.2.1
theorem dX8_ladder_48 : decode cX8_ladder 48 = .ok (.iload_n 3, 1) := dr_29  pk_decb_131.2.2.2.2.2.2.2.2.2.2.2.2.2.2.2.2.2.2.2.2.2.2.2.2.2.1
theorem dX8_ladder_49 : decode cX8_ladder 49 = .ok (.iload 4, 2) := dr_21  pk_decb_131.2.2.2.2.2.2.2.2.2.2.2.2.2.2.2.2.2.2.2.2.2.2.2.2.2.2.1
theorem dX8_ladder_51 : decode cX8_ladder 51 = .ok (.if_icmp .le 6, 3) := dr_164 0 6  pk_decb_131.2.2.2.2.2.2.2.2.2.2.2.2.2.2.2.2.2.2.2.2.2.2.2.2.2.2.2.1
theorem dX8_ladder_54 : decode cX8_ladder 54 = .ok (.bipush (-9), 2) := dr_16 247  pk_decb_131.2.2.2.2.2.2.2.2.2.2.2.2.2.2.2.2.2.2.2.2.2.2.2.2.2.2.2.2.1
theorem dX8_ladder_56 : decode cX8_ladder 56 = .ok (.ireturn, 1) := dr_172  pk_decb_131.2.2.2.2.2.2.2.2.2.2.2.2.2.2.2.2.2.2.2.2.2.2.2.2.2.2.2.2.2.1
theorem dX8_ladder_57 : decode cX8_ladder 57 = .ok (.iload_n 3, 1) := dr_29  pk_decb_131.2.2.2.2.2.2.2.2.2.2.2.2.2.2.2.2.2.2.2.2.2.2.2.2.2.2.2.2.2.2.1
theorem dX8_ladder_58 : decode cX8_ladder 58 = .ok (.iconst (-1), 1) := dr_2  pk_decb_131.2.2.2.2.2.2.2.2.2.2.2.2.2.2.2.2.2.2.2.2.2.2.2.2.2.2.2.2.2.2.2
set_option maxRecDepth 20000 in
theorem pk_decb_132 : ((bq cX8_ladder 59 160 && bq cX8_ladder (59 + 1) 0 && bq cX8_ladder (59 + 2) 8 && (Reader.signed 16 (0 * 256 + 8) == 8)) = true) ∧ ((bq cX8_ladder 62 21 && bq cX8_ladder (62 + 1) 4) = true) ∧ ((bq cX8_ladder 64 167 && bq cX8_ladder (64 + 1) 0 && bq cX8_ladder (64 + 2) 12 && (Reader.signed 16 (0 * 256 + 12) == 12)) = true) ∧ (bq cX8_ladder 67 42 = true) ∧ ((bq cX8_ladder 68 180 && bq cX8_ladder (68 + 1) 0 && bq cX8_ladder (68 + 2) 59 && (0 * 256 + 59 == 59)) = true) ∧ (bq cX8_ladder 71 27 = true) ∧ (bq cX8_ladder 72 29 = true) ∧ ((bq cX8_ladder 73 182 && bq cX8_ladder (73 + 1) 0 && bq cX8_ladder (73 + 2) 197 && (0 * 256 + 197 == 197)) = true) ∧ (bq cX8_ladder 76 172 = true) := by decide +kernel
theorem dX8_ladder_59 : decode cX8_ladder 59 = .ok (.if_icmp .ne 8, 3) := dr_160 0 8  pk_decb_132.1
theorem dX8_ladder_62 : decode cX8_ladder 62 = .ok (.iload 4, 2) := dr_21  pk_decb_132.2.1
theorem dX8_ladder_64 : decode cX8_ladder 64 = .ok (.goto 12, 3) := dr_167 0 12  pk_decb_132.2.2.1
theorem dX8_ladder_67 : decode cX8_ladder 67 = .ok (.aload_n 0, 1) := dr_42  pk_decb_132.2.2.2.1
theorem dX8_ladder_68 : decode cX8_ladder 68 = .ok (.getfield 59, 3) := dr_180 0 59  pk_decb_132.2.2.2.2.1
theorem dX8_ladder_71 : decode cX8_ladder 71 = .ok (.iload_n 1, 1) := dr_27  pk_decb_132.2.2.2.2.2.1
theorem dX8_ladder_72 : decode cX8_ladder 72 = .ok (.iload_n 3, 1) := dr_29  pk_decb_132.2.2.2.2.2.2.1
theorem dX8_ladder_73 : decode cX8_ladder 73 = .ok (.invokevirtual 197, 3) := dr_182 0 197  pk_decb_132.2.2.2.2.2.2.2.1
theorem dX8_ladder_76 : decode cX8_ladder 76 = .ok (.ireturn, 1) := dr_172  pk_decb_132.2.2.2.2.2.2.2.2
set_option maxRecDepth 20000 in
theorem pk_decb_133 : (bq cX8_needed 0 42 = true) ∧ ((bq cX8_needed 1 180 && bq cX8_needed (1 + 1) 0 && bq cX8_needed (1 + 2) 59 && (0 * 256 + 59 == 59)) = true) ∧ (bq cX8_needed 4 27 = true) ∧ ((bq cX8_needed 5 182 && bq cX8_needed (5 + 1) 0 && bq cX8_needed (5 + 2) 189 && (0 * 256 + 189 == 189)) = true) ∧ ((bq cX8_needed 8 153 && bq cX8_needed (8 + 1) 0 && bq cX8_needed (8 + 2) 23 && (Reader.signed 16 (0 * 256 + 23) == 23)) = true) ∧ (bq cX8_needed 11 42 = true) ∧ ((bq cX8_needed 12 180 && bq cX8_needed (12 + 1) 0 && bq cX8_needed (12 + 2) 59 && (0 * 256 + 59 == 59)) = true) ∧ (bq cX8_needed 15 28 = true) ∧ ((bq cX8_needed 16 182 && bq cX8_needed (16 + 1) 0 && bq cX8_needed (16 + 2) 189 && (0 * 256 + 189 == 189)) = true) ∧ ((bq cX8_needed 19 153 && bq cX8_needed (19 + 1) 0 && bq cX8_needed (19 + 2) 12 && (Reader.signed 16 (0 * 256 + 12) == 12)) = true) ∧ (bq cX8_needed 22 29 = true) ∧ ((bq cX8_needed 23 155 && bq cX8_needed (23 + 1) 0 && bq cX8_needed (23 + 2) 8 && (Reader.signed 16 (0 * 256 + 8) == 8)) = true) ∧ (bq cX8_needed 26 29 = true) ∧ (bq cX8_needed 27 4 = true) ∧ ((bq cX8_needed 28 164 && bq cX8_needed (28 + 1) 0 && bq cX8_needed (28 + 2) 5 && (Reader.signed 16 (0 * 256 + 5) == 5)) = true) ∧ (bq cX8_needed 31 2 = true) ∧ (bq cX8_needed 32 172 = true) ∧ ((bq cX8_needed 33 16 && bq cX8_needed (33 + 1) 247 && (Reader.signed 8 247 == (-9))) = true) ∧ ((bq cX8_needed 35 54 && bq cX8_needed (35 + 1) 4) = true) ∧ (bq cX8_needed 37 42 = true) ∧ ((bq cX8_needed 38 180 && bq cX8_needed (38 + 1) 0 && bq cX8_needed (38 + 2) 59 && (0 * 256 + 59 == 59)) = true) ∧ (bq cX8_needed 41 27 = true) ∧ (bq cX8_needed 42 28 = true) ∧ (bq cX8_needed 43 3 = true) ∧ ((bq cX8_needed 44 182 && bq cX8_needed (44 + 1) 0 && bq cX8_needed (44 + 2) 193 && (0 * 256 + 193 == 193)) = true) ∧ ((bq cX8_needed 47 54 && bq cX8_needed (47 + 1) 5) = true) ∧ (bq cX8_needed 49 3 = true) ∧ ((bq cX8_needed 50 54 && bq cX8_needed (50 + 1) 6) = true) ∧ ((bq cX8_needed 52 21 && bq cX8_needed (52 + 1) 6) = true) ∧ ((bq cX8_needed 54 16 && bq cX8_needed (54 + 1) 16 && (Reader.signed 8 16 == 16)) = true) ∧ ((bq cX8_needed 56 162 && bq cX8_needed (56 + 1) 0 && bq cX8_needed (56 + 2) 53 && (Reader.signed 16 (0 * 256 + 53) == 53)) = true) ∧ (bq cX8_needed 59 42 = true) := by decide +kernel
theorem dX8_needed_0 : decode cX8_needed 0 = .ok (.aload_n 0, 1) := dr_42  pk_decb_133.1
theorem dX8_needed_1 : decode cX8_needed 1 = .ok (.getfield 59, 3) := dr_180 0 59  pk_decb_133.2.1
theorem dX8_needed_4 : decode cX8_needed 4 = .ok (.iload_n 1, 1) := dr_27  pk_decb_133.2.2.1
theorem dX8_needed_5 : decode cX8_needed 5 = .ok (.invokevirtual 189, 3) := dr_182 0 189  pk_decb_133.2.2.2.1
theorem dX8_needed_8 : decode cX8_needed 8 = .ok (.ifCond .eq 23, 3) := dr_153 0 23  pk_decb_133.2.2.2.2.1
theorem dX8_needed_11 : decode cX8_needed 11 = .ok (.aload_n 0, 1) := dr_42  pk_decb_133.2.2.2.2.2.1
theorem dX8_needed_12 : decode cX8_needed 12 = .ok (.getfield 59, 3) := dr_180 0 59  pk_decb_133.2.2.2.2.2.2.1
theorem dX8_needed_15 : decode cX8_needed 15 = .ok (.iload_n 2, 1) := dr_28  pk_decb_133.2.2.2.2.2.2.2.1
theorem dX8_needed_16 : decode cX8_needed 16 = .ok (.invokevirtual 189, 3) := dr_182 0 189  pk_decb_133.2.2.2.2.2.2.2.2.1
theorem dX8_needed_19 : decode cX8_needed 19 = .ok (.ifCond .eq 12, 3) := dr_153 0 12  pk_decb_133.2.2.2.2.2.2.2.2.2.1
theorem dX8_needed_22 : decode cX8_needed 22 = .ok (.iload_n 3, 1) := dr_29  pk_decb_133.2.2.2.2.2.2.2.2.2.2.1
theorem dX8_needed_23 : decode cX8_needed 23 = .ok (.ifCond .lt 8, 3) := dr_155 0 8  pk_decb_133.2.2.2.2.2.2.2.2.2.2.2.1
theorem dX8_needed_26 : decode cX8_needed 26 = .ok (.iload_n 3, 1) := dr_29  pk_decb_133.2.2.2.2.2.2.2.2.2.2.2.2.1
theorem dX8_needed_27 : decode cX8_needed 27 = .ok (.iconst 1, 1) := dr_4  pk_decb_133.2.2.2.2.2.2.2.2.2.2.2.2.2.1
theorem dX8_needed_28 : decode cX8_needed 28 = .ok (.if_icmp .le 5, 3) := dr_164 0 5  pk_decb_133.2.2.2.2.2.2.2.2.2.2.2.2.2.2.1
theorem dX8_needed_31 : decode cX8_needed 31 = .ok (.iconst (-1), 1) := dr_2  pk_decb_133.2.2.2.2.2.2.2.2.2.2.2.2.2.2.2.1
theorem dX8_needed_32 : decode cX8_needed 32 = .ok (.ireturn, 1) := dr_172  pk_decb_133.2.2.2.2.2.2.2.2.2.2.2.2.2.2.2.2.1
theorem dX8_needed_33 : decode cX8_needed 33 = .ok (.bipush (-9), 2) := dr_16 247  pk_decb_133.2.2.2.2.2.2.2.2.2.2.2.2.2.2.2.2.2.1
theorem dX8_needed_35 : decode cX8_needed 35 = .ok (.istore 4, 2) := dr_54  pk_decb_133.2.2.2.2.2.2.2.2.2.2.2.2.2.2.2.2.2.2.1
theorem dX8_needed_37 : decode cX8_needed 37 = .ok (.aload_n 0, 1) := dr_42  pk_decb_133.2.2.2.2.2.2.2.2.2.2.2.2.2.2.2.2.2.2.2.1
theorem dX8_needed_38 : decode cX8_needed 38 = .ok (.getfield 59, 3) := dr_180 0 59  pk_decb_133.2.2.2.2.2.2.2.2.2.2.2.2.2.2.2.2.2.2.2.2.1
theorem dX8_needed_41 : decode cX8_needed 41 = .ok (.iload_n 1, 1) := dr_27  pk_decb_133.2.2.2.2.2.2.2.2.2.2.2.2.2.2.2.2.2.2.2.2.2.1
theorem dX8_needed_42 : decode cX8_needed 42 = .ok (.iload_n 2, 1) := dr_28  pk_decb_133.2.2.2.2.2.2.2.2.2.2.2.2.2.2.2.2.2.2.2.2.2.2.1
theorem dX8_needed_43 : decode cX8_needed 43 = .ok (.iconst 0, 1) := dr_3  pk_decb_133.2.2.2.2.2.2.2.2.2.2.2.2.2.2.2.2.2.2.2.2.2.2.2.1
theorem dX8_needed_44 : decode cX8_needed 44 = .ok (.invokevirtual 193, 3) := dr_182 0 193  pk_decb_133.2.2.2.2.2.2.2.2.2.2.2.2.2.2.2.2.2.2.2.2.2.2.2.2.1
theorem dX8_needed_47 : decode cX8_needed 47 = .ok (.istore 5, 2) := dr_54  pk_decb_133.2.2.2.2.2.2.2.2.2.2.2.2.2.2.2.2.2.2.2.2.2.2.2.2.2.1
theorem dX8_needed_49 : decode cX8_needed 49 = .ok (.iconst 0, 1) := dr_3  pk_decb_133.2.2.2.2.2.2.2.2.2.2.2.2.2.2.2.2.2.2.2.2.2.2.2.2.2.2.1
theorem dX8_needed_50 : decode cX8_needed 50 = .ok (.istore 6, 2) := dr_54  pk_decb_133.2.2.2.2.2.2.2.2.2.2.2.2.2.2.2.2.2.2.2.2.2.2.2.2.2.2.2.1
theorem dX8_needed_52 : decode cX8_needed 52 = .ok (.iload 6, 2) := dr_21  pk_decb_133.2.2.2.2.2.2.2.2.2.2.2.2.2.2.2.2.2.2.2.2.2.2.2.2.2.2.2.2.1
theorem dX8_needed_54 : decode cX8_needed 54 = .ok (.bipush 16, 2) := dr_16 16  pk_decb_133.2.2.2.2.2.2.2.2.2.2.2.2.2.2.2.2.2.2.2.2.2.2.2.2.2.2.2.2.2.1
theorem dX8_needed_56 : decode cX8_needed 56 = .ok (.if_icmp .ge 53, 3) := dr_162 0 53  pk_decb_133.2.2.2.2.2.2.2.2.2.2.2.2.2.2.2.2.2.2.2.2.2.2.2.2.2.2.2.2.2.2.1
theorem dX8_needed_59 : decode cX8_needed 59 = .ok (.aload_n 0, 1) := dr_42  pk_decb_133.2.2.2.2.2.2.2.2.2.2.2.2.2.2.2.2.2.2.2.2.2.2.2.2.2.2.2.2.2.2.2
set_option maxRecDepth 20000 in
theorem pk_decb_134 : ((bq cX8_needed 60 180 && bq cX8_needed (60 + 1) 0 && bq cX8_needed (60 + 2) 59 && (0 * 256 + 59 == 59)) = true) ∧ (bq cX8_needed 63 27 = true) ∧ (bq cX8_needed 64 28 = true) ∧ (bq cX8_needed 65 4 = true) ∧ ((bq cX8_needed 66 21 && bq cX8_needed (66 + 1) 6) = true) ∧ (bq cX8_needed 68 120 = true) ∧ ((bq cX8_needed 69 182 && bq cX8_needed (69 + 1) 0 && bq cX8_needed (69 + 2) 193 && (0 * 256 + 193 == 193)) = true) ∧ ((bq cX8_needed 72 54 && bq cX8_needed (72 + 1) 7) = true) ∧ ((bq cX8_needed 74 21 && bq cX8_needed (74 + 1) 7) = true) ∧ ((bq cX8_needed 76 16 && bq cX8_needed (76 + 1) 247 && (Reader.signed 8 247 == (-9))) = true) ∧ ((bq cX8_needed 78 159 && bq cX8_needed (78 + 1) 0 && bq cX8_needed (78 + 2) 25 && (Reader.signed 16 (0 * 256 + 25) == 25)) = true) ∧ ((bq cX8_needed 81 21 && bq cX8_needed (81 + 1) 5) = true) ∧ ((bq cX8_needed 83 16 && bq cX8_needed (83 + 1) 247 && (Reader.signed 8 247 == (-9))) = true) ∧ ((bq cX8_needed 85 159 && bq cX8_needed (85 + 1) 0 && bq cX8_needed (85 + 2) 10 && (Reader.signed 16 (0 * 256 + 10) == 10)) = true) ∧ ((bq cX8_needed 88 21 && bq cX8_needed (88 + 1) 7) = true) ∧ ((bq cX8_needed 90 21 && bq cX8_needed (90 + 1) 5) = true) ∧ ((bq cX8_needed 92 162 && bq cX8_needed (92 + 1) 0 && bq cX8_needed (92 + 2) 11 && (Reader.signed 16 (0 * 256 + 11) == 11)) = true) ∧ ((bq cX8_needed 95 21 && bq cX8_needed (95 + 1) 7) = true) ∧ ((bq cX8_needed 97 54 && bq cX8_needed (97 + 1) 5) = true) ∧ ((bq cX8_needed 99 21 && bq cX8_needed (99 + 1) 6) = true) ∧ ((bq cX8_needed 101 54 && bq cX8_needed (101 + 1) 4) = true) := by decide +kernel
theorem dX8_needed_60 : decode cX8_needed 60 = .ok (.getfield 59, 3) := dr_180 0 59  pk_decb_134.1
theorem dX8_needed_63 : decode cX8_needed 63 = .ok (.iload_n 1, 1) := dr_27  pk_decb_134.2.1
theorem dX8_needed_64 : decode cX8_needed 64 = .ok (.iload_n 2, 1) := dr_28  pk_decb_134.2.2.1
theorem dX8_needed_65 : decode cX8_needed 65 = .ok (.iconst 1, 1) := dr_4  pk_decb_134.2.2.2.1
theorem dX8_needed_66 : decode cX8_needed 66 = .ok (.iload 6, 2) := dr_21  pk_decb_134.2.2.2.2.1
theorem dX8_needed_68 : decode cX8_needed 68 = .ok (.ishl, 1) := dr_120  pk_decb_134.2.2.2.2.2.1
theorem dX8_needed_69 : decode cX8_needed 69 = .ok (.invokevirtual 193, 3) := dr_182 0 193  pk_decb_134.2.2.2.2.2.2.1
theorem dX8_needed_72 : decode cX8_needed 72 = .ok (.istore 7, 2) := dr_54  pk_decb_134.2.2.2.2.2.2.2.1
theorem dX8_needed_74 : decode cX8_needed 74 = .ok (.iload 7, 2) := dr_21  pk_decb_134.2.2.2.2.2.2.2.2.1
theorem dX8_needed_76 : decode cX8_needed 76 = .ok (.bipush (-9), 2) := dr_16 247  pk_decb_134.2.2.2.2.2.2.2.2.2.1
theorem dX8_needed_78 : decode cX8_needed 78 = .ok (.if_icmp .eq 25, 3) := dr_159 0 25  pk_decb_134.2.2.2.2.2.2.2.2.2.2.1
theorem dX8_needed_81 : decode cX8_needed 81 = .ok (.iload 5, 2) := dr_21  pk_decb_134.2.2.2.2.2.2.2.2.2.2.2.1
theorem dX8_needed_83 : decode cX8_needed 83 = .ok (.bipush (-9), 2) := dr_16 247  pk_decb_134.2.2.2.2.2.2.2.2.2.2.2.2.1
theorem dX8_needed_85 : decode cX8_needed 85 = .ok (.if_icmp .eq 10, 3) := dr_159 0 10  pk_decb_134.2.2.2.2.2.2.2.2.2.2.2.2.2.1
theorem dX8_needed_88 : decode cX8_needed 88 = .ok (.iload 7, 2) := dr_21  pk_decb_134.2.2.2.2.2.2.2.2.2.2.2.2.2.2.1
theorem dX8_needed_90 : decode cX8_needed 90 = .ok (.iload 5, 2) := dr_21  pk_decb_134.2.2.2.2.2.2.2.2.2.2.2.2.2.2.2.1
theorem dX8_needed_92 : decode cX8_needed 92 = .ok (.if_icmp .ge 11, 3) := dr_162 0 11  pk_decb_134.2.2.2.2.2.2.2.2.2.2.2.2.2.2.2.2.1
theorem dX8_needed_95 : decode cX8_needed 95 = .ok (.iload 7, 2) := dr_21  pk_decb_134.2.2.2.2.2.2.2.2.2.2.2.2.2.2.2.2.2.1
theorem dX8_needed_97 : decode cX8_needed 97 = .ok (.istore 5, 2) := dr_54  pk_decb_134.2.2.2.2.2.2.2.2.2.2.2.2.2.2.2.2.2.2.1
theorem dX8_needed_99 : decode cX8_needed 99 = .ok (.iload 6, 2) := dr_21  pk_decb_134.2.2.2.2.2.2.2.2.2.2.2.2.2.2.2.2.2.2.2.1
theorem dX8_needed_101 : decode cX8_needed 101 = .ok (.istore 4, 2) := dr_54  pk_decb_134.2.2.2.2.2.2.2.2.2.2.2.2.2.2.2.2.2.2.2.2
theorem dX8_needed_103 : decode cX8_needed 103 = .ok (.iinc 6 1, 3) := by decide +kernel
set_option maxRecDepth 20000 in
theorem pk_decb_135 : ((bq cX8_needed 106 167 && bq cX8_needed (106 + 1) 255 && bq cX8_needed (106 + 2) 202 && (Reader.signed 16 (255 * 256 + 202) == (-54))) = true) ∧ ((bq cX8_needed 109 21 && bq cX8_needed (109 + 1) 4) = true) ∧ ((bq cX8_needed 111 16 && bq cX8_needed (111 + 1) 247 && (Reader.signed 8 247 == (-9))) = true) ∧ ((bq cX8_needed 113 159 && bq cX8_needed (113 + 1) 0 && bq cX8_needed (113 + 2) 7 && (Reader.signed 16 (0 * 256 + 7) == 7)) = true) ∧ (bq cX8_needed 116 29 = true) ∧ ((bq cX8_needed 117 154 && bq cX8_needed (117 + 1) 0 && bq cX8_needed (117 + 2) 8 && (Reader.signed 16 (0 * 256 + 8) == 8)) = true) ∧ ((bq cX8_needed 120 21 && bq cX8_needed (120 + 1) 4) = true) ∧ ((bq cX8_needed 122 167 && bq cX8_needed (122 + 1) 0 && bq cX8_needed (122 + 2) 5 && (Reader.signed 16 (0 * 256 + 5) == 5)) = true) ∧ ((bq cX8_needed 125 21 && bq cX8_needed (125 + 1) 5) = true) ∧ (bq cX8_needed 127 172 = true) := by decide +kernel
theorem dX8_needed_106 : decode cX8_needed 106 = .ok (.goto (-54), 3) := dr_167 255 202  pk_decb_135.1
theorem dX8_needed_109 : decode cX8_needed 109 = .ok (.iload 4, 2) := dr_21  pk_decb_135.2.1
theorem dX8_needed_111 : decode cX8_needed 111 = .ok (.bipush (-9), 2) := dr_16 247  pk_decb_135.2.2.1
theorem dX8_needed_113 : decode cX8_needed 113 = .ok (.if_icmp .eq 7, 3) := dr_159 0 7  pk_decb_135.2.2.2.1
theorem dX8_needed_116 : decode cX8_needed 116 = .ok (.iload_n 3, 1) := dr_29  pk_decb_135.2.2.2.2.1
theorem dX8_needed_117 : decode cX8_needed 117 = .ok (.ifCond .ne 8, 3) := dr_154 0 8  pk_decb_135.2.2.2.2.2.1
theorem dX8_needed_120 : decode cX8_needed 120 = .ok (.iload 4, 2) := dr_21  pk_decb_135.2.2.2.2.2.2.1
theorem dX8_needed_122 : decode cX8_needed 122 = .ok (.goto 5, 3) := dr_167 0 5  pk_decb_135.2.2.2.2.2.2.2.1
theorem dX8_needed_125 : decode cX8_needed 125 = .ok (.iload 5, 2) := dr_21  pk_decb_135.2.2.2.2.2.2.2.2.1
theorem dX8_needed_127 : decode cX8_needed 127 = .ok (.ireturn, 1) := dr_172  pk_decb_135.2.2.2.2.2.2.2.2.2
set_option maxRecDepth 20000 in
theorem pk_decb_136 : (bq cX8_weight 0 42 = true) ∧ (bq cX8_weight 1 28 = true) ∧ ((bq cX8_weight 2 182 && bq cX8_weight (2 + 1) 0 && bq cX8_weight (2 + 2) 90 && (0 * 256 + 90 == 90)) = true) ∧ (bq cX8_weight 5 78 = true) ∧ (bq cX8_weight 6 45 = true) ∧ ((bq cX8_weight 7 199 && bq cX8_weight (7 + 1) 0 && bq cX8_weight (7 + 2) 5 && (Reader.signed 16 (0 * 256 + 5) == 5)) = true) ∧ (bq cX8_weight 10 2 = true) ∧ (bq cX8_weight 11 172 = true) ∧ (bq cX8_weight 12 27 = true) := by decide +kernel
theorem dX8_weight_0 : decode cX8_weight 0 = .ok (.aload_n 0, 1) := dr_42  pk_decb_136.1
theorem dX8_weight_1 : decode cX8_weight 1 = .ok (.iload_n 2, 1) := dr_28  pk_decb_136.2.1
theorem dX8_weight_2 : decode cX8_weight 2 = .ok (.invokevirtual 90, 3) := dr_182 0 90  pk_decb_136.2.2.1
theorem dX8_weight_5 : decode cX8_weight 5 = .ok (.astore_n 3, 1) := dr_78  pk_decb_136.2.2.2.1
theorem dX8_weight_6 : decode cX8_weight 6 = .ok (.aload_n 3, 1) := dr_45  pk_decb_136.2.2.2.2.1
theorem dX8_weight_7 : decode cX8_weight 7 = .ok (.ifnonnull 5, 3) := dr_199 0 5  pk_decb_136.2.2.2.2.2.1
theorem dX8_weight_10 : decode cX8_weight 10 = .ok (.iconst (-1), 1) := dr_2  pk_decb_136.2.2.2.2.2.2.1
theorem dX8_weight_11 : decode cX8_weight 11 = .ok (.ireturn, 1) := dr_172  pk_decb_136.2.2.2.2.2.2.2.1
theorem dX8_weight_12 : decode cX8_weight 12 = .ok (.iload_n 1, 1) := dr_27  pk_decb_136.2.2.2.2.2.2.2.2
theorem dX8_weight_13 : decode cX8_weight 13 = .ok (.tableswitch 77 0 5 #[39, 45, 51, 57, 64, 71], 39) := by decide +kernel
set_option maxRecDepth 20000 in
theorem pk_decb_137 : (bq cX8_weight 52 42 = true) ∧ (bq cX8_weight 53 45 = true) ∧ ((bq cX8_weight 54 182 && bq cX8_weight (54 + 1) 0 && bq cX8_weight (54 + 2) 200 && (0 * 256 + 200 == 200)) = true) ∧ (bq cX8_weight 57 172 = true) ∧ (bq cX8_weight 58 42 = true) ∧ (bq cX8_weight 59 45 = true) ∧ ((bq cX8_weight 60 182 && bq cX8_weight (60 + 1) 0 && bq cX8_weight (60 + 2) 203 && (0 * 256 + 203 == 203)) = true) ∧ (bq cX8_weight 63 172 = true) ∧ (bq cX8_weight 64 42 = true) ∧ (bq cX8_weight 65 45 = true) ∧ ((bq cX8_weight 66 182 && bq cX8_weight (66 + 1) 0 && bq cX8_weight (66 + 2) 206 && (0 * 256 + 206 == 206)) = true) ∧ (bq cX8_weight 69 172 = true) ∧ (bq cX8_weight 70 42 = true) ∧ (bq cX8_weight 71 45 = true) ∧ (bq cX8_weight 72 28 = true) ∧ ((bq cX8_weight 73 182 && bq cX8_weight (73 + 1) 0 && bq cX8_weight (73 + 2) 209 && (0 * 256 + 209 == 209)) = true) ∧ (bq cX8_weight 76 172 = true) ∧ (bq cX8_weight 77 42 = true) ∧ (bq cX8_weight 78 45 = true) ∧ (bq cX8_weight 79 28 = true) ∧ ((bq cX8_weight 80 182 && bq cX8_weight (80 + 1) 0 && bq cX8_weight (80 + 2) 213 && (0 * 256 + 213 == 213)) = true) ∧ (bq cX8_weight 83 172 = true) ∧ (bq cX8_weight 84 42 = true) ∧ (bq cX8_weight 85 45 = true) ∧ ((bq cX8_weight 86 182 && bq cX8_weight (86 + 1) 0 && bq cX8_weight (86 + 2) 216 && (0 * 256 + 216 == 216)) = true) ∧ (bq cX8_weight 89 172 = true) ∧ (bq cX8_weight 90 2 = true) ∧ (bq cX8_weight 91 172 = true) := by decide +kernel
theorem dX8_weight_52 : decode cX8_weight 52 = .ok (.aload_n 0, 1) := dr_42  pk_decb_137.1
theorem dX8_weight_53 : decode cX8_weight 53 = .ok (.aload_n 3, 1) := dr_45  pk_decb_137.2.1
theorem dX8_weight_54 : decode cX8_weight 54 = .ok (.invokevirtual 200, 3) := dr_182 0 200  pk_decb_137.2.2.1
theorem dX8_weight_57 : decode cX8_weight 57 = .ok (.ireturn, 1) := dr_172  pk_decb_137.2.2.2.1
theorem dX8_weight_58 : decode cX8_weight 58 = .ok (.aload_n 0, 1) := dr_42  pk_decb_137.2.2.2.2.1
theorem dX8_weight_59 : decode cX8_weight 59 = .ok (.aload_n 3, 1) := dr_45  pk_decb_137.2.2.2.2.2.1
theorem dX8_weight_60 : decode cX8_weight 60 = .ok (.invokevirtual 203, 3) := dr_182 0 203  pk_decb_137.2.2.2.2.2.2.1
theorem dX8_weight_63 : decode cX8_weight 63 = .ok (.ireturn, 1) := dr_172  pk_decb_137.2.2.2.2.2.2.2.1
theorem dX8_weight_64 : decode cX8_weight 64 = .ok (.aload_n 0, 1) := dr_42  pk_decb_137.2.2.2.2.2.2.2.2.1
theorem dX8_weight_65 : decode cX8_weight 65 = .ok (.aload_n 3, 1) := dr_45  pk_decb_137.2.2.2.2.2.2.2.2.2.1
theorem dX8_weight_66 : decode cX8_weight 66 = .ok (.invokevirtual 206, 3) := dr_182 0 206  pk_decb_137.2.2.2.2.2.2.2.2.2.2.1
theorem dX8_weight_69 : decode cX8_weight 69 = .ok (.ireturn, 1) := dr_172  pk_decb_137.2.2.2.2.2.2.2.2.2.2.2.1
theorem dX8_weight_70 : decode cX8_weight 70 = .ok (.aload_n 0, 1) := dr_42  pk_decb_137.2.2.2.2.2.2.2.2.2.2.2.2.1
theorem dX8_weight_71 : decode cX8_weight 71 = .ok (.aload_n 3, 1) := dr_45  pk_decb_137.2.2.2.2.2.2.2.2.2.2.2.2.2.1
theorem dX8_weight_72 : decode cX8_weight 72 = .ok (.iload_n 2, 1) := dr_28  pk_decb_137.2.2.2.2.2.2.2.2.2.2.2.2.2.2.1
theorem dX8_weight_73 : decode cX8_weight 73 = .ok (.invokevirtual 209, 3) := dr_182 0 209  pk_decb_137.2.2.2.2.2.2.2.2.2.2.2.2.2.2.2.1
theorem dX8_weight_76 : decode cX8_weight 76 = .ok (.ireturn, 1) := dr_172  pk_decb_137.2.2.2.2.2.2.2.2.2.2.2.2.2.2.2.2.1
theorem dX8_weight_77 : decode cX8_weight 77 = .ok (.aload_n 0, 1) := dr_42  pk_decb_137.2.2.2.2.2.2.2.2.2.2.2.2.2.2.2.2.2.1
theorem dX8_weight_78 : decode cX8_weight 78 = .ok (.aload_n 3, 1) := dr_45  pk_decb_137.2.2.2.2.2.2.2.2.2.2.2.2.2.2.2.2.2.2.1
theorem dX8_weight_79 : decode cX8_weight 79 = .ok (.iload_n 2, 1) := dr_28  pk_decb_137.2.2.2.2.2.2.2.2.2.2.2.2.2.2.2.2.2.2.2.1
theorem dX8_weight_80 : decode cX8_weight 80 = .ok (.invokevirtual 213, 3) := dr_182 0 213  pk_decb_137.2.2.2.2.2.2.2.2.2.2.2.2.2.2.2.2.2.2.2.2.1
theorem dX8_weight_83 : decode cX8_weight 83 = .ok (.ireturn, 1) := dr_172  pk_decb_137.2.2.2.2.2.2.2.2.2.2.2.2.2.2.2.2.2.2.2.2.2.1
theorem dX8_weight_84 : decode cX8_weight 84 = .ok (.aload_n 0, 1) := dr_42  pk_decb_137.2.2.2.2.2.2.2.2.2.2.2.2.2.2.2.2.2.2.2.2.2.2.1
theorem dX8_weight_85 : decode cX8_weight 85 = .ok (.aload_n 3, 1) := dr_45  pk_decb_137.2.2.2.2.2.2.2.2.2.2.2.2.2.2.2.2.2.2.2.2.2.2.2.1
theorem dX8_weight_86 : decode cX8_weight 86 = .ok (.invokevirtual 216, 3) := dr_182 0 216  pk_decb_137.2.2.2.2.2.2.2.2.2.2.2.2.2.2.2.2.2.2.2.2.2.2.2.2.1
theorem dX8_weight_89 : decode cX8_weight 89 = .ok (.ireturn, 1) := dr_172  pk_decb_137.2.2.2.2.2.2.2.2.2.2.2.2.2.2.2.2.2.2.2.2.2.2.2.2.2.1
theorem dX8_weight_90 : decode cX8_weight 90 = .ok (.iconst (-1), 1) := dr_2  pk_decb_137.2.2.2.2.2.2.2.2.2.2.2.2.2.2.2.2.2.2.2.2.2.2.2.2.2.2.1
theorem dX8_weight_91 : decode cX8_weight 91 = .ok (.ireturn, 1) := dr_172  pk_decb_137.2.2.2.2.2.2.2.2.2.2.2.2.2.2.2.2.2.2.2.2.2.2.2.2.2.2.2
set_option maxRecDepth 20000 in
theorem pk_decb_138 : (bq cX8_count 0 27 = true) := by decide +kernel
theorem dX8_count_0 : decode cX8_count 0 = .ok (.iload_n 1, 1) := dr_27  pk_decb_138
theorem dX8_count_1 : decode cX8_count 1 = .ok (.tableswitch 70 0 4 #[35, 40, 48, 56, 61], 35) := by decide +kernel
set_option maxRecDepth 20000 in
theorem pk_decb_139 : (bq cX8_count 36 42 = true) ∧ ((bq cX8_count 37 180 && bq cX8_count (37 + 1) 0 && bq cX8_count (37 + 2) 26 && (0 * 256 + 26 == 26)) = true) ∧ (bq cX8_count 40 172 = true) ∧ (bq cX8_count 41 42 = true) ∧ ((bq cX8_count 42 180 && bq cX8_count (42 + 1) 0 && bq cX8_count (42 + 2) 59 && (0 * 256 + 59 == 59)) = true) ∧ ((bq cX8_count 45 180 && bq cX8_count (45 + 1) 0 && bq cX8_count (45 + 2) 219 && (0 * 256 + 219 == 219)) = true) ∧ (bq cX8_count 48 172 = true) ∧ (bq cX8_count 49 42 = true) ∧ ((bq cX8_count 50 180 && bq cX8_count (50 + 1) 0 && bq cX8_count (50 + 2) 10 && (0 * 256 + 10 == 10)) = true) ∧ ((bq cX8_count 53 180 && bq cX8_count (53 + 1) 0 && bq cX8_count (53 + 2) 67 && (0 * 256 + 67 == 67)) = true) ∧ (bq cX8_count 56 172 = true) ∧ (bq cX8_count 57 42 = true) ∧ ((bq cX8_count 58 182 && bq cX8_count (58 + 1) 0 && bq cX8_count (58 + 2) 222 && (0 * 256 + 222 == 222)) = true) ∧ (bq cX8_count 61 172 = true) ∧ (bq cX8_count 62 42 = true) ∧ (bq cX8_count 63 42 = true) ∧ ((bq cX8_count 64 182 && bq cX8_count (64 + 1) 0 && bq cX8_count (64 + 2) 158 && (0 * 256 + 158 == 158)) = true) ∧ ((bq cX8_count 67 182 && bq cX8_count (67 + 1) 0 && bq cX8_count (67 + 2) 225 && (0 * 256 + 225 == 225)) = true) ∧ (bq cX8_count 70 172 = true) ∧ (bq cX8_count 71 2 = true) ∧ (bq cX8_count 72 172 = true) := by decide +kernel
theorem dX8_count_36 : decode cX8_count 36 = .ok (.aload_n 0, 1) := dr_42  pk_decb_139.1
theorem dX8_count_37 : decode cX8_count 37 = .ok (.getfield 26, 3) := dr_180 0 26  pk_decb_139.2.1
theorem dX8_count_40 : decode cX8_count 40 = .ok (.ireturn, 1) := dr_172  pk_decb_139.2.2.1
theorem dX8_count_41 : decode cX8_count 41 = .ok (.aload_n 0, 1) := dr_42  pk_decb_139.2.2.2.1
theorem dX8_count_42 : decode cX8_count 42 = .ok (.getfield 59, 3) := dr_180 0 59  pk_decb_139.2.2.2.2.1
theorem dX8_count_45 : decode cX8_count 45 = .ok (.getfield 219, 3) := dr_180 0 219  pk_decb_139.2.2.2.2.2.1
theorem dX8_count_48 : decode cX8_count 48 = .ok (.ireturn, 1) := dr_172  pk_decb_139.2.2.2.2.2.2.1
theorem dX8_count_49 : decode cX8_count 49 = .ok (.aload_n 0, 1) := dr_42  pk_decb_139.2.2.2.2.2.2.2.1
theorem dX8_count_50 : decode cX8_count 50 = .ok (.getfield 10, 3) := dr_180 0 10  pk_decb_139.2.2.2.2.2.2.2.2.1
theorem dX8_count_53 : decode cX8_count 53 = .ok (.getfield 67, 3) := dr_180 0 67  pk_decb_139.2.2.2.2.2.2.2.2.2.1
theorem dX8_count_56 : decode cX8_count 56 = .ok (.ireturn, 1) := dr_172  pk_decb_139.2.2.2.2.2.2.2.2.2.2.1
theorem dX8_count_57 : decode cX8_count 57 = .ok (.aload_n 0, 1) := dr_42  pk_decb_139.2.2.2.2.2.2.2.2.2.2.2.1
theorem dX8_count_58 : decode cX8_count 58 = .ok (.invokevirtual 222, 3) := dr_182 0 222  pk_decb_139.2.2.2.2.2.2.2.2.2.2.2.2.1
theorem dX8_count_61 : decode cX8_count 61 = .ok (.ireturn, 1) := dr_172  pk_decb_139.2.2.2.2.2.2.2.2.2.2.2.2.2.1
theorem dX8_count_62 : decode cX8_count 62 = .ok (.aload_n 0, 1) := dr_42  pk_decb_139.2.2.2.2.2.2.2.2.2.2.2.2.2.2.1
theorem dX8_count_63 : decode cX8_count 63 = .ok (.aload_n 0, 1) := dr_42  pk_decb_139.2.2.2.2.2.2.2.2.2.2.2.2.2.2.2.1
theorem dX8_count_64 : decode cX8_count 64 = .ok (.invokevirtual 158, 3) := dr_182 0 158  pk_decb_139.2.2.2.2.2.2.2.2.2.2.2.2.2.2.2.2.1
theorem dX8_count_67 : decode cX8_count 67 = .ok (.invokevirtual 225, 3) := dr_182 0 225  pk_decb_139.2.2.2.2.2.2.2.2.2.2.2.2.2.2.2.2.2.1
theorem dX8_count_70 : decode cX8_count 70 = .ok (.ireturn, 1) := dr_172  pk_decb_139.2.2.2.2.2.2.2.2.2.2.2.2.2.2.2.2.2.2.1
theorem dX8_count_71 : decode cX8_count 71 = .ok (.iconst (-1), 1) := dr_2  pk_decb_139.2.2.2.2.2.2.2.2.2.2.2.2.2.2.2.2.2.2.2.1
theorem dX8_count_72 : decode cX8_count 72 = .ok (.ireturn, 1) := dr_172  pk_decb_139.2.2.2.2.2.2.2.2.2.2.2.2.2.2.2.2.2.2.2.2
set_option maxRecDepth 20000 in
theorem pk_decb_140 : (bq cX8_trace 0 42 = true) ∧ ((bq cX8_trace 1 180 && bq cX8_trace (1 + 1) 0 && bq cX8_trace (1 + 2) 63 && (0 * 256 + 63 == 63)) = true) ∧ (bq cX8_trace 4 173 = true) := by decide +kernel
theorem dX8_trace_0 : decode cX8_trace 0 = .ok (.aload_n 0, 1) := dr_42  pk_decb_140.1
theorem dX8_trace_1 : decode cX8_trace 1 = .ok (.getfield 63, 3) := dr_180 0 63  pk_decb_140.2.1
theorem dX8_trace_4 : decode cX8_trace 4 = .ok (.lreturn, 1) := dr_173  pk_decb_140.2.2
set_option maxRecDepth 20000 in
theorem pk_decb_141 : (bq cX8_textAt 0 27 = true) ∧ ((bq cX8_textAt 1 155 && bq cX8_textAt (1 + 1) 0 && bq cX8_textAt (1 + 2) 9 && (Reader.signed 16 (0 * 256 + 9) == 9)) = true) ∧ (bq cX8_textAt 4 27 = true) ∧ ((bq cX8_textAt 5 16 && bq cX8_textAt (5 + 1) 8 && (Reader.signed 8 8 == 8)) = true) ∧ ((bq cX8_textAt 7 161 && bq cX8_textAt (7 + 1) 0 && bq cX8_textAt (7 + 2) 7 && (Reader.signed 16 (0 * 256 + 7) == 7)) = true) ∧ (bq cX8_textAt 10 1 = true) ∧ ((bq cX8_textAt 11 167 && bq cX8_textAt (11 + 1) 0 && bq cX8_textAt (11 + 2) 9 && (Reader.signed 16 (0 * 256 + 9) == 9)) = true) ∧ (bq cX8_textAt 14 42 = true) ∧ ((bq cX8_textAt 15 180 && bq cX8_textAt (15 + 1) 0 && bq cX8_textAt (15 + 2) 16 && (0 * 256 + 16 == 16)) = true) ∧ (bq cX8_textAt 18 27 = true) ∧ (bq cX8_textAt 19 50 = true) ∧ (bq cX8_textAt 20 176 = true) := by decide +kernel
theorem dX8_textAt_0 : decode cX8_textAt 0 = .ok (.iload_n 1, 1) := dr_27  pk_decb_141.1
theorem dX8_textAt_1 : decode cX8_textAt 1 = .ok (.ifCond .lt 9, 3) := dr_155 0 9  pk_decb_141.2.1
theorem dX8_textAt_4 : decode cX8_textAt 4 = .ok (.iload_n 1, 1) := dr_27  pk_decb_141.2.2.1
theorem dX8_textAt_5 : decode cX8_textAt 5 = .ok (.bipush 8, 2) := dr_16 8  pk_decb_141.2.2.2.1
theorem dX8_textAt_7 : decode cX8_textAt 7 = .ok (.if_icmp .lt 7, 3) := dr_161 0 7  pk_decb_141.2.2.2.2.1
theorem dX8_textAt_10 : decode cX8_textAt 10 = .ok (.aconst_null, 1) := dr_1  pk_decb_141.2.2.2.2.2.1
theorem dX8_textAt_11 : decode cX8_textAt 11 = .ok (.goto 9, 3) := dr_167 0 9  pk_decb_141.2.2.2.2.2.2.1
theorem dX8_textAt_14 : decode cX8_textAt 14 = .ok (.aload_n 0, 1) := dr_42  pk_decb_141.2.2.2.2.2.2.2.1
theorem dX8_textAt_15 : decode cX8_textAt 15 = .ok (.getfield 16, 3) := dr_180 0 16  pk_decb_141.2.2.2.2.2.2.2.2.1
theorem dX8_textAt_18 : decode cX8_textAt 18 = .ok (.iload_n 1, 1) := dr_27  pk_decb_141.2.2.2.2.2.2.2.2.2.1
theorem dX8_textAt_19 : decode cX8_textAt 19 = .ok (.aaload, 1) := dr_50  pk_decb_141.2.2.2.2.2.2.2.2.2.2.1
theorem dX8_textAt_20 : decode cX8_textAt 20 = .ok (.areturn, 1) := dr_176  pk_decb_141.2.2.2.2.2.2.2.2.2.2.2
set_option maxRecDepth 20000 in
theorem pk_decb_142 : (bq cX8_toolAt 0 27 = true) ∧ ((bq cX8_toolAt 1 155 && bq cX8_toolAt (1 + 1) 0 && bq cX8_toolAt (1 + 2) 17 && (Reader.signed 16 (0 * 256 + 17) == 17)) = true) ∧ (bq cX8_toolAt 4 27 = true) ∧ (bq cX8_toolAt 5 42 = true) ∧ ((bq cX8_toolAt 6 180 && bq cX8_toolAt (6 + 1) 0 && bq cX8_toolAt (6 + 2) 26 && (0 * 256 + 26 == 26)) = true) ∧ ((bq cX8_toolAt 9 162 && bq cX8_toolAt (9 + 1) 0 && bq cX8_toolAt (9 + 2) 9 && (Reader.signed 16 (0 * 256 + 9) == 9)) = true) ∧ (bq cX8_toolAt 12 27 = true) ∧ ((bq cX8_toolAt 13 16 && bq cX8_toolAt (13 + 1) 12 && (Reader.signed 8 12 == 12)) = true) ∧ ((bq cX8_toolAt 15 161 && bq cX8_toolAt (15 + 1) 0 && bq cX8_toolAt (15 + 2) 7 && (Reader.signed 16 (0 * 256 + 7) == 7)) = true) ∧ (bq cX8_toolAt 18 1 = true) ∧ ((bq cX8_toolAt 19 167 && bq cX8_toolAt (19 + 1) 0 && bq cX8_toolAt (19 + 2) 9 && (Reader.signed 16 (0 * 256 + 9) == 9)) = true) ∧ (bq cX8_toolAt 22 42 = true) ∧ ((bq cX8_toolAt 23 180 && bq cX8_toolAt (23 + 1) 0 && bq cX8_toolAt (23 + 2) 22 && (0 * 256 + 22 == 22)) = true) ∧ (bq cX8_toolAt 26 27 = true) ∧ (bq cX8_toolAt 27 50 = true) ∧ (bq cX8_toolAt 28 176 = true) := by decide +kernel
theorem dX8_toolAt_0 : decode cX8_toolAt 0 = .ok (.iload_n 1, 1) := dr_27  pk_decb_142.1
theorem dX8_toolAt_1 : decode cX8_toolAt 1 = .ok (.ifCond .lt 17, 3) := dr_155 0 17  pk_decb_142.2.1
theorem dX8_toolAt_4 : decode cX8_toolAt 4 = .ok (.iload_n 1, 1) := dr_27  pk_decb_142.2.2.1
theorem dX8_toolAt_5 : decode cX8_toolAt 5 = .ok (.aload_n 0, 1) := dr_42  pk_decb_142.2.2.2.1
theorem dX8_toolAt_6 : decode cX8_toolAt 6 = .ok (.getfield 26, 3) := dr_180 0 26  pk_decb_142.2.2.2.2.1
theorem dX8_toolAt_9 : decode cX8_toolAt 9 = .ok (.if_icmp .ge 9, 3) := dr_162 0 9  pk_decb_142.2.2.2.2.2.1
theorem dX8_toolAt_12 : decode cX8_toolAt 12 = .ok (.iload_n 1, 1) := dr_27  pk_decb_142.2.2.2.2.2.2.1
theorem dX8_toolAt_13 : decode cX8_toolAt 13 = .ok (.bipush 12, 2) := dr_16 12  pk_decb_142.2.2.2.2.2.2.2.1
theorem dX8_toolAt_15 : decode cX8_toolAt 15 = .ok (.if_icmp .lt 7, 3) := dr_161 0 7  pk_decb_142.2.2.2.2.2.2.2.2.1
theorem dX8_toolAt_18 : decode cX8_toolAt 18 = .ok (.aconst_null, 1) := dr_1  pk_decb_142.2.2.2.2.2.2.2.2.2.1
theorem dX8_toolAt_19 : decode cX8_toolAt 19 = .ok (.goto 9, 3) := dr_167 0 9  pk_decb_142.2.2.2.2.2.2.2.2.2.2.1
theorem dX8_toolAt_22 : decode cX8_toolAt 22 = .ok (.aload_n 0, 1) := dr_42  pk_decb_142.2.2.2.2.2.2.2.2.2.2.2.1
theorem dX8_toolAt_23 : decode cX8_toolAt 23 = .ok (.getfield 22, 3) := dr_180 0 22  pk_decb_142.2.2.2.2.2.2.2.2.2.2.2.2.1
theorem dX8_toolAt_26 : decode cX8_toolAt 26 = .ok (.iload_n 1, 1) := dr_27  pk_decb_142.2.2.2.2.2.2.2.2.2.2.2.2.2.1
theorem dX8_toolAt_27 : decode cX8_toolAt 27 = .ok (.aaload, 1) := dr_50  pk_decb_142.2.2.2.2.2.2.2.2.2.2.2.2.2.2.1
theorem dX8_toolAt_28 : decode cX8_toolAt 28 = .ok (.areturn, 1) := dr_176  pk_decb_142.2.2.2.2.2.2.2.2.2.2.2.2.2.2.2
set_option maxRecDepth 20000 in
theorem pk_decb_143 : (bq cX8_hasBit 0 26 = true) ∧ (bq cX8_hasBit 1 27 = true) ∧ (bq cX8_hasBit 2 122 = true) ∧ (bq cX8_hasBit 3 4 = true) ∧ (bq cX8_hasBit 4 126 = true) ∧ (bq cX8_hasBit 5 4 = true) ∧ ((bq cX8_hasBit 6 160 && bq cX8_hasBit (6 + 1) 0 && bq cX8_hasBit (6 + 2) 7 && (Reader.signed 16 (0 * 256 + 7) == 7)) = true) ∧ (bq cX8_hasBit 9 4 = true) ∧ ((bq cX8_hasBit 10 167 && bq cX8_hasBit (10 + 1) 0 && bq cX8_hasBit (10 + 2) 4 && (Reader.signed 16 (0 * 256 + 4) == 4)) = true) ∧ (bq cX8_hasBit 13 3 = true) ∧ (bq cX8_hasBit 14 172 = true) := by decide +kernel
theorem dX8_hasBit_0 : decode cX8_hasBit 0 = .ok (.iload_n 0, 1) := dr_26  pk_decb_143.1
theorem dX8_hasBit_1 : decode cX8_hasBit 1 = .ok (.iload_n 1, 1) := dr_27  pk_decb_143.2.1
theorem dX8_hasBit_2 : decode cX8_hasBit 2 = .ok (.ishr, 1) := dr_122  pk_decb_143.2.2.1
theorem dX8_hasBit_3 : decode cX8_hasBit 3 = .ok (.iconst 1, 1) := dr_4  pk_decb_143.2.2.2.1
theorem dX8_hasBit_4 : decode cX8_hasBit 4 = .ok (.iand, 1) := dr_126  pk_decb_143.2.2.2.2.1
theorem dX8_hasBit_5 : decode cX8_hasBit 5 = .ok (.iconst 1, 1) := dr_4  pk_decb_143.2.2.2.2.2.1
theorem dX8_hasBit_6 : decode cX8_hasBit 6 = .ok (.if_icmp .ne 7, 3) := dr_160 0 7  pk_decb_143.2.2.2.2.2.2.1
theorem dX8_hasBit_9 : decode cX8_hasBit 9 = .ok (.iconst 1, 1) := dr_4  pk_decb_143.2.2.2.2.2.2.2.1
theorem dX8_hasBit_10 : decode cX8_hasBit 10 = .ok (.goto 4, 3) := dr_167 0 4  pk_decb_143.2.2.2.2.2.2.2.2.1
theorem dX8_hasBit_13 : decode cX8_hasBit 13 = .ok (.iconst 0, 1) := dr_3  pk_decb_143.2.2.2.2.2.2.2.2.2.1
theorem dX8_hasBit_14 : decode cX8_hasBit 14 = .ok (.ireturn, 1) := dr_172  pk_decb_143.2.2.2.2.2.2.2.2.2.2
set_option maxRecDepth 20000 in
theorem pk_decb_144 : (bq cX8_make 0 42 = true) ∧ (bq cX8_make 1 28 = true) ∧ ((bq cX8_make 2 182 && bq cX8_make (2 + 1) 0 && bq cX8_make (2 + 2) 74 && (0 * 256 + 74 == 74)) = true) ∧ (bq cX8_make 5 78 = true) ∧ (bq cX8_make 6 45 = true) ∧ ((bq cX8_make 7 199 && bq cX8_make (7 + 1) 0 && bq cX8_make (7 + 2) 5 && (Reader.signed 16 (0 * 256 + 5) == 5)) = true) ∧ (bq cX8_make 10 2 = true) ∧ (bq cX8_make 11 172 = true) ∧ (bq cX8_make 12 42 = true) ∧ (bq cX8_make 13 27 = true) ∧ ((bq cX8_make 14 182 && bq cX8_make (14 + 1) 0 && bq cX8_make (14 + 2) 228 && (0 * 256 + 228 == 228)) = true) ∧ ((bq cX8_make 17 58 && bq cX8_make (17 + 1) 4) = true) ∧ ((bq cX8_make 19 25 && bq cX8_make (19 + 1) 4) = true) ∧ (bq cX8_make 21 45 = true) ∧ ((bq cX8_make 22 182 && bq cX8_make (22 + 1) 0 && bq cX8_make (22 + 2) 232 && (0 * 256 + 232 == 232)) = true) ∧ ((bq cX8_make 25 54 && bq cX8_make (25 + 1) 5) = true) ∧ ((bq cX8_make 27 21 && bq cX8_make (27 + 1) 5) = true) ∧ ((bq cX8_make 29 16 && bq cX8_make (29 + 1) 247 && (Reader.signed 8 247 == (-9))) = true) ∧ ((bq cX8_make 31 160 && bq cX8_make (31 + 1) 0 && bq cX8_make (31 + 2) 19 && (Reader.signed 16 (0 * 256 + 19) == 19)) = true) ∧ (bq cX8_make 34 42 = true) ∧ ((bq cX8_make 35 25 && bq cX8_make (35 + 1) 4) = true) ∧ ((bq cX8_make 37 180 && bq cX8_make (37 + 1) 0 && bq cX8_make (37 + 2) 238 && (0 * 256 + 238 == 238)) = true) ∧ (bq cX8_make 40 27 = true) ∧ (bq cX8_make 41 28 = true) ∧ ((bq cX8_make 42 16 && bq cX8_make (42 + 1) 247 && (Reader.signed 8 247 == (-9))) = true) ∧ ((bq cX8_make 44 182 && bq cX8_make (44 + 1) 0 && bq cX8_make (44 + 2) 105 && (0 * 256 + 105 == 105)) = true) ∧ ((bq cX8_make 47 167 && bq cX8_make (47 + 1) 0 && bq cX8_make (47 + 2) 8 && (Reader.signed 16 (0 * 256 + 8) == 8)) = true) ∧ ((bq cX8_make 50 16 && bq cX8_make (50 + 1) 246 && (Reader.signed 8 246 == (-10))) = true) ∧ ((bq cX8_make 52 21 && bq cX8_make (52 + 1) 5) = true) ∧ (bq cX8_make 54 100 = true) ∧ (bq cX8_make 55 172 = true) := by decide +kernel
theorem dX8_make_0 : decode cX8_make 0 = .ok (.aload_n 0, 1) := dr_42  pk_decb_144.1
theorem dX8_make_1 : decode cX8_make 1 = .ok (.iload_n 2, 1) := dr_28  pk_decb_144.2.1
theorem dX8_make_2 : decode cX8_make 2 = .ok (.invokevirtual 74, 3) := dr_182 0 74  pk_decb_144.2.2.1
theorem dX8_make_5 : decode cX8_make 5 = .ok (.astore_n 3, 1) := dr_78  pk_decb_144.2.2.2.1
theorem dX8_make_6 : decode cX8_make 6 = .ok (.aload_n 3, 1) := dr_45  pk_decb_144.2.2.2.2.1
theorem dX8_make_7 : decode cX8_make 7 = .ok (.ifnonnull 5, 3) := dr_199 0 5  pk_decb_144.2.2.2.2.2.1
theorem dX8_make_10 : decode cX8_make 10 = .ok (.iconst (-1), 1) := dr_2  pk_decb_144.2.2.2.2.2.2.1
theorem dX8_make_11 : decode cX8_make 11 = .ok (.ireturn, 1) := dr_172  pk_decb_144.2.2.2.2.2.2.2.1
theorem dX8_make_12 : decode cX8_make 12 = .ok (.aload_n 0, 1) := dr_42  pk_decb_144.2.2.2.2.2.2.2.2.1
theorem dX8_make_13 : decode cX8_make 13 = .ok (.iload_n 1, 1) := dr_27  pk_decb_144.2.2.2.2.2.2.2.2.2.1
theorem dX8_make_14 : decode cX8_make 14 = .ok (.invokevirtual 228, 3) := dr_182 0 228  pk_decb_144.2.2.2.2.2.2.2.2.2.2.1
theorem dX8_make_17 : decode cX8_make 17 = .ok (.astore 4, 2) := dr_58  pk_decb_144.2.2.2.2.2.2.2.2.2.2.2.1
theorem dX8_make_19 : decode cX8_make 19 = .ok (.aload 4, 2) := dr_25  pk_decb_144.2.2.2.2.2.2.2.2.2.2.2.2.1
theorem dX8_make_21 : decode cX8_make 21 = .ok (.aload_n 3, 1) := dr_45  pk_decb_144.2.2.2.2.2.2.2.2.2.2.2.2.2.1
theorem dX8_make_22 : decode cX8_make 22 = .ok (.invokevirtual 232, 3) := dr_182 0 232  pk_decb_144.2.2.2.2.2.2.2.2.2.2.2.2.2.2.1
theorem dX8_make_25 : decode cX8_make 25 = .ok (.istore 5, 2) := dr_54  pk_decb_144.2.2.2.2.2.2.2.2.2.2.2.2.2.2.2.1
theorem dX8_make_27 : decode cX8_make 27 = .ok (.iload 5, 2) := dr_21  pk_decb_144.2.2.2.2.2.2.2.2.2.2.2.2.2.2.2.2.1
theorem dX8_make_29 : decode cX8_make 29 = .ok (.bipush (-9), 2) := dr_16 247  pk_decb_144.2.2.2.2.2.2.2.2.2.2.2.2.2.2.2.2.2.1
theorem dX8_make_31 : decode cX8_make 31 = .ok (.if_icmp .ne 19, 3) := dr_160 0 19  pk_decb_144.2.2.2.2.2.2.2.2.2.2.2.2.2.2.2.2.2.2.1
theorem dX8_make_34 : decode cX8_make 34 = .ok (.aload_n 0, 1) := dr_42  pk_decb_144.2.2.2.2.2.2.2.2.2.2.2.2.2.2.2.2.2.2.2.1
theorem dX8_make_35 : decode cX8_make 35 = .ok (.aload 4, 2) := dr_25  pk_decb_144.2.2.2.2.2.2.2.2.2.2.2.2.2.2.2.2.2.2.2.2.1
theorem dX8_make_37 : decode cX8_make 37 = .ok (.getfield 238, 3) := dr_180 0 238  pk_decb_144.2.2.2.2.2.2.2.2.2.2.2.2.2.2.2.2.2.2.2.2.2.1
theorem dX8_make_40 : decode cX8_make 40 = .ok (.iload_n 1, 1) := dr_27  pk_decb_144.2.2.2.2.2.2.2.2.2.2.2.2.2.2.2.2.2.2.2.2.2.2.1
theorem dX8_make_41 : decode cX8_make 41 = .ok (.iload_n 2, 1) := dr_28  pk_decb_144.2.2.2.2.2.2.2.2.2.2.2.2.2.2.2.2.2.2.2.2.2.2.2.1
theorem dX8_make_42 : decode cX8_make 42 = .ok (.bipush (-9), 2) := dr_16 247  pk_decb_144.2.2.2.2.2.2.2.2.2.2.2.2.2.2.2.2.2.2.2.2.2.2.2.2.1
theorem dX8_make_44 : decode cX8_make 44 = .ok (.invokevirtual 105, 3) := dr_182 0 105  pk_decb_144.2.2.2.2.2.2.2.2.2.2.2.2.2.2.2.2.2.2.2.2.2.2.2.2.2.1
theorem dX8_make_47 : decode cX8_make 47 = .ok (.goto 8, 3) := dr_167 0 8  pk_decb_144.2.2.2.2.2.2.2.2.2.2.2.2.2.2.2.2.2.2.2.2.2.2.2.2.2.2.1
theorem dX8_make_50 : decode cX8_make 50 = .ok (.bipush (-10), 2) := dr_16 246  pk_decb_144.2.2.2.2.2.2.2.2.2.2.2.2.2.2.2.2.2.2.2.2.2.2.2.2.2.2.2.1
theorem dX8_make_52 : decode cX8_make 52 = .ok (.iload 5, 2) := dr_21  pk_decb_144.2.2.2.2.2.2.2.2.2.2.2.2.2.2.2.2.2.2.2.2.2.2.2.2.2.2.2.2.1
theorem dX8_make_54 : decode cX8_make 54 = .ok (.isub, 1) := dr_100  pk_decb_144.2.2.2.2.2.2.2.2.2.2.2.2.2.2.2.2.2.2.2.2.2.2.2.2.2.2.2.2.2.1
theorem dX8_make_55 : decode cX8_make 55 = .ok (.ireturn, 1) := dr_172  pk_decb_144.2.2.2.2.2.2.2.2.2.2.2.2.2.2.2.2.2.2.2.2.2.2.2.2.2.2.2.2.2.2
set_option maxRecDepth 20000 in
theorem pk_decb_145 : (bq cX8_makerBy 0 27 = true) ∧ ((bq cX8_makerBy 1 154 && bq cX8_makerBy (1 + 1) 0 && bq cX8_makerBy (1 + 2) 10 && (Reader.signed 16 (0 * 256 + 10) == 10)) = true) ∧ (bq cX8_makerBy 4 42 = true) ∧ ((bq cX8_makerBy 5 180 && bq cX8_makerBy (5 + 1) 0 && bq cX8_makerBy (5 + 2) 33 && (0 * 256 + 33 == 33)) = true) ∧ ((bq cX8_makerBy 8 167 && bq cX8_makerBy (8 + 1) 0 && bq cX8_makerBy (8 + 2) 7 && (Reader.signed 16 (0 * 256 + 7) == 7)) = true) ∧ (bq cX8_makerBy 11 42 = true) ∧ ((bq cX8_makerBy 12 180 && bq cX8_makerBy (12 + 1) 0 && bq cX8_makerBy (12 + 2) 40 && (0 * 256 + 40 == 40)) = true) ∧ (bq cX8_makerBy 15 176 = true) := by decide +kernel
theorem dX8_makerBy_0 : decode cX8_makerBy 0 = .ok (.iload_n 1, 1) := dr_27  pk_decb_145.1
theorem dX8_makerBy_1 : decode cX8_makerBy 1 = .ok (.ifCond .ne 10, 3) := dr_154 0 10  pk_decb_145.2.1
theorem dX8_makerBy_4 : decode cX8_makerBy 4 = .ok (.aload_n 0, 1) := dr_42  pk_decb_145.2.2.1
theorem dX8_makerBy_5 : decode cX8_makerBy 5 = .ok (.getfield 33, 3) := dr_180 0 33  pk_decb_145.2.2.2.1
theorem dX8_makerBy_8 : decode cX8_makerBy 8 = .ok (.goto 7, 3) := dr_167 0 7  pk_decb_145.2.2.2.2.1
theorem dX8_makerBy_11 : decode cX8_makerBy 11 = .ok (.aload_n 0, 1) := dr_42  pk_decb_145.2.2.2.2.2.1
theorem dX8_makerBy_12 : decode cX8_makerBy 12 = .ok (.getfield 40, 3) := dr_180 0 40  pk_decb_145.2.2.2.2.2.2.1
theorem dX8_makerBy_15 : decode cX8_makerBy 15 = .ok (.areturn, 1) := dr_176  pk_decb_145.2.2.2.2.2.2.2
set_option maxRecDepth 20000 in
theorem pk_decb_146 : (bq cX8_keep 0 42 = true) ∧ ((bq cX8_keep 1 180 && bq cX8_keep (1 + 1) 0 && bq cX8_keep (1 + 2) 26 && (0 * 256 + 26 == 26)) = true) ∧ ((bq cX8_keep 4 155 && bq cX8_keep (4 + 1) 0 && bq cX8_keep (4 + 2) 12 && (Reader.signed 16 (0 * 256 + 12) == 12)) = true) ∧ (bq cX8_keep 7 42 = true) ∧ ((bq cX8_keep 8 180 && bq cX8_keep (8 + 1) 0 && bq cX8_keep (8 + 2) 26 && (0 * 256 + 26 == 26)) = true) ∧ ((bq cX8_keep 11 16 && bq cX8_keep (11 + 1) 12 && (Reader.signed 8 12 == 12)) = true) ∧ ((bq cX8_keep 13 161 && bq cX8_keep (13 + 1) 0 && bq cX8_keep (13 + 2) 6 && (Reader.signed 16 (0 * 256 + 6) == 6)) = true) ∧ ((bq cX8_keep 16 16 && bq cX8_keep (16 + 1) 253 && (Reader.signed 8 253 == (-3))) = true) ∧ (bq cX8_keep 18 172 = true) ∧ (bq cX8_keep 19 42 = true) ∧ ((bq cX8_keep 20 180 && bq cX8_keep (20 + 1) 0 && bq cX8_keep (20 + 2) 22 && (0 * 256 + 22 == 22)) = true) ∧ (bq cX8_keep 23 42 = true) ∧ ((bq cX8_keep 24 180 && bq cX8_keep (24 + 1) 0 && bq cX8_keep (24 + 2) 26 && (0 * 256 + 26 == 26)) = true) ∧ ((bq cX8_keep 27 187 && bq cX8_keep (27 + 1) 0 && bq cX8_keep (27 + 2) 20 && (0 * 256 + 20 == 20)) = true) ∧ (bq cX8_keep 30 89 = true) ∧ (bq cX8_keep 31 43 = true) ∧ ((bq cX8_keep 32 182 && bq cX8_keep (32 + 1) 0 && bq cX8_keep (32 + 2) 241 && (0 * 256 + 241 == 241)) = true) ∧ (bq cX8_keep 35 28 = true) ∧ (bq cX8_keep 36 29 = true) ∧ ((bq cX8_keep 37 21 && bq cX8_keep (37 + 1) 4) = true) ∧ ((bq cX8_keep 39 183 && bq cX8_keep (39 + 1) 0 && bq cX8_keep (39 + 2) 245 && (0 * 256 + 245 == 245)) = true) ∧ (bq cX8_keep 42 83 = true) ∧ (bq cX8_keep 43 42 = true) ∧ (bq cX8_keep 44 89 = true) ∧ ((bq cX8_keep 45 180 && bq cX8_keep (45 + 1) 0 && bq cX8_keep (45 + 2) 26 && (0 * 256 + 26 == 26)) = true) ∧ (bq cX8_keep 48 4 = true) ∧ (bq cX8_keep 49 96 = true) ∧ ((bq cX8_keep 50 181 && bq cX8_keep (50 + 1) 0 && bq cX8_keep (50 + 2) 26 && (0 * 256 + 26 == 26)) = true) ∧ (bq cX8_keep 53 42 = true) ∧ ((bq cX8_keep 54 180 && bq cX8_keep (54 + 1) 0 && bq cX8_keep (54 + 2) 26 && (0 * 256 + 26 == 26)) = true) ∧ (bq cX8_keep 57 4 = true) ∧ (bq cX8_keep 58 100 = true) := by decide +kernel
theorem dX8_keep_0 : decode cX8_keep 0 = .ok (.aload_n 0, 1) := dr_42  pk_decb_146.1
theorem dX8_keep_1 : decode cX8_keep 1 = .ok (.getfield 26, 3) := dr_180 0 26  pk_decb_146.2.1
theorem dX8_keep_4 : decode cX8_keep 4 = .ok (.ifCond .lt 12, 3) := dr_155 0 12  pk_decb_146.2.2.1
theorem dX8_keep_7 : decode cX8_keep 7 = .ok (.aload_n 0, 1) := dr_42  pk_decb_146.2.2.2.1
theorem dX8_keep_8 : decode cX8_keep 8 = .ok (.getfield 26, 3) := dr_180 0 26  pk_decb_146.2.2.2.2.1
theorem dX8_keep_11 : decode cX8_keep 11 = .ok (.bipush 12, 2) := dr_16 12  pk_decb_146.2.2.2.2.2.1
theorem dX8_keep_13 : decode cX8_keep 13 = .ok (.if_icmp .lt 6, 3) := dr_161 0 6  pk_decb_146.2.2.2.2.2.2.1
theorem dX8_keep_16 : decode cX8_keep 16 = .ok (.bipush (-3), 2) := dr_16 253  pk_decb_146.2.2.2.2.2.2.2.1
theorem dX8_keep_18 : decode cX8_keep 18 = .ok (.ireturn, 1) := dr_172  pk_decb_146.2.2.2.2.2.2.2.2.1
theorem dX8_keep_19 : decode cX8_keep 19 = .ok (.aload_n 0, 1) := dr_42  pk_decb_146.2.2.2.2.2.2.2.2.2.1
theorem dX8_keep_20 : decode cX8_keep 20 = .ok (.getfield 22, 3) := dr_180 0 22  pk_decb_146.2.2.2.2.2.2.2.2.2.2.1
theorem dX8_keep_23 : decode cX8_keep 23 = .ok (.aload_n 0, 1) := dr_42  pk_decb_146.2.2.2.2.2.2.2.2.2.2.2.1
theorem dX8_keep_24 : decode cX8_keep 24 = .ok (.getfield 26, 3) := dr_180 0 26  pk_decb_146.2.2.2.2.2.2.2.2.2.2.2.2.1
theorem dX8_keep_27 : decode cX8_keep 27 = .ok (.new 20, 3) := dr_187 0 20  pk_decb_146.2.2.2.2.2.2.2.2.2.2.2.2.2.1
theorem dX8_keep_30 : decode cX8_keep 30 = .ok (.dup, 1) := dr_89  pk_decb_146.2.2.2.2.2.2.2.2.2.2.2.2.2.2.1
theorem dX8_keep_31 : decode cX8_keep 31 = .ok (.aload_n 1, 1) := dr_43  pk_decb_146.2.2.2.2.2.2.2.2.2.2.2.2.2.2.2.1
theorem dX8_keep_32 : decode cX8_keep 32 = .ok (.invokevirtual 241, 3) := dr_182 0 241  pk_decb_146.2.2.2.2.2.2.2.2.2.2.2.2.2.2.2.2.1
theorem dX8_keep_35 : decode cX8_keep 35 = .ok (.iload_n 2, 1) := dr_28  pk_decb_146.2.2.2.2.2.2.2.2.2.2.2.2.2.2.2.2.2.1
theorem dX8_keep_36 : decode cX8_keep 36 = .ok (.iload_n 3, 1) := dr_29  pk_decb_146.2.2.2.2.2.2.2.2.2.2.2.2.2.2.2.2.2.2.1
theorem dX8_keep_37 : decode cX8_keep 37 = .ok (.iload 4, 2) := dr_21  pk_decb_146.2.2.2.2.2.2.2.2.2.2.2.2.2.2.2.2.2.2.2.1
theorem dX8_keep_39 : decode cX8_keep 39 = .ok (.invokespecial 245, 3) := dr_183 0 245  pk_decb_146.2.2.2.2.2.2.2.2.2.2.2.2.2.2.2.2.2.2.2.2.1
theorem dX8_keep_42 : decode cX8_keep 42 = .ok (.aastore, 1) := dr_83  pk_decb_146.2.2.2.2.2.2.2.2.2.2.2.2.2.2.2.2.2.2.2.2.2.1
theorem dX8_keep_43 : decode cX8_keep 43 = .ok (.aload_n 0, 1) := dr_42  pk_decb_146.2.2.2.2.2.2.2.2.2.2.2.2.2.2.2.2.2.2.2.2.2.2.1
theorem dX8_keep_44 : decode cX8_keep 44 = .ok (.dup, 1) := dr_89  pk_decb_146.2.2.2.2.2.2.2.2.2.2.2.2.2.2.2.2.2.2.2.2.2.2.2.1
theorem dX8_keep_45 : decode cX8_keep 45 = .ok (.getfield 26, 3) := dr_180 0 26  pk_decb_146.2.2.2.2.2.2.2.2.2.2.2.2.2.2.2.2.2.2.2.2.2.2.2.2.1
theorem dX8_keep_48 : decode cX8_keep 48 = .ok (.iconst 1, 1) := dr_4  pk_decb_146.2.2.2.2.2.2.2.2.2.2.2.2.2.2.2.2.2.2.2.2.2.2.2.2.2.1
theorem dX8_keep_49 : decode cX8_keep 49 = .ok (.iadd, 1) := dr_96  pk_decb_146.2.2.2.2.2.2.2.2.2.2.2.2.2.2.2.2.2.2.2.2.2.2.2.2.2.2.1
theorem dX8_keep_50 : decode cX8_keep 50 = .ok (.putfield 26, 3) := dr_181 0 26  pk_decb_146.2.2.2.2.2.2.2.2.2.2.2.2.2.2.2.2.2.2.2.2.2.2.2.2.2.2.2.1
theorem dX8_keep_53 : decode cX8_keep 53 = .ok (.aload_n 0, 1) := dr_42  pk_decb_146.2.2.2.2.2.2.2.2.2.2.2.2.2.2.2.2.2.2.2.2.2.2.2.2.2.2.2.2.1
theorem dX8_keep_54 : decode cX8_keep 54 = .ok (.getfield 26, 3) := dr_180 0 26  pk_decb_146.2.2.2.2.2.2.2.2.2.2.2.2.2.2.2.2.2.2.2.2.2.2.2.2.2.2.2.2.2.1
theorem dX8_keep_57 : decode cX8_keep 57 = .ok (.iconst 1, 1) := dr_4  pk_decb_146.2.2.2.2.2.2.2.2.2.2.2.2.2.2.2.2.2.2.2.2.2.2.2.2.2.2.2.2.2.2.1
theorem dX8_keep_58 : decode cX8_keep 58 = .ok (.isub, 1) := dr_100  pk_decb_146.2.2.2.2.2.2.2.2.2.2.2.2.2.2.2.2.2.2.2.2.2.2.2.2.2.2.2.2.2.2.2
set_option maxRecDepth 20000 in
theorem pk_decb_147 : (bq cX8_keep 59 172 = true) := by decide +kernel
theorem dX8_keep_59 : decode cX8_keep 59 = .ok (.ireturn, 1) := dr_172  pk_decb_147
set_option maxRecDepth 20000 in
theorem pk_decb_148 : (bq cX8_madeAgain 0 42 = true) ∧ (bq cX8_madeAgain 1 43 = true) ∧ ((bq cX8_madeAgain 2 180 && bq cX8_madeAgain (2 + 1) 0 && bq cX8_madeAgain (2 + 2) 115 && (0 * 256 + 115 == 115)) = true) ∧ ((bq cX8_madeAgain 5 182 && bq cX8_madeAgain (5 + 1) 0 && bq cX8_madeAgain (5 + 2) 74 && (0 * 256 + 74 == 74)) = true) ∧ (bq cX8_madeAgain 8 77 = true) ∧ (bq cX8_madeAgain 9 44 = true) ∧ ((bq cX8_madeAgain 10 199 && bq cX8_madeAgain (10 + 1) 0 && bq cX8_madeAgain (10 + 2) 6 && (Reader.signed 16 (0 * 256 + 6) == 6)) = true) ∧ ((bq cX8_madeAgain 13 16 && bq cX8_madeAgain (13 + 1) 236 && (Reader.signed 8 236 == (-20))) = true) ∧ (bq cX8_madeAgain 15 172 = true) ∧ (bq cX8_madeAgain 16 43 = true) ∧ ((bq cX8_madeAgain 17 180 && bq cX8_madeAgain (17 + 1) 0 && bq cX8_madeAgain (17 + 2) 112 && (0 * 256 + 112 == 112)) = true) ∧ (bq cX8_madeAgain 20 5 = true) ∧ ((bq cX8_madeAgain 21 160 && bq cX8_madeAgain (21 + 1) 0 && bq cX8_madeAgain (21 + 2) 10 && (Reader.signed 16 (0 * 256 + 10) == 10)) = true) ∧ (bq cX8_madeAgain 24 42 = true) ∧ (bq cX8_madeAgain 25 43 = true) ∧ (bq cX8_madeAgain 26 44 = true) ∧ ((bq cX8_madeAgain 27 182 && bq cX8_madeAgain (27 + 1) 0 && bq cX8_madeAgain (27 + 2) 248 && (0 * 256 + 248 == 248)) = true) ∧ (bq cX8_madeAgain 30 172 = true) ∧ (bq cX8_madeAgain 31 42 = true) ∧ (bq cX8_madeAgain 32 43 = true) ∧ ((bq cX8_madeAgain 33 180 && bq cX8_madeAgain (33 + 1) 0 && bq cX8_madeAgain (33 + 2) 112 && (0 * 256 + 112 == 112)) = true) ∧ ((bq cX8_madeAgain 36 182 && bq cX8_madeAgain (36 + 1) 0 && bq cX8_madeAgain (36 + 2) 228 && (0 * 256 + 228 == 228)) = true) ∧ (bq cX8_madeAgain 39 78 = true) ∧ (bq cX8_madeAgain 40 45 = true) ∧ (bq cX8_madeAgain 41 44 = true) ∧ ((bq cX8_madeAgain 42 182 && bq cX8_madeAgain (42 + 1) 0 && bq cX8_madeAgain (42 + 2) 232 && (0 * 256 + 232 == 232)) = true) ∧ ((bq cX8_madeAgain 45 16 && bq cX8_madeAgain (45 + 1) 247 && (Reader.signed 8 247 == (-9))) = true) ∧ ((bq cX8_madeAgain 47 160 && bq cX8_madeAgain (47 + 1) 0 && bq cX8_madeAgain (47 + 2) 17 && (Reader.signed 16 (0 * 256 + 17) == 17)) = true) ∧ (bq cX8_madeAgain 50 43 = true) ∧ ((bq cX8_madeAgain 51 180 && bq cX8_madeAgain (51 + 1) 0 && bq cX8_madeAgain (51 + 2) 94 && (0 * 256 + 94 == 94)) = true) ∧ (bq cX8_madeAgain 54 45 = true) ∧ ((bq cX8_madeAgain 55 180 && bq cX8_madeAgain (55 + 1) 0 && bq cX8_madeAgain (55 + 2) 238 && (0 * 256 + 238 == 238)) = true) := by decide +kernel
theorem dX8_madeAgain_0 : decode cX8_madeAgain 0 = .ok (.aload_n 0, 1) := dr_42  pk_decb_148.1
theorem dX8_madeAgain_1 : decode cX8_madeAgain 1 = .ok (.aload_n 1, 1) := dr_43  pk_decb_148.2.1
theorem dX8_madeAgain_2 : decode cX8_madeAgain 2 = .ok (.getfield 115, 3) := dr_180 0 115  pk_decb_148.2.2.1
theorem dX8_madeAgain_5 : decode cX8_madeAgain 5 = .ok (.invokevirtual 74, 3) := dr_182 0 74  pk_decb_148.2.2.2.1
theorem dX8_madeAgain_8 : decode cX8_madeAgain 8 = .ok (.astore_n 2, 1) := dr_77  pk_decb_148.2.2.2.2.1
theorem dX8_madeAgain_9 : decode cX8_madeAgain 9 = .ok (.aload_n 2, 1) := dr_44  pk_decb_148.2.2.2.2.2.1
theorem dX8_madeAgain_10 : decode cX8_madeAgain 10 = .ok (.ifnonnull 6, 3) := dr_199 0 6  pk_decb_148.2.2.2.2.2.2.1
theorem dX8_madeAgain_16 : decode cX8_madeAgain 16 = .ok (.aload_n 1, 1) := dr_43  pk_decb_148.2.2.2.2.2.2.2.2.2.1
theorem dX8_madeAgain_17 : decode cX8_madeAgain 17 = .ok (.getfield 112, 3) := dr_180 0 112  pk_decb_148.2.2.2.2.2.2.2.2.2.2.1
theorem dX8_madeAgain_20 : decode cX8_madeAgain 20 = .ok (.iconst 2, 1) := dr_5  pk_decb_148.2.2.2.2.2.2.2.2.2.2.2.1
theorem dX8_madeAgain_21 : decode cX8_madeAgain 21 = .ok (.if_icmp .ne 10, 3) := dr_160 0 10  pk_decb_148.2.2.2.2.2.2.2.2.2.2.2.2.1
theorem dX8_madeAgain_24 : decode cX8_madeAgain 24 = .ok (.aload_n 0, 1) := dr_42  pk_decb_148.2.2.2.2.2.2.2.2.2.2.2.2.2.1
theorem dX8_madeAgain_25 : decode cX8_madeAgain 25 = .ok (.aload_n 1, 1) := dr_43  pk_decb_148.2.2.2.2.2.2.2.2.2.2.2.2.2.2.1
theorem dX8_madeAgain_26 : decode cX8_madeAgain 26 = .ok (.aload_n 2, 1) := dr_44  pk_decb_148.2.2.2.2.2.2.2.2.2.2.2.2.2.2.2.1
theorem dX8_madeAgain_27 : decode cX8_madeAgain 27 = .ok (.invokevirtual 248, 3) := dr_182 0 248  pk_decb_148.2.2.2.2.2.2.2.2.2.2.2.2.2.2.2.2.1
theorem dX8_madeAgain_30 : decode cX8_madeAgain 30 = .ok (.ireturn, 1) := dr_172  pk_decb_148.2.2.2.2.2.2.2.2.2.2.2.2.2.2.2.2.2.1
theorem dX8_madeAgain_31 : decode cX8_madeAgain 31 = .ok (.aload_n 0, 1) := dr_42  pk_decb_148.2.2.2.2.2.2.2.2.2.2.2.2.2.2.2.2.2.2.1
theorem dX8_madeAgain_32 : decode cX8_madeAgain 32 = .ok (.aload_n 1, 1) := dr_43  pk_decb_148.2.2.2.2.2.2.2.2.2.2.2.2.2.2.2.2.2.2.2.1
theorem dX8_madeAgain_33 : decode cX8_madeAgain 33 = .ok (.getfield 112, 3) := dr_180 0 112  pk_decb_148.2.2.2.2.2.2.2.2.2.2.2.2.2.2.2.2.2.2.2.2.1
theorem dX8_madeAgain_36 : decode cX8_madeAgain 36 = .ok (.invokevirtual 228, 3) := dr_182 0 228  pk_decb_148.2.2.2.2.2.2.2.2.2.2.2.2.2.2.2.2.2.2.2.2.2.1
theorem dX8_madeAgain_39 : decode cX8_madeAgain 39 = .ok (.astore_n 3, 1) := dr_78  pk_decb_148.2.2.2.2.2.2.2.2.2.2.2.2.2.2.2.2.2.2.2.2.2.2.1
theorem dX8_madeAgain_40 : decode cX8_madeAgain 40 = .ok (.aload_n 3, 1) := dr_45  pk_decb_148.2.2.2.2.2.2.2.2.2.2.2.2.2.2.2.2.2.2.2.2.2.2.2.1
theorem dX8_madeAgain_41 : decode cX8_madeAgain 41 = .ok (.aload_n 2, 1) := dr_44  pk_decb_148.2.2.2.2.2.2.2.2.2.2.2.2.2.2.2.2.2.2.2.2.2.2.2.2.1
theorem dX8_madeAgain_42 : decode cX8_madeAgain 42 = .ok (.invokevirtual 232, 3) := dr_182 0 232  pk_decb_148.2.2.2.2.2.2.2.2.2.2.2.2.2.2.2.2.2.2.2.2.2.2.2.2.2.1
theorem dX8_madeAgain_45 : decode cX8_madeAgain 45 = .ok (.bipush (-9), 2) := dr_16 247  pk_decb_148.2.2.2.2.2.2.2.2.2.2.2.2.2.2.2.2.2.2.2.2.2.2.2.2.2.2.1
theorem dX8_madeAgain_47 : decode cX8_madeAgain 47 = .ok (.if_icmp .ne 17, 3) := dr_160 0 17  pk_decb_148.2.2.2.2.2.2.2.2.2.2.2.2.2.2.2.2.2.2.2.2.2.2.2.2.2.2.2.1
theorem dX8_madeAgain_50 : decode cX8_madeAgain 50 = .ok (.aload_n 1, 1) := dr_43  pk_decb_148.2.2.2.2.2.2.2.2.2.2.2.2.2.2.2.2.2.2.2.2.2.2.2.2.2.2.2.2.1
theorem dX8_madeAgain_51 : decode cX8_madeAgain 51 = .ok (.getfield 94, 3) := dr_180 0 94  pk_decb_148.2.2.2.2.2.2.2.2.2.2.2.2.2.2.2.2.2.2.2.2.2.2.2.2.2.2.2.2.2.1
theorem dX8_madeAgain_54 : decode cX8_madeAgain 54 = .ok (.aload_n 3, 1) := dr_45  pk_decb_148.2.2.2.2.2.2.2.2.2.2.2.2.2.2.2.2.2.2.2.2.2.2.2.2.2.2.2.2.2.2.1
theorem dX8_madeAgain_55 : decode cX8_madeAgain 55 = .ok (.getfield 238, 3) := dr_180 0 238  pk_decb_148.2.2.2.2.2.2.2.2.2.2.2.2.2.2.2.2.2.2.2.2.2.2.2.2.2.2.2.2.2.2.2
set_option maxRecDepth 20000 in
theorem pk_decb_149 : ((bq cX8_madeAgain 58 182 && bq cX8_madeAgain (58 + 1) 0 && bq cX8_madeAgain (58 + 2) 162 && (0 * 256 + 162 == 162)) = true) ∧ ((bq cX8_madeAgain 61 167 && bq cX8_madeAgain (61 + 1) 0 && bq cX8_madeAgain (61 + 2) 5 && (Reader.signed 16 (0 * 256 + 5) == 5)) = true) ∧ ((bq cX8_madeAgain 64 16 && bq cX8_madeAgain (64 + 1) 236 && (Reader.signed 8 236 == (-20))) = true) ∧ (bq cX8_madeAgain 66 172 = true) := by decide +kernel
theorem dX8_madeAgain_58 : decode cX8_madeAgain 58 = .ok (.invokevirtual 162, 3) := dr_182 0 162  pk_decb_149.1
theorem dX8_madeAgain_61 : decode cX8_madeAgain 61 = .ok (.goto 5, 3) := dr_167 0 5  pk_decb_149.2.1
theorem dX8_madeAgain_64 : decode cX8_madeAgain 64 = .ok (.bipush (-20), 2) := dr_16 236  pk_decb_149.2.2.1
theorem dX8_madeAgain_66 : decode cX8_madeAgain 66 = .ok (.ireturn, 1) := dr_172  pk_decb_149.2.2.2
set_option maxRecDepth 20000 in
theorem pk_decb_150 : (bq cX8_builtAgain 0 42 = true) ∧ (bq cX8_builtAgain 1 43 = true) ∧ ((bq cX8_builtAgain 2 180 && bq cX8_builtAgain (2 + 1) 0 && bq cX8_builtAgain (2 + 2) 118 && (0 * 256 + 118 == 118)) = true) ∧ ((bq cX8_builtAgain 5 182 && bq cX8_builtAgain (5 + 1) 0 && bq cX8_builtAgain (5 + 2) 90 && (0 * 256 + 90 == 90)) = true) ∧ (bq cX8_builtAgain 8 78 = true) ∧ (bq cX8_builtAgain 9 45 = true) ∧ ((bq cX8_builtAgain 10 199 && bq cX8_builtAgain (10 + 1) 0 && bq cX8_builtAgain (10 + 2) 6 && (Reader.signed 16 (0 * 256 + 6) == 6)) = true) ∧ ((bq cX8_builtAgain 13 16 && bq cX8_builtAgain (13 + 1) 236 && (Reader.signed 8 236 == (-20))) = true) ∧ (bq cX8_builtAgain 15 172 = true) ∧ (bq cX8_builtAgain 16 42 = true) ∧ ((bq cX8_builtAgain 17 180 && bq cX8_builtAgain (17 + 1) 0 && bq cX8_builtAgain (17 + 2) 50 && (0 * 256 + 50 == 50)) = true) ∧ (bq cX8_builtAgain 20 45 = true) ∧ ((bq cX8_builtAgain 21 180 && bq cX8_builtAgain (21 + 1) 0 && bq cX8_builtAgain (21 + 2) 94 && (0 * 256 + 94 == 94)) = true) ∧ (bq cX8_builtAgain 24 44 = true) ∧ ((bq cX8_builtAgain 25 182 && bq cX8_builtAgain (25 + 1) 0 && bq cX8_builtAgain (25 + 2) 129 && (0 * 256 + 129 == 129)) = true) ∧ (bq cX8_builtAgain 28 42 = true) ∧ ((bq cX8_builtAgain 29 180 && bq cX8_builtAgain (29 + 1) 0 && bq cX8_builtAgain (29 + 2) 50 && (0 * 256 + 50 == 50)) = true) ∧ ((bq cX8_builtAgain 32 180 && bq cX8_builtAgain (32 + 1) 0 && bq cX8_builtAgain (32 + 2) 133 && (0 * 256 + 133 == 133)) = true) ∧ ((bq cX8_builtAgain 35 153 && bq cX8_builtAgain (35 + 1) 0 && bq cX8_builtAgain (35 + 2) 14 && (Reader.signed 16 (0 * 256 + 14) == 14)) = true) ∧ ((bq cX8_builtAgain 38 16 && bq cX8_builtAgain (38 + 1) 246 && (Reader.signed 8 246 == (-10))) = true) ∧ (bq cX8_builtAgain 40 42 = true) ∧ ((bq cX8_builtAgain 41 180 && bq cX8_builtAgain (41 + 1) 0 && bq cX8_builtAgain (41 + 2) 50 && (0 * 256 + 50 == 50)) = true) ∧ ((bq cX8_builtAgain 44 180 && bq cX8_builtAgain (44 + 1) 0 && bq cX8_builtAgain (44 + 2) 133 && (0 * 256 + 133 == 133)) = true) ∧ (bq cX8_builtAgain 47 100 = true) ∧ (bq cX8_builtAgain 48 172 = true) ∧ (bq cX8_builtAgain 49 42 = true) ∧ ((bq cX8_builtAgain 50 180 && bq cX8_builtAgain (50 + 1) 0 && bq cX8_builtAgain (50 + 2) 50 && (0 * 256 + 50 == 50)) = true) ∧ ((bq cX8_builtAgain 53 180 && bq cX8_builtAgain (53 + 1) 0 && bq cX8_builtAgain (53 + 2) 102 && (0 * 256 + 102 == 102)) = true) ∧ ((bq cX8_builtAgain 56 180 && bq cX8_builtAgain (56 + 1) 0 && bq cX8_builtAgain (56 + 2) 109 && (0 * 256 + 109 == 109)) = true) ∧ ((bq cX8_builtAgain 59 154 && bq cX8_builtAgain (59 + 1) 0 && bq cX8_builtAgain (59 + 2) 8 && (Reader.signed 16 (0 * 256 + 8) == 8)) = true) ∧ ((bq cX8_builtAgain 62 16 && bq cX8_builtAgain (62 + 1) 236 && (Reader.signed 8 236 == (-20))) = true) ∧ ((bq cX8_builtAgain 64 167 && bq cX8_builtAgain (64 + 1) 0 && bq cX8_builtAgain (64 + 2) 17 && (Reader.signed 16 (0 * 256 + 17) == 17)) = true) := by decide +kernel
theorem dX8_builtAgain_0 : decode cX8_builtAgain 0 = .ok (.aload_n 0, 1) := dr_42  pk_decb_150.1
theorem dX8_builtAgain_1 : decode cX8_builtAgain 1 = .ok (.aload_n 1, 1) := dr_43  pk_decb_150.2.1
theorem dX8_builtAgain_2 : decode cX8_builtAgain 2 = .ok (.getfield 118, 3) := dr_180 0 118  pk_decb_150.2.2.1
theorem dX8_builtAgain_5 : decode cX8_builtAgain 5 = .ok (.invokevirtual 90, 3) := dr_182 0 90  pk_decb_150.2.2.2.1
theorem dX8_builtAgain_8 : decode cX8_builtAgain 8 = .ok (.astore_n 3, 1) := dr_78  pk_decb_150.2.2.2.2.1
theorem dX8_builtAgain_9 : decode cX8_builtAgain 9 = .ok (.aload_n 3, 1) := dr_45  pk_decb_150.2.2.2.2.2.1
theorem dX8_builtAgain_10 : decode cX8_builtAgain 10 = .ok (.ifnonnull 6, 3) := dr_199 0 6  pk_decb_150.2.2.2.2.2.2.1
theorem dX8_builtAgain_13 : decode cX8_builtAgain 13 = .ok (.bipush (-20), 2) := dr_16 236  pk_decb_150.2.2.2.2.2.2.2.1
theorem dX8_builtAgain_15 : decode cX8_builtAgain 15 = .ok (.ireturn, 1) := dr_172  pk_decb_150.2.2.2.2.2.2.2.2.1
theorem dX8_builtAgain_16 : decode cX8_builtAgain 16 = .ok (.aload_n 0, 1) := dr_42  pk_decb_150.2.2.2.2.2.2.2.2.2.1
theorem dX8_builtAgain_17 : decode cX8_builtAgain 17 = .ok (.getfield 50, 3) := dr_180 0 50  pk_decb_150.2.2.2.2.2.2.2.2.2.2.1
theorem dX8_builtAgain_20 : decode cX8_builtAgain 20 = .ok (.aload_n 3, 1) := dr_45  pk_decb_150.2.2.2.2.2.2.2.2.2.2.2.1
theorem dX8_builtAgain_21 : decode cX8_builtAgain 21 = .ok (.getfield 94, 3) := dr_180 0 94  pk_decb_150.2.2.2.2.2.2.2.2.2.2.2.2.1
theorem dX8_builtAgain_24 : decode cX8_builtAgain 24 = .ok (.aload_n 2, 1) := dr_44  pk_decb_150.2.2.2.2.2.2.2.2.2.2.2.2.2.1
theorem dX8_builtAgain_25 : decode cX8_builtAgain 25 = .ok (.invokevirtual 129, 3) := dr_182 0 129  pk_decb_150.2.2.2.2.2.2.2.2.2.2.2.2.2.2.1
theorem dX8_builtAgain_28 : decode cX8_builtAgain 28 = .ok (.aload_n 0, 1) := dr_42  pk_decb_150.2.2.2.2.2.2.2.2.2.2.2.2.2.2.2.1
theorem dX8_builtAgain_29 : decode cX8_builtAgain 29 = .ok (.getfield 50, 3) := dr_180 0 50  pk_decb_150.2.2.2.2.2.2.2.2.2.2.2.2.2.2.2.2.1
theorem dX8_builtAgain_32 : decode cX8_builtAgain 32 = .ok (.getfield 133, 3) := dr_180 0 133  pk_decb_150.2.2.2.2.2.2.2.2.2.2.2.2.2.2.2.2.2.1
theorem dX8_builtAgain_35 : decode cX8_builtAgain 35 = .ok (.ifCond .eq 14, 3) := dr_153 0 14  pk_decb_150.2.2.2.2.2.2.2.2.2.2.2.2.2.2.2.2.2.2.1
theorem dX8_builtAgain_38 : decode cX8_builtAgain 38 = .ok (.bipush (-10), 2) := dr_16 246  pk_decb_150.2.2.2.2.2.2.2.2.2.2.2.2.2.2.2.2.2.2.2.1
theorem dX8_builtAgain_40 : decode cX8_builtAgain 40 = .ok (.aload_n 0, 1) := dr_42  pk_decb_150.2.2.2.2.2.2.2.2.2.2.2.2.2.2.2.2.2.2.2.2.1
theorem dX8_builtAgain_41 : decode cX8_builtAgain 41 = .ok (.getfield 50, 3) := dr_180 0 50  pk_decb_150.2.2.2.2.2.2.2.2.2.2.2.2.2.2.2.2.2.2.2.2.2.1
theorem dX8_builtAgain_44 : decode cX8_builtAgain 44 = .ok (.getfield 133, 3) := dr_180 0 133  pk_decb_150.2.2.2.2.2.2.2.2.2.2.2.2.2.2.2.2.2.2.2.2.2.2.1
theorem dX8_builtAgain_47 : decode cX8_builtAgain 47 = .ok (.isub, 1) := dr_100  pk_decb_150.2.2.2.2.2.2.2.2.2.2.2.2.2.2.2.2.2.2.2.2.2.2.2.1
theorem dX8_builtAgain_48 : decode cX8_builtAgain 48 = .ok (.ireturn, 1) := dr_172  pk_decb_150.2.2.2.2.2.2.2.2.2.2.2.2.2.2.2.2.2.2.2.2.2.2.2.2.1
theorem dX8_builtAgain_49 : decode cX8_builtAgain 49 = .ok (.aload_n 0, 1) := dr_42  pk_decb_150.2.2.2.2.2.2.2.2.2.2.2.2.2.2.2.2.2.2.2.2.2.2.2.2.2.1
theorem dX8_builtAgain_50 : decode cX8_builtAgain 50 = .ok (.getfield 50, 3) := dr_180 0 50  pk_decb_150.2.2.2.2.2.2.2.2.2.2.2.2.2.2.2.2.2.2.2.2.2.2.2.2.2.2.1
theorem dX8_builtAgain_53 : decode cX8_builtAgain 53 = .ok (.getfield 102, 3) := dr_180 0 102  pk_decb_150.2.2.2.2.2.2.2.2.2.2.2.2.2.2.2.2.2.2.2.2.2.2.2.2.2.2.2.1
theorem dX8_builtAgain_56 : decode cX8_builtAgain 56 = .ok (.getfield 109, 3) := dr_180 0 109  pk_decb_150.2.2.2.2.2.2.2.2.2.2.2.2.2.2.2.2.2.2.2.2.2.2.2.2.2.2.2.2.1
theorem dX8_builtAgain_59 : decode cX8_builtAgain 59 = .ok (.ifCond .ne 8, 3) := dr_154 0 8  pk_decb_150.2.2.2.2.2.2.2.2.2.2.2.2.2.2.2.2.2.2.2.2.2.2.2.2.2.2.2.2.2.1
theorem dX8_builtAgain_62 : decode cX8_builtAgain 62 = .ok (.bipush (-20), 2) := dr_16 236  pk_decb_150.2.2.2.2.2.2.2.2.2.2.2.2.2.2.2.2.2.2.2.2.2.2.2.2.2.2.2.2.2.2.1
theorem dX8_builtAgain_64 : decode cX8_builtAgain 64 = .ok (.goto 17, 3) := dr_167 0 17  pk_decb_150.2.2.2.2.2.2.2.2.2.2.2.2.2.2.2.2.2.2.2.2.2.2.2.2.2.2.2.2.2.2.2
set_option maxRecDepth 20000 in
theorem pk_decb_151 : (bq cX8_builtAgain 67 43 = true) ∧ ((bq cX8_builtAgain 68 180 && bq cX8_builtAgain (68 + 1) 0 && bq cX8_builtAgain (68 + 2) 94 && (0 * 256 + 94 == 94)) = true) ∧ (bq cX8_builtAgain 71 42 = true) ∧ ((bq cX8_builtAgain 72 180 && bq cX8_builtAgain (72 + 1) 0 && bq cX8_builtAgain (72 + 2) 50 && (0 * 256 + 50 == 50)) = true) ∧ ((bq cX8_builtAgain 75 180 && bq cX8_builtAgain (75 + 1) 0 && bq cX8_builtAgain (75 + 2) 102 && (0 * 256 + 102 == 102)) = true) ∧ ((bq cX8_builtAgain 78 182 && bq cX8_builtAgain (78 + 1) 0 && bq cX8_builtAgain (78 + 2) 162 && (0 * 256 + 162 == 162)) = true) ∧ (bq cX8_builtAgain 81 172 = true) := by decide +kernel
theorem dX8_builtAgain_67 : decode cX8_builtAgain 67 = .ok (.aload_n 1, 1) := dr_43  pk_decb_151.1
theorem dX8_builtAgain_68 : decode cX8_builtAgain 68 = .ok (.getfield 94, 3) := dr_180 0 94  pk_decb_151.2.1
theorem dX8_builtAgain_71 : decode cX8_builtAgain 71 = .ok (.aload_n 0, 1) := dr_42  pk_decb_151.2.2.1
theorem dX8_builtAgain_72 : decode cX8_builtAgain 72 = .ok (.getfield 50, 3) := dr_180 0 50  pk_decb_151.2.2.2.1
theorem dX8_builtAgain_75 : decode cX8_builtAgain 75 = .ok (.getfield 102, 3) := dr_180 0 102  pk_decb_151.2.2.2.2.1
theorem dX8_builtAgain_78 : decode cX8_builtAgain 78 = .ok (.invokevirtual 162, 3) := dr_182 0 162  pk_decb_151.2.2.2.2.2.1
theorem dX8_builtAgain_81 : decode cX8_builtAgain 81 = .ok (.ireturn, 1) := dr_172  pk_decb_151.2.2.2.2.2.2
set_option maxRecDepth 20000 in
theorem pk_decb_152 : (bq cX8_staleBits 0 3 = true) ∧ (bq cX8_staleBits 1 60 = true) ∧ (bq cX8_staleBits 2 3 = true) ∧ (bq cX8_staleBits 3 61 = true) ∧ (bq cX8_staleBits 4 28 = true) ∧ (bq cX8_staleBits 5 42 = true) ∧ ((bq cX8_staleBits 6 180 && bq cX8_staleBits (6 + 1) 0 && bq cX8_staleBits (6 + 2) 26 && (0 * 256 + 26 == 26)) = true) ∧ ((bq cX8_staleBits 9 162 && bq cX8_staleBits (9 + 1) 0 && bq cX8_staleBits (9 + 2) 41 && (Reader.signed 16 (0 * 256 + 41) == 41)) = true) ∧ (bq cX8_staleBits 12 42 = true) ∧ (bq cX8_staleBits 13 28 = true) ∧ ((bq cX8_staleBits 14 182 && bq cX8_staleBits (14 + 1) 0 && bq cX8_staleBits (14 + 2) 90 && (0 * 256 + 90 == 90)) = true) ∧ (bq cX8_staleBits 17 78 = true) ∧ (bq cX8_staleBits 18 45 = true) ∧ ((bq cX8_staleBits 19 198 && bq cX8_staleBits (19 + 1) 0 && bq cX8_staleBits (19 + 2) 25 && (Reader.signed 16 (0 * 256 + 25) == 25)) = true) ∧ (bq cX8_staleBits 22 27 = true) ∧ (bq cX8_staleBits 23 45 = true) ∧ ((bq cX8_staleBits 24 184 && bq cX8_staleBits (24 + 1) 0 && bq cX8_staleBits (24 + 2) 252 && (0 * 256 + 252 == 252)) = true) ∧ ((bq cX8_staleBits 27 154 && bq cX8_staleBits (27 + 1) 0 && bq cX8_staleBits (27 + 2) 11 && (Reader.signed 16 (0 * 256 + 11) == 11)) = true) ∧ (bq cX8_staleBits 30 42 = true) ∧ (bq cX8_staleBits 31 45 = true) ∧ ((bq cX8_staleBits 32 182 && bq cX8_staleBits (32 + 1) 0 && bq cX8_staleBits (32 + 2) 154 && (0 * 256 + 154 == 154)) = true) ∧ ((bq cX8_staleBits 35 153 && bq cX8_staleBits (35 + 1) 0 && bq cX8_staleBits (35 + 2) 9 && (Reader.signed 16 (0 * 256 + 9) == 9)) = true) ∧ (bq cX8_staleBits 38 27 = true) ∧ (bq cX8_staleBits 39 4 = true) ∧ (bq cX8_staleBits 40 28 = true) ∧ (bq cX8_staleBits 41 120 = true) ∧ (bq cX8_staleBits 42 128 = true) ∧ (bq cX8_staleBits 43 60 = true) := by decide +kernel
theorem dX8_staleBits_0 : decode cX8_staleBits 0 = .ok (.iconst 0, 1) := dr_3  pk_decb_152.1
theorem dX8_staleBits_1 : decode cX8_staleBits 1 = .ok (.istore_n 1, 1) := dr_60  pk_decb_152.2.1
theorem dX8_staleBits_2 : decode cX8_staleBits 2 = .ok (.iconst 0, 1) := dr_3  pk_decb_152.2.2.1
theorem dX8_staleBits_3 : decode cX8_staleBits 3 = .ok (.istore_n 2, 1) := dr_61  pk_decb_152.2.2.2.1
theorem dX8_staleBits_4 : decode cX8_staleBits 4 = .ok (.iload_n 2, 1) := dr_28  pk_decb_152.2.2.2.2.1
theorem dX8_staleBits_5 : decode cX8_staleBits 5 = .ok (.aload_n 0, 1) := dr_42  pk_decb_152.2.2.2.2.2.1
theorem dX8_staleBits_6 : decode cX8_staleBits 6 = .ok (.getfield 26, 3) := dr_180 0 26  pk_decb_152.2.2.2.2.2.2.1
theorem dX8_staleBits_9 : decode cX8_staleBits 9 = .ok (.if_icmp .ge 41, 3) := dr_162 0 41  pk_decb_152.2.2.2.2.2.2.2.1
theorem dX8_staleBits_12 : decode cX8_staleBits 12 = .ok (.aload_n 0, 1) := dr_42  pk_decb_152.2.2.2.2.2.2.2.2.1
theorem dX8_staleBits_13 : decode cX8_staleBits 13 = .ok (.iload_n 2, 1) := dr_28  pk_decb_152.2.2.2.2.2.2.2.2.2.1
theorem dX8_staleBits_14 : decode cX8_staleBits 14 = .ok (.invokevirtual 90, 3) := dr_182 0 90  pk_decb_152.2.2.2.2.2.2.2.2.2.2.1
theorem dX8_staleBits_17 : decode cX8_staleBits 17 = .ok (.astore_n 3, 1) := dr_78  pk_decb_152.2.2.2.2.2.2.2.2.2.2.2.1
theorem dX8_staleBits_18 : decode cX8_staleBits 18 = .ok (.aload_n 3, 1) := dr_45  pk_decb_152.2.2.2.2.2.2.2.2.2.2.2.2.1
theorem dX8_staleBits_19 : decode cX8_staleBits 19 = .ok (.ifnull 25, 3) := dr_198 0 25  pk_decb_152.2.2.2.2.2.2.2.2.2.2.2.2.2.1
theorem dX8_staleBits_22 : decode cX8_staleBits 22 = .ok (.iload_n 1, 1) := dr_27  pk_decb_152.2.2.2.2.2.2.2.2.2.2.2.2.2.2.1
theorem dX8_staleBits_23 : decode cX8_staleBits 23 = .ok (.aload_n 3, 1) := dr_45  pk_decb_152.2.2.2.2.2.2.2.2.2.2.2.2.2.2.2.1
theorem dX8_staleBits_24 : decode cX8_staleBits 24 = .ok (.invokestatic 252, 3) := dr_184 0 252  pk_decb_152.2.2.2.2.2.2.2.2.2.2.2.2.2.2.2.2.1
theorem dX8_staleBits_27 : decode cX8_staleBits 27 = .ok (.ifCond .ne 11, 3) := dr_154 0 11  pk_decb_152.2.2.2.2.2.2.2.2.2.2.2.2.2.2.2.2.2.1
theorem dX8_staleBits_30 : decode cX8_staleBits 30 = .ok (.aload_n 0, 1) := dr_42  pk_decb_152.2.2.2.2.2.2.2.2.2.2.2.2.2.2.2.2.2.2.1
theorem dX8_staleBits_31 : decode cX8_staleBits 31 = .ok (.aload_n 3, 1) := dr_45  pk_decb_152.2.2.2.2.2.2.2.2.2.2.2.2.2.2.2.2.2.2.2.1
theorem dX8_staleBits_32 : decode cX8_staleBits 32 = .ok (.invokevirtual 154, 3) := dr_182 0 154  pk_decb_152.2.2.2.2.2.2.2.2.2.2.2.2.2.2.2.2.2.2.2.2.1
theorem dX8_staleBits_35 : decode cX8_staleBits 35 = .ok (.ifCond .eq 9, 3) := dr_153 0 9  pk_decb_152.2.2.2.2.2.2.2.2.2.2.2.2.2.2.2.2.2.2.2.2.2.1
theorem dX8_staleBits_38 : decode cX8_staleBits 38 = .ok (.iload_n 1, 1) := dr_27  pk_decb_152.2.2.2.2.2.2.2.2.2.2.2.2.2.2.2.2.2.2.2.2.2.2.1
theorem dX8_staleBits_39 : decode cX8_staleBits 39 = .ok (.iconst 1, 1) := dr_4  pk_decb_152.2.2.2.2.2.2.2.2.2.2.2.2.2.2.2.2.2.2.2.2.2.2.2.1
theorem dX8_staleBits_40 : decode cX8_staleBits 40 = .ok (.iload_n 2, 1) := dr_28  pk_decb_152.2.2.2.2.2.2.2.2.2.2.2.2.2.2.2.2.2.2.2.2.2.2.2.2.1
theorem dX8_staleBits_41 : decode cX8_staleBits 41 = .ok (.ishl, 1) := dr_120  pk_decb_152.2.2.2.2.2.2.2.2.2.2.2.2.2.2.2.2.2.2.2.2.2.2.2.2.2.1
theorem dX8_staleBits_42 : decode cX8_staleBits 42 = .ok (.ior, 1) := dr_128  pk_decb_152.2.2.2.2.2.2.2.2.2.2.2.2.2.2.2.2.2.2.2.2.2.2.2.2.2.2.1
theorem dX8_staleBits_43 : decode cX8_staleBits 43 = .ok (.istore_n 1, 1) := dr_60  pk_decb_152.2.2.2.2.2.2.2.2.2.2.2.2.2.2.2.2.2.2.2.2.2.2.2.2.2.2.2
theorem dX8_staleBits_44 : decode cX8_staleBits 44 = .ok (.iinc 2 1, 3) := by decide +kernel
set_option maxRecDepth 20000 in
theorem pk_decb_153 : ((bq cX8_staleBits 47 167 && bq cX8_staleBits (47 + 1) 255 && bq cX8_staleBits (47 + 2) 213 && (Reader.signed 16 (255 * 256 + 213) == (-43))) = true) ∧ (bq cX8_staleBits 50 27 = true) ∧ (bq cX8_staleBits 51 172 = true) := by decide +kernel
theorem dX8_staleBits_47 : decode cX8_staleBits 47 = .ok (.goto (-43), 3) := dr_167 255 213  pk_decb_153.1
theorem dX8_staleBits_50 : decode cX8_staleBits 50 = .ok (.iload_n 1, 1) := dr_27  pk_decb_153.2.1
theorem dX8_staleBits_51 : decode cX8_staleBits 51 = .ok (.ireturn, 1) := dr_172  pk_decb_153.2.2
set_option maxRecDepth 20000 in
theorem pk_decb_154 : (bq cX8_isBuiltByOneOf 0 43 = true) ∧ ((bq cX8_isBuiltByOneOf 1 180 && bq cX8_isBuiltByOneOf (1 + 1) 0 && bq cX8_isBuiltByOneOf (1 + 2) 112 && (0 * 256 + 112 == 112)) = true) ∧ (bq cX8_isBuiltByOneOf 4 5 = true) ∧ ((bq cX8_isBuiltByOneOf 5 160 && bq cX8_isBuiltByOneOf (5 + 1) 0 && bq cX8_isBuiltByOneOf (5 + 2) 18 && (Reader.signed 16 (0 * 256 + 18) == 18)) = true) ∧ (bq cX8_isBuiltByOneOf 8 26 = true) ∧ (bq cX8_isBuiltByOneOf 9 43 = true) ∧ ((bq cX8_isBuiltByOneOf 10 180 && bq cX8_isBuiltByOneOf (10 + 1) 0 && bq cX8_isBuiltByOneOf (10 + 2) 118 && (0 * 256 + 118 == 118)) = true) ∧ ((bq cX8_isBuiltByOneOf 13 184 && bq cX8_isBuiltByOneOf (13 + 1) 0 && bq cX8_isBuiltByOneOf (13 + 2) 180 && (0 * 256 + 180 == 180)) = true) ∧ ((bq cX8_isBuiltByOneOf 16 153 && bq cX8_isBuiltByOneOf (16 + 1) 0 && bq cX8_isBuiltByOneOf (16 + 2) 7 && (Reader.signed 16 (0 * 256 + 7) == 7)) = true) ∧ (bq cX8_isBuiltByOneOf 19 4 = true) ∧ ((bq cX8_isBuiltByOneOf 20 167 && bq cX8_isBuiltByOneOf (20 + 1) 0 && bq cX8_isBuiltByOneOf (20 + 2) 4 && (Reader.signed 16 (0 * 256 + 4) == 4)) = true) ∧ (bq cX8_isBuiltByOneOf 23 3 = true) ∧ (bq cX8_isBuiltByOneOf 24 172 = true) := by decide +kernel
theorem dX8_isBuiltByOneOf_0 : decode cX8_isBuiltByOneOf 0 = .ok (.aload_n 1, 1) := dr_43  pk_decb_154.1
theorem dX8_isBuiltByOneOf_1 : decode cX8_isBuiltByOneOf 1 = .ok (.getfield 112, 3) := dr_180 0 112  pk_decb_154.2.1
theorem dX8_isBuiltByOneOf_4 : decode cX8_isBuiltByOneOf 4 = .ok (.iconst 2, 1) := dr_5  pk_decb_154.2.2.1
theorem dX8_isBuiltByOneOf_5 : decode cX8_isBuiltByOneOf 5 = .ok (.if_icmp .ne 18, 3) := dr_160 0 18  pk_decb_154.2.2.2.1
theorem dX8_isBuiltByOneOf_8 : decode cX8_isBuiltByOneOf 8 = .ok (.iload_n 0, 1) := dr_26  pk_decb_154.2.2.2.2.1
theorem dX8_isBuiltByOneOf_9 : decode cX8_isBuiltByOneOf 9 = .ok (.aload_n 1, 1) := dr_43  pk_decb_154.2.2.2.2.2.1
theorem dX8_isBuiltByOneOf_10 : decode cX8_isBuiltByOneOf 10 = .ok (.getfield 118, 3) := dr_180 0 118  pk_decb_154.2.2.2.2.2.2.1
theorem dX8_isBuiltByOneOf_13 : decode cX8_isBuiltByOneOf 13 = .ok (.invokestatic 180, 3) := dr_184 0 180  pk_decb_154.2.2.2.2.2.2.2.1
theorem dX8_isBuiltByOneOf_16 : decode cX8_isBuiltByOneOf 16 = .ok (.ifCond .eq 7, 3) := dr_153 0 7  pk_decb_154.2.2.2.2.2.2.2.2.1
theorem dX8_isBuiltByOneOf_19 : decode cX8_isBuiltByOneOf 19 = .ok (.iconst 1, 1) := dr_4  pk_decb_154.2.2.2.2.2.2.2.2.2.1
theorem dX8_isBuiltByOneOf_20 : decode cX8_isBuiltByOneOf 20 = .ok (.goto 4, 3) := dr_167 0 4  pk_decb_154.2.2.2.2.2.2.2.2.2.2.1
theorem dX8_isBuiltByOneOf_23 : decode cX8_isBuiltByOneOf 23 = .ok (.iconst 0, 1) := dr_3  pk_decb_154.2.2.2.2.2.2.2.2.2.2.2.1
theorem dX8_isBuiltByOneOf_24 : decode cX8_isBuiltByOneOf 24 = .ok (.ireturn, 1) := dr_172  pk_decb_154.2.2.2.2.2.2.2.2.2.2.2.2
set_option maxRecDepth 20000 in
theorem pk_decb_155 : (bq cX8_goneRound 0 42 = true) ∧ ((bq cX8_goneRound 1 180 && bq cX8_goneRound (1 + 1) 0 && bq cX8_goneRound (1 + 2) 50 && (0 * 256 + 50 == 50)) = true) ∧ (bq cX8_goneRound 4 43 = true) ∧ ((bq cX8_goneRound 5 180 && bq cX8_goneRound (5 + 1) 0 && bq cX8_goneRound (5 + 2) 94 && (0 * 256 + 94 == 94)) = true) ∧ (bq cX8_goneRound 8 45 = true) ∧ ((bq cX8_goneRound 9 182 && bq cX8_goneRound (9 + 1) 0 && bq cX8_goneRound (9 + 2) 98 && (0 * 256 + 98 == 98)) = true) ∧ ((bq cX8_goneRound 12 153 && bq cX8_goneRound (12 + 1) 0 && bq cX8_goneRound (12 + 2) 58 && (Reader.signed 16 (0 * 256 + 58) == 58)) = true) ∧ (bq cX8_goneRound 15 42 = true) ∧ ((bq cX8_goneRound 16 180 && bq cX8_goneRound (16 + 1) 0 && bq cX8_goneRound (16 + 2) 50 && (0 * 256 + 50 == 50)) = true) ∧ (bq cX8_goneRound 19 42 = true) ∧ ((bq cX8_goneRound 20 180 && bq cX8_goneRound (20 + 1) 0 && bq cX8_goneRound (20 + 2) 50 && (0 * 256 + 50 == 50)) = true) ∧ ((bq cX8_goneRound 23 180 && bq cX8_goneRound (23 + 1) 0 && bq cX8_goneRound (23 + 2) 102 && (0 * 256 + 102 == 102)) = true) ∧ (bq cX8_goneRound 26 45 = true) ∧ ((bq cX8_goneRound 27 182 && bq cX8_goneRound (27 + 1) 0 && bq cX8_goneRound (27 + 2) 98 && (0 * 256 + 98 == 98)) = true) ∧ ((bq cX8_goneRound 30 153 && bq cX8_goneRound (30 + 1) 0 && bq cX8_goneRound (30 + 2) 40 && (Reader.signed 16 (0 * 256 + 40) == 40)) = true) ∧ (bq cX8_goneRound 33 42 = true) ∧ ((bq cX8_goneRound 34 180 && bq cX8_goneRound (34 + 1) 0 && bq cX8_goneRound (34 + 2) 53 && (0 * 256 + 53 == 53)) = true) ∧ (bq cX8_goneRound 37 44 = true) ∧ ((bq cX8_goneRound 38 180 && bq cX8_goneRound (38 + 1) 0 && bq cX8_goneRound (38 + 2) 94 && (0 * 256 + 94 == 94)) = true) ∧ (bq cX8_goneRound 41 45 = true) ∧ ((bq cX8_goneRound 42 182 && bq cX8_goneRound (42 + 1) 0 && bq cX8_goneRound (42 + 2) 98 && (0 * 256 + 98 == 98)) = true) ∧ ((bq cX8_goneRound 45 153 && bq cX8_goneRound (45 + 1) 0 && bq cX8_goneRound (45 + 2) 25 && (Reader.signed 16 (0 * 256 + 25) == 25)) = true) ∧ (bq cX8_goneRound 48 42 = true) ∧ ((bq cX8_goneRound 49 180 && bq cX8_goneRound (49 + 1) 0 && bq cX8_goneRound (49 + 2) 53 && (0 * 256 + 53 == 53)) = true) ∧ (bq cX8_goneRound 52 42 = true) ∧ ((bq cX8_goneRound 53 180 && bq cX8_goneRound (53 + 1) 0 && bq cX8_goneRound (53 + 2) 53 && (0 * 256 + 53 == 53)) = true) ∧ ((bq cX8_goneRound 56 180 && bq cX8_goneRound (56 + 1) 0 && bq cX8_goneRound (56 + 2) 102 && (0 * 256 + 102 == 102)) = true) ∧ (bq cX8_goneRound 59 45 = true) ∧ ((bq cX8_goneRound 60 182 && bq cX8_goneRound (60 + 1) 0 && bq cX8_goneRound (60 + 2) 98 && (0 * 256 + 98 == 98)) = true) ∧ ((bq cX8_goneRound 63 153 && bq cX8_goneRound (63 + 1) 0 && bq cX8_goneRound (63 + 2) 7 && (Reader.signed 16 (0 * 256 + 7) == 7)) = true) ∧ (bq cX8_goneRound 66 4 = true) ∧ ((bq cX8_goneRound 67 167 && bq cX8_goneRound (67 + 1) 0 && bq cX8_goneRound (67 + 2) 4 && (Reader.signed 16 (0 * 256 + 4) == 4)) = true) := by decide +kernel
theorem dX8_goneRound_0 : decode cX8_goneRound 0 = .ok (.aload_n 0, 1) := dr_42  pk_decb_155.1
theorem dX8_goneRound_1 : decode cX8_goneRound 1 = .ok (.getfield 50, 3) := dr_180 0 50  pk_decb_155.2.1
theorem dX8_goneRound_4 : decode cX8_goneRound 4 = .ok (.aload_n 1, 1) := dr_43  pk_decb_155.2.2.1
theorem dX8_goneRound_5 : decode cX8_goneRound 5 = .ok (.getfield 94, 3) := dr_180 0 94  pk_decb_155.2.2.2.1
theorem dX8_goneRound_8 : decode cX8_goneRound 8 = .ok (.aload_n 3, 1) := dr_45  pk_decb_155.2.2.2.2.1
theorem dX8_goneRound_9 : decode cX8_goneRound 9 = .ok (.invokevirtual 98, 3) := dr_182 0 98  pk_decb_155.2.2.2.2.2.1
theorem dX8_goneRound_12 : decode cX8_goneRound 12 = .ok (.ifCond .eq 58, 3) := dr_153 0 58  pk_decb_155.2.2.2.2.2.2.1
theorem dX8_goneRound_15 : decode cX8_goneRound 15 = .ok (.aload_n 0, 1) := dr_42  pk_decb_155.2.2.2.2.2.2.2.1
theorem dX8_goneRound_16 : decode cX8_goneRound 16 = .ok (.getfield 50, 3) := dr_180 0 50  pk_decb_155.2.2.2.2.2.2.2.2.1
theorem dX8_goneRound_19 : decode cX8_goneRound 19 = .ok (.aload_n 0, 1) := dr_42  pk_decb_155.2.2.2.2.2.2.2.2.2.1
theorem dX8_goneRound_20 : decode cX8_goneRound 20 = .ok (.getfield 50, 3) := dr_180 0 50  pk_decb_155.2.2.2.2.2.2.2.2.2.2.1
theorem dX8_goneRound_23 : decode cX8_goneRound 23 = .ok (.getfield 102, 3) := dr_180 0 102  pk_decb_155.2.2.2.2.2.2.2.2.2.2.2.1
theorem dX8_goneRound_26 : decode cX8_goneRound 26 = .ok (.aload_n 3, 1) := dr_45  pk_decb_155.2.2.2.2.2.2.2.2.2.2.2.2.1
theorem dX8_goneRound_27 : decode cX8_goneRound 27 = .ok (.invokevirtual 98, 3) := dr_182 0 98  pk_decb_155.2.2.2.2.2.2.2.2.2.2.2.2.2.1
theorem dX8_goneRound_30 : decode cX8_goneRound 30 = .ok (.ifCond .eq 40, 3) := dr_153 0 40  pk_decb_155.2.2.2.2.2.2.2.2.2.2.2.2.2.2.1
theorem dX8_goneRound_33 : decode cX8_goneRound 33 = .ok (.aload_n 0, 1) := dr_42  pk_decb_155.2.2.2.2.2.2.2.2.2.2.2.2.2.2.2.1
theorem dX8_goneRound_34 : decode cX8_goneRound 34 = .ok (.getfield 53, 3) := dr_180 0 53  pk_decb_155.2.2.2.2.2.2.2.2.2.2.2.2.2.2.2.2.1
theorem dX8_goneRound_37 : decode cX8_goneRound 37 = .ok (.aload_n 2, 1) := dr_44  pk_decb_155.2.2.2.2.2.2.2.2.2.2.2.2.2.2.2.2.2.1
theorem dX8_goneRound_38 : decode cX8_goneRound 38 = .ok (.getfield 94, 3) := dr_180 0 94  pk_decb_155.2.2.2.2.2.2.2.2.2.2.2.2.2.2.2.2.2.2.1
theorem dX8_goneRound_41 : decode cX8_goneRound 41 = .ok (.aload_n 3, 1) := dr_45  pk_decb_155.2.2.2.2.2.2.2.2.2.2.2.2.2.2.2.2.2.2.2.1
theorem dX8_goneRound_42 : decode cX8_goneRound 42 = .ok (.invokevirtual 98, 3) := dr_182 0 98  pk_decb_155.2.2.2.2.2.2.2.2.2.2.2.2.2.2.2.2.2.2.2.2.1
theorem dX8_goneRound_45 : decode cX8_goneRound 45 = .ok (.ifCond .eq 25, 3) := dr_153 0 25  pk_decb_155.2.2.2.2.2.2.2.2.2.2.2.2.2.2.2.2.2.2.2.2.2.1
theorem dX8_goneRound_48 : decode cX8_goneRound 48 = .ok (.aload_n 0, 1) := dr_42  pk_decb_155.2.2.2.2.2.2.2.2.2.2.2.2.2.2.2.2.2.2.2.2.2.2.1
theorem dX8_goneRound_49 : decode cX8_goneRound 49 = .ok (.getfield 53, 3) := dr_180 0 53  pk_decb_155.2.2.2.2.2.2.2.2.2.2.2.2.2.2.2.2.2.2.2.2.2.2.2.1
theorem dX8_goneRound_52 : decode cX8_goneRound 52 = .ok (.aload_n 0, 1) := dr_42  pk_decb_155.2.2.2.2.2.2.2.2.2.2.2.2.2.2.2.2.2.2.2.2.2.2.2.2.1
theorem dX8_goneRound_53 : decode cX8_goneRound 53 = .ok (.getfield 53, 3) := dr_180 0 53  pk_decb_155.2.2.2.2.2.2.2.2.2.2.2.2.2.2.2.2.2.2.2.2.2.2.2.2.2.1
theorem dX8_goneRound_56 : decode cX8_goneRound 56 = .ok (.getfield 102, 3) := dr_180 0 102  pk_decb_155.2.2.2.2.2.2.2.2.2.2.2.2.2.2.2.2.2.2.2.2.2.2.2.2.2.2.1
theorem dX8_goneRound_59 : decode cX8_goneRound 59 = .ok (.aload_n 3, 1) := dr_45  pk_decb_155.2.2.2.2.2.2.2.2.2.2.2.2.2.2.2.2.2.2.2.2.2.2.2.2.2.2.2.1
theorem dX8_goneRound_60 : decode cX8_goneRound 60 = .ok (.invokevirtual 98, 3) := dr_182 0 98  pk_decb_155.2.2.2.2.2.2.2.2.2.2.2.2.2.2.2.2.2.2.2.2.2.2.2.2.2.2.2.2.1
theorem dX8_goneRound_63 : decode cX8_goneRound 63 = .ok (.ifCond .eq 7, 3) := dr_153 0 7  pk_decb_155.2.2.2.2.2.2.2.2.2.2.2.2.2.2.2.2.2.2.2.2.2.2.2.2.2.2.2.2.2.1
theorem dX8_goneRound_66 : decode cX8_goneRound 66 = .ok (.iconst 1, 1) := dr_4  pk_decb_155.2.2.2.2.2.2.2.2.2.2.2.2.2.2.2.2.2.2.2.2.2.2.2.2.2.2.2.2.2.2.1
theorem dX8_goneRound_67 : decode cX8_goneRound 67 = .ok (.goto 4, 3) := dr_167 0 4  pk_decb_155.2.2.2.2.2.2.2.2.2.2.2.2.2.2.2.2.2.2.2.2.2.2.2.2.2.2.2.2.2.2.2
set_option maxRecDepth 20000 in
theorem pk_decb_156 : (bq cX8_goneRound 70 3 = true) ∧ ((bq cX8_goneRound 71 54 && bq cX8_goneRound (71 + 1) 4) = true) ∧ ((bq cX8_goneRound 73 21 && bq cX8_goneRound (73 + 1) 4) = true) ∧ ((bq cX8_goneRound 75 153 && bq cX8_goneRound (75 + 1) 0 && bq cX8_goneRound (75 + 2) 23 && (Reader.signed 16 (0 * 256 + 23) == 23)) = true) ∧ (bq cX8_goneRound 78 42 = true) ∧ ((bq cX8_goneRound 79 180 && bq cX8_goneRound (79 + 1) 0 && bq cX8_goneRound (79 + 2) 50 && (0 * 256 + 50 == 50)) = true) ∧ ((bq cX8_goneRound 82 180 && bq cX8_goneRound (82 + 1) 0 && bq cX8_goneRound (82 + 2) 102 && (0 * 256 + 102 == 102)) = true) ∧ (bq cX8_goneRound 85 42 = true) ∧ ((bq cX8_goneRound 86 180 && bq cX8_goneRound (86 + 1) 0 && bq cX8_goneRound (86 + 2) 53 && (0 * 256 + 53 == 53)) = true) ∧ ((bq cX8_goneRound 89 180 && bq cX8_goneRound (89 + 1) 0 && bq cX8_goneRound (89 + 2) 102 && (0 * 256 + 102 == 102)) = true) ∧ ((bq cX8_goneRound 92 182 && bq cX8_goneRound (92 + 1) 0 && bq cX8_goneRound (92 + 2) 162 && (0 * 256 + 162 == 162)) = true) ∧ ((bq cX8_goneRound 95 167 && bq cX8_goneRound (95 + 1) 0 && bq cX8_goneRound (95 + 2) 5 && (Reader.signed 16 (0 * 256 + 5) == 5)) = true) ∧ ((bq cX8_goneRound 98 16 && bq cX8_goneRound (98 + 1) 254 && (Reader.signed 8 254 == (-2))) = true) ∧ (bq cX8_goneRound 100 172 = true) := by decide +kernel
theorem dX8_goneRound_70 : decode cX8_goneRound 70 = .ok (.iconst 0, 1) := dr_3  pk_decb_156.1
theorem dX8_goneRound_71 : decode cX8_goneRound 71 = .ok (.istore 4, 2) := dr_54  pk_decb_156.2.1
theorem dX8_goneRound_73 : decode cX8_goneRound 73 = .ok (.iload 4, 2) := dr_21  pk_decb_156.2.2.1
theorem dX8_goneRound_75 : decode cX8_goneRound 75 = .ok (.ifCond .eq 23, 3) := dr_153 0 23  pk_decb_156.2.2.2.1
theorem dX8_goneRound_78 : decode cX8_goneRound 78 = .ok (.aload_n 0, 1) := dr_42  pk_decb_156.2.2.2.2.1
theorem dX8_goneRound_79 : decode cX8_goneRound 79 = .ok (.getfield 50, 3) := dr_180 0 50  pk_decb_156.2.2.2.2.2.1
theorem dX8_goneRound_82 : decode cX8_goneRound 82 = .ok (.getfield 102, 3) := dr_180 0 102  pk_decb_156.2.2.2.2.2.2.1
theorem dX8_goneRound_85 : decode cX8_goneRound 85 = .ok (.aload_n 0, 1) := dr_42  pk_decb_156.2.2.2.2.2.2.2.1
theorem dX8_goneRound_86 : decode cX8_goneRound 86 = .ok (.getfield 53, 3) := dr_180 0 53  pk_decb_156.2.2.2.2.2.2.2.2.1
theorem dX8_goneRound_89 : decode cX8_goneRound 89 = .ok (.getfield 102, 3) := dr_180 0 102  pk_decb_156.2.2.2.2.2.2.2.2.2.1
theorem dX8_goneRound_92 : decode cX8_goneRound 92 = .ok (.invokevirtual 162, 3) := dr_182 0 162  pk_decb_156.2.2.2.2.2.2.2.2.2.2.1
theorem dX8_goneRound_95 : decode cX8_goneRound 95 = .ok (.goto 5, 3) := dr_167 0 5  pk_decb_156.2.2.2.2.2.2.2.2.2.2.2.1
theorem dX8_goneRound_98 : decode cX8_goneRound 98 = .ok (.bipush (-2), 2) := dr_16 254  pk_decb_156.2.2.2.2.2.2.2.2.2.2.2.2.1
theorem dX8_goneRound_100 : decode cX8_goneRound 100 = .ok (.ireturn, 1) := dr_172  pk_decb_156.2.2.2.2.2.2.2.2.2.2.2.2.2
set_option maxRecDepth 20000 in
theorem pk_decb_157 : (bq cX8_chainLength 0 3 = true) ∧ (bq cX8_chainLength 1 61 = true) ∧ (bq cX8_chainLength 2 42 = true) ∧ (bq cX8_chainLength 3 27 = true) ∧ ((bq cX8_chainLength 4 182 && bq cX8_chainLength (4 + 1) 0 && bq cX8_chainLength (4 + 2) 90 && (0 * 256 + 90 == 90)) = true) ∧ (bq cX8_chainLength 7 78 = true) ∧ (bq cX8_chainLength 8 45 = true) ∧ ((bq cX8_chainLength 9 198 && bq cX8_chainLength (9 + 1) 0 && bq cX8_chainLength (9 + 2) 24 && (Reader.signed 16 (0 * 256 + 24) == 24)) = true) ∧ (bq cX8_chainLength 12 28 = true) ∧ ((bq cX8_chainLength 13 16 && bq cX8_chainLength (13 + 1) 12 && (Reader.signed 8 12 == 12)) = true) ∧ ((bq cX8_chainLength 15 162 && bq cX8_chainLength (15 + 1) 0 && bq cX8_chainLength (15 + 2) 18 && (Reader.signed 16 (0 * 256 + 18) == 18)) = true) := by decide +kernel
theorem dX8_chainLength_0 : decode cX8_chainLength 0 = .ok (.iconst 0, 1) := dr_3  pk_decb_157.1
theorem dX8_chainLength_1 : decode cX8_chainLength 1 = .ok (.istore_n 2, 1) := dr_61  pk_decb_157.2.1
theorem dX8_chainLength_2 : decode cX8_chainLength 2 = .ok (.aload_n 0, 1) := dr_42  pk_decb_157.2.2.1
theorem dX8_chainLength_3 : decode cX8_chainLength 3 = .ok (.iload_n 1, 1) := dr_27  pk_decb_157.2.2.2.1
theorem dX8_chainLength_4 : decode cX8_chainLength 4 = .ok (.invokevirtual 90, 3) := dr_182 0 90  pk_decb_157.2.2.2.2.1
theorem dX8_chainLength_7 : decode cX8_chainLength 7 = .ok (.astore_n 3, 1) := dr_78  pk_decb_157.2.2.2.2.2.1
theorem dX8_chainLength_8 : decode cX8_chainLength 8 = .ok (.aload_n 3, 1) := dr_45  pk_decb_157.2.2.2.2.2.2.1
theorem dX8_chainLength_9 : decode cX8_chainLength 9 = .ok (.ifnull 24, 3) := dr_198 0 24  pk_decb_157.2.2.2.2.2.2.2.1
theorem dX8_chainLength_12 : decode cX8_chainLength 12 = .ok (.iload_n 2, 1) := dr_28  pk_decb_157.2.2.2.2.2.2.2.2.1
theorem dX8_chainLength_13 : decode cX8_chainLength 13 = .ok (.bipush 12, 2) := dr_16 12  pk_decb_157.2.2.2.2.2.2.2.2.2.1
theorem dX8_chainLength_15 : decode cX8_chainLength 15 = .ok (.if_icmp .ge 18, 3) := dr_162 0 18  pk_decb_157.2.2.2.2.2.2.2.2.2.2
theorem dX8_chainLength_18 : decode cX8_chainLength 18 = .ok (.iinc 2 1, 3) := by decide +kernel
set_option maxRecDepth 20000 in
theorem pk_decb_158 : (bq cX8_chainLength 21 42 = true) ∧ (bq cX8_chainLength 22 45 = true) ∧ ((bq cX8_chainLength 23 180 && bq cX8_chainLength (23 + 1) 0 && bq cX8_chainLength (23 + 2) 118 && (0 * 256 + 118 == 118)) = true) ∧ ((bq cX8_chainLength 26 182 && bq cX8_chainLength (26 + 1) 0 && bq cX8_chainLength (26 + 2) 90 && (0 * 256 + 90 == 90)) = true) ∧ (bq cX8_chainLength 29 78 = true) ∧ ((bq cX8_chainLength 30 167 && bq cX8_chainLength (30 + 1) 255 && bq cX8_chainLength (30 + 2) 234 && (Reader.signed 16 (255 * 256 + 234) == (-22))) = true) ∧ (bq cX8_chainLength 33 28 = true) ∧ (bq cX8_chainLength 34 172 = true) := by decide +kernel
theorem dX8_chainLength_21 : decode cX8_chainLength 21 = .ok (.aload_n 0, 1) := dr_42  pk_decb_158.1
theorem dX8_chainLength_22 : decode cX8_chainLength 22 = .ok (.aload_n 3, 1) := dr_45  pk_decb_158.2.1
theorem dX8_chainLength_23 : decode cX8_chainLength 23 = .ok (.getfield 118, 3) := dr_180 0 118  pk_decb_158.2.2.1
theorem dX8_chainLength_26 : decode cX8_chainLength 26 = .ok (.invokevirtual 90, 3) := dr_182 0 90  pk_decb_158.2.2.2.1
theorem dX8_chainLength_29 : decode cX8_chainLength 29 = .ok (.astore_n 3, 1) := dr_78  pk_decb_158.2.2.2.2.1
theorem dX8_chainLength_30 : decode cX8_chainLength 30 = .ok (.goto (-22), 3) := dr_167 255 234  pk_decb_158.2.2.2.2.2.1
theorem dX8_chainLength_33 : decode cX8_chainLength 33 = .ok (.iload_n 2, 1) := dr_28  pk_decb_158.2.2.2.2.2.2.1
theorem dX8_chainLength_34 : decode cX8_chainLength 34 = .ok (.ireturn, 1) := dr_172  pk_decb_158.2.2.2.2.2.2.2
set_option maxRecDepth 20000 in
theorem pk_decb_159 : (bq cX8_chainAt 0 27 = true) ∧ (bq cX8_chainAt 1 62 = true) ∧ (bq cX8_chainAt 2 3 = true) ∧ ((bq cX8_chainAt 3 54 && bq cX8_chainAt (3 + 1) 4) = true) ∧ ((bq cX8_chainAt 5 21 && bq cX8_chainAt (5 + 1) 4) = true) ∧ (bq cX8_chainAt 7 28 = true) ∧ ((bq cX8_chainAt 8 162 && bq cX8_chainAt (8 + 1) 0 && bq cX8_chainAt (8 + 2) 39 && (Reader.signed 16 (0 * 256 + 39) == 39)) = true) ∧ ((bq cX8_chainAt 11 21 && bq cX8_chainAt (11 + 1) 4) = true) ∧ ((bq cX8_chainAt 13 16 && bq cX8_chainAt (13 + 1) 12 && (Reader.signed 8 12 == 12)) = true) ∧ ((bq cX8_chainAt 15 162 && bq cX8_chainAt (15 + 1) 0 && bq cX8_chainAt (15 + 2) 32 && (Reader.signed 16 (0 * 256 + 32) == 32)) = true) ∧ (bq cX8_chainAt 18 42 = true) ∧ (bq cX8_chainAt 19 29 = true) ∧ ((bq cX8_chainAt 20 182 && bq cX8_chainAt (20 + 1) 0 && bq cX8_chainAt (20 + 2) 90 && (0 * 256 + 90 == 90)) = true) ∧ ((bq cX8_chainAt 23 58 && bq cX8_chainAt (23 + 1) 5) = true) ∧ ((bq cX8_chainAt 25 25 && bq cX8_chainAt (25 + 1) 5) = true) ∧ ((bq cX8_chainAt 27 199 && bq cX8_chainAt (27 + 1) 0 && bq cX8_chainAt (27 + 2) 8 && (Reader.signed 16 (0 * 256 + 8) == 8)) = true) ∧ ((bq cX8_chainAt 30 16 && bq cX8_chainAt (30 + 1) 247 && (Reader.signed 8 247 == (-9))) = true) ∧ ((bq cX8_chainAt 32 167 && bq cX8_chainAt (32 + 1) 0 && bq cX8_chainAt (32 + 2) 8 && (Reader.signed 16 (0 * 256 + 8) == 8)) = true) ∧ ((bq cX8_chainAt 35 25 && bq cX8_chainAt (35 + 1) 5) = true) ∧ ((bq cX8_chainAt 37 180 && bq cX8_chainAt (37 + 1) 0 && bq cX8_chainAt (37 + 2) 118 && (0 * 256 + 118 == 118)) = true) ∧ (bq cX8_chainAt 40 62 = true) := by decide +kernel
theorem dX8_chainAt_0 : decode cX8_chainAt 0 = .ok (.iload_n 1, 1) := dr_27  pk_decb_159.1
theorem dX8_chainAt_1 : decode cX8_chainAt 1 = .ok (.istore_n 3, 1) := dr_62  pk_decb_159.2.1
theorem dX8_chainAt_2 : decode cX8_chainAt 2 = .ok (.iconst 0, 1) := dr_3  pk_decb_159.2.2.1
theorem dX8_chainAt_3 : decode cX8_chainAt 3 = .ok (.istore 4, 2) := dr_54  pk_decb_159.2.2.2.1
theorem dX8_chainAt_5 : decode cX8_chainAt 5 = .ok (.iload 4, 2) := dr_21  pk_decb_159.2.2.2.2.1
theorem dX8_chainAt_7 : decode cX8_chainAt 7 = .ok (.iload_n 2, 1) := dr_28  pk_decb_159.2.2.2.2.2.1
theorem dX8_chainAt_8 : decode cX8_chainAt 8 = .ok (.if_icmp .ge 39, 3) := dr_162 0 39  pk_decb_159.2.2.2.2.2.2.1
theorem dX8_chainAt_11 : decode cX8_chainAt 11 = .ok (.iload 4, 2) := dr_21  pk_decb_159.2.2.2.2.2.2.2.1
theorem dX8_chainAt_13 : decode cX8_chainAt 13 = .ok (.bipush 12, 2) := dr_16 12  pk_decb_159.2.2.2.2.2.2.2.2.1
theorem dX8_chainAt_15 : decode cX8_chainAt 15 = .ok (.if_icmp .ge 32, 3) := dr_162 0 32  pk_decb_159.2.2.2.2.2.2.2.2.2.1
theorem dX8_chainAt_18 : decode cX8_chainAt 18 = .ok (.aload_n 0, 1) := dr_42  pk_decb_159.2.2.2.2.2.2.2.2.2.2.1
theorem dX8_chainAt_19 : decode cX8_chainAt 19 = .ok (.iload_n 3, 1) := dr_29  pk_decb_159.2.2.2.2.2.2.2.2.2.2.2.1
theorem dX8_chainAt_20 : decode cX8_chainAt 20 = .ok (.invokevirtual 90, 3) := dr_182 0 90  pk_decb_159.2.2.2.2.2.2.2.2.2.2.2.2.1
theorem dX8_chainAt_23 : decode cX8_chainAt 23 = .ok (.astore 5, 2) := dr_58  pk_decb_159.2.2.2.2.2.2.2.2.2.2.2.2.2.1
theorem dX8_chainAt_25 : decode cX8_chainAt 25 = .ok (.aload 5, 2) := dr_25  pk_decb_159.2.2.2.2.2.2.2.2.2.2.2.2.2.2.1
theorem dX8_chainAt_27 : decode cX8_chainAt 27 = .ok (.ifnonnull 8, 3) := dr_199 0 8  pk_decb_159.2.2.2.2.2.2.2.2.2.2.2.2.2.2.2.1
theorem dX8_chainAt_30 : decode cX8_chainAt 30 = .ok (.bipush (-9), 2) := dr_16 247  pk_decb_159.2.2.2.2.2.2.2.2.2.2.2.2.2.2.2.2.1
theorem dX8_chainAt_32 : decode cX8_chainAt 32 = .ok (.goto 8, 3) := dr_167 0 8  pk_decb_159.2.2.2.2.2.2.2.2.2.2.2.2.2.2.2.2.2.1
theorem dX8_chainAt_35 : decode cX8_chainAt 35 = .ok (.aload 5, 2) := dr_25  pk_decb_159.2.2.2.2.2.2.2.2.2.2.2.2.2.2.2.2.2.2.1
theorem dX8_chainAt_37 : decode cX8_chainAt 37 = .ok (.getfield 118, 3) := dr_180 0 118  pk_decb_159.2.2.2.2.2.2.2.2.2.2.2.2.2.2.2.2.2.2.2.1
theorem dX8_chainAt_40 : decode cX8_chainAt 40 = .ok (.istore_n 3, 1) := dr_62  pk_decb_159.2.2.2.2.2.2.2.2.2.2.2.2.2.2.2.2.2.2.2.2
theorem dX8_chainAt_41 : decode cX8_chainAt 41 = .ok (.iinc 4 1, 3) := by decide +kernel
set_option maxRecDepth 20000 in
theorem pk_decb_160 : ((bq cX8_chainAt 44 167 && bq cX8_chainAt (44 + 1) 255 && bq cX8_chainAt (44 + 2) 217 && (Reader.signed 16 (255 * 256 + 217) == (-39))) = true) ∧ (bq cX8_chainAt 47 29 = true) ∧ (bq cX8_chainAt 48 172 = true) := by decide +kernel
theorem dX8_chainAt_44 : decode cX8_chainAt 44 = .ok (.goto (-39), 3) := dr_167 255 217  pk_decb_160.1
theorem dX8_chainAt_47 : decode cX8_chainAt 47 = .ok (.iload_n 3, 1) := dr_29  pk_decb_160.2.1
theorem dX8_chainAt_48 : decode cX8_chainAt 48 = .ok (.ireturn, 1) := dr_172  pk_decb_160.2.2
set_option maxRecDepth 20000 in
theorem pk_decb_161 : (bq cX8_chainEnd 0 42 = true) ∧ (bq cX8_chainEnd 1 27 = true) ∧ (bq cX8_chainEnd 2 42 = true) ∧ (bq cX8_chainEnd 3 27 = true) ∧ ((bq cX8_chainEnd 4 182 && bq cX8_chainEnd (4 + 1) 0 && bq cX8_chainEnd (4 + 2) 170 && (0 * 256 + 170 == 170)) = true) ∧ (bq cX8_chainEnd 7 4 = true) ∧ (bq cX8_chainEnd 8 100 = true) ∧ ((bq cX8_chainEnd 9 182 && bq cX8_chainEnd (9 + 1) 0 && bq cX8_chainEnd (9 + 2) 173 && (0 * 256 + 173 == 173)) = true) ∧ (bq cX8_chainEnd 12 172 = true) := by decide +kernel
theorem dX8_chainEnd_0 : decode cX8_chainEnd 0 = .ok (.aload_n 0, 1) := dr_42  pk_decb_161.1
theorem dX8_chainEnd_1 : decode cX8_chainEnd 1 = .ok (.iload_n 1, 1) := dr_27  pk_decb_161.2.1
theorem dX8_chainEnd_2 : decode cX8_chainEnd 2 = .ok (.aload_n 0, 1) := dr_42  pk_decb_161.2.2.1
theorem dX8_chainEnd_3 : decode cX8_chainEnd 3 = .ok (.iload_n 1, 1) := dr_27  pk_decb_161.2.2.2.1
theorem dX8_chainEnd_4 : decode cX8_chainEnd 4 = .ok (.invokevirtual 170, 3) := dr_182 0 170  pk_decb_161.2.2.2.2.1
theorem dX8_chainEnd_7 : decode cX8_chainEnd 7 = .ok (.iconst 1, 1) := dr_4  pk_decb_161.2.2.2.2.2.1
theorem dX8_chainEnd_8 : decode cX8_chainEnd 8 = .ok (.isub, 1) := dr_100  pk_decb_161.2.2.2.2.2.2.1
theorem dX8_chainEnd_9 : decode cX8_chainEnd 9 = .ok (.invokevirtual 173, 3) := dr_182 0 173  pk_decb_161.2.2.2.2.2.2.2.1
theorem dX8_chainEnd_12 : decode cX8_chainEnd 12 = .ok (.ireturn, 1) := dr_172  pk_decb_161.2.2.2.2.2.2.2.2
set_option maxRecDepth 20000 in
theorem pk_decb_162 : (bq cX8_isSealed 0 42 = true) ∧ (bq cX8_isSealed 1 42 = true) ∧ (bq cX8_isSealed 2 27 = true) ∧ ((bq cX8_isSealed 3 182 && bq cX8_isSealed (3 + 1) 0 && bq cX8_isSealed (3 + 2) 183 && (0 * 256 + 183 == 183)) = true) ∧ ((bq cX8_isSealed 6 182 && bq cX8_isSealed (6 + 1) 0 && bq cX8_isSealed (6 + 2) 90 && (0 * 256 + 90 == 90)) = true) ∧ (bq cX8_isSealed 9 78 = true) ∧ (bq cX8_isSealed 10 45 = true) ∧ ((bq cX8_isSealed 11 198 && bq cX8_isSealed (11 + 1) 0 && bq cX8_isSealed (11 + 2) 22 && (Reader.signed 16 (0 * 256 + 22) == 22)) = true) ∧ (bq cX8_isSealed 14 45 = true) ∧ ((bq cX8_isSealed 15 180 && bq cX8_isSealed (15 + 1) 0 && bq cX8_isSealed (15 + 2) 121 && (0 * 256 + 121 == 121)) = true) ∧ ((bq cX8_isSealed 18 153 && bq cX8_isSealed (18 + 1) 0 && bq cX8_isSealed (18 + 2) 15 && (Reader.signed 16 (0 * 256 + 15) == 15)) = true) ∧ (bq cX8_isSealed 21 28 = true) ∧ (bq cX8_isSealed 22 27 = true) ∧ ((bq cX8_isSealed 23 184 && bq cX8_isSealed (23 + 1) 0 && bq cX8_isSealed (23 + 2) 180 && (0 * 256 + 180 == 180)) = true) ∧ ((bq cX8_isSealed 26 154 && bq cX8_isSealed (26 + 1) 0 && bq cX8_isSealed (26 + 2) 7 && (Reader.signed 16 (0 * 256 + 7) == 7)) = true) ∧ (bq cX8_isSealed 29 4 = true) ∧ ((bq cX8_isSealed 30 167 && bq cX8_isSealed (30 + 1) 0 && bq cX8_isSealed (30 + 2) 4 && (Reader.signed 16 (0 * 256 + 4) == 4)) = true) ∧ (bq cX8_isSealed 33 3 = true) ∧ (bq cX8_isSealed 34 172 = true) := by decide +kernel
theorem dX8_isSealed_0 : decode cX8_isSealed 0 = .ok (.aload_n 0, 1) := dr_42  pk_decb_162.1
theorem dX8_isSealed_1 : decode cX8_isSealed 1 = .ok (.aload_n 0, 1) := dr_42  pk_decb_162.2.1
theorem dX8_isSealed_2 : decode cX8_isSealed 2 = .ok (.iload_n 1, 1) := dr_27  pk_decb_162.2.2.1
theorem dX8_isSealed_3 : decode cX8_isSealed 3 = .ok (.invokevirtual 183, 3) := dr_182 0 183  pk_decb_162.2.2.2.1
theorem dX8_isSealed_6 : decode cX8_isSealed 6 = .ok (.invokevirtual 90, 3) := dr_182 0 90  pk_decb_162.2.2.2.2.1
theorem dX8_isSealed_9 : decode cX8_isSealed 9 = .ok (.astore_n 3, 1) := dr_78  pk_decb_162.2.2.2.2.2.1
theorem dX8_isSealed_10 : decode cX8_isSealed 10 = .ok (.aload_n 3, 1) := dr_45  pk_decb_162.2.2.2.2.2.2.1
theorem dX8_isSealed_11 : decode cX8_isSealed 11 = .ok (.ifnull 22, 3) := dr_198 0 22  pk_decb_162.2.2.2.2.2.2.2.1
theorem dX8_isSealed_14 : decode cX8_isSealed 14 = .ok (.aload_n 3, 1) := dr_45  pk_decb_162.2.2.2.2.2.2.2.2.1
theorem dX8_isSealed_15 : decode cX8_isSealed 15 = .ok (.getfield 121, 3) := dr_180 0 121  pk_decb_162.2.2.2.2.2.2.2.2.2.1
theorem dX8_isSealed_18 : decode cX8_isSealed 18 = .ok (.ifCond .eq 15, 3) := dr_153 0 15  pk_decb_162.2.2.2.2.2.2.2.2.2.2.1
theorem dX8_isSealed_21 : decode cX8_isSealed 21 = .ok (.iload_n 2, 1) := dr_28  pk_decb_162.2.2.2.2.2.2.2.2.2.2.2.1
theorem dX8_isSealed_22 : decode cX8_isSealed 22 = .ok (.iload_n 1, 1) := dr_27  pk_decb_162.2.2.2.2.2.2.2.2.2.2.2.2.1
theorem dX8_isSealed_23 : decode cX8_isSealed 23 = .ok (.invokestatic 180, 3) := dr_184 0 180  pk_decb_162.2.2.2.2.2.2.2.2.2.2.2.2.2.1
theorem dX8_isSealed_26 : decode cX8_isSealed 26 = .ok (.ifCond .ne 7, 3) := dr_154 0 7  pk_decb_162.2.2.2.2.2.2.2.2.2.2.2.2.2.2.1
theorem dX8_isSealed_29 : decode cX8_isSealed 29 = .ok (.iconst 1, 1) := dr_4  pk_decb_162.2.2.2.2.2.2.2.2.2.2.2.2.2.2.2.1
theorem dX8_isSealed_30 : decode cX8_isSealed 30 = .ok (.goto 4, 3) := dr_167 0 4  pk_decb_162.2.2.2.2.2.2.2.2.2.2.2.2.2.2.2.2.1
theorem dX8_isSealed_33 : decode cX8_isSealed 33 = .ok (.iconst 0, 1) := dr_3  pk_decb_162.2.2.2.2.2.2.2.2.2.2.2.2.2.2.2.2.2.1
theorem dX8_isSealed_34 : decode cX8_isSealed 34 = .ok (.ireturn, 1) := dr_172  pk_decb_162.2.2.2.2.2.2.2.2.2.2.2.2.2.2.2.2.2.2
set_option maxRecDepth 20000 in
theorem pk_decb_163 : (bq cX8_checkedTools 0 3 = true) ∧ (bq cX8_checkedTools 1 60 = true) ∧ (bq cX8_checkedTools 2 3 = true) ∧ (bq cX8_checkedTools 3 61 = true) ∧ (bq cX8_checkedTools 4 28 = true) ∧ (bq cX8_checkedTools 5 42 = true) ∧ ((bq cX8_checkedTools 6 180 && bq cX8_checkedTools (6 + 1) 0 && bq cX8_checkedTools (6 + 2) 26 && (0 * 256 + 26 == 26)) = true) ∧ ((bq cX8_checkedTools 9 162 && bq cX8_checkedTools (9 + 1) 0 && bq cX8_checkedTools (9 + 2) 29 && (Reader.signed 16 (0 * 256 + 29) == 29)) = true) ∧ (bq cX8_checkedTools 12 42 = true) ∧ (bq cX8_checkedTools 13 28 = true) ∧ ((bq cX8_checkedTools 14 182 && bq cX8_checkedTools (14 + 1) 0 && bq cX8_checkedTools (14 + 2) 90 && (0 * 256 + 90 == 90)) = true) ∧ (bq cX8_checkedTools 17 78 = true) ∧ (bq cX8_checkedTools 18 45 = true) ∧ ((bq cX8_checkedTools 19 198 && bq cX8_checkedTools (19 + 1) 0 && bq cX8_checkedTools (19 + 2) 13 && (Reader.signed 16 (0 * 256 + 13) == 13)) = true) ∧ (bq cX8_checkedTools 22 45 = true) ∧ ((bq cX8_checkedTools 23 180 && bq cX8_checkedTools (23 + 1) 0 && bq cX8_checkedTools (23 + 2) 121 && (0 * 256 + 121 == 121)) = true) ∧ ((bq cX8_checkedTools 26 153 && bq cX8_checkedTools (26 + 1) 0 && bq cX8_checkedTools (26 + 2) 6 && (Reader.signed 16 (0 * 256 + 6) == 6)) = true) := by decide +kernel
theorem dX8_checkedTools_0 : decode cX8_checkedTools 0 = .ok (.iconst 0, 1) := dr_3  pk_decb_163.1
theorem dX8_checkedTools_1 : decode cX8_checkedTools 1 = .ok (.istore_n 1, 1) := dr_60  pk_decb_163.2.1
theorem dX8_checkedTools_2 : decode cX8_checkedTools 2 = .ok (.iconst 0, 1) := dr_3  pk_decb_163.2.2.1
theorem dX8_checkedTools_3 : decode cX8_checkedTools 3 = .ok (.istore_n 2, 1) := dr_61  pk_decb_163.2.2.2.1
theorem dX8_checkedTools_4 : decode cX8_checkedTools 4 = .ok (.iload_n 2, 1) := dr_28  pk_decb_163.2.2.2.2.1
theorem dX8_checkedTools_5 : decode cX8_checkedTools 5 = .ok (.aload_n 0, 1) := dr_42  pk_decb_163.2.2.2.2.2.1
theorem dX8_checkedTools_6 : decode cX8_checkedTools 6 = .ok (.getfield 26, 3) := dr_180 0 26  pk_decb_163.2.2.2.2.2.2.1
theorem dX8_checkedTools_9 : decode cX8_checkedTools 9 = .ok (.if_icmp .ge 29, 3) := dr_162 0 29  pk_decb_163.2.2.2.2.2.2.2.1
theorem dX8_checkedTools_12 : decode cX8_checkedTools 12 = .ok (.aload_n 0, 1) := dr_42  pk_decb_163.2.2.2.2.2.2.2.2.1
theorem dX8_checkedTools_13 : decode cX8_checkedTools 13 = .ok (.iload_n 2, 1) := dr_28  pk_decb_163.2.2.2.2.2.2.2.2.2.1
theorem dX8_checkedTools_14 : decode cX8_checkedTools 14 = .ok (.invokevirtual 90, 3) := dr_182 0 90  pk_decb_163.2.2.2.2.2.2.2.2.2.2.1
theorem dX8_checkedTools_17 : decode cX8_checkedTools 17 = .ok (.astore_n 3, 1) := dr_78  pk_decb_163.2.2.2.2.2.2.2.2.2.2.2.1
theorem dX8_checkedTools_18 : decode cX8_checkedTools 18 = .ok (.aload_n 3, 1) := dr_45  pk_decb_163.2.2.2.2.2.2.2.2.2.2.2.2.1
theorem dX8_checkedTools_19 : decode cX8_checkedTools 19 = .ok (.ifnull 13, 3) := dr_198 0 13  pk_decb_163.2.2.2.2.2.2.2.2.2.2.2.2.2.1
theorem dX8_checkedTools_22 : decode cX8_checkedTools 22 = .ok (.aload_n 3, 1) := dr_45  pk_decb_163.2.2.2.2.2.2.2.2.2.2.2.2.2.2.1
theorem dX8_checkedTools_23 : decode cX8_checkedTools 23 = .ok (.getfield 121, 3) := dr_180 0 121  pk_decb_163.2.2.2.2.2.2.2.2.2.2.2.2.2.2.2.1
theorem dX8_checkedTools_26 : decode cX8_checkedTools 26 = .ok (.ifCond .eq 6, 3) := dr_153 0 6  pk_decb_163.2.2.2.2.2.2.2.2.2.2.2.2.2.2.2.2
theorem dX8_checkedTools_29 : decode cX8_checkedTools 29 = .ok (.iinc 1 1, 3) := by decide +kernel
theorem dX8_checkedTools_32 : decode cX8_checkedTools 32 = .ok (.iinc 2 1, 3) := by decide +kernel
set_option maxRecDepth 20000 in
theorem pk_decb_164 : ((bq cX8_checkedTools 35 167 && bq cX8_checkedTools (35 + 1) 255 && bq cX8_checkedTools (35 + 2) 225 && (Reader.signed 16 (255 * 256 + 225) == (-31))) = true) ∧ (bq cX8_checkedTools 38 27 = true) ∧ (bq cX8_checkedTools 39 172 = true) := by decide +kernel
theorem dX8_checkedTools_35 : decode cX8_checkedTools 35 = .ok (.goto (-31), 3) := dr_167 255 225  pk_decb_164.1
theorem dX8_checkedTools_38 : decode cX8_checkedTools 38 = .ok (.iload_n 1, 1) := dr_27  pk_decb_164.2.1
theorem dX8_checkedTools_39 : decode cX8_checkedTools 39 = .ok (.ireturn, 1) := dr_172  pk_decb_164.2.2
set_option maxRecDepth 20000 in
theorem pk_decb_165 : (bq cX8_sealedTools 0 3 = true) ∧ (bq cX8_sealedTools 1 61 = true) ∧ (bq cX8_sealedTools 2 3 = true) ∧ (bq cX8_sealedTools 3 62 = true) ∧ (bq cX8_sealedTools 4 29 = true) ∧ (bq cX8_sealedTools 5 42 = true) ∧ ((bq cX8_sealedTools 6 180 && bq cX8_sealedTools (6 + 1) 0 && bq cX8_sealedTools (6 + 2) 26 && (0 * 256 + 26 == 26)) = true) ∧ ((bq cX8_sealedTools 9 162 && bq cX8_sealedTools (9 + 1) 0 && bq cX8_sealedTools (9 + 2) 21 && (Reader.signed 16 (0 * 256 + 21) == 21)) = true) ∧ (bq cX8_sealedTools 12 42 = true) ∧ (bq cX8_sealedTools 13 29 = true) ∧ (bq cX8_sealedTools 14 27 = true) ∧ ((bq cX8_sealedTools 15 182 && bq cX8_sealedTools (15 + 1) 0 && bq cX8_sealedTools (15 + 2) 176 && (0 * 256 + 176 == 176)) = true) ∧ ((bq cX8_sealedTools 18 153 && bq cX8_sealedTools (18 + 1) 0 && bq cX8_sealedTools (18 + 2) 6 && (Reader.signed 16 (0 * 256 + 6) == 6)) = true) := by decide +kernel
theorem dX8_sealedTools_0 : decode cX8_sealedTools 0 = .ok (.iconst 0, 1) := dr_3  pk_decb_165.1
theorem dX8_sealedTools_1 : decode cX8_sealedTools 1 = .ok (.istore_n 2, 1) := dr_61  pk_decb_165.2.1
theorem dX8_sealedTools_2 : decode cX8_sealedTools 2 = .ok (.iconst 0, 1) := dr_3  pk_decb_165.2.2.1
theorem dX8_sealedTools_3 : decode cX8_sealedTools 3 = .ok (.istore_n 3, 1) := dr_62  pk_decb_165.2.2.2.1
theorem dX8_sealedTools_4 : decode cX8_sealedTools 4 = .ok (.iload_n 3, 1) := dr_29  pk_decb_165.2.2.2.2.1
theorem dX8_sealedTools_5 : decode cX8_sealedTools 5 = .ok (.aload_n 0, 1) := dr_42  pk_decb_165.2.2.2.2.2.1
theorem dX8_sealedTools_6 : decode cX8_sealedTools 6 = .ok (.getfield 26, 3) := dr_180 0 26  pk_decb_165.2.2.2.2.2.2.1
theorem dX8_sealedTools_9 : decode cX8_sealedTools 9 = .ok (.if_icmp .ge 21, 3) := dr_162 0 21  pk_decb_165.2.2.2.2.2.2.2.1
theorem dX8_sealedTools_12 : decode cX8_sealedTools 12 = .ok (.aload_n 0, 1) := dr_42  pk_decb_165.2.2.2.2.2.2.2.2.1
theorem dX8_sealedTools_13 : decode cX8_sealedTools 13 = .ok (.iload_n 3, 1) := dr_29  pk_decb_165.2.2.2.2.2.2.2.2.2.1
theorem dX8_sealedTools_14 : decode cX8_sealedTools 14 = .ok (.iload_n 1, 1) := dr_27  pk_decb_165.2.2.2.2.2.2.2.2.2.2.1
theorem dX8_sealedTools_15 : decode cX8_sealedTools 15 = .ok (.invokevirtual 176, 3) := dr_182 0 176  pk_decb_165.2.2.2.2.2.2.2.2.2.2.2.1
theorem dX8_sealedTools_18 : decode cX8_sealedTools 18 = .ok (.ifCond .eq 6, 3) := dr_153 0 6  pk_decb_165.2.2.2.2.2.2.2.2.2.2.2.2
theorem dX8_sealedTools_21 : decode cX8_sealedTools 21 = .ok (.iinc 2 1, 3) := by decide +kernel
theorem dX8_sealedTools_24 : decode cX8_sealedTools 24 = .ok (.iinc 3 1, 3) := by decide +kernel
set_option maxRecDepth 20000 in
theorem pk_decb_166 : ((bq cX8_sealedTools 27 167 && bq cX8_sealedTools (27 + 1) 255 && bq cX8_sealedTools (27 + 2) 233 && (Reader.signed 16 (255 * 256 + 233) == (-23))) = true) ∧ (bq cX8_sealedTools 30 28 = true) ∧ (bq cX8_sealedTools 31 172 = true) := by decide +kernel
theorem dX8_sealedTools_27 : decode cX8_sealedTools 27 = .ok (.goto (-23), 3) := dr_167 255 233  pk_decb_166.1
theorem dX8_sealedTools_30 : decode cX8_sealedTools 30 = .ok (.iload_n 2, 1) := dr_28  pk_decb_166.2.1
theorem dX8_sealedTools_31 : decode cX8_sealedTools 31 = .ok (.ireturn, 1) := dr_172  pk_decb_166.2.2
set_option maxRecDepth 20000 in
theorem pk_decb_167 : (bq cX8_asTool 0 42 = true) ∧ (bq cX8_asTool 1 89 = true) ∧ ((bq cX8_asTool 2 180 && bq cX8_asTool (2 + 1) 0 && bq cX8_asTool (2 + 2) 63 && (0 * 256 + 63 == 63)) = true) ∧ (bq cX8_asTool 5 10 = true) ∧ (bq cX8_asTool 6 97 = true) ∧ ((bq cX8_asTool 7 181 && bq cX8_asTool (7 + 1) 0 && bq cX8_asTool (7 + 2) 63 && (0 * 256 + 63 == 63)) = true) ∧ (bq cX8_asTool 10 43 = true) ∧ ((bq cX8_asTool 11 180 && bq cX8_asTool (11 + 1) 0 && bq cX8_asTool (11 + 2) 94 && (0 * 256 + 94 == 94)) = true) ∧ ((bq cX8_asTool 14 180 && bq cX8_asTool (14 + 1) 0 && bq cX8_asTool (14 + 2) 109 && (0 * 256 + 109 == 109)) = true) ∧ (bq cX8_asTool 17 172 = true) := by decide +kernel
theorem dX8_asTool_0 : decode cX8_asTool 0 = .ok (.aload_n 0, 1) := dr_42  pk_decb_167.1
theorem dX8_asTool_1 : decode cX8_asTool 1 = .ok (.dup, 1) := dr_89  pk_decb_167.2.1
theorem dX8_asTool_2 : decode cX8_asTool 2 = .ok (.getfield 63, 3) := dr_180 0 63  pk_decb_167.2.2.1
theorem dX8_asTool_5 : decode cX8_asTool 5 = .ok (.lconst 1, 1) := dr_10  pk_decb_167.2.2.2.1
theorem dX8_asTool_6 : decode cX8_asTool 6 = .ok (.ladd, 1) := dr_97  pk_decb_167.2.2.2.2.1
theorem dX8_asTool_7 : decode cX8_asTool 7 = .ok (.putfield 63, 3) := dr_181 0 63  pk_decb_167.2.2.2.2.2.1
theorem dX8_asTool_10 : decode cX8_asTool 10 = .ok (.aload_n 1, 1) := dr_43  pk_decb_167.2.2.2.2.2.2.1
theorem dX8_asTool_11 : decode cX8_asTool 11 = .ok (.getfield 94, 3) := dr_180 0 94  pk_decb_167.2.2.2.2.2.2.2.1
theorem dX8_asTool_14 : decode cX8_asTool 14 = .ok (.getfield 109, 3) := dr_180 0 109  pk_decb_167.2.2.2.2.2.2.2.2.1
theorem dX8_asTool_17 : decode cX8_asTool 17 = .ok (.ireturn, 1) := dr_172  pk_decb_167.2.2.2.2.2.2.2.2.2
set_option maxRecDepth 20000 in
theorem pk_decb_168 : (bq cX8_asPaired 0 42 = true) ∧ (bq cX8_asPaired 1 89 = true) ∧ ((bq cX8_asPaired 2 180 && bq cX8_asPaired (2 + 1) 0 && bq cX8_asPaired (2 + 2) 63 && (0 * 256 + 63 == 63)) = true) ∧ ((bq cX8_asPaired 5 20 && bq cX8_asPaired (5 + 1) 1 && bq cX8_asPaired (5 + 2) 0 && (1 * 256 + 0 == 256)) = true) ∧ (bq cX8_asPaired 8 97 = true) ∧ ((bq cX8_asPaired 9 181 && bq cX8_asPaired (9 + 1) 0 && bq cX8_asPaired (9 + 2) 63 && (0 * 256 + 63 == 63)) = true) ∧ (bq cX8_asPaired 12 42 = true) ∧ (bq cX8_asPaired 13 43 = true) ∧ ((bq cX8_asPaired 14 182 && bq cX8_asPaired (14 + 1) 0 && bq cX8_asPaired (14 + 2) 200 && (0 * 256 + 200 == 200)) = true) ∧ (bq cX8_asPaired 17 43 = true) ∧ ((bq cX8_asPaired 18 180 && bq cX8_asPaired (18 + 1) 0 && bq cX8_asPaired (18 + 2) 121 && (0 * 256 + 121 == 121)) = true) ∧ ((bq cX8_asPaired 21 153 && bq cX8_asPaired (21 + 1) 0 && bq cX8_asPaired (21 + 2) 8 && (Reader.signed 16 (0 * 256 + 8) == 8)) = true) ∧ ((bq cX8_asPaired 24 16 && bq cX8_asPaired (24 + 1) 9 && (Reader.signed 8 9 == 9)) = true) ∧ ((bq cX8_asPaired 26 167 && bq cX8_asPaired (26 + 1) 0 && bq cX8_asPaired (26 + 2) 4 && (Reader.signed 16 (0 * 256 + 4) == 4)) = true) ∧ (bq cX8_asPaired 29 3 = true) ∧ (bq cX8_asPaired 30 96 = true) ∧ (bq cX8_asPaired 31 172 = true) := by decide +kernel
theorem dX8_asPaired_0 : decode cX8_asPaired 0 = .ok (.aload_n 0, 1) := dr_42  pk_decb_168.1
theorem dX8_asPaired_1 : decode cX8_asPaired 1 = .ok (.dup, 1) := dr_89  pk_decb_168.2.1
theorem dX8_asPaired_2 : decode cX8_asPaired 2 = .ok (.getfield 63, 3) := dr_180 0 63  pk_decb_168.2.2.1
theorem dX8_asPaired_5 : decode cX8_asPaired 5 = .ok (.ldc2_w 256, 3) := dr_20 1 0  pk_decb_168.2.2.2.1
theorem dX8_asPaired_8 : decode cX8_asPaired 8 = .ok (.ladd, 1) := dr_97  pk_decb_168.2.2.2.2.1
theorem dX8_asPaired_9 : decode cX8_asPaired 9 = .ok (.putfield 63, 3) := dr_181 0 63  pk_decb_168.2.2.2.2.2.1
theorem dX8_asPaired_12 : decode cX8_asPaired 12 = .ok (.aload_n 0, 1) := dr_42  pk_decb_168.2.2.2.2.2.2.1
theorem dX8_asPaired_13 : decode cX8_asPaired 13 = .ok (.aload_n 1, 1) := dr_43  pk_decb_168.2.2.2.2.2.2.2.1
theorem dX8_asPaired_14 : decode cX8_asPaired 14 = .ok (.invokevirtual 200, 3) := dr_182 0 200  pk_decb_168.2.2.2.2.2.2.2.2.1
theorem dX8_asPaired_17 : decode cX8_asPaired 17 = .ok (.aload_n 1, 1) := dr_43  pk_decb_168.2.2.2.2.2.2.2.2.2.1
theorem dX8_asPaired_18 : decode cX8_asPaired 18 = .ok (.getfield 121, 3) := dr_180 0 121  pk_decb_168.2.2.2.2.2.2.2.2.2.2.1
theorem dX8_asPaired_21 : decode cX8_asPaired 21 = .ok (.ifCond .eq 8, 3) := dr_153 0 8  pk_decb_168.2.2.2.2.2.2.2.2.2.2.2.1
theorem dX8_asPaired_24 : decode cX8_asPaired 24 = .ok (.bipush 9, 2) := dr_16 9  pk_decb_168.2.2.2.2.2.2.2.2.2.2.2.2.1
theorem dX8_asPaired_26 : decode cX8_asPaired 26 = .ok (.goto 4, 3) := dr_167 0 4  pk_decb_168.2.2.2.2.2.2.2.2.2.2.2.2.2.1
theorem dX8_asPaired_29 : decode cX8_asPaired 29 = .ok (.iconst 0, 1) := dr_3  pk_decb_168.2.2.2.2.2.2.2.2.2.2.2.2.2.2.1
theorem dX8_asPaired_30 : decode cX8_asPaired 30 = .ok (.iadd, 1) := dr_96  pk_decb_168.2.2.2.2.2.2.2.2.2.2.2.2.2.2.2.1
theorem dX8_asPaired_31 : decode cX8_asPaired 31 = .ok (.ireturn, 1) := dr_172  pk_decb_168.2.2.2.2.2.2.2.2.2.2.2.2.2.2.2.2
set_option maxRecDepth 20000 in
theorem pk_decb_169 : (bq cX8_asNamed 0 42 = true) ∧ (bq cX8_asNamed 1 89 = true) ∧ ((bq cX8_asNamed 2 180 && bq cX8_asNamed (2 + 1) 0 && bq cX8_asNamed (2 + 2) 63 && (0 * 256 + 63 == 63)) = true) ∧ ((bq cX8_asNamed 5 20 && bq cX8_asNamed (5 + 1) 1 && bq cX8_asNamed (5 + 2) 2 && (1 * 256 + 2 == 258)) = true) ∧ (bq cX8_asNamed 8 97 = true) ∧ ((bq cX8_asNamed 9 181 && bq cX8_asNamed (9 + 1) 0 && bq cX8_asNamed (9 + 2) 63 && (0 * 256 + 63 == 63)) = true) ∧ (bq cX8_asNamed 12 42 = true) ∧ (bq cX8_asNamed 13 43 = true) ∧ ((bq cX8_asNamed 14 182 && bq cX8_asNamed (14 + 1) 0 && bq cX8_asNamed (14 + 2) 200 && (0 * 256 + 200 == 200)) = true) ∧ (bq cX8_asNamed 17 5 = true) ∧ (bq cX8_asNamed 18 43 = true) ∧ ((bq cX8_asNamed 19 180 && bq cX8_asNamed (19 + 1) 0 && bq cX8_asNamed (19 + 2) 94 && (0 * 256 + 94 == 94)) = true) ∧ ((bq cX8_asNamed 22 182 && bq cX8_asNamed (22 + 1) 1 && bq cX8_asNamed (22 + 2) 4 && (1 * 256 + 4 == 260)) = true) ∧ (bq cX8_asNamed 25 104 = true) ∧ (bq cX8_asNamed 26 96 = true) ∧ (bq cX8_asNamed 27 172 = true) := by decide +kernel
theorem dX8_asNamed_0 : decode cX8_asNamed 0 = .ok (.aload_n 0, 1) := dr_42  pk_decb_169.1
theorem dX8_asNamed_1 : decode cX8_asNamed 1 = .ok (.dup, 1) := dr_89  pk_decb_169.2.1
theorem dX8_asNamed_2 : decode cX8_asNamed 2 = .ok (.getfield 63, 3) := dr_180 0 63  pk_decb_169.2.2.1
theorem dX8_asNamed_5 : decode cX8_asNamed 5 = .ok (.ldc2_w 258, 3) := dr_20 1 2  pk_decb_169.2.2.2.1
theorem dX8_asNamed_8 : decode cX8_asNamed 8 = .ok (.ladd, 1) := dr_97  pk_decb_169.2.2.2.2.1
theorem dX8_asNamed_9 : decode cX8_asNamed 9 = .ok (.putfield 63, 3) := dr_181 0 63  pk_decb_169.2.2.2.2.2.1
theorem dX8_asNamed_12 : decode cX8_asNamed 12 = .ok (.aload_n 0, 1) := dr_42  pk_decb_169.2.2.2.2.2.2.1
theorem dX8_asNamed_13 : decode cX8_asNamed 13 = .ok (.aload_n 1, 1) := dr_43  pk_decb_169.2.2.2.2.2.2.2.1
theorem dX8_asNamed_14 : decode cX8_asNamed 14 = .ok (.invokevirtual 200, 3) := dr_182 0 200  pk_decb_169.2.2.2.2.2.2.2.2.1
theorem dX8_asNamed_17 : decode cX8_asNamed 17 = .ok (.iconst 2, 1) := dr_5  pk_decb_169.2.2.2.2.2.2.2.2.2.1
theorem dX8_asNamed_18 : decode cX8_asNamed 18 = .ok (.aload_n 1, 1) := dr_43  pk_decb_169.2.2.2.2.2.2.2.2.2.2.1
theorem dX8_asNamed_19 : decode cX8_asNamed 19 = .ok (.getfield 94, 3) := dr_180 0 94  pk_decb_169.2.2.2.2.2.2.2.2.2.2.2.1
theorem dX8_asNamed_22 : decode cX8_asNamed 22 = .ok (.invokevirtual 260, 3) := dr_182 1 4  pk_decb_169.2.2.2.2.2.2.2.2.2.2.2.2.1
theorem dX8_asNamed_25 : decode cX8_asNamed 25 = .ok (.imul, 1) := dr_104  pk_decb_169.2.2.2.2.2.2.2.2.2.2.2.2.2.1
theorem dX8_asNamed_26 : decode cX8_asNamed 26 = .ok (.iadd, 1) := dr_96  pk_decb_169.2.2.2.2.2.2.2.2.2.2.2.2.2.2.1
theorem dX8_asNamed_27 : decode cX8_asNamed 27 = .ok (.ireturn, 1) := dr_172  pk_decb_169.2.2.2.2.2.2.2.2.2.2.2.2.2.2.2
set_option maxRecDepth 20000 in
theorem pk_decb_170 : (bq cX8_asBuilt 0 42 = true) ∧ (bq cX8_asBuilt 1 89 = true) ∧ ((bq cX8_asBuilt 2 180 && bq cX8_asBuilt (2 + 1) 0 && bq cX8_asBuilt (2 + 2) 63 && (0 * 256 + 63 == 63)) = true) ∧ ((bq cX8_asBuilt 5 20 && bq cX8_asBuilt (5 + 1) 1 && bq cX8_asBuilt (5 + 2) 7 && (1 * 256 + 7 == 263)) = true) ∧ (bq cX8_asBuilt 8 97 = true) ∧ ((bq cX8_asBuilt 9 181 && bq cX8_asBuilt (9 + 1) 0 && bq cX8_asBuilt (9 + 2) 63 && (0 * 256 + 63 == 63)) = true) ∧ (bq cX8_asBuilt 12 42 = true) ∧ (bq cX8_asBuilt 13 43 = true) ∧ ((bq cX8_asBuilt 14 182 && bq cX8_asBuilt (14 + 1) 0 && bq cX8_asBuilt (14 + 2) 206 && (0 * 256 + 206 == 206)) = true) ∧ (bq cX8_asBuilt 17 42 = true) ∧ (bq cX8_asBuilt 18 28 = true) ∧ ((bq cX8_asBuilt 19 182 && bq cX8_asBuilt (19 + 1) 0 && bq cX8_asBuilt (19 + 2) 170 && (0 * 256 + 170 == 170)) = true) ∧ (bq cX8_asBuilt 22 96 = true) ∧ (bq cX8_asBuilt 23 172 = true) := by decide +kernel
theorem dX8_asBuilt_0 : decode cX8_asBuilt 0 = .ok (.aload_n 0, 1) := dr_42  pk_decb_170.1
theorem dX8_asBuilt_1 : decode cX8_asBuilt 1 = .ok (.dup, 1) := dr_89  pk_decb_170.2.1
theorem dX8_asBuilt_2 : decode cX8_asBuilt 2 = .ok (.getfield 63, 3) := dr_180 0 63  pk_decb_170.2.2.1
theorem dX8_asBuilt_5 : decode cX8_asBuilt 5 = .ok (.ldc2_w 263, 3) := dr_20 1 7  pk_decb_170.2.2.2.1
theorem dX8_asBuilt_8 : decode cX8_asBuilt 8 = .ok (.ladd, 1) := dr_97  pk_decb_170.2.2.2.2.1
theorem dX8_asBuilt_9 : decode cX8_asBuilt 9 = .ok (.putfield 63, 3) := dr_181 0 63  pk_decb_170.2.2.2.2.2.1
theorem dX8_asBuilt_12 : decode cX8_asBuilt 12 = .ok (.aload_n 0, 1) := dr_42  pk_decb_170.2.2.2.2.2.2.1
theorem dX8_asBuilt_13 : decode cX8_asBuilt 13 = .ok (.aload_n 1, 1) := dr_43  pk_decb_170.2.2.2.2.2.2.2.1
theorem dX8_asBuilt_14 : decode cX8_asBuilt 14 = .ok (.invokevirtual 206, 3) := dr_182 0 206  pk_decb_170.2.2.2.2.2.2.2.2.1
theorem dX8_asBuilt_17 : decode cX8_asBuilt 17 = .ok (.aload_n 0, 1) := dr_42  pk_decb_170.2.2.2.2.2.2.2.2.2.1
theorem dX8_asBuilt_18 : decode cX8_asBuilt 18 = .ok (.iload_n 2, 1) := dr_28  pk_decb_170.2.2.2.2.2.2.2.2.2.2.1
theorem dX8_asBuilt_19 : decode cX8_asBuilt 19 = .ok (.invokevirtual 170, 3) := dr_182 0 170  pk_decb_170.2.2.2.2.2.2.2.2.2.2.2.1
theorem dX8_asBuilt_22 : decode cX8_asBuilt 22 = .ok (.iadd, 1) := dr_96  pk_decb_170.2.2.2.2.2.2.2.2.2.2.2.2.1
theorem dX8_asBuilt_23 : decode cX8_asBuilt 23 = .ok (.ireturn, 1) := dr_172  pk_decb_170.2.2.2.2.2.2.2.2.2.2.2.2.2
set_option maxRecDepth 20000 in
theorem pk_decb_171 : (bq cX8_asSealed 0 42 = true) ∧ (bq cX8_asSealed 1 89 = true) ∧ ((bq cX8_asSealed 2 180 && bq cX8_asSealed (2 + 1) 0 && bq cX8_asSealed (2 + 2) 63 && (0 * 256 + 63 == 63)) = true) ∧ ((bq cX8_asSealed 5 20 && bq cX8_asSealed (5 + 1) 1 && bq cX8_asSealed (5 + 2) 9 && (1 * 256 + 9 == 265)) = true) ∧ (bq cX8_asSealed 8 97 = true) ∧ ((bq cX8_asSealed 9 181 && bq cX8_asSealed (9 + 1) 0 && bq cX8_asSealed (9 + 2) 63 && (0 * 256 + 63 == 63)) = true) ∧ (bq cX8_asSealed 12 42 = true) ∧ (bq cX8_asSealed 13 43 = true) ∧ (bq cX8_asSealed 14 28 = true) ∧ ((bq cX8_asSealed 15 182 && bq cX8_asSealed (15 + 1) 0 && bq cX8_asSealed (15 + 2) 209 && (0 * 256 + 209 == 209)) = true) ∧ (bq cX8_asSealed 18 6 = true) ∧ (bq cX8_asSealed 19 104 = true) ∧ ((bq cX8_asSealed 20 17 && bq cX8_asSealed (20 + 1) 0 && bq cX8_asSealed (20 + 2) 251 && (Reader.signed 16 (0 * 256 + 251) == 251)) = true) ∧ (bq cX8_asSealed 23 112 = true) ∧ (bq cX8_asSealed 24 172 = true) := by decide +kernel
theorem dX8_asSealed_0 : decode cX8_asSealed 0 = .ok (.aload_n 0, 1) := dr_42  pk_decb_171.1
theorem dX8_asSealed_1 : decode cX8_asSealed 1 = .ok (.dup, 1) := dr_89  pk_decb_171.2.1
theorem dX8_asSealed_2 : decode cX8_asSealed 2 = .ok (.getfield 63, 3) := dr_180 0 63  pk_decb_171.2.2.1
theorem dX8_asSealed_5 : decode cX8_asSealed 5 = .ok (.ldc2_w 265, 3) := dr_20 1 9  pk_decb_171.2.2.2.1
theorem dX8_asSealed_8 : decode cX8_asSealed 8 = .ok (.ladd, 1) := dr_97  pk_decb_171.2.2.2.2.1
theorem dX8_asSealed_9 : decode cX8_asSealed 9 = .ok (.putfield 63, 3) := dr_181 0 63  pk_decb_171.2.2.2.2.2.1
theorem dX8_asSealed_12 : decode cX8_asSealed 12 = .ok (.aload_n 0, 1) := dr_42  pk_decb_171.2.2.2.2.2.2.1
theorem dX8_asSealed_13 : decode cX8_asSealed 13 = .ok (.aload_n 1, 1) := dr_43  pk_decb_171.2.2.2.2.2.2.2.1
theorem dX8_asSealed_14 : decode cX8_asSealed 14 = .ok (.iload_n 2, 1) := dr_28  pk_decb_171.2.2.2.2.2.2.2.2.1
theorem dX8_asSealed_15 : decode cX8_asSealed 15 = .ok (.invokevirtual 209, 3) := dr_182 0 209  pk_decb_171.2.2.2.2.2.2.2.2.2.1
theorem dX8_asSealed_18 : decode cX8_asSealed 18 = .ok (.iconst 3, 1) := dr_6  pk_decb_171.2.2.2.2.2.2.2.2.2.2.1
theorem dX8_asSealed_19 : decode cX8_asSealed 19 = .ok (.imul, 1) := dr_104  pk_decb_171.2.2.2.2.2.2.2.2.2.2.2.1
theorem dX8_asSealed_20 : decode cX8_asSealed 20 = .ok (.sipush 251, 3) := dr_17 0 251  pk_decb_171.2.2.2.2.2.2.2.2.2.2.2.2.1
theorem dX8_asSealed_23 : decode cX8_asSealed 23 = .ok (.irem, 1) := dr_112  pk_decb_171.2.2.2.2.2.2.2.2.2.2.2.2.2.1
theorem dX8_asSealed_24 : decode cX8_asSealed 24 = .ok (.ireturn, 1) := dr_172  pk_decb_171.2.2.2.2.2.2.2.2.2.2.2.2.2.2
set_option maxRecDepth 20000 in
theorem pk_decb_172 : (bq cX8_asDoubted 0 42 = true) ∧ (bq cX8_asDoubted 1 89 = true) ∧ ((bq cX8_asDoubted 2 180 && bq cX8_asDoubted (2 + 1) 0 && bq cX8_asDoubted (2 + 2) 63 && (0 * 256 + 63 == 63)) = true) ∧ ((bq cX8_asDoubted 5 20 && bq cX8_asDoubted (5 + 1) 1 && bq cX8_asDoubted (5 + 2) 11 && (1 * 256 + 11 == 267)) = true) ∧ (bq cX8_asDoubted 8 97 = true) ∧ ((bq cX8_asDoubted 9 181 && bq cX8_asDoubted (9 + 1) 0 && bq cX8_asDoubted (9 + 2) 63 && (0 * 256 + 63 == 63)) = true) ∧ (bq cX8_asDoubted 12 42 = true) ∧ (bq cX8_asDoubted 13 43 = true) ∧ ((bq cX8_asDoubted 14 182 && bq cX8_asDoubted (14 + 1) 0 && bq cX8_asDoubted (14 + 2) 200 && (0 * 256 + 200 == 200)) = true) ∧ (bq cX8_asDoubted 17 6 = true) ∧ (bq cX8_asDoubted 18 108 = true) ∧ (bq cX8_asDoubted 19 172 = true) := by decide +kernel
theorem dX8_asDoubted_0 : decode cX8_asDoubted 0 = .ok (.aload_n 0, 1) := dr_42  pk_decb_172.1
theorem dX8_asDoubted_1 : decode cX8_asDoubted 1 = .ok (.dup, 1) := dr_89  pk_decb_172.2.1
theorem dX8_asDoubted_2 : decode cX8_asDoubted 2 = .ok (.getfield 63, 3) := dr_180 0 63  pk_decb_172.2.2.1
theorem dX8_asDoubted_5 : decode cX8_asDoubted 5 = .ok (.ldc2_w 267, 3) := dr_20 1 11  pk_decb_172.2.2.2.1
theorem dX8_asDoubted_8 : decode cX8_asDoubted 8 = .ok (.ladd, 1) := dr_97  pk_decb_172.2.2.2.2.1
theorem dX8_asDoubted_9 : decode cX8_asDoubted 9 = .ok (.putfield 63, 3) := dr_181 0 63  pk_decb_172.2.2.2.2.2.1
theorem dX8_asDoubted_12 : decode cX8_asDoubted 12 = .ok (.aload_n 0, 1) := dr_42  pk_decb_172.2.2.2.2.2.2.1
theorem dX8_asDoubted_13 : decode cX8_asDoubted 13 = .ok (.aload_n 1, 1) := dr_43  pk_decb_172.2.2.2.2.2.2.2.1
theorem dX8_asDoubted_14 : decode cX8_asDoubted 14 = .ok (.invokevirtual 200, 3) := dr_182 0 200  pk_decb_172.2.2.2.2.2.2.2.2.1
theorem dX8_asDoubted_17 : decode cX8_asDoubted 17 = .ok (.iconst 3, 1) := dr_6  pk_decb_172.2.2.2.2.2.2.2.2.2.1
theorem dX8_asDoubted_18 : decode cX8_asDoubted 18 = .ok (.idiv, 1) := dr_108  pk_decb_172.2.2.2.2.2.2.2.2.2.2.1
theorem dX8_asDoubted_19 : decode cX8_asDoubted 19 = .ok (.ireturn, 1) := dr_172  pk_decb_172.2.2.2.2.2.2.2.2.2.2.2
