set_option maxRecDepth 20000 in
theorem pk_deca_0 : (bq cX0_init 0 42 = true) ∧ ((bq cX0_init 1 183 && bq cX0_init (1 + 1) 0 && bq cX0_init (1 + 2) 3 && (0 * 256 + 3 == 3)) = true) ∧ (bq cX0_init 4 42 = true) ∧ (bq cX0_init 5 3 = true) ∧ ((bq cX0_init 6 181 && bq cX0_init (6 + 1) 0 && bq cX0_init (6 + 2) 9 && (0 * 256 + 9 == 9)) = true) ∧ (bq cX0_init 9 42 = true) ∧ (bq cX0_init 10 27 = true) ∧ ((bq cX0_init 11 156 && bq cX0_init (11 + 1) 0 && bq cX0_init (11 + 2) 7 && (Reader.signed 16 (0 * 256 + 7) == 7)) = true) ∧ (bq cX0_init 14 3 = true) ∧ ((bq cX0_init 15 167 && bq cX0_init (15 + 1) 0 && bq cX0_init (15 + 2) 10 && (Reader.signed 16 (0 * 256 + 10) == 10)) = true) ∧ (bq cX0_init 18 27 = true) ∧ ((bq cX0_init 19 17 && bq cX0_init (19 + 1) 1 && bq cX0_init (19 + 2) 0 && (Reader.signed 16 (1 * 256 + 0) == 256)) = true) ∧ ((bq cX0_init 22 184 && bq cX0_init (22 + 1) 0 && bq cX0_init (22 + 2) 15 && (0 * 256 + 15 == 15)) = true) ∧ ((bq cX0_init 25 181 && bq cX0_init (25 + 1) 0 && bq cX0_init (25 + 2) 21 && (0 * 256 + 21 == 21)) = true) ∧ (bq cX0_init 28 42 = true) ∧ (bq cX0_init 29 42 = true) ∧ ((bq cX0_init 30 180 && bq cX0_init (30 + 1) 0 && bq cX0_init (30 + 2) 21 && (0 * 256 + 21 == 21)) = true) := by decide +kernel
theorem dX0_init_0 : decode cX0_init 0 = .ok (.aload_n 0, 1) := dr_42  pk_deca_0.1
theorem dX0_init_1 : decode cX0_init 1 = .ok (.invokespecial 3, 3) := dr_183 0 3  pk_deca_0.2.1
theorem dX0_init_4 : decode cX0_init 4 = .ok (.aload_n 0, 1) := dr_42  pk_deca_0.2.2.1
theorem dX0_init_5 : decode cX0_init 5 = .ok (.iconst 0, 1) := dr_3  pk_deca_0.2.2.2.1
theorem dX0_init_6 : decode cX0_init 6 = .ok (.putfield 9, 3) := dr_181 0 9  pk_deca_0.2.2.2.2.1
theorem dX0_init_9 : decode cX0_init 9 = .ok (.aload_n 0, 1) := dr_42  pk_deca_0.2.2.2.2.2.1
theorem dX0_init_10 : decode cX0_init 10 = .ok (.iload_n 1, 1) := dr_27  pk_deca_0.2.2.2.2.2.2.1
theorem dX0_init_11 : decode cX0_init 11 = .ok (.ifCond .ge 7, 3) := dr_156 0 7  pk_deca_0.2.2.2.2.2.2.2.1
theorem dX0_init_18 : decode cX0_init 18 = .ok (.iload_n 1, 1) := dr_27  pk_deca_0.2.2.2.2.2.2.2.2.2.2.1
theorem dX0_init_19 : decode cX0_init 19 = .ok (.sipush 256, 3) := dr_17 1 0  pk_deca_0.2.2.2.2.2.2.2.2.2.2.2.1
theorem dX0_init_22 : decode cX0_init 22 = .ok (.invokestatic 15, 3) := dr_184 0 15  pk_deca_0.2.2.2.2.2.2.2.2.2.2.2.2.1
theorem dX0_init_25 : decode cX0_init 25 = .ok (.putfield 21, 3) := dr_181 0 21  pk_deca_0.2.2.2.2.2.2.2.2.2.2.2.2.2.1
theorem dX0_init_28 : decode cX0_init 28 = .ok (.aload_n 0, 1) := dr_42  pk_deca_0.2.2.2.2.2.2.2.2.2.2.2.2.2.2.1
theorem dX0_init_29 : decode cX0_init 29 = .ok (.aload_n 0, 1) := dr_42  pk_deca_0.2.2.2.2.2.2.2.2.2.2.2.2.2.2.2.1
theorem dX0_init_30 : decode cX0_init 30 = .ok (.getfield 21, 3) := dr_180 0 21  pk_deca_0.2.2.2.2.2.2.2.2.2.2.2.2.2.2.2.2
theorem dX0_init_33 : decode cX0_init 33 = .ok (.newarray .int, 2) := by decide +kernel
set_option maxRecDepth 20000 in
theorem pk_deca_1 : ((bq cX0_init 35 181 && bq cX0_init (35 + 1) 0 && bq cX0_init (35 + 2) 24 && (0 * 256 + 24 == 24)) = true) ∧ (bq cX0_init 38 42 = true) ∧ (bq cX0_init 39 42 = true) ∧ ((bq cX0_init 40 180 && bq cX0_init (40 + 1) 0 && bq cX0_init (40 + 2) 21 && (0 * 256 + 21 == 21)) = true) := by decide +kernel
theorem dX0_init_35 : decode cX0_init 35 = .ok (.putfield 24, 3) := dr_181 0 24  pk_deca_1.1
theorem dX0_init_38 : decode cX0_init 38 = .ok (.aload_n 0, 1) := dr_42  pk_deca_1.2.1
theorem dX0_init_39 : decode cX0_init 39 = .ok (.aload_n 0, 1) := dr_42  pk_deca_1.2.2.1
theorem dX0_init_40 : decode cX0_init 40 = .ok (.getfield 21, 3) := dr_180 0 21  pk_deca_1.2.2.2
theorem dX0_init_43 : decode cX0_init 43 = .ok (.newarray .int, 2) := by decide +kernel
set_option maxRecDepth 20000 in
theorem pk_deca_2 : ((bq cX0_init 45 181 && bq cX0_init (45 + 1) 0 && bq cX0_init (45 + 2) 28 && (0 * 256 + 28 == 28)) = true) ∧ (bq cX0_init 48 177 = true) := by decide +kernel
theorem dX0_init_45 : decode cX0_init 45 = .ok (.putfield 28, 3) := dr_181 0 28  pk_deca_2.1
theorem dX0_init_48 : decode cX0_init 48 = .ok (.return_, 1) := dr_177  pk_deca_2.2
set_option maxRecDepth 20000 in
theorem pk_deca_3 : (bq cX0_add 0 42 = true) ∧ ((bq cX0_add 1 180 && bq cX0_add (1 + 1) 0 && bq cX0_add (1 + 2) 9 && (0 * 256 + 9 == 9)) = true) ∧ ((bq cX0_add 4 155 && bq cX0_add (4 + 1) 0 && bq cX0_add (4 + 2) 14 && (Reader.signed 16 (0 * 256 + 14) == 14)) = true) ∧ (bq cX0_add 7 42 = true) ∧ ((bq cX0_add 8 180 && bq cX0_add (8 + 1) 0 && bq cX0_add (8 + 2) 9 && (0 * 256 + 9 == 9)) = true) ∧ (bq cX0_add 11 42 = true) ∧ ((bq cX0_add 12 180 && bq cX0_add (12 + 1) 0 && bq cX0_add (12 + 2) 21 && (0 * 256 + 21 == 21)) = true) ∧ ((bq cX0_add 15 161 && bq cX0_add (15 + 1) 0 && bq cX0_add (15 + 2) 5 && (Reader.signed 16 (0 * 256 + 5) == 5)) = true) ∧ (bq cX0_add 18 3 = true) ∧ (bq cX0_add 19 172 = true) ∧ (bq cX0_add 20 42 = true) ∧ ((bq cX0_add 21 180 && bq cX0_add (21 + 1) 0 && bq cX0_add (21 + 2) 24 && (0 * 256 + 24 == 24)) = true) ∧ (bq cX0_add 24 42 = true) ∧ ((bq cX0_add 25 180 && bq cX0_add (25 + 1) 0 && bq cX0_add (25 + 2) 9 && (0 * 256 + 9 == 9)) = true) ∧ (bq cX0_add 28 27 = true) ∧ (bq cX0_add 29 79 = true) ∧ (bq cX0_add 30 42 = true) ∧ ((bq cX0_add 31 180 && bq cX0_add (31 + 1) 0 && bq cX0_add (31 + 2) 28 && (0 * 256 + 28 == 28)) = true) ∧ (bq cX0_add 34 42 = true) ∧ ((bq cX0_add 35 180 && bq cX0_add (35 + 1) 0 && bq cX0_add (35 + 2) 9 && (0 * 256 + 9 == 9)) = true) ∧ (bq cX0_add 38 28 = true) ∧ (bq cX0_add 39 79 = true) ∧ (bq cX0_add 40 42 = true) ∧ (bq cX0_add 41 89 = true) ∧ ((bq cX0_add 42 180 && bq cX0_add (42 + 1) 0 && bq cX0_add (42 + 2) 9 && (0 * 256 + 9 == 9)) = true) ∧ (bq cX0_add 45 4 = true) ∧ (bq cX0_add 46 96 = true) ∧ ((bq cX0_add 47 181 && bq cX0_add (47 + 1) 0 && bq cX0_add (47 + 2) 9 && (0 * 256 + 9 == 9)) = true) ∧ (bq cX0_add 50 4 = true) ∧ (bq cX0_add 51 172 = true) := by decide +kernel
theorem dX0_add_0 : decode cX0_add 0 = .ok (.aload_n 0, 1) := dr_42  pk_deca_3.1
theorem dX0_add_1 : decode cX0_add 1 = .ok (.getfield 9, 3) := dr_180 0 9  pk_deca_3.2.1
theorem dX0_add_4 : decode cX0_add 4 = .ok (.ifCond .lt 14, 3) := dr_155 0 14  pk_deca_3.2.2.1
theorem dX0_add_7 : decode cX0_add 7 = .ok (.aload_n 0, 1) := dr_42  pk_deca_3.2.2.2.1
theorem dX0_add_8 : decode cX0_add 8 = .ok (.getfield 9, 3) := dr_180 0 9  pk_deca_3.2.2.2.2.1
theorem dX0_add_11 : decode cX0_add 11 = .ok (.aload_n 0, 1) := dr_42  pk_deca_3.2.2.2.2.2.1
theorem dX0_add_12 : decode cX0_add 12 = .ok (.getfield 21, 3) := dr_180 0 21  pk_deca_3.2.2.2.2.2.2.1
theorem dX0_add_15 : decode cX0_add 15 = .ok (.if_icmp .lt 5, 3) := dr_161 0 5  pk_deca_3.2.2.2.2.2.2.2.1
theorem dX0_add_20 : decode cX0_add 20 = .ok (.aload_n 0, 1) := dr_42  pk_deca_3.2.2.2.2.2.2.2.2.2.2.1
theorem dX0_add_21 : decode cX0_add 21 = .ok (.getfield 24, 3) := dr_180 0 24  pk_deca_3.2.2.2.2.2.2.2.2.2.2.2.1
theorem dX0_add_24 : decode cX0_add 24 = .ok (.aload_n 0, 1) := dr_42  pk_deca_3.2.2.2.2.2.2.2.2.2.2.2.2.1
theorem dX0_add_25 : decode cX0_add 25 = .ok (.getfield 9, 3) := dr_180 0 9  pk_deca_3.2.2.2.2.2.2.2.2.2.2.2.2.2.1
theorem dX0_add_28 : decode cX0_add 28 = .ok (.iload_n 1, 1) := dr_27  pk_deca_3.2.2.2.2.2.2.2.2.2.2.2.2.2.2.1
theorem dX0_add_29 : decode cX0_add 29 = .ok (.iastore, 1) := dr_79  pk_deca_3.2.2.2.2.2.2.2.2.2.2.2.2.2.2.2.1
theorem dX0_add_30 : decode cX0_add 30 = .ok (.aload_n 0, 1) := dr_42  pk_deca_3.2.2.2.2.2.2.2.2.2.2.2.2.2.2.2.2.1
theorem dX0_add_31 : decode cX0_add 31 = .ok (.getfield 28, 3) := dr_180 0 28  pk_deca_3.2.2.2.2.2.2.2.2.2.2.2.2.2.2.2.2.2.1
theorem dX0_add_34 : decode cX0_add 34 = .ok (.aload_n 0, 1) := dr_42  pk_deca_3.2.2.2.2.2.2.2.2.2.2.2.2.2.2.2.2.2.2.1
theorem dX0_add_35 : decode cX0_add 35 = .ok (.getfield 9, 3) := dr_180 0 9  pk_deca_3.2.2.2.2.2.2.2.2.2.2.2.2.2.2.2.2.2.2.2.1
theorem dX0_add_38 : decode cX0_add 38 = .ok (.iload_n 2, 1) := dr_28  pk_deca_3.2.2.2.2.2.2.2.2.2.2.2.2.2.2.2.2.2.2.2.2.1
theorem dX0_add_39 : decode cX0_add 39 = .ok (.iastore, 1) := dr_79  pk_deca_3.2.2.2.2.2.2.2.2.2.2.2.2.2.2.2.2.2.2.2.2.2.1
theorem dX0_add_40 : decode cX0_add 40 = .ok (.aload_n 0, 1) := dr_42  pk_deca_3.2.2.2.2.2.2.2.2.2.2.2.2.2.2.2.2.2.2.2.2.2.2.1
theorem dX0_add_41 : decode cX0_add 41 = .ok (.dup, 1) := dr_89  pk_deca_3.2.2.2.2.2.2.2.2.2.2.2.2.2.2.2.2.2.2.2.2.2.2.2.1
theorem dX0_add_42 : decode cX0_add 42 = .ok (.getfield 9, 3) := dr_180 0 9  pk_deca_3.2.2.2.2.2.2.2.2.2.2.2.2.2.2.2.2.2.2.2.2.2.2.2.2.1
theorem dX0_add_45 : decode cX0_add 45 = .ok (.iconst 1, 1) := dr_4  pk_deca_3.2.2.2.2.2.2.2.2.2.2.2.2.2.2.2.2.2.2.2.2.2.2.2.2.2.1
theorem dX0_add_46 : decode cX0_add 46 = .ok (.iadd, 1) := dr_96  pk_deca_3.2.2.2.2.2.2.2.2.2.2.2.2.2.2.2.2.2.2.2.2.2.2.2.2.2.2.1
theorem dX0_add_47 : decode cX0_add 47 = .ok (.putfield 9, 3) := dr_181 0 9  pk_deca_3.2.2.2.2.2.2.2.2.2.2.2.2.2.2.2.2.2.2.2.2.2.2.2.2.2.2.2.1
theorem dX0_add_50 : decode cX0_add 50 = .ok (.iconst 1, 1) := dr_4  pk_deca_3.2.2.2.2.2.2.2.2.2.2.2.2.2.2.2.2.2.2.2.2.2.2.2.2.2.2.2.2.1
theorem dX0_add_51 : decode cX0_add 51 = .ok (.ireturn, 1) := dr_172  pk_deca_3.2.2.2.2.2.2.2.2.2.2.2.2.2.2.2.2.2.2.2.2.2.2.2.2.2.2.2.2.2
set_option maxRecDepth 20000 in
theorem pk_deca_4 : (bq cX0_at 0 27 = true) ∧ ((bq cX0_at 1 155 && bq cX0_at (1 + 1) 0 && bq cX0_at (1 + 2) 19 && (Reader.signed 16 (0 * 256 + 19) == 19)) = true) ∧ (bq cX0_at 4 27 = true) ∧ (bq cX0_at 5 42 = true) ∧ ((bq cX0_at 6 180 && bq cX0_at (6 + 1) 0 && bq cX0_at (6 + 2) 9 && (0 * 256 + 9 == 9)) = true) ∧ ((bq cX0_at 9 162 && bq cX0_at (9 + 1) 0 && bq cX0_at (9 + 2) 11 && (Reader.signed 16 (0 * 256 + 11) == 11)) = true) ∧ (bq cX0_at 12 27 = true) ∧ (bq cX0_at 13 42 = true) ∧ ((bq cX0_at 14 180 && bq cX0_at (14 + 1) 0 && bq cX0_at (14 + 2) 21 && (0 * 256 + 21 == 21)) = true) ∧ ((bq cX0_at 17 161 && bq cX0_at (17 + 1) 0 && bq cX0_at (17 + 2) 7 && (Reader.signed 16 (0 * 256 + 7) == 7)) = true) ∧ (bq cX0_at 20 2 = true) ∧ ((bq cX0_at 21 167 && bq cX0_at (21 + 1) 0 && bq cX0_at (21 + 2) 9 && (Reader.signed 16 (0 * 256 + 9) == 9)) = true) ∧ (bq cX0_at 24 42 = true) ∧ ((bq cX0_at 25 180 && bq cX0_at (25 + 1) 0 && bq cX0_at (25 + 2) 24 && (0 * 256 + 24 == 24)) = true) ∧ (bq cX0_at 28 27 = true) ∧ (bq cX0_at 29 46 = true) ∧ (bq cX0_at 30 172 = true) := by decide +kernel
theorem dX0_at_0 : decode cX0_at 0 = .ok (.iload_n 1, 1) := dr_27  pk_deca_4.1
theorem dX0_at_1 : decode cX0_at 1 = .ok (.ifCond .lt 19, 3) := dr_155 0 19  pk_deca_4.2.1
theorem dX0_at_4 : decode cX0_at 4 = .ok (.iload_n 1, 1) := dr_27  pk_deca_4.2.2.1
theorem dX0_at_5 : decode cX0_at 5 = .ok (.aload_n 0, 1) := dr_42  pk_deca_4.2.2.2.1
theorem dX0_at_6 : decode cX0_at 6 = .ok (.getfield 9, 3) := dr_180 0 9  pk_deca_4.2.2.2.2.1
theorem dX0_at_9 : decode cX0_at 9 = .ok (.if_icmp .ge 11, 3) := dr_162 0 11  pk_deca_4.2.2.2.2.2.1
theorem dX0_at_12 : decode cX0_at 12 = .ok (.iload_n 1, 1) := dr_27  pk_deca_4.2.2.2.2.2.2.1
theorem dX0_at_13 : decode cX0_at 13 = .ok (.aload_n 0, 1) := dr_42  pk_deca_4.2.2.2.2.2.2.2.1
theorem dX0_at_14 : decode cX0_at 14 = .ok (.getfield 21, 3) := dr_180 0 21  pk_deca_4.2.2.2.2.2.2.2.2.1
theorem dX0_at_17 : decode cX0_at 17 = .ok (.if_icmp .lt 7, 3) := dr_161 0 7  pk_deca_4.2.2.2.2.2.2.2.2.2.1
theorem dX0_at_20 : decode cX0_at 20 = .ok (.iconst (-1), 1) := dr_2  pk_deca_4.2.2.2.2.2.2.2.2.2.2.1
theorem dX0_at_21 : decode cX0_at 21 = .ok (.goto 9, 3) := dr_167 0 9  pk_deca_4.2.2.2.2.2.2.2.2.2.2.2.1
theorem dX0_at_24 : decode cX0_at 24 = .ok (.aload_n 0, 1) := dr_42  pk_deca_4.2.2.2.2.2.2.2.2.2.2.2.2.1
theorem dX0_at_25 : decode cX0_at 25 = .ok (.getfield 24, 3) := dr_180 0 24  pk_deca_4.2.2.2.2.2.2.2.2.2.2.2.2.2.1
theorem dX0_at_28 : decode cX0_at 28 = .ok (.iload_n 1, 1) := dr_27  pk_deca_4.2.2.2.2.2.2.2.2.2.2.2.2.2.2.1
theorem dX0_at_29 : decode cX0_at 29 = .ok (.iaload, 1) := dr_46  pk_deca_4.2.2.2.2.2.2.2.2.2.2.2.2.2.2.2.1
theorem dX0_at_30 : decode cX0_at 30 = .ok (.ireturn, 1) := dr_172  pk_deca_4.2.2.2.2.2.2.2.2.2.2.2.2.2.2.2.2
set_option maxRecDepth 20000 in
theorem pk_deca_5 : (bq cX0_ledAt 0 27 = true) ∧ ((bq cX0_ledAt 1 155 && bq cX0_ledAt (1 + 1) 0 && bq cX0_ledAt (1 + 2) 19 && (Reader.signed 16 (0 * 256 + 19) == 19)) = true) ∧ (bq cX0_ledAt 4 27 = true) ∧ (bq cX0_ledAt 5 42 = true) ∧ ((bq cX0_ledAt 6 180 && bq cX0_ledAt (6 + 1) 0 && bq cX0_ledAt (6 + 2) 9 && (0 * 256 + 9 == 9)) = true) ∧ ((bq cX0_ledAt 9 162 && bq cX0_ledAt (9 + 1) 0 && bq cX0_ledAt (9 + 2) 11 && (Reader.signed 16 (0 * 256 + 11) == 11)) = true) ∧ (bq cX0_ledAt 12 27 = true) ∧ (bq cX0_ledAt 13 42 = true) ∧ ((bq cX0_ledAt 14 180 && bq cX0_ledAt (14 + 1) 0 && bq cX0_ledAt (14 + 2) 21 && (0 * 256 + 21 == 21)) = true) ∧ ((bq cX0_ledAt 17 161 && bq cX0_ledAt (17 + 1) 0 && bq cX0_ledAt (17 + 2) 7 && (Reader.signed 16 (0 * 256 + 7) == 7)) = true) ∧ (bq cX0_ledAt 20 2 = true) ∧ ((bq cX0_ledAt 21 167 && bq cX0_ledAt (21 + 1) 0 && bq cX0_ledAt (21 + 2) 9 && (Reader.signed 16 (0 * 256 + 9) == 9)) = true) ∧ (bq cX0_ledAt 24 42 = true) ∧ ((bq cX0_ledAt 25 180 && bq cX0_ledAt (25 + 1) 0 && bq cX0_ledAt (25 + 2) 28 && (0 * 256 + 28 == 28)) = true) ∧ (bq cX0_ledAt 28 27 = true) ∧ (bq cX0_ledAt 29 46 = true) ∧ (bq cX0_ledAt 30 172 = true) := by decide +kernel
theorem dX0_ledAt_0 : decode cX0_ledAt 0 = .ok (.iload_n 1, 1) := dr_27  pk_deca_5.1
theorem dX0_ledAt_1 : decode cX0_ledAt 1 = .ok (.ifCond .lt 19, 3) := dr_155 0 19  pk_deca_5.2.1
theorem dX0_ledAt_4 : decode cX0_ledAt 4 = .ok (.iload_n 1, 1) := dr_27  pk_deca_5.2.2.1
theorem dX0_ledAt_5 : decode cX0_ledAt 5 = .ok (.aload_n 0, 1) := dr_42  pk_deca_5.2.2.2.1
theorem dX0_ledAt_6 : decode cX0_ledAt 6 = .ok (.getfield 9, 3) := dr_180 0 9  pk_deca_5.2.2.2.2.1
theorem dX0_ledAt_9 : decode cX0_ledAt 9 = .ok (.if_icmp .ge 11, 3) := dr_162 0 11  pk_deca_5.2.2.2.2.2.1
theorem dX0_ledAt_12 : decode cX0_ledAt 12 = .ok (.iload_n 1, 1) := dr_27  pk_deca_5.2.2.2.2.2.2.1
theorem dX0_ledAt_13 : decode cX0_ledAt 13 = .ok (.aload_n 0, 1) := dr_42  pk_deca_5.2.2.2.2.2.2.2.1
theorem dX0_ledAt_14 : decode cX0_ledAt 14 = .ok (.getfield 21, 3) := dr_180 0 21  pk_deca_5.2.2.2.2.2.2.2.2.1
theorem dX0_ledAt_17 : decode cX0_ledAt 17 = .ok (.if_icmp .lt 7, 3) := dr_161 0 7  pk_deca_5.2.2.2.2.2.2.2.2.2.1
theorem dX0_ledAt_20 : decode cX0_ledAt 20 = .ok (.iconst (-1), 1) := dr_2  pk_deca_5.2.2.2.2.2.2.2.2.2.2.1
theorem dX0_ledAt_21 : decode cX0_ledAt 21 = .ok (.goto 9, 3) := dr_167 0 9  pk_deca_5.2.2.2.2.2.2.2.2.2.2.2.1
theorem dX0_ledAt_24 : decode cX0_ledAt 24 = .ok (.aload_n 0, 1) := dr_42  pk_deca_5.2.2.2.2.2.2.2.2.2.2.2.2.1
theorem dX0_ledAt_25 : decode cX0_ledAt 25 = .ok (.getfield 28, 3) := dr_180 0 28  pk_deca_5.2.2.2.2.2.2.2.2.2.2.2.2.2.1
theorem dX0_ledAt_28 : decode cX0_ledAt 28 = .ok (.iload_n 1, 1) := dr_27  pk_deca_5.2.2.2.2.2.2.2.2.2.2.2.2.2.2.1
theorem dX0_ledAt_29 : decode cX0_ledAt 29 = .ok (.iaload, 1) := dr_46  pk_deca_5.2.2.2.2.2.2.2.2.2.2.2.2.2.2.2.1
theorem dX0_ledAt_30 : decode cX0_ledAt 30 = .ok (.ireturn, 1) := dr_172  pk_deca_5.2.2.2.2.2.2.2.2.2.2.2.2.2.2.2.2
set_option maxRecDepth 20000 in
theorem pk_deca_6 : (bq cX0_change 0 27 = true) ∧ ((bq cX0_change 1 155 && bq cX0_change (1 + 1) 0 && bq cX0_change (1 + 2) 26 && (Reader.signed 16 (0 * 256 + 26) == 26)) = true) ∧ (bq cX0_change 4 27 = true) ∧ (bq cX0_change 5 42 = true) ∧ ((bq cX0_change 6 180 && bq cX0_change (6 + 1) 0 && bq cX0_change (6 + 2) 9 && (0 * 256 + 9 == 9)) = true) ∧ ((bq cX0_change 9 162 && bq cX0_change (9 + 1) 0 && bq cX0_change (9 + 2) 18 && (Reader.signed 16 (0 * 256 + 18) == 18)) = true) ∧ (bq cX0_change 12 27 = true) ∧ (bq cX0_change 13 42 = true) ∧ ((bq cX0_change 14 180 && bq cX0_change (14 + 1) 0 && bq cX0_change (14 + 2) 21 && (0 * 256 + 21 == 21)) = true) ∧ ((bq cX0_change 17 162 && bq cX0_change (17 + 1) 0 && bq cX0_change (17 + 2) 10 && (Reader.signed 16 (0 * 256 + 10) == 10)) = true) ∧ (bq cX0_change 20 42 = true) ∧ ((bq cX0_change 21 180 && bq cX0_change (21 + 1) 0 && bq cX0_change (21 + 2) 24 && (0 * 256 + 24 == 24)) = true) ∧ (bq cX0_change 24 27 = true) ∧ (bq cX0_change 25 28 = true) ∧ (bq cX0_change 26 79 = true) ∧ (bq cX0_change 27 177 = true) := by decide +kernel
theorem dX0_change_0 : decode cX0_change 0 = .ok (.iload_n 1, 1) := dr_27  pk_deca_6.1
theorem dX0_change_1 : decode cX0_change 1 = .ok (.ifCond .lt 26, 3) := dr_155 0 26  pk_deca_6.2.1
theorem dX0_change_4 : decode cX0_change 4 = .ok (.iload_n 1, 1) := dr_27  pk_deca_6.2.2.1
theorem dX0_change_5 : decode cX0_change 5 = .ok (.aload_n 0, 1) := dr_42  pk_deca_6.2.2.2.1
theorem dX0_change_6 : decode cX0_change 6 = .ok (.getfield 9, 3) := dr_180 0 9  pk_deca_6.2.2.2.2.1
theorem dX0_change_9 : decode cX0_change 9 = .ok (.if_icmp .ge 18, 3) := dr_162 0 18  pk_deca_6.2.2.2.2.2.1
theorem dX0_change_12 : decode cX0_change 12 = .ok (.iload_n 1, 1) := dr_27  pk_deca_6.2.2.2.2.2.2.1
theorem dX0_change_13 : decode cX0_change 13 = .ok (.aload_n 0, 1) := dr_42  pk_deca_6.2.2.2.2.2.2.2.1
theorem dX0_change_14 : decode cX0_change 14 = .ok (.getfield 21, 3) := dr_180 0 21  pk_deca_6.2.2.2.2.2.2.2.2.1
theorem dX0_change_17 : decode cX0_change 17 = .ok (.if_icmp .ge 10, 3) := dr_162 0 10  pk_deca_6.2.2.2.2.2.2.2.2.2.1
theorem dX0_change_20 : decode cX0_change 20 = .ok (.aload_n 0, 1) := dr_42  pk_deca_6.2.2.2.2.2.2.2.2.2.2.1
theorem dX0_change_21 : decode cX0_change 21 = .ok (.getfield 24, 3) := dr_180 0 24  pk_deca_6.2.2.2.2.2.2.2.2.2.2.2.1
theorem dX0_change_24 : decode cX0_change 24 = .ok (.iload_n 1, 1) := dr_27  pk_deca_6.2.2.2.2.2.2.2.2.2.2.2.2.1
theorem dX0_change_25 : decode cX0_change 25 = .ok (.iload_n 2, 1) := dr_28  pk_deca_6.2.2.2.2.2.2.2.2.2.2.2.2.2.1
theorem dX0_change_26 : decode cX0_change 26 = .ok (.iastore, 1) := dr_79  pk_deca_6.2.2.2.2.2.2.2.2.2.2.2.2.2.2.1
theorem dX0_change_27 : decode cX0_change 27 = .ok (.return_, 1) := dr_177  pk_deca_6.2.2.2.2.2.2.2.2.2.2.2.2.2.2.2
set_option maxRecDepth 20000 in
theorem pk_deca_7 : (bq cX0_unlike 0 42 = true) ∧ ((bq cX0_unlike 1 180 && bq cX0_unlike (1 + 1) 0 && bq cX0_unlike (1 + 2) 9 && (0 * 256 + 9 == 9)) = true) ∧ (bq cX0_unlike 4 43 = true) ∧ ((bq cX0_unlike 5 180 && bq cX0_unlike (5 + 1) 0 && bq cX0_unlike (5 + 2) 9 && (0 * 256 + 9 == 9)) = true) ∧ ((bq cX0_unlike 8 184 && bq cX0_unlike (8 + 1) 0 && bq cX0_unlike (8 + 2) 15 && (0 * 256 + 15 == 15)) = true) ∧ (bq cX0_unlike 11 61 = true) ∧ (bq cX0_unlike 12 3 = true) ∧ (bq cX0_unlike 13 62 = true) ∧ (bq cX0_unlike 14 29 = true) ∧ (bq cX0_unlike 15 28 = true) ∧ ((bq cX0_unlike 16 162 && bq cX0_unlike (16 + 1) 0 && bq cX0_unlike (16 + 2) 26 && (Reader.signed 16 (0 * 256 + 26) == 26)) = true) ∧ (bq cX0_unlike 19 42 = true) ∧ (bq cX0_unlike 20 29 = true) ∧ ((bq cX0_unlike 21 182 && bq cX0_unlike (21 + 1) 0 && bq cX0_unlike (21 + 2) 31 && (0 * 256 + 31 == 31)) = true) ∧ (bq cX0_unlike 24 43 = true) ∧ (bq cX0_unlike 25 29 = true) ∧ ((bq cX0_unlike 26 182 && bq cX0_unlike (26 + 1) 0 && bq cX0_unlike (26 + 2) 31 && (0 * 256 + 31 == 31)) = true) ∧ ((bq cX0_unlike 29 159 && bq cX0_unlike (29 + 1) 0 && bq cX0_unlike (29 + 2) 7 && (Reader.signed 16 (0 * 256 + 7) == 7)) = true) ∧ (bq cX0_unlike 32 4 = true) ∧ (bq cX0_unlike 33 29 = true) ∧ (bq cX0_unlike 34 96 = true) ∧ (bq cX0_unlike 35 172 = true) := by decide +kernel
theorem dX0_unlike_0 : decode cX0_unlike 0 = .ok (.aload_n 0, 1) := dr_42  pk_deca_7.1
theorem dX0_unlike_1 : decode cX0_unlike 1 = .ok (.getfield 9, 3) := dr_180 0 9  pk_deca_7.2.1
theorem dX0_unlike_4 : decode cX0_unlike 4 = .ok (.aload_n 1, 1) := dr_43  pk_deca_7.2.2.1
theorem dX0_unlike_5 : decode cX0_unlike 5 = .ok (.getfield 9, 3) := dr_180 0 9  pk_deca_7.2.2.2.1
theorem dX0_unlike_8 : decode cX0_unlike 8 = .ok (.invokestatic 15, 3) := dr_184 0 15  pk_deca_7.2.2.2.2.1
theorem dX0_unlike_11 : decode cX0_unlike 11 = .ok (.istore_n 2, 1) := dr_61  pk_deca_7.2.2.2.2.2.1
theorem dX0_unlike_12 : decode cX0_unlike 12 = .ok (.iconst 0, 1) := dr_3  pk_deca_7.2.2.2.2.2.2.1
theorem dX0_unlike_13 : decode cX0_unlike 13 = .ok (.istore_n 3, 1) := dr_62  pk_deca_7.2.2.2.2.2.2.2.1
theorem dX0_unlike_14 : decode cX0_unlike 14 = .ok (.iload_n 3, 1) := dr_29  pk_deca_7.2.2.2.2.2.2.2.2.1
theorem dX0_unlike_15 : decode cX0_unlike 15 = .ok (.iload_n 2, 1) := dr_28  pk_deca_7.2.2.2.2.2.2.2.2.2.1
theorem dX0_unlike_16 : decode cX0_unlike 16 = .ok (.if_icmp .ge 26, 3) := dr_162 0 26  pk_deca_7.2.2.2.2.2.2.2.2.2.2.1
theorem dX0_unlike_19 : decode cX0_unlike 19 = .ok (.aload_n 0, 1) := dr_42  pk_deca_7.2.2.2.2.2.2.2.2.2.2.2.1
theorem dX0_unlike_20 : decode cX0_unlike 20 = .ok (.iload_n 3, 1) := dr_29  pk_deca_7.2.2.2.2.2.2.2.2.2.2.2.2.1
theorem dX0_unlike_21 : decode cX0_unlike 21 = .ok (.invokevirtual 31, 3) := dr_182 0 31  pk_deca_7.2.2.2.2.2.2.2.2.2.2.2.2.2.1
theorem dX0_unlike_24 : decode cX0_unlike 24 = .ok (.aload_n 1, 1) := dr_43  pk_deca_7.2.2.2.2.2.2.2.2.2.2.2.2.2.2.1
theorem dX0_unlike_25 : decode cX0_unlike 25 = .ok (.iload_n 3, 1) := dr_29  pk_deca_7.2.2.2.2.2.2.2.2.2.2.2.2.2.2.2.1
theorem dX0_unlike_26 : decode cX0_unlike 26 = .ok (.invokevirtual 31, 3) := dr_182 0 31  pk_deca_7.2.2.2.2.2.2.2.2.2.2.2.2.2.2.2.2.1
theorem dX0_unlike_29 : decode cX0_unlike 29 = .ok (.if_icmp .eq 7, 3) := dr_159 0 7  pk_deca_7.2.2.2.2.2.2.2.2.2.2.2.2.2.2.2.2.2.1
theorem dX0_unlike_32 : decode cX0_unlike 32 = .ok (.iconst 1, 1) := dr_4  pk_deca_7.2.2.2.2.2.2.2.2.2.2.2.2.2.2.2.2.2.2.1
theorem dX0_unlike_33 : decode cX0_unlike 33 = .ok (.iload_n 3, 1) := dr_29  pk_deca_7.2.2.2.2.2.2.2.2.2.2.2.2.2.2.2.2.2.2.2.1
theorem dX0_unlike_34 : decode cX0_unlike 34 = .ok (.iadd, 1) := dr_96  pk_deca_7.2.2.2.2.2.2.2.2.2.2.2.2.2.2.2.2.2.2.2.2.1
theorem dX0_unlike_35 : decode cX0_unlike 35 = .ok (.ireturn, 1) := dr_172  pk_deca_7.2.2.2.2.2.2.2.2.2.2.2.2.2.2.2.2.2.2.2.2.2
theorem dX0_unlike_36 : decode cX0_unlike 36 = .ok (.iinc 3 1, 3) := by decide +kernel
set_option maxRecDepth 20000 in
theorem pk_deca_8 : ((bq cX0_unlike 39 167 && bq cX0_unlike (39 + 1) 255 && bq cX0_unlike (39 + 2) 231 && (Reader.signed 16 (255 * 256 + 231) == (-25))) = true) ∧ (bq cX0_unlike 42 42 = true) ∧ ((bq cX0_unlike 43 180 && bq cX0_unlike (43 + 1) 0 && bq cX0_unlike (43 + 2) 9 && (0 * 256 + 9 == 9)) = true) ∧ (bq cX0_unlike 46 43 = true) ∧ ((bq cX0_unlike 47 180 && bq cX0_unlike (47 + 1) 0 && bq cX0_unlike (47 + 2) 9 && (0 * 256 + 9 == 9)) = true) ∧ ((bq cX0_unlike 50 160 && bq cX0_unlike (50 + 1) 0 && bq cX0_unlike (50 + 2) 7 && (Reader.signed 16 (0 * 256 + 7) == 7)) = true) ∧ (bq cX0_unlike 53 3 = true) ∧ ((bq cX0_unlike 54 167 && bq cX0_unlike (54 + 1) 0 && bq cX0_unlike (54 + 2) 6 && (Reader.signed 16 (0 * 256 + 6) == 6)) = true) ∧ (bq cX0_unlike 57 4 = true) ∧ (bq cX0_unlike 58 28 = true) ∧ (bq cX0_unlike 59 96 = true) ∧ (bq cX0_unlike 60 172 = true) := by decide +kernel
theorem dX0_unlike_39 : decode cX0_unlike 39 = .ok (.goto (-25), 3) := dr_167 255 231  pk_deca_8.1
theorem dX0_unlike_42 : decode cX0_unlike 42 = .ok (.aload_n 0, 1) := dr_42  pk_deca_8.2.1
theorem dX0_unlike_43 : decode cX0_unlike 43 = .ok (.getfield 9, 3) := dr_180 0 9  pk_deca_8.2.2.1
theorem dX0_unlike_46 : decode cX0_unlike 46 = .ok (.aload_n 1, 1) := dr_43  pk_deca_8.2.2.2.1
theorem dX0_unlike_47 : decode cX0_unlike 47 = .ok (.getfield 9, 3) := dr_180 0 9  pk_deca_8.2.2.2.2.1
theorem dX0_unlike_50 : decode cX0_unlike 50 = .ok (.if_icmp .ne 7, 3) := dr_160 0 7  pk_deca_8.2.2.2.2.2.1
theorem dX0_unlike_53 : decode cX0_unlike 53 = .ok (.iconst 0, 1) := dr_3  pk_deca_8.2.2.2.2.2.2.1
theorem dX0_unlike_54 : decode cX0_unlike 54 = .ok (.goto 6, 3) := dr_167 0 6  pk_deca_8.2.2.2.2.2.2.2.1
theorem dX0_unlike_57 : decode cX0_unlike 57 = .ok (.iconst 1, 1) := dr_4  pk_deca_8.2.2.2.2.2.2.2.2.1
theorem dX0_unlike_58 : decode cX0_unlike 58 = .ok (.iload_n 2, 1) := dr_28  pk_deca_8.2.2.2.2.2.2.2.2.2.1
theorem dX0_unlike_59 : decode cX0_unlike 59 = .ok (.iadd, 1) := dr_96  pk_deca_8.2.2.2.2.2.2.2.2.2.2.1
theorem dX0_unlike_60 : decode cX0_unlike 60 = .ok (.ireturn, 1) := dr_172  pk_deca_8.2.2.2.2.2.2.2.2.2.2.2
set_option maxRecDepth 20000 in
theorem pk_deca_9 : (bq cX0_beyondOrders 0 3 = true) ∧ (bq cX0_beyondOrders 1 60 = true) ∧ (bq cX0_beyondOrders 2 3 = true) ∧ (bq cX0_beyondOrders 3 61 = true) ∧ (bq cX0_beyondOrders 4 28 = true) ∧ (bq cX0_beyondOrders 5 42 = true) ∧ ((bq cX0_beyondOrders 6 180 && bq cX0_beyondOrders (6 + 1) 0 && bq cX0_beyondOrders (6 + 2) 9 && (0 * 256 + 9 == 9)) = true) ∧ ((bq cX0_beyondOrders 9 162 && bq cX0_beyondOrders (9 + 1) 0 && bq cX0_beyondOrders (9 + 2) 22 && (Reader.signed 16 (0 * 256 + 22) == 22)) = true) ∧ (bq cX0_beyondOrders 12 42 = true) ∧ (bq cX0_beyondOrders 13 28 = true) ∧ ((bq cX0_beyondOrders 14 182 && bq cX0_beyondOrders (14 + 1) 0 && bq cX0_beyondOrders (14 + 2) 31 && (0 * 256 + 31 == 31)) = true) ∧ ((bq cX0_beyondOrders 17 16 && bq cX0_beyondOrders (17 + 1) 15 && (Reader.signed 8 15 == 15)) = true) ∧ ((bq cX0_beyondOrders 19 164 && bq cX0_beyondOrders (19 + 1) 0 && bq cX0_beyondOrders (19 + 2) 6 && (Reader.signed 16 (0 * 256 + 6) == 6)) = true) := by decide +kernel
theorem dX0_beyondOrders_0 : decode cX0_beyondOrders 0 = .ok (.iconst 0, 1) := dr_3  pk_deca_9.1
theorem dX0_beyondOrders_1 : decode cX0_beyondOrders 1 = .ok (.istore_n 1, 1) := dr_60  pk_deca_9.2.1
theorem dX0_beyondOrders_2 : decode cX0_beyondOrders 2 = .ok (.iconst 0, 1) := dr_3  pk_deca_9.2.2.1
theorem dX0_beyondOrders_3 : decode cX0_beyondOrders 3 = .ok (.istore_n 2, 1) := dr_61  pk_deca_9.2.2.2.1
theorem dX0_beyondOrders_4 : decode cX0_beyondOrders 4 = .ok (.iload_n 2, 1) := dr_28  pk_deca_9.2.2.2.2.1
theorem dX0_beyondOrders_5 : decode cX0_beyondOrders 5 = .ok (.aload_n 0, 1) := dr_42  pk_deca_9.2.2.2.2.2.1
theorem dX0_beyondOrders_6 : decode cX0_beyondOrders 6 = .ok (.getfield 9, 3) := dr_180 0 9  pk_deca_9.2.2.2.2.2.2.1
theorem dX0_beyondOrders_9 : decode cX0_beyondOrders 9 = .ok (.if_icmp .ge 22, 3) := dr_162 0 22  pk_deca_9.2.2.2.2.2.2.2.1
theorem dX0_beyondOrders_12 : decode cX0_beyondOrders 12 = .ok (.aload_n 0, 1) := dr_42  pk_deca_9.2.2.2.2.2.2.2.2.1
theorem dX0_beyondOrders_13 : decode cX0_beyondOrders 13 = .ok (.iload_n 2, 1) := dr_28  pk_deca_9.2.2.2.2.2.2.2.2.2.1
theorem dX0_beyondOrders_14 : decode cX0_beyondOrders 14 = .ok (.invokevirtual 31, 3) := dr_182 0 31  pk_deca_9.2.2.2.2.2.2.2.2.2.2.1
theorem dX0_beyondOrders_17 : decode cX0_beyondOrders 17 = .ok (.bipush 15, 2) := dr_16 15  pk_deca_9.2.2.2.2.2.2.2.2.2.2.2.1
theorem dX0_beyondOrders_19 : decode cX0_beyondOrders 19 = .ok (.if_icmp .le 6, 3) := dr_164 0 6  pk_deca_9.2.2.2.2.2.2.2.2.2.2.2.2
theorem dX0_beyondOrders_22 : decode cX0_beyondOrders 22 = .ok (.iinc 1 1, 3) := by decide +kernel
theorem dX0_beyondOrders_25 : decode cX0_beyondOrders 25 = .ok (.iinc 2 1, 3) := by decide +kernel
set_option maxRecDepth 20000 in
theorem pk_deca_10 : ((bq cX0_beyondOrders 28 167 && bq cX0_beyondOrders (28 + 1) 255 && bq cX0_beyondOrders (28 + 2) 232 && (Reader.signed 16 (255 * 256 + 232) == (-24))) = true) ∧ (bq cX0_beyondOrders 31 27 = true) ∧ (bq cX0_beyondOrders 32 172 = true) := by decide +kernel
theorem dX0_beyondOrders_28 : decode cX0_beyondOrders 28 = .ok (.goto (-24), 3) := dr_167 255 232  pk_deca_10.1
theorem dX0_beyondOrders_31 : decode cX0_beyondOrders 31 = .ok (.iload_n 1, 1) := dr_27  pk_deca_10.2.1
theorem dX0_beyondOrders_32 : decode cX0_beyondOrders 32 = .ok (.ireturn, 1) := dr_172  pk_deca_10.2.2
set_option maxRecDepth 20000 in
theorem pk_deca_11 : ((bq cX0_copied 0 187 && bq cX0_copied (0 + 1) 0 && bq cX0_copied (0 + 2) 10 && (0 * 256 + 10 == 10)) = true) ∧ (bq cX0_copied 3 89 = true) ∧ (bq cX0_copied 4 42 = true) ∧ ((bq cX0_copied 5 180 && bq cX0_copied (5 + 1) 0 && bq cX0_copied (5 + 2) 9 && (0 * 256 + 9 == 9)) = true) ∧ ((bq cX0_copied 8 183 && bq cX0_copied (8 + 1) 0 && bq cX0_copied (8 + 2) 37 && (0 * 256 + 37 == 37)) = true) ∧ (bq cX0_copied 11 76 = true) ∧ (bq cX0_copied 12 3 = true) ∧ (bq cX0_copied 13 61 = true) ∧ (bq cX0_copied 14 28 = true) ∧ (bq cX0_copied 15 42 = true) ∧ ((bq cX0_copied 16 180 && bq cX0_copied (16 + 1) 0 && bq cX0_copied (16 + 2) 9 && (0 * 256 + 9 == 9)) = true) ∧ ((bq cX0_copied 19 162 && bq cX0_copied (19 + 1) 0 && bq cX0_copied (19 + 2) 24 && (Reader.signed 16 (0 * 256 + 24) == 24)) = true) ∧ (bq cX0_copied 22 43 = true) ∧ (bq cX0_copied 23 42 = true) ∧ (bq cX0_copied 24 28 = true) ∧ ((bq cX0_copied 25 182 && bq cX0_copied (25 + 1) 0 && bq cX0_copied (25 + 2) 31 && (0 * 256 + 31 == 31)) = true) ∧ (bq cX0_copied 28 42 = true) ∧ (bq cX0_copied 29 28 = true) ∧ ((bq cX0_copied 30 182 && bq cX0_copied (30 + 1) 0 && bq cX0_copied (30 + 2) 40 && (0 * 256 + 40 == 40)) = true) ∧ ((bq cX0_copied 33 182 && bq cX0_copied (33 + 1) 0 && bq cX0_copied (33 + 2) 43 && (0 * 256 + 43 == 43)) = true) ∧ (bq cX0_copied 36 87 = true) := by decide +kernel
theorem dX0_copied_0 : decode cX0_copied 0 = .ok (.new 10, 3) := dr_187 0 10  pk_deca_11.1
theorem dX0_copied_3 : decode cX0_copied 3 = .ok (.dup, 1) := dr_89  pk_deca_11.2.1
theorem dX0_copied_4 : decode cX0_copied 4 = .ok (.aload_n 0, 1) := dr_42  pk_deca_11.2.2.1
theorem dX0_copied_5 : decode cX0_copied 5 = .ok (.getfield 9, 3) := dr_180 0 9  pk_deca_11.2.2.2.1
theorem dX0_copied_8 : decode cX0_copied 8 = .ok (.invokespecial 37, 3) := dr_183 0 37  pk_deca_11.2.2.2.2.1
theorem dX0_copied_11 : decode cX0_copied 11 = .ok (.astore_n 1, 1) := dr_76  pk_deca_11.2.2.2.2.2.1
theorem dX0_copied_12 : decode cX0_copied 12 = .ok (.iconst 0, 1) := dr_3  pk_deca_11.2.2.2.2.2.2.1
theorem dX0_copied_13 : decode cX0_copied 13 = .ok (.istore_n 2, 1) := dr_61  pk_deca_11.2.2.2.2.2.2.2.1
theorem dX0_copied_14 : decode cX0_copied 14 = .ok (.iload_n 2, 1) := dr_28  pk_deca_11.2.2.2.2.2.2.2.2.1
theorem dX0_copied_15 : decode cX0_copied 15 = .ok (.aload_n 0, 1) := dr_42  pk_deca_11.2.2.2.2.2.2.2.2.2.1
theorem dX0_copied_16 : decode cX0_copied 16 = .ok (.getfield 9, 3) := dr_180 0 9  pk_deca_11.2.2.2.2.2.2.2.2.2.2.1
theorem dX0_copied_19 : decode cX0_copied 19 = .ok (.if_icmp .ge 24, 3) := dr_162 0 24  pk_deca_11.2.2.2.2.2.2.2.2.2.2.2.1
theorem dX0_copied_22 : decode cX0_copied 22 = .ok (.aload_n 1, 1) := dr_43  pk_deca_11.2.2.2.2.2.2.2.2.2.2.2.2.1
theorem dX0_copied_23 : decode cX0_copied 23 = .ok (.aload_n 0, 1) := dr_42  pk_deca_11.2.2.2.2.2.2.2.2.2.2.2.2.2.1
theorem dX0_copied_24 : decode cX0_copied 24 = .ok (.iload_n 2, 1) := dr_28  pk_deca_11.2.2.2.2.2.2.2.2.2.2.2.2.2.2.1
theorem dX0_copied_25 : decode cX0_copied 25 = .ok (.invokevirtual 31, 3) := dr_182 0 31  pk_deca_11.2.2.2.2.2.2.2.2.2.2.2.2.2.2.2.1
theorem dX0_copied_28 : decode cX0_copied 28 = .ok (.aload_n 0, 1) := dr_42  pk_deca_11.2.2.2.2.2.2.2.2.2.2.2.2.2.2.2.2.1
theorem dX0_copied_29 : decode cX0_copied 29 = .ok (.iload_n 2, 1) := dr_28  pk_deca_11.2.2.2.2.2.2.2.2.2.2.2.2.2.2.2.2.2.1
theorem dX0_copied_30 : decode cX0_copied 30 = .ok (.invokevirtual 40, 3) := dr_182 0 40  pk_deca_11.2.2.2.2.2.2.2.2.2.2.2.2.2.2.2.2.2.2.1
theorem dX0_copied_33 : decode cX0_copied 33 = .ok (.invokevirtual 43, 3) := dr_182 0 43  pk_deca_11.2.2.2.2.2.2.2.2.2.2.2.2.2.2.2.2.2.2.2.1
theorem dX0_copied_36 : decode cX0_copied 36 = .ok (.pop, 1) := dr_87  pk_deca_11.2.2.2.2.2.2.2.2.2.2.2.2.2.2.2.2.2.2.2.2
theorem dX0_copied_37 : decode cX0_copied 37 = .ok (.iinc 2 1, 3) := by decide +kernel
set_option maxRecDepth 20000 in
theorem pk_deca_12 : ((bq cX0_copied 40 167 && bq cX0_copied (40 + 1) 255 && bq cX0_copied (40 + 2) 230 && (Reader.signed 16 (255 * 256 + 230) == (-26))) = true) ∧ (bq cX0_copied 43 43 = true) ∧ (bq cX0_copied 44 176 = true) := by decide +kernel
theorem dX0_copied_40 : decode cX0_copied 40 = .ok (.goto (-26), 3) := dr_167 255 230  pk_deca_12.1
theorem dX0_copied_43 : decode cX0_copied 43 = .ok (.aload_n 1, 1) := dr_43  pk_deca_12.2.1
theorem dX0_copied_44 : decode cX0_copied 44 = .ok (.areturn, 1) := dr_176  pk_deca_12.2.2
set_option maxRecDepth 20000 in
theorem pk_deca_13 : (bq cX1_init 0 42 = true) ∧ ((bq cX1_init 1 183 && bq cX1_init (1 + 1) 0 && bq cX1_init (1 + 2) 3 && (0 * 256 + 3 == 3)) = true) ∧ (bq cX1_init 4 42 = true) ∧ ((bq cX1_init 5 16 && bq cX1_init (5 + 1) 12 && (Reader.signed 8 12 == 12)) = true) := by decide +kernel
theorem dX1_init_0 : decode cX1_init 0 = .ok (.aload_n 0, 1) := dr_42  pk_deca_13.1
theorem dX1_init_1 : decode cX1_init 1 = .ok (.invokespecial 3, 3) := dr_183 0 3  pk_deca_13.2.1
theorem dX1_init_4 : decode cX1_init 4 = .ok (.aload_n 0, 1) := dr_42  pk_deca_13.2.2.1
theorem dX1_init_5 : decode cX1_init 5 = .ok (.bipush 12, 2) := dr_16 12  pk_deca_13.2.2.2
theorem dX1_init_7 : decode cX1_init 7 = .ok (.newarray .int, 2) := by decide +kernel
set_option maxRecDepth 20000 in
theorem pk_deca_14 : ((bq cX1_init 9 181 && bq cX1_init (9 + 1) 0 && bq cX1_init (9 + 2) 9 && (0 * 256 + 9 == 9)) = true) ∧ (bq cX1_init 12 42 = true) ∧ ((bq cX1_init 13 16 && bq cX1_init (13 + 1) 12 && (Reader.signed 8 12 == 12)) = true) := by decide +kernel
theorem dX1_init_9 : decode cX1_init 9 = .ok (.putfield 9, 3) := dr_181 0 9  pk_deca_14.1
theorem dX1_init_12 : decode cX1_init 12 = .ok (.aload_n 0, 1) := dr_42  pk_deca_14.2.1
theorem dX1_init_13 : decode cX1_init 13 = .ok (.bipush 12, 2) := dr_16 12  pk_deca_14.2.2
theorem dX1_init_15 : decode cX1_init 15 = .ok (.newarray .int, 2) := by decide +kernel
set_option maxRecDepth 20000 in
theorem pk_deca_15 : ((bq cX1_init 17 181 && bq cX1_init (17 + 1) 0 && bq cX1_init (17 + 2) 15 && (0 * 256 + 15 == 15)) = true) ∧ (bq cX1_init 20 42 = true) ∧ ((bq cX1_init 21 16 && bq cX1_init (21 + 1) 12 && (Reader.signed 8 12 == 12)) = true) := by decide +kernel
theorem dX1_init_17 : decode cX1_init 17 = .ok (.putfield 15, 3) := dr_181 0 15  pk_deca_15.1
theorem dX1_init_20 : decode cX1_init 20 = .ok (.aload_n 0, 1) := dr_42  pk_deca_15.2.1
theorem dX1_init_21 : decode cX1_init 21 = .ok (.bipush 12, 2) := dr_16 12  pk_deca_15.2.2
theorem dX1_init_23 : decode cX1_init 23 = .ok (.newarray .int, 2) := by decide +kernel
set_option maxRecDepth 20000 in
theorem pk_deca_16 : ((bq cX1_init 25 181 && bq cX1_init (25 + 1) 0 && bq cX1_init (25 + 2) 18 && (0 * 256 + 18 == 18)) = true) ∧ (bq cX1_init 28 42 = true) ∧ (bq cX1_init 29 3 = true) ∧ ((bq cX1_init 30 181 && bq cX1_init (30 + 1) 0 && bq cX1_init (30 + 2) 21 && (0 * 256 + 21 == 21)) = true) ∧ (bq cX1_init 33 177 = true) := by decide +kernel
theorem dX1_init_25 : decode cX1_init 25 = .ok (.putfield 18, 3) := dr_181 0 18  pk_deca_16.1
theorem dX1_init_28 : decode cX1_init 28 = .ok (.aload_n 0, 1) := dr_42  pk_deca_16.2.1
theorem dX1_init_29 : decode cX1_init 29 = .ok (.iconst 0, 1) := dr_3  pk_deca_16.2.2.1
theorem dX1_init_30 : decode cX1_init 30 = .ok (.putfield 21, 3) := dr_181 0 21  pk_deca_16.2.2.2.1
theorem dX1_init_33 : decode cX1_init 33 = .ok (.return_, 1) := dr_177  pk_deca_16.2.2.2.2
set_option maxRecDepth 20000 in
theorem pk_deca_17 : (bq cX1_add 0 42 = true) ∧ ((bq cX1_add 1 180 && bq cX1_add (1 + 1) 0 && bq cX1_add (1 + 2) 21 && (0 * 256 + 21 == 21)) = true) ∧ ((bq cX1_add 4 155 && bq cX1_add (4 + 1) 0 && bq cX1_add (4 + 2) 12 && (Reader.signed 16 (0 * 256 + 12) == 12)) = true) ∧ (bq cX1_add 7 42 = true) ∧ ((bq cX1_add 8 180 && bq cX1_add (8 + 1) 0 && bq cX1_add (8 + 2) 21 && (0 * 256 + 21 == 21)) = true) ∧ ((bq cX1_add 11 16 && bq cX1_add (11 + 1) 12 && (Reader.signed 8 12 == 12)) = true) ∧ ((bq cX1_add 13 161 && bq cX1_add (13 + 1) 0 && bq cX1_add (13 + 2) 6 && (Reader.signed 16 (0 * 256 + 6) == 6)) = true) ∧ ((bq cX1_add 16 16 && bq cX1_add (16 + 1) 253 && (Reader.signed 8 253 == (-3))) = true) ∧ (bq cX1_add 18 172 = true) ∧ (bq cX1_add 19 42 = true) ∧ ((bq cX1_add 20 180 && bq cX1_add (20 + 1) 0 && bq cX1_add (20 + 2) 9 && (0 * 256 + 9 == 9)) = true) ∧ (bq cX1_add 23 42 = true) ∧ ((bq cX1_add 24 180 && bq cX1_add (24 + 1) 0 && bq cX1_add (24 + 2) 21 && (0 * 256 + 21 == 21)) = true) ∧ (bq cX1_add 27 27 = true) ∧ (bq cX1_add 28 79 = true) ∧ (bq cX1_add 29 42 = true) ∧ ((bq cX1_add 30 180 && bq cX1_add (30 + 1) 0 && bq cX1_add (30 + 2) 15 && (0 * 256 + 15 == 15)) = true) ∧ (bq cX1_add 33 42 = true) ∧ ((bq cX1_add 34 180 && bq cX1_add (34 + 1) 0 && bq cX1_add (34 + 2) 21 && (0 * 256 + 21 == 21)) = true) ∧ (bq cX1_add 37 28 = true) ∧ (bq cX1_add 38 79 = true) ∧ (bq cX1_add 39 42 = true) ∧ (bq cX1_add 40 89 = true) ∧ ((bq cX1_add 41 180 && bq cX1_add (41 + 1) 0 && bq cX1_add (41 + 2) 21 && (0 * 256 + 21 == 21)) = true) ∧ (bq cX1_add 44 4 = true) ∧ (bq cX1_add 45 96 = true) ∧ ((bq cX1_add 46 181 && bq cX1_add (46 + 1) 0 && bq cX1_add (46 + 2) 21 && (0 * 256 + 21 == 21)) = true) ∧ (bq cX1_add 49 42 = true) ∧ ((bq cX1_add 50 180 && bq cX1_add (50 + 1) 0 && bq cX1_add (50 + 2) 21 && (0 * 256 + 21 == 21)) = true) ∧ (bq cX1_add 53 4 = true) ∧ (bq cX1_add 54 100 = true) ∧ (bq cX1_add 55 172 = true) := by decide +kernel
theorem dX1_add_0 : decode cX1_add 0 = .ok (.aload_n 0, 1) := dr_42  pk_deca_17.1
theorem dX1_add_1 : decode cX1_add 1 = .ok (.getfield 21, 3) := dr_180 0 21  pk_deca_17.2.1
theorem dX1_add_4 : decode cX1_add 4 = .ok (.ifCond .lt 12, 3) := dr_155 0 12  pk_deca_17.2.2.1
theorem dX1_add_7 : decode cX1_add 7 = .ok (.aload_n 0, 1) := dr_42  pk_deca_17.2.2.2.1
theorem dX1_add_8 : decode cX1_add 8 = .ok (.getfield 21, 3) := dr_180 0 21  pk_deca_17.2.2.2.2.1
theorem dX1_add_11 : decode cX1_add 11 = .ok (.bipush 12, 2) := dr_16 12  pk_deca_17.2.2.2.2.2.1
theorem dX1_add_13 : decode cX1_add 13 = .ok (.if_icmp .lt 6, 3) := dr_161 0 6  pk_deca_17.2.2.2.2.2.2.1
theorem dX1_add_16 : decode cX1_add 16 = .ok (.bipush (-3), 2) := dr_16 253  pk_deca_17.2.2.2.2.2.2.2.1
theorem dX1_add_18 : decode cX1_add 18 = .ok (.ireturn, 1) := dr_172  pk_deca_17.2.2.2.2.2.2.2.2.1
theorem dX1_add_19 : decode cX1_add 19 = .ok (.aload_n 0, 1) := dr_42  pk_deca_17.2.2.2.2.2.2.2.2.2.1
theorem dX1_add_20 : decode cX1_add 20 = .ok (.getfield 9, 3) := dr_180 0 9  pk_deca_17.2.2.2.2.2.2.2.2.2.2.1
theorem dX1_add_23 : decode cX1_add 23 = .ok (.aload_n 0, 1) := dr_42  pk_deca_17.2.2.2.2.2.2.2.2.2.2.2.1
theorem dX1_add_24 : decode cX1_add 24 = .ok (.getfield 21, 3) := dr_180 0 21  pk_deca_17.2.2.2.2.2.2.2.2.2.2.2.2.1
theorem dX1_add_27 : decode cX1_add 27 = .ok (.iload_n 1, 1) := dr_27  pk_deca_17.2.2.2.2.2.2.2.2.2.2.2.2.2.1
theorem dX1_add_28 : decode cX1_add 28 = .ok (.iastore, 1) := dr_79  pk_deca_17.2.2.2.2.2.2.2.2.2.2.2.2.2.2.1
theorem dX1_add_29 : decode cX1_add 29 = .ok (.aload_n 0, 1) := dr_42  pk_deca_17.2.2.2.2.2.2.2.2.2.2.2.2.2.2.2.1
theorem dX1_add_30 : decode cX1_add 30 = .ok (.getfield 15, 3) := dr_180 0 15  pk_deca_17.2.2.2.2.2.2.2.2.2.2.2.2.2.2.2.2.1
theorem dX1_add_33 : decode cX1_add 33 = .ok (.aload_n 0, 1) := dr_42  pk_deca_17.2.2.2.2.2.2.2.2.2.2.2.2.2.2.2.2.2.1
theorem dX1_add_34 : decode cX1_add 34 = .ok (.getfield 21, 3) := dr_180 0 21  pk_deca_17.2.2.2.2.2.2.2.2.2.2.2.2.2.2.2.2.2.2.1
theorem dX1_add_37 : decode cX1_add 37 = .ok (.iload_n 2, 1) := dr_28  pk_deca_17.2.2.2.2.2.2.2.2.2.2.2.2.2.2.2.2.2.2.2.1
theorem dX1_add_38 : decode cX1_add 38 = .ok (.iastore, 1) := dr_79  pk_deca_17.2.2.2.2.2.2.2.2.2.2.2.2.2.2.2.2.2.2.2.2.1
theorem dX1_add_39 : decode cX1_add 39 = .ok (.aload_n 0, 1) := dr_42  pk_deca_17.2.2.2.2.2.2.2.2.2.2.2.2.2.2.2.2.2.2.2.2.2.1
theorem dX1_add_40 : decode cX1_add 40 = .ok (.dup, 1) := dr_89  pk_deca_17.2.2.2.2.2.2.2.2.2.2.2.2.2.2.2.2.2.2.2.2.2.2.1
theorem dX1_add_41 : decode cX1_add 41 = .ok (.getfield 21, 3) := dr_180 0 21  pk_deca_17.2.2.2.2.2.2.2.2.2.2.2.2.2.2.2.2.2.2.2.2.2.2.2.1
theorem dX1_add_44 : decode cX1_add 44 = .ok (.iconst 1, 1) := dr_4  pk_deca_17.2.2.2.2.2.2.2.2.2.2.2.2.2.2.2.2.2.2.2.2.2.2.2.2.1
theorem dX1_add_45 : decode cX1_add 45 = .ok (.iadd, 1) := dr_96  pk_deca_17.2.2.2.2.2.2.2.2.2.2.2.2.2.2.2.2.2.2.2.2.2.2.2.2.2.1
theorem dX1_add_46 : decode cX1_add 46 = .ok (.putfield 21, 3) := dr_181 0 21  pk_deca_17.2.2.2.2.2.2.2.2.2.2.2.2.2.2.2.2.2.2.2.2.2.2.2.2.2.2.1
theorem dX1_add_49 : decode cX1_add 49 = .ok (.aload_n 0, 1) := dr_42  pk_deca_17.2.2.2.2.2.2.2.2.2.2.2.2.2.2.2.2.2.2.2.2.2.2.2.2.2.2.2.1
theorem dX1_add_50 : decode cX1_add 50 = .ok (.getfield 21, 3) := dr_180 0 21  pk_deca_17.2.2.2.2.2.2.2.2.2.2.2.2.2.2.2.2.2.2.2.2.2.2.2.2.2.2.2.2.1
theorem dX1_add_53 : decode cX1_add 53 = .ok (.iconst 1, 1) := dr_4  pk_deca_17.2.2.2.2.2.2.2.2.2.2.2.2.2.2.2.2.2.2.2.2.2.2.2.2.2.2.2.2.2.1
theorem dX1_add_54 : decode cX1_add 54 = .ok (.isub, 1) := dr_100  pk_deca_17.2.2.2.2.2.2.2.2.2.2.2.2.2.2.2.2.2.2.2.2.2.2.2.2.2.2.2.2.2.2.1
theorem dX1_add_55 : decode cX1_add 55 = .ok (.ireturn, 1) := dr_172  pk_deca_17.2.2.2.2.2.2.2.2.2.2.2.2.2.2.2.2.2.2.2.2.2.2.2.2.2.2.2.2.2.2.2
set_option maxRecDepth 20000 in
theorem pk_deca_18 : (bq cX1_has 0 27 = true) ∧ ((bq cX1_has 1 155 && bq cX1_has (1 + 1) 0 && bq cX1_has (1 + 2) 21 && (Reader.signed 16 (0 * 256 + 21) == 21)) = true) ∧ (bq cX1_has 4 27 = true) ∧ (bq cX1_has 5 42 = true) ∧ ((bq cX1_has 6 180 && bq cX1_has (6 + 1) 0 && bq cX1_has (6 + 2) 21 && (0 * 256 + 21 == 21)) = true) ∧ ((bq cX1_has 9 162 && bq cX1_has (9 + 1) 0 && bq cX1_has (9 + 2) 13 && (Reader.signed 16 (0 * 256 + 13) == 13)) = true) ∧ (bq cX1_has 12 27 = true) ∧ ((bq cX1_has 13 16 && bq cX1_has (13 + 1) 12 && (Reader.signed 8 12 == 12)) = true) ∧ ((bq cX1_has 15 162 && bq cX1_has (15 + 1) 0 && bq cX1_has (15 + 2) 7 && (Reader.signed 16 (0 * 256 + 7) == 7)) = true) ∧ (bq cX1_has 18 4 = true) ∧ ((bq cX1_has 19 167 && bq cX1_has (19 + 1) 0 && bq cX1_has (19 + 2) 4 && (Reader.signed 16 (0 * 256 + 4) == 4)) = true) ∧ (bq cX1_has 22 3 = true) ∧ (bq cX1_has 23 172 = true) := by decide +kernel
theorem dX1_has_0 : decode cX1_has 0 = .ok (.iload_n 1, 1) := dr_27  pk_deca_18.1
theorem dX1_has_1 : decode cX1_has 1 = .ok (.ifCond .lt 21, 3) := dr_155 0 21  pk_deca_18.2.1
theorem dX1_has_4 : decode cX1_has 4 = .ok (.iload_n 1, 1) := dr_27  pk_deca_18.2.2.1
theorem dX1_has_5 : decode cX1_has 5 = .ok (.aload_n 0, 1) := dr_42  pk_deca_18.2.2.2.1
theorem dX1_has_6 : decode cX1_has 6 = .ok (.getfield 21, 3) := dr_180 0 21  pk_deca_18.2.2.2.2.1
theorem dX1_has_9 : decode cX1_has 9 = .ok (.if_icmp .ge 13, 3) := dr_162 0 13  pk_deca_18.2.2.2.2.2.1
theorem dX1_has_12 : decode cX1_has 12 = .ok (.iload_n 1, 1) := dr_27  pk_deca_18.2.2.2.2.2.2.1
theorem dX1_has_13 : decode cX1_has 13 = .ok (.bipush 12, 2) := dr_16 12  pk_deca_18.2.2.2.2.2.2.2.1
theorem dX1_has_15 : decode cX1_has 15 = .ok (.if_icmp .ge 7, 3) := dr_162 0 7  pk_deca_18.2.2.2.2.2.2.2.2.1
theorem dX1_has_18 : decode cX1_has 18 = .ok (.iconst 1, 1) := dr_4  pk_deca_18.2.2.2.2.2.2.2.2.2.1
theorem dX1_has_19 : decode cX1_has 19 = .ok (.goto 4, 3) := dr_167 0 4  pk_deca_18.2.2.2.2.2.2.2.2.2.2.1
theorem dX1_has_22 : decode cX1_has 22 = .ok (.iconst 0, 1) := dr_3  pk_deca_18.2.2.2.2.2.2.2.2.2.2.2.1
theorem dX1_has_23 : decode cX1_has 23 = .ok (.ireturn, 1) := dr_172  pk_deca_18.2.2.2.2.2.2.2.2.2.2.2.2
set_option maxRecDepth 20000 in
theorem pk_deca_19 : (bq cX1_fewest 0 42 = true) ∧ (bq cX1_fewest 1 27 = true) ∧ ((bq cX1_fewest 2 182 && bq cX1_fewest (2 + 1) 0 && bq cX1_fewest (2 + 2) 25 && (0 * 256 + 25 == 25)) = true) ∧ ((bq cX1_fewest 5 153 && bq cX1_fewest (5 + 1) 0 && bq cX1_fewest (5 + 2) 11 && (Reader.signed 16 (0 * 256 + 11) == 11)) = true) ∧ (bq cX1_fewest 8 42 = true) ∧ (bq cX1_fewest 9 28 = true) ∧ ((bq cX1_fewest 10 182 && bq cX1_fewest (10 + 1) 0 && bq cX1_fewest (10 + 2) 25 && (0 * 256 + 25 == 25)) = true) ∧ ((bq cX1_fewest 13 154 && bq cX1_fewest (13 + 1) 0 && bq cX1_fewest (13 + 2) 6 && (Reader.signed 16 (0 * 256 + 6) == 6)) = true) ∧ ((bq cX1_fewest 16 16 && bq cX1_fewest (16 + 1) 247 && (Reader.signed 8 247 == (-9))) = true) ∧ (bq cX1_fewest 18 172 = true) ∧ (bq cX1_fewest 19 3 = true) ∧ ((bq cX1_fewest 20 54 && bq cX1_fewest (20 + 1) 4) = true) ∧ ((bq cX1_fewest 22 21 && bq cX1_fewest (22 + 1) 4) = true) ∧ ((bq cX1_fewest 24 16 && bq cX1_fewest (24 + 1) 12 && (Reader.signed 8 12 == 12)) = true) ∧ ((bq cX1_fewest 26 162 && bq cX1_fewest (26 + 1) 0 && bq cX1_fewest (26 + 2) 18 && (Reader.signed 16 (0 * 256 + 18) == 18)) = true) ∧ (bq cX1_fewest 29 42 = true) ∧ ((bq cX1_fewest 30 180 && bq cX1_fewest (30 + 1) 0 && bq cX1_fewest (30 + 2) 18 && (0 * 256 + 18 == 18)) = true) ∧ ((bq cX1_fewest 33 21 && bq cX1_fewest (33 + 1) 4) = true) ∧ ((bq cX1_fewest 35 16 && bq cX1_fewest (35 + 1) 247 && (Reader.signed 8 247 == (-9))) = true) ∧ (bq cX1_fewest 37 79 = true) := by decide +kernel
theorem dX1_fewest_0 : decode cX1_fewest 0 = .ok (.aload_n 0, 1) := dr_42  pk_deca_19.1
theorem dX1_fewest_1 : decode cX1_fewest 1 = .ok (.iload_n 1, 1) := dr_27  pk_deca_19.2.1
theorem dX1_fewest_2 : decode cX1_fewest 2 = .ok (.invokevirtual 25, 3) := dr_182 0 25  pk_deca_19.2.2.1
theorem dX1_fewest_5 : decode cX1_fewest 5 = .ok (.ifCond .eq 11, 3) := dr_153 0 11  pk_deca_19.2.2.2.1
theorem dX1_fewest_8 : decode cX1_fewest 8 = .ok (.aload_n 0, 1) := dr_42  pk_deca_19.2.2.2.2.1
theorem dX1_fewest_9 : decode cX1_fewest 9 = .ok (.iload_n 2, 1) := dr_28  pk_deca_19.2.2.2.2.2.1
theorem dX1_fewest_10 : decode cX1_fewest 10 = .ok (.invokevirtual 25, 3) := dr_182 0 25  pk_deca_19.2.2.2.2.2.2.1
theorem dX1_fewest_13 : decode cX1_fewest 13 = .ok (.ifCond .ne 6, 3) := dr_154 0 6  pk_deca_19.2.2.2.2.2.2.2.1
theorem dX1_fewest_16 : decode cX1_fewest 16 = .ok (.bipush (-9), 2) := dr_16 247  pk_deca_19.2.2.2.2.2.2.2.2.1
theorem dX1_fewest_18 : decode cX1_fewest 18 = .ok (.ireturn, 1) := dr_172  pk_deca_19.2.2.2.2.2.2.2.2.2.1
theorem dX1_fewest_19 : decode cX1_fewest 19 = .ok (.iconst 0, 1) := dr_3  pk_deca_19.2.2.2.2.2.2.2.2.2.2.1
theorem dX1_fewest_20 : decode cX1_fewest 20 = .ok (.istore 4, 2) := dr_54  pk_deca_19.2.2.2.2.2.2.2.2.2.2.2.1
theorem dX1_fewest_22 : decode cX1_fewest 22 = .ok (.iload 4, 2) := dr_21  pk_deca_19.2.2.2.2.2.2.2.2.2.2.2.2.1
theorem dX1_fewest_24 : decode cX1_fewest 24 = .ok (.bipush 12, 2) := dr_16 12  pk_deca_19.2.2.2.2.2.2.2.2.2.2.2.2.2.1
theorem dX1_fewest_26 : decode cX1_fewest 26 = .ok (.if_icmp .ge 18, 3) := dr_162 0 18  pk_deca_19.2.2.2.2.2.2.2.2.2.2.2.2.2.2.1
theorem dX1_fewest_29 : decode cX1_fewest 29 = .ok (.aload_n 0, 1) := dr_42  pk_deca_19.2.2.2.2.2.2.2.2.2.2.2.2.2.2.2.1
theorem dX1_fewest_30 : decode cX1_fewest 30 = .ok (.getfield 18, 3) := dr_180 0 18  pk_deca_19.2.2.2.2.2.2.2.2.2.2.2.2.2.2.2.2.1
theorem dX1_fewest_33 : decode cX1_fewest 33 = .ok (.iload 4, 2) := dr_21  pk_deca_19.2.2.2.2.2.2.2.2.2.2.2.2.2.2.2.2.2.1
theorem dX1_fewest_35 : decode cX1_fewest 35 = .ok (.bipush (-9), 2) := dr_16 247  pk_deca_19.2.2.2.2.2.2.2.2.2.2.2.2.2.2.2.2.2.2.1
theorem dX1_fewest_37 : decode cX1_fewest 37 = .ok (.iastore, 1) := dr_79  pk_deca_19.2.2.2.2.2.2.2.2.2.2.2.2.2.2.2.2.2.2.2
theorem dX1_fewest_38 : decode cX1_fewest 38 = .ok (.iinc 4 1, 3) := by decide +kernel
set_option maxRecDepth 20000 in
theorem pk_deca_20 : ((bq cX1_fewest 41 167 && bq cX1_fewest (41 + 1) 255 && bq cX1_fewest (41 + 2) 237 && (Reader.signed 16 (255 * 256 + 237) == (-19))) = true) ∧ (bq cX1_fewest 44 42 = true) ∧ ((bq cX1_fewest 45 180 && bq cX1_fewest (45 + 1) 0 && bq cX1_fewest (45 + 2) 18 && (0 * 256 + 18 == 18)) = true) ∧ (bq cX1_fewest 48 28 = true) ∧ (bq cX1_fewest 49 3 = true) ∧ (bq cX1_fewest 50 79 = true) ∧ (bq cX1_fewest 51 42 = true) ∧ ((bq cX1_fewest 52 180 && bq cX1_fewest (52 + 1) 0 && bq cX1_fewest (52 + 2) 15 && (0 * 256 + 15 == 15)) = true) ∧ (bq cX1_fewest 55 27 = true) ∧ (bq cX1_fewest 56 46 = true) ∧ ((bq cX1_fewest 57 54 && bq cX1_fewest (57 + 1) 4) = true) ∧ (bq cX1_fewest 59 42 = true) ∧ ((bq cX1_fewest 60 180 && bq cX1_fewest (60 + 1) 0 && bq cX1_fewest (60 + 2) 15 && (0 * 256 + 15 == 15)) = true) ∧ (bq cX1_fewest 63 27 = true) ∧ ((bq cX1_fewest 64 21 && bq cX1_fewest (64 + 1) 4) = true) ∧ (bq cX1_fewest 66 29 = true) ∧ (bq cX1_fewest 67 128 = true) ∧ (bq cX1_fewest 68 79 = true) ∧ (bq cX1_fewest 69 3 = true) ∧ ((bq cX1_fewest 70 54 && bq cX1_fewest (70 + 1) 5) = true) ∧ ((bq cX1_fewest 72 21 && bq cX1_fewest (72 + 1) 5) = true) ∧ (bq cX1_fewest 74 42 = true) ∧ ((bq cX1_fewest 75 180 && bq cX1_fewest (75 + 1) 0 && bq cX1_fewest (75 + 2) 21 && (0 * 256 + 21 == 21)) = true) ∧ ((bq cX1_fewest 78 162 && bq cX1_fewest (78 + 1) 0 && bq cX1_fewest (78 + 2) 15 && (Reader.signed 16 (0 * 256 + 15) == 15)) = true) ∧ (bq cX1_fewest 81 42 = true) ∧ ((bq cX1_fewest 82 21 && bq cX1_fewest (82 + 1) 5) = true) ∧ ((bq cX1_fewest 84 182 && bq cX1_fewest (84 + 1) 0 && bq cX1_fewest (84 + 2) 29 && (0 * 256 + 29 == 29)) = true) := by decide +kernel
theorem dX1_fewest_41 : decode cX1_fewest 41 = .ok (.goto (-19), 3) := dr_167 255 237  pk_deca_20.1
theorem dX1_fewest_44 : decode cX1_fewest 44 = .ok (.aload_n 0, 1) := dr_42  pk_deca_20.2.1
theorem dX1_fewest_45 : decode cX1_fewest 45 = .ok (.getfield 18, 3) := dr_180 0 18  pk_deca_20.2.2.1
theorem dX1_fewest_48 : decode cX1_fewest 48 = .ok (.iload_n 2, 1) := dr_28  pk_deca_20.2.2.2.1
theorem dX1_fewest_49 : decode cX1_fewest 49 = .ok (.iconst 0, 1) := dr_3  pk_deca_20.2.2.2.2.1
theorem dX1_fewest_50 : decode cX1_fewest 50 = .ok (.iastore, 1) := dr_79  pk_deca_20.2.2.2.2.2.1
theorem dX1_fewest_51 : decode cX1_fewest 51 = .ok (.aload_n 0, 1) := dr_42  pk_deca_20.2.2.2.2.2.2.1
theorem dX1_fewest_52 : decode cX1_fewest 52 = .ok (.getfield 15, 3) := dr_180 0 15  pk_deca_20.2.2.2.2.2.2.2.1
theorem dX1_fewest_55 : decode cX1_fewest 55 = .ok (.iload_n 1, 1) := dr_27  pk_deca_20.2.2.2.2.2.2.2.2.1
theorem dX1_fewest_56 : decode cX1_fewest 56 = .ok (.iaload, 1) := dr_46  pk_deca_20.2.2.2.2.2.2.2.2.2.1
theorem dX1_fewest_57 : decode cX1_fewest 57 = .ok (.istore 4, 2) := dr_54  pk_deca_20.2.2.2.2.2.2.2.2.2.2.1
theorem dX1_fewest_59 : decode cX1_fewest 59 = .ok (.aload_n 0, 1) := dr_42  pk_deca_20.2.2.2.2.2.2.2.2.2.2.2.1
theorem dX1_fewest_60 : decode cX1_fewest 60 = .ok (.getfield 15, 3) := dr_180 0 15  pk_deca_20.2.2.2.2.2.2.2.2.2.2.2.2.1
theorem dX1_fewest_63 : decode cX1_fewest 63 = .ok (.iload_n 1, 1) := dr_27  pk_deca_20.2.2.2.2.2.2.2.2.2.2.2.2.2.1
theorem dX1_fewest_64 : decode cX1_fewest 64 = .ok (.iload 4, 2) := dr_21  pk_deca_20.2.2.2.2.2.2.2.2.2.2.2.2.2.2.1
theorem dX1_fewest_66 : decode cX1_fewest 66 = .ok (.iload_n 3, 1) := dr_29  pk_deca_20.2.2.2.2.2.2.2.2.2.2.2.2.2.2.2.1
theorem dX1_fewest_67 : decode cX1_fewest 67 = .ok (.ior, 1) := dr_128  pk_deca_20.2.2.2.2.2.2.2.2.2.2.2.2.2.2.2.2.1
theorem dX1_fewest_68 : decode cX1_fewest 68 = .ok (.iastore, 1) := dr_79  pk_deca_20.2.2.2.2.2.2.2.2.2.2.2.2.2.2.2.2.2.1
theorem dX1_fewest_69 : decode cX1_fewest 69 = .ok (.iconst 0, 1) := dr_3  pk_deca_20.2.2.2.2.2.2.2.2.2.2.2.2.2.2.2.2.2.2.1
theorem dX1_fewest_70 : decode cX1_fewest 70 = .ok (.istore 5, 2) := dr_54  pk_deca_20.2.2.2.2.2.2.2.2.2.2.2.2.2.2.2.2.2.2.2.1
theorem dX1_fewest_72 : decode cX1_fewest 72 = .ok (.iload 5, 2) := dr_21  pk_deca_20.2.2.2.2.2.2.2.2.2.2.2.2.2.2.2.2.2.2.2.2.1
theorem dX1_fewest_74 : decode cX1_fewest 74 = .ok (.aload_n 0, 1) := dr_42  pk_deca_20.2.2.2.2.2.2.2.2.2.2.2.2.2.2.2.2.2.2.2.2.2.1
theorem dX1_fewest_75 : decode cX1_fewest 75 = .ok (.getfield 21, 3) := dr_180 0 21  pk_deca_20.2.2.2.2.2.2.2.2.2.2.2.2.2.2.2.2.2.2.2.2.2.2.1
theorem dX1_fewest_78 : decode cX1_fewest 78 = .ok (.if_icmp .ge 15, 3) := dr_162 0 15  pk_deca_20.2.2.2.2.2.2.2.2.2.2.2.2.2.2.2.2.2.2.2.2.2.2.2.1
theorem dX1_fewest_81 : decode cX1_fewest 81 = .ok (.aload_n 0, 1) := dr_42  pk_deca_20.2.2.2.2.2.2.2.2.2.2.2.2.2.2.2.2.2.2.2.2.2.2.2.2.1
theorem dX1_fewest_82 : decode cX1_fewest 82 = .ok (.iload 5, 2) := dr_21  pk_deca_20.2.2.2.2.2.2.2.2.2.2.2.2.2.2.2.2.2.2.2.2.2.2.2.2.2.1
theorem dX1_fewest_84 : decode cX1_fewest 84 = .ok (.invokevirtual 29, 3) := dr_182 0 29  pk_deca_20.2.2.2.2.2.2.2.2.2.2.2.2.2.2.2.2.2.2.2.2.2.2.2.2.2.2
theorem dX1_fewest_87 : decode cX1_fewest 87 = .ok (.iinc 5 1, 3) := by decide +kernel
set_option maxRecDepth 20000 in
theorem pk_deca_21 : ((bq cX1_fewest 90 167 && bq cX1_fewest (90 + 1) 255 && bq cX1_fewest (90 + 2) 238 && (Reader.signed 16 (255 * 256 + 238) == (-18))) = true) ∧ (bq cX1_fewest 93 42 = true) ∧ ((bq cX1_fewest 94 180 && bq cX1_fewest (94 + 1) 0 && bq cX1_fewest (94 + 2) 15 && (0 * 256 + 15 == 15)) = true) ∧ (bq cX1_fewest 97 27 = true) ∧ ((bq cX1_fewest 98 21 && bq cX1_fewest (98 + 1) 4) = true) ∧ (bq cX1_fewest 100 79 = true) ∧ (bq cX1_fewest 101 42 = true) ∧ ((bq cX1_fewest 102 180 && bq cX1_fewest (102 + 1) 0 && bq cX1_fewest (102 + 2) 18 && (0 * 256 + 18 == 18)) = true) ∧ (bq cX1_fewest 105 27 = true) ∧ (bq cX1_fewest 106 46 = true) ∧ (bq cX1_fewest 107 172 = true) := by decide +kernel
theorem dX1_fewest_90 : decode cX1_fewest 90 = .ok (.goto (-18), 3) := dr_167 255 238  pk_deca_21.1
theorem dX1_fewest_93 : decode cX1_fewest 93 = .ok (.aload_n 0, 1) := dr_42  pk_deca_21.2.1
theorem dX1_fewest_94 : decode cX1_fewest 94 = .ok (.getfield 15, 3) := dr_180 0 15  pk_deca_21.2.2.1
theorem dX1_fewest_97 : decode cX1_fewest 97 = .ok (.iload_n 1, 1) := dr_27  pk_deca_21.2.2.2.1
theorem dX1_fewest_98 : decode cX1_fewest 98 = .ok (.iload 4, 2) := dr_21  pk_deca_21.2.2.2.2.1
theorem dX1_fewest_100 : decode cX1_fewest 100 = .ok (.iastore, 1) := dr_79  pk_deca_21.2.2.2.2.2.1
theorem dX1_fewest_101 : decode cX1_fewest 101 = .ok (.aload_n 0, 1) := dr_42  pk_deca_21.2.2.2.2.2.2.1
theorem dX1_fewest_102 : decode cX1_fewest 102 = .ok (.getfield 18, 3) := dr_180 0 18  pk_deca_21.2.2.2.2.2.2.2.1
theorem dX1_fewest_105 : decode cX1_fewest 105 = .ok (.iload_n 1, 1) := dr_27  pk_deca_21.2.2.2.2.2.2.2.2.1
theorem dX1_fewest_106 : decode cX1_fewest 106 = .ok (.iaload, 1) := dr_46  pk_deca_21.2.2.2.2.2.2.2.2.2.1
theorem dX1_fewest_107 : decode cX1_fewest 107 = .ok (.ireturn, 1) := dr_172  pk_deca_21.2.2.2.2.2.2.2.2.2.2
set_option maxRecDepth 20000 in
theorem pk_deca_22 : (bq cX1_reachBack 0 3 = true) ∧ (bq cX1_reachBack 1 61 = true) ∧ (bq cX1_reachBack 2 28 = true) ∧ (bq cX1_reachBack 3 42 = true) ∧ ((bq cX1_reachBack 4 180 && bq cX1_reachBack (4 + 1) 0 && bq cX1_reachBack (4 + 2) 21 && (0 * 256 + 21 == 21)) = true) ∧ ((bq cX1_reachBack 7 162 && bq cX1_reachBack (7 + 1) 0 && bq cX1_reachBack (7 + 2) 46 && (Reader.signed 16 (0 * 256 + 46) == 46)) = true) ∧ (bq cX1_reachBack 10 28 = true) ∧ ((bq cX1_reachBack 11 16 && bq cX1_reachBack (11 + 1) 12 && (Reader.signed 8 12 == 12)) = true) ∧ ((bq cX1_reachBack 13 162 && bq cX1_reachBack (13 + 1) 0 && bq cX1_reachBack (13 + 2) 40 && (Reader.signed 16 (0 * 256 + 40) == 40)) = true) ∧ (bq cX1_reachBack 16 42 = true) ∧ ((bq cX1_reachBack 17 180 && bq cX1_reachBack (17 + 1) 0 && bq cX1_reachBack (17 + 2) 18 && (0 * 256 + 18 == 18)) = true) ∧ (bq cX1_reachBack 20 28 = true) ∧ (bq cX1_reachBack 21 46 = true) ∧ ((bq cX1_reachBack 22 16 && bq cX1_reachBack (22 + 1) 247 && (Reader.signed 8 247 == (-9))) = true) ∧ ((bq cX1_reachBack 24 160 && bq cX1_reachBack (24 + 1) 0 && bq cX1_reachBack (24 + 2) 23 && (Reader.signed 16 (0 * 256 + 23) == 23)) = true) ∧ (bq cX1_reachBack 27 42 = true) ∧ (bq cX1_reachBack 28 28 = true) ∧ (bq cX1_reachBack 29 27 = true) ∧ ((bq cX1_reachBack 30 182 && bq cX1_reachBack (30 + 1) 0 && bq cX1_reachBack (30 + 2) 33 && (0 * 256 + 33 == 33)) = true) ∧ ((bq cX1_reachBack 33 16 && bq cX1_reachBack (33 + 1) 247 && (Reader.signed 8 247 == (-9))) = true) ∧ ((bq cX1_reachBack 35 159 && bq cX1_reachBack (35 + 1) 0 && bq cX1_reachBack (35 + 2) 12 && (Reader.signed 16 (0 * 256 + 12) == 12)) = true) ∧ (bq cX1_reachBack 38 42 = true) ∧ ((bq cX1_reachBack 39 180 && bq cX1_reachBack (39 + 1) 0 && bq cX1_reachBack (39 + 2) 18 && (0 * 256 + 18 == 18)) = true) ∧ (bq cX1_reachBack 42 28 = true) ∧ (bq cX1_reachBack 43 27 = true) ∧ (bq cX1_reachBack 44 4 = true) ∧ (bq cX1_reachBack 45 96 = true) ∧ (bq cX1_reachBack 46 79 = true) := by decide +kernel
theorem dX1_reachBack_0 : decode cX1_reachBack 0 = .ok (.iconst 0, 1) := dr_3  pk_deca_22.1
theorem dX1_reachBack_1 : decode cX1_reachBack 1 = .ok (.istore_n 2, 1) := dr_61  pk_deca_22.2.1
theorem dX1_reachBack_2 : decode cX1_reachBack 2 = .ok (.iload_n 2, 1) := dr_28  pk_deca_22.2.2.1
theorem dX1_reachBack_3 : decode cX1_reachBack 3 = .ok (.aload_n 0, 1) := dr_42  pk_deca_22.2.2.2.1
theorem dX1_reachBack_4 : decode cX1_reachBack 4 = .ok (.getfield 21, 3) := dr_180 0 21  pk_deca_22.2.2.2.2.1
theorem dX1_reachBack_7 : decode cX1_reachBack 7 = .ok (.if_icmp .ge 46, 3) := dr_162 0 46  pk_deca_22.2.2.2.2.2.1
theorem dX1_reachBack_10 : decode cX1_reachBack 10 = .ok (.iload_n 2, 1) := dr_28  pk_deca_22.2.2.2.2.2.2.1
theorem dX1_reachBack_11 : decode cX1_reachBack 11 = .ok (.bipush 12, 2) := dr_16 12  pk_deca_22.2.2.2.2.2.2.2.1
theorem dX1_reachBack_13 : decode cX1_reachBack 13 = .ok (.if_icmp .ge 40, 3) := dr_162 0 40  pk_deca_22.2.2.2.2.2.2.2.2.1
theorem dX1_reachBack_16 : decode cX1_reachBack 16 = .ok (.aload_n 0, 1) := dr_42  pk_deca_22.2.2.2.2.2.2.2.2.2.1
theorem dX1_reachBack_17 : decode cX1_reachBack 17 = .ok (.getfield 18, 3) := dr_180 0 18  pk_deca_22.2.2.2.2.2.2.2.2.2.2.1
theorem dX1_reachBack_20 : decode cX1_reachBack 20 = .ok (.iload_n 2, 1) := dr_28  pk_deca_22.2.2.2.2.2.2.2.2.2.2.2.1
theorem dX1_reachBack_21 : decode cX1_reachBack 21 = .ok (.iaload, 1) := dr_46  pk_deca_22.2.2.2.2.2.2.2.2.2.2.2.2.1
theorem dX1_reachBack_22 : decode cX1_reachBack 22 = .ok (.bipush (-9), 2) := dr_16 247  pk_deca_22.2.2.2.2.2.2.2.2.2.2.2.2.2.1
theorem dX1_reachBack_24 : decode cX1_reachBack 24 = .ok (.if_icmp .ne 23, 3) := dr_160 0 23  pk_deca_22.2.2.2.2.2.2.2.2.2.2.2.2.2.2.1
theorem dX1_reachBack_27 : decode cX1_reachBack 27 = .ok (.aload_n 0, 1) := dr_42  pk_deca_22.2.2.2.2.2.2.2.2.2.2.2.2.2.2.2.1
theorem dX1_reachBack_28 : decode cX1_reachBack 28 = .ok (.iload_n 2, 1) := dr_28  pk_deca_22.2.2.2.2.2.2.2.2.2.2.2.2.2.2.2.2.1
theorem dX1_reachBack_29 : decode cX1_reachBack 29 = .ok (.iload_n 1, 1) := dr_27  pk_deca_22.2.2.2.2.2.2.2.2.2.2.2.2.2.2.2.2.2.1
theorem dX1_reachBack_30 : decode cX1_reachBack 30 = .ok (.invokevirtual 33, 3) := dr_182 0 33  pk_deca_22.2.2.2.2.2.2.2.2.2.2.2.2.2.2.2.2.2.2.1
theorem dX1_reachBack_33 : decode cX1_reachBack 33 = .ok (.bipush (-9), 2) := dr_16 247  pk_deca_22.2.2.2.2.2.2.2.2.2.2.2.2.2.2.2.2.2.2.2.1
theorem dX1_reachBack_35 : decode cX1_reachBack 35 = .ok (.if_icmp .eq 12, 3) := dr_159 0 12  pk_deca_22.2.2.2.2.2.2.2.2.2.2.2.2.2.2.2.2.2.2.2.2.1
theorem dX1_reachBack_38 : decode cX1_reachBack 38 = .ok (.aload_n 0, 1) := dr_42  pk_deca_22.2.2.2.2.2.2.2.2.2.2.2.2.2.2.2.2.2.2.2.2.2.1
theorem dX1_reachBack_39 : decode cX1_reachBack 39 = .ok (.getfield 18, 3) := dr_180 0 18  pk_deca_22.2.2.2.2.2.2.2.2.2.2.2.2.2.2.2.2.2.2.2.2.2.2.1
theorem dX1_reachBack_42 : decode cX1_reachBack 42 = .ok (.iload_n 2, 1) := dr_28  pk_deca_22.2.2.2.2.2.2.2.2.2.2.2.2.2.2.2.2.2.2.2.2.2.2.2.1
theorem dX1_reachBack_43 : decode cX1_reachBack 43 = .ok (.iload_n 1, 1) := dr_27  pk_deca_22.2.2.2.2.2.2.2.2.2.2.2.2.2.2.2.2.2.2.2.2.2.2.2.2.1
theorem dX1_reachBack_44 : decode cX1_reachBack 44 = .ok (.iconst 1, 1) := dr_4  pk_deca_22.2.2.2.2.2.2.2.2.2.2.2.2.2.2.2.2.2.2.2.2.2.2.2.2.2.1
theorem dX1_reachBack_45 : decode cX1_reachBack 45 = .ok (.iadd, 1) := dr_96  pk_deca_22.2.2.2.2.2.2.2.2.2.2.2.2.2.2.2.2.2.2.2.2.2.2.2.2.2.2.1
theorem dX1_reachBack_46 : decode cX1_reachBack 46 = .ok (.iastore, 1) := dr_79  pk_deca_22.2.2.2.2.2.2.2.2.2.2.2.2.2.2.2.2.2.2.2.2.2.2.2.2.2.2.2
theorem dX1_reachBack_47 : decode cX1_reachBack 47 = .ok (.iinc 2 1, 3) := by decide +kernel
set_option maxRecDepth 20000 in
theorem pk_deca_23 : ((bq cX1_reachBack 50 167 && bq cX1_reachBack (50 + 1) 255 && bq cX1_reachBack (50 + 2) 208 && (Reader.signed 16 (255 * 256 + 208) == (-48))) = true) ∧ (bq cX1_reachBack 53 177 = true) := by decide +kernel
theorem dX1_reachBack_50 : decode cX1_reachBack 50 = .ok (.goto (-48), 3) := dr_167 255 208  pk_deca_23.1
theorem dX1_reachBack_53 : decode cX1_reachBack 53 = .ok (.return_, 1) := dr_177  pk_deca_23.2
set_option maxRecDepth 20000 in
theorem pk_deca_24 : (bq cX1_firstBuilt 0 3 = true) ∧ (bq cX1_firstBuilt 1 62 = true) ∧ (bq cX1_firstBuilt 2 29 = true) ∧ (bq cX1_firstBuilt 3 42 = true) ∧ ((bq cX1_firstBuilt 4 180 && bq cX1_firstBuilt (4 + 1) 0 && bq cX1_firstBuilt (4 + 2) 21 && (0 * 256 + 21 == 21)) = true) ∧ ((bq cX1_firstBuilt 7 162 && bq cX1_firstBuilt (7 + 1) 0 && bq cX1_firstBuilt (7 + 2) 53 && (Reader.signed 16 (0 * 256 + 53) == 53)) = true) ∧ (bq cX1_firstBuilt 10 29 = true) ∧ ((bq cX1_firstBuilt 11 16 && bq cX1_firstBuilt (11 + 1) 12 && (Reader.signed 8 12 == 12)) = true) ∧ ((bq cX1_firstBuilt 13 162 && bq cX1_firstBuilt (13 + 1) 0 && bq cX1_firstBuilt (13 + 2) 47 && (Reader.signed 16 (0 * 256 + 47) == 47)) = true) ∧ (bq cX1_firstBuilt 16 42 = true) ∧ ((bq cX1_firstBuilt 17 180 && bq cX1_firstBuilt (17 + 1) 0 && bq cX1_firstBuilt (17 + 2) 18 && (0 * 256 + 18 == 18)) = true) ∧ (bq cX1_firstBuilt 20 29 = true) ∧ (bq cX1_firstBuilt 21 46 = true) ∧ (bq cX1_firstBuilt 22 28 = true) ∧ ((bq cX1_firstBuilt 23 160 && bq cX1_firstBuilt (23 + 1) 0 && bq cX1_firstBuilt (23 + 2) 31 && (Reader.signed 16 (0 * 256 + 31) == 31)) = true) ∧ (bq cX1_firstBuilt 26 42 = true) ∧ (bq cX1_firstBuilt 27 27 = true) ∧ ((bq cX1_firstBuilt 28 182 && bq cX1_firstBuilt (28 + 1) 0 && bq cX1_firstBuilt (28 + 2) 25 && (0 * 256 + 25 == 25)) = true) ∧ ((bq cX1_firstBuilt 31 153 && bq cX1_firstBuilt (31 + 1) 0 && bq cX1_firstBuilt (31 + 2) 23 && (Reader.signed 16 (0 * 256 + 23) == 23)) = true) ∧ (bq cX1_firstBuilt 34 42 = true) ∧ ((bq cX1_firstBuilt 35 180 && bq cX1_firstBuilt (35 + 1) 0 && bq cX1_firstBuilt (35 + 2) 9 && (0 * 256 + 9 == 9)) = true) ∧ (bq cX1_firstBuilt 38 29 = true) ∧ (bq cX1_firstBuilt 39 46 = true) ∧ (bq cX1_firstBuilt 40 42 = true) ∧ ((bq cX1_firstBuilt 41 180 && bq cX1_firstBuilt (41 + 1) 0 && bq cX1_firstBuilt (41 + 2) 15 && (0 * 256 + 15 == 15)) = true) ∧ (bq cX1_firstBuilt 44 27 = true) ∧ (bq cX1_firstBuilt 45 46 = true) ∧ (bq cX1_firstBuilt 46 2 = true) ∧ (bq cX1_firstBuilt 47 130 = true) ∧ (bq cX1_firstBuilt 48 126 = true) ∧ ((bq cX1_firstBuilt 49 154 && bq cX1_firstBuilt (49 + 1) 0 && bq cX1_firstBuilt (49 + 2) 5 && (Reader.signed 16 (0 * 256 + 5) == 5)) = true) ∧ (bq cX1_firstBuilt 52 29 = true) := by decide +kernel
theorem dX1_firstBuilt_0 : decode cX1_firstBuilt 0 = .ok (.iconst 0, 1) := dr_3  pk_deca_24.1
theorem dX1_firstBuilt_1 : decode cX1_firstBuilt 1 = .ok (.istore_n 3, 1) := dr_62  pk_deca_24.2.1
theorem dX1_firstBuilt_2 : decode cX1_firstBuilt 2 = .ok (.iload_n 3, 1) := dr_29  pk_deca_24.2.2.1
theorem dX1_firstBuilt_3 : decode cX1_firstBuilt 3 = .ok (.aload_n 0, 1) := dr_42  pk_deca_24.2.2.2.1
theorem dX1_firstBuilt_4 : decode cX1_firstBuilt 4 = .ok (.getfield 21, 3) := dr_180 0 21  pk_deca_24.2.2.2.2.1
theorem dX1_firstBuilt_7 : decode cX1_firstBuilt 7 = .ok (.if_icmp .ge 53, 3) := dr_162 0 53  pk_deca_24.2.2.2.2.2.1
theorem dX1_firstBuilt_10 : decode cX1_firstBuilt 10 = .ok (.iload_n 3, 1) := dr_29  pk_deca_24.2.2.2.2.2.2.1
theorem dX1_firstBuilt_11 : decode cX1_firstBuilt 11 = .ok (.bipush 12, 2) := dr_16 12  pk_deca_24.2.2.2.2.2.2.2.1
theorem dX1_firstBuilt_13 : decode cX1_firstBuilt 13 = .ok (.if_icmp .ge 47, 3) := dr_162 0 47  pk_deca_24.2.2.2.2.2.2.2.2.1
theorem dX1_firstBuilt_16 : decode cX1_firstBuilt 16 = .ok (.aload_n 0, 1) := dr_42  pk_deca_24.2.2.2.2.2.2.2.2.2.1
theorem dX1_firstBuilt_17 : decode cX1_firstBuilt 17 = .ok (.getfield 18, 3) := dr_180 0 18  pk_deca_24.2.2.2.2.2.2.2.2.2.2.1
theorem dX1_firstBuilt_20 : decode cX1_firstBuilt 20 = .ok (.iload_n 3, 1) := dr_29  pk_deca_24.2.2.2.2.2.2.2.2.2.2.2.1
theorem dX1_firstBuilt_21 : decode cX1_firstBuilt 21 = .ok (.iaload, 1) := dr_46  pk_deca_24.2.2.2.2.2.2.2.2.2.2.2.2.1
theorem dX1_firstBuilt_22 : decode cX1_firstBuilt 22 = .ok (.iload_n 2, 1) := dr_28  pk_deca_24.2.2.2.2.2.2.2.2.2.2.2.2.2.1
theorem dX1_firstBuilt_23 : decode cX1_firstBuilt 23 = .ok (.if_icmp .ne 31, 3) := dr_160 0 31  pk_deca_24.2.2.2.2.2.2.2.2.2.2.2.2.2.2.1
theorem dX1_firstBuilt_26 : decode cX1_firstBuilt 26 = .ok (.aload_n 0, 1) := dr_42  pk_deca_24.2.2.2.2.2.2.2.2.2.2.2.2.2.2.2.1
theorem dX1_firstBuilt_27 : decode cX1_firstBuilt 27 = .ok (.iload_n 1, 1) := dr_27  pk_deca_24.2.2.2.2.2.2.2.2.2.2.2.2.2.2.2.2.1
theorem dX1_firstBuilt_28 : decode cX1_firstBuilt 28 = .ok (.invokevirtual 25, 3) := dr_182 0 25  pk_deca_24.2.2.2.2.2.2.2.2.2.2.2.2.2.2.2.2.2.1
theorem dX1_firstBuilt_31 : decode cX1_firstBuilt 31 = .ok (.ifCond .eq 23, 3) := dr_153 0 23  pk_deca_24.2.2.2.2.2.2.2.2.2.2.2.2.2.2.2.2.2.2.1
theorem dX1_firstBuilt_34 : decode cX1_firstBuilt 34 = .ok (.aload_n 0, 1) := dr_42  pk_deca_24.2.2.2.2.2.2.2.2.2.2.2.2.2.2.2.2.2.2.2.1
theorem dX1_firstBuilt_35 : decode cX1_firstBuilt 35 = .ok (.getfield 9, 3) := dr_180 0 9  pk_deca_24.2.2.2.2.2.2.2.2.2.2.2.2.2.2.2.2.2.2.2.2.1
theorem dX1_firstBuilt_38 : decode cX1_firstBuilt 38 = .ok (.iload_n 3, 1) := dr_29  pk_deca_24.2.2.2.2.2.2.2.2.2.2.2.2.2.2.2.2.2.2.2.2.2.1
theorem dX1_firstBuilt_39 : decode cX1_firstBuilt 39 = .ok (.iaload, 1) := dr_46  pk_deca_24.2.2.2.2.2.2.2.2.2.2.2.2.2.2.2.2.2.2.2.2.2.2.1
theorem dX1_firstBuilt_40 : decode cX1_firstBuilt 40 = .ok (.aload_n 0, 1) := dr_42  pk_deca_24.2.2.2.2.2.2.2.2.2.2.2.2.2.2.2.2.2.2.2.2.2.2.2.1
theorem dX1_firstBuilt_41 : decode cX1_firstBuilt 41 = .ok (.getfield 15, 3) := dr_180 0 15  pk_deca_24.2.2.2.2.2.2.2.2.2.2.2.2.2.2.2.2.2.2.2.2.2.2.2.2.1
theorem dX1_firstBuilt_44 : decode cX1_firstBuilt 44 = .ok (.iload_n 1, 1) := dr_27  pk_deca_24.2.2.2.2.2.2.2.2.2.2.2.2.2.2.2.2.2.2.2.2.2.2.2.2.2.1
theorem dX1_firstBuilt_45 : decode cX1_firstBuilt 45 = .ok (.iaload, 1) := dr_46  pk_deca_24.2.2.2.2.2.2.2.2.2.2.2.2.2.2.2.2.2.2.2.2.2.2.2.2.2.2.1
theorem dX1_firstBuilt_46 : decode cX1_firstBuilt 46 = .ok (.iconst (-1), 1) := dr_2  pk_deca_24.2.2.2.2.2.2.2.2.2.2.2.2.2.2.2.2.2.2.2.2.2.2.2.2.2.2.2.1
theorem dX1_firstBuilt_47 : decode cX1_firstBuilt 47 = .ok (.ixor, 1) := dr_130  pk_deca_24.2.2.2.2.2.2.2.2.2.2.2.2.2.2.2.2.2.2.2.2.2.2.2.2.2.2.2.2.1
theorem dX1_firstBuilt_48 : decode cX1_firstBuilt 48 = .ok (.iand, 1) := dr_126  pk_deca_24.2.2.2.2.2.2.2.2.2.2.2.2.2.2.2.2.2.2.2.2.2.2.2.2.2.2.2.2.2.1
theorem dX1_firstBuilt_49 : decode cX1_firstBuilt 49 = .ok (.ifCond .ne 5, 3) := dr_154 0 5  pk_deca_24.2.2.2.2.2.2.2.2.2.2.2.2.2.2.2.2.2.2.2.2.2.2.2.2.2.2.2.2.2.2.1
theorem dX1_firstBuilt_52 : decode cX1_firstBuilt 52 = .ok (.iload_n 3, 1) := dr_29  pk_deca_24.2.2.2.2.2.2.2.2.2.2.2.2.2.2.2.2.2.2.2.2.2.2.2.2.2.2.2.2.2.2.2
set_option maxRecDepth 20000 in
theorem pk_deca_25 : (bq cX1_firstBuilt 53 172 = true) := by decide +kernel
theorem dX1_firstBuilt_53 : decode cX1_firstBuilt 53 = .ok (.ireturn, 1) := dr_172  pk_deca_25
theorem dX1_firstBuilt_54 : decode cX1_firstBuilt 54 = .ok (.iinc 3 1, 3) := by decide +kernel
set_option maxRecDepth 20000 in
theorem pk_deca_26 : ((bq cX1_firstBuilt 57 167 && bq cX1_firstBuilt (57 + 1) 255 && bq cX1_firstBuilt (57 + 2) 201 && (Reader.signed 16 (255 * 256 + 201) == (-55))) = true) ∧ ((bq cX1_firstBuilt 60 16 && bq cX1_firstBuilt (60 + 1) 247 && (Reader.signed 8 247 == (-9))) = true) ∧ (bq cX1_firstBuilt 62 172 = true) := by decide +kernel
theorem dX1_firstBuilt_57 : decode cX1_firstBuilt 57 = .ok (.goto (-55), 3) := dr_167 255 201  pk_deca_26.1
theorem dX1_firstBuilt_60 : decode cX1_firstBuilt 60 = .ok (.bipush (-9), 2) := dr_16 247  pk_deca_26.2.1
theorem dX1_firstBuilt_62 : decode cX1_firstBuilt 62 = .ok (.ireturn, 1) := dr_172  pk_deca_26.2.2
set_option maxRecDepth 20000 in
theorem pk_deca_27 : (bq cX1_step 0 27 = true) ∧ (bq cX1_step 1 62 = true) ∧ (bq cX1_step 2 3 = true) ∧ ((bq cX1_step 3 54 && bq cX1_step (3 + 1) 4) = true) ∧ ((bq cX1_step 5 21 && bq cX1_step (5 + 1) 4) = true) ∧ (bq cX1_step 7 28 = true) ∧ ((bq cX1_step 8 162 && bq cX1_step (8 + 1) 0 && bq cX1_step (8 + 2) 43 && (Reader.signed 16 (0 * 256 + 43) == 43)) = true) ∧ ((bq cX1_step 11 21 && bq cX1_step (11 + 1) 4) = true) ∧ ((bq cX1_step 13 16 && bq cX1_step (13 + 1) 12 && (Reader.signed 8 12 == 12)) = true) ∧ ((bq cX1_step 15 162 && bq cX1_step (15 + 1) 0 && bq cX1_step (15 + 2) 36 && (Reader.signed 16 (0 * 256 + 36) == 36)) = true) ∧ (bq cX1_step 18 42 = true) ∧ (bq cX1_step 19 29 = true) ∧ ((bq cX1_step 20 182 && bq cX1_step (20 + 1) 0 && bq cX1_step (20 + 2) 25 && (0 * 256 + 25 == 25)) = true) ∧ ((bq cX1_step 23 153 && bq cX1_step (23 + 1) 0 && bq cX1_step (23 + 2) 19 && (Reader.signed 16 (0 * 256 + 19) == 19)) = true) ∧ (bq cX1_step 26 42 = true) ∧ (bq cX1_step 27 29 = true) ∧ (bq cX1_step 28 42 = true) ∧ ((bq cX1_step 29 180 && bq cX1_step (29 + 1) 0 && bq cX1_step (29 + 2) 18 && (0 * 256 + 18 == 18)) = true) ∧ (bq cX1_step 32 29 = true) ∧ (bq cX1_step 33 46 = true) ∧ (bq cX1_step 34 4 = true) ∧ (bq cX1_step 35 100 = true) ∧ ((bq cX1_step 36 182 && bq cX1_step (36 + 1) 0 && bq cX1_step (36 + 2) 33 && (0 * 256 + 33 == 33)) = true) ∧ ((bq cX1_step 39 167 && bq cX1_step (39 + 1) 0 && bq cX1_step (39 + 2) 5 && (Reader.signed 16 (0 * 256 + 5) == 5)) = true) ∧ ((bq cX1_step 42 16 && bq cX1_step (42 + 1) 247 && (Reader.signed 8 247 == (-9))) = true) ∧ (bq cX1_step 44 62 = true) := by decide +kernel
theorem dX1_step_0 : decode cX1_step 0 = .ok (.iload_n 1, 1) := dr_27  pk_deca_27.1
theorem dX1_step_1 : decode cX1_step 1 = .ok (.istore_n 3, 1) := dr_62  pk_deca_27.2.1
theorem dX1_step_2 : decode cX1_step 2 = .ok (.iconst 0, 1) := dr_3  pk_deca_27.2.2.1
theorem dX1_step_3 : decode cX1_step 3 = .ok (.istore 4, 2) := dr_54  pk_deca_27.2.2.2.1
theorem dX1_step_5 : decode cX1_step 5 = .ok (.iload 4, 2) := dr_21  pk_deca_27.2.2.2.2.1
theorem dX1_step_7 : decode cX1_step 7 = .ok (.iload_n 2, 1) := dr_28  pk_deca_27.2.2.2.2.2.1
theorem dX1_step_8 : decode cX1_step 8 = .ok (.if_icmp .ge 43, 3) := dr_162 0 43  pk_deca_27.2.2.2.2.2.2.1
theorem dX1_step_11 : decode cX1_step 11 = .ok (.iload 4, 2) := dr_21  pk_deca_27.2.2.2.2.2.2.2.1
theorem dX1_step_13 : decode cX1_step 13 = .ok (.bipush 12, 2) := dr_16 12  pk_deca_27.2.2.2.2.2.2.2.2.1
theorem dX1_step_15 : decode cX1_step 15 = .ok (.if_icmp .ge 36, 3) := dr_162 0 36  pk_deca_27.2.2.2.2.2.2.2.2.2.1
theorem dX1_step_18 : decode cX1_step 18 = .ok (.aload_n 0, 1) := dr_42  pk_deca_27.2.2.2.2.2.2.2.2.2.2.1
theorem dX1_step_19 : decode cX1_step 19 = .ok (.iload_n 3, 1) := dr_29  pk_deca_27.2.2.2.2.2.2.2.2.2.2.2.1
theorem dX1_step_20 : decode cX1_step 20 = .ok (.invokevirtual 25, 3) := dr_182 0 25  pk_deca_27.2.2.2.2.2.2.2.2.2.2.2.2.1
theorem dX1_step_23 : decode cX1_step 23 = .ok (.ifCond .eq 19, 3) := dr_153 0 19  pk_deca_27.2.2.2.2.2.2.2.2.2.2.2.2.2.1
theorem dX1_step_26 : decode cX1_step 26 = .ok (.aload_n 0, 1) := dr_42  pk_deca_27.2.2.2.2.2.2.2.2.2.2.2.2.2.2.1
theorem dX1_step_27 : decode cX1_step 27 = .ok (.iload_n 3, 1) := dr_29  pk_deca_27.2.2.2.2.2.2.2.2.2.2.2.2.2.2.2.1
theorem dX1_step_28 : decode cX1_step 28 = .ok (.aload_n 0, 1) := dr_42  pk_deca_27.2.2.2.2.2.2.2.2.2.2.2.2.2.2.2.2.1
theorem dX1_step_29 : decode cX1_step 29 = .ok (.getfield 18, 3) := dr_180 0 18  pk_deca_27.2.2.2.2.2.2.2.2.2.2.2.2.2.2.2.2.2.1
theorem dX1_step_32 : decode cX1_step 32 = .ok (.iload_n 3, 1) := dr_29  pk_deca_27.2.2.2.2.2.2.2.2.2.2.2.2.2.2.2.2.2.2.1
theorem dX1_step_33 : decode cX1_step 33 = .ok (.iaload, 1) := dr_46  pk_deca_27.2.2.2.2.2.2.2.2.2.2.2.2.2.2.2.2.2.2.2.1
theorem dX1_step_34 : decode cX1_step 34 = .ok (.iconst 1, 1) := dr_4  pk_deca_27.2.2.2.2.2.2.2.2.2.2.2.2.2.2.2.2.2.2.2.2.1
theorem dX1_step_35 : decode cX1_step 35 = .ok (.isub, 1) := dr_100  pk_deca_27.2.2.2.2.2.2.2.2.2.2.2.2.2.2.2.2.2.2.2.2.2.1
theorem dX1_step_36 : decode cX1_step 36 = .ok (.invokevirtual 33, 3) := dr_182 0 33  pk_deca_27.2.2.2.2.2.2.2.2.2.2.2.2.2.2.2.2.2.2.2.2.2.2.1
theorem dX1_step_39 : decode cX1_step 39 = .ok (.goto 5, 3) := dr_167 0 5  pk_deca_27.2.2.2.2.2.2.2.2.2.2.2.2.2.2.2.2.2.2.2.2.2.2.2.1
theorem dX1_step_42 : decode cX1_step 42 = .ok (.bipush (-9), 2) := dr_16 247  pk_deca_27.2.2.2.2.2.2.2.2.2.2.2.2.2.2.2.2.2.2.2.2.2.2.2.2.1
theorem dX1_step_44 : decode cX1_step 44 = .ok (.istore_n 3, 1) := dr_62  pk_deca_27.2.2.2.2.2.2.2.2.2.2.2.2.2.2.2.2.2.2.2.2.2.2.2.2.2
theorem dX1_step_45 : decode cX1_step 45 = .ok (.iinc 4 1, 3) := by decide +kernel
set_option maxRecDepth 20000 in
theorem pk_deca_28 : ((bq cX1_step 48 167 && bq cX1_step (48 + 1) 255 && bq cX1_step (48 + 2) 213 && (Reader.signed 16 (255 * 256 + 213) == (-43))) = true) ∧ (bq cX1_step 51 29 = true) ∧ (bq cX1_step 52 172 = true) := by decide +kernel
theorem dX1_step_48 : decode cX1_step 48 = .ok (.goto (-43), 3) := dr_167 255 213  pk_deca_28.1
theorem dX1_step_51 : decode cX1_step 51 = .ok (.iload_n 3, 1) := dr_29  pk_deca_28.2.1
theorem dX1_step_52 : decode cX1_step 52 = .ok (.ireturn, 1) := dr_172  pk_deca_28.2.2
set_option maxRecDepth 20000 in
theorem pk_deca_29 : (bq cX2_init 0 42 = true) ∧ ((bq cX2_init 1 183 && bq cX2_init (1 + 1) 0 && bq cX2_init (1 + 2) 3 && (0 * 256 + 3 == 3)) = true) ∧ (bq cX2_init 4 42 = true) ∧ ((bq cX2_init 5 17 && bq cX2_init (5 + 1) 1 && bq cX2_init (5 + 2) 0 && (Reader.signed 16 (1 * 256 + 0) == 256)) = true) := by decide +kernel
theorem dX2_init_0 : decode cX2_init 0 = .ok (.aload_n 0, 1) := dr_42  pk_deca_29.1
theorem dX2_init_1 : decode cX2_init 1 = .ok (.invokespecial 3, 3) := dr_183 0 3  pk_deca_29.2.1
theorem dX2_init_4 : decode cX2_init 4 = .ok (.aload_n 0, 1) := dr_42  pk_deca_29.2.2.1
theorem dX2_init_5 : decode cX2_init 5 = .ok (.sipush 256, 3) := dr_17 1 0  pk_deca_29.2.2.2
theorem dX2_init_8 : decode cX2_init 8 = .ok (.newarray .int, 2) := by decide +kernel
set_option maxRecDepth 20000 in
theorem pk_deca_30 : ((bq cX2_init 10 181 && bq cX2_init (10 + 1) 0 && bq cX2_init (10 + 2) 9 && (0 * 256 + 9 == 9)) = true) ∧ (bq cX2_init 13 42 = true) ∧ ((bq cX2_init 14 187 && bq cX2_init (14 + 1) 0 && bq cX2_init (14 + 2) 15 && (0 * 256 + 15 == 15)) = true) ∧ (bq cX2_init 17 89 = true) ∧ ((bq cX2_init 18 17 && bq cX2_init (18 + 1) 1 && bq cX2_init (18 + 2) 0 && (Reader.signed 16 (1 * 256 + 0) == 256)) = true) ∧ ((bq cX2_init 21 183 && bq cX2_init (21 + 1) 0 && bq cX2_init (21 + 2) 17 && (0 * 256 + 17 == 17)) = true) ∧ ((bq cX2_init 24 181 && bq cX2_init (24 + 1) 0 && bq cX2_init (24 + 2) 20 && (0 * 256 + 20 == 20)) = true) ∧ (bq cX2_init 27 42 = true) ∧ (bq cX2_init 28 3 = true) ∧ ((bq cX2_init 29 181 && bq cX2_init (29 + 1) 0 && bq cX2_init (29 + 2) 24 && (0 * 256 + 24 == 24)) = true) ∧ (bq cX2_init 32 42 = true) ∧ (bq cX2_init 33 3 = true) ∧ ((bq cX2_init 34 181 && bq cX2_init (34 + 1) 0 && bq cX2_init (34 + 2) 28 && (0 * 256 + 28 == 28)) = true) ∧ (bq cX2_init 37 42 = true) ∧ (bq cX2_init 38 3 = true) ∧ ((bq cX2_init 39 181 && bq cX2_init (39 + 1) 0 && bq cX2_init (39 + 2) 31 && (0 * 256 + 31 == 31)) = true) ∧ (bq cX2_init 42 42 = true) ∧ (bq cX2_init 43 3 = true) ∧ ((bq cX2_init 44 181 && bq cX2_init (44 + 1) 0 && bq cX2_init (44 + 2) 34 && (0 * 256 + 34 == 34)) = true) ∧ (bq cX2_init 47 42 = true) ∧ (bq cX2_init 48 3 = true) ∧ ((bq cX2_init 49 181 && bq cX2_init (49 + 1) 0 && bq cX2_init (49 + 2) 38 && (0 * 256 + 38 == 38)) = true) ∧ (bq cX2_init 52 42 = true) ∧ (bq cX2_init 53 3 = true) ∧ ((bq cX2_init 54 181 && bq cX2_init (54 + 1) 0 && bq cX2_init (54 + 2) 41 && (0 * 256 + 41 == 41)) = true) ∧ (bq cX2_init 57 42 = true) ∧ (bq cX2_init 58 3 = true) ∧ ((bq cX2_init 59 181 && bq cX2_init (59 + 1) 0 && bq cX2_init (59 + 2) 44 && (0 * 256 + 44 == 44)) = true) ∧ (bq cX2_init 62 177 = true) := by decide +kernel
theorem dX2_init_10 : decode cX2_init 10 = .ok (.putfield 9, 3) := dr_181 0 9  pk_deca_30.1
theorem dX2_init_13 : decode cX2_init 13 = .ok (.aload_n 0, 1) := dr_42  pk_deca_30.2.1
theorem dX2_init_14 : decode cX2_init 14 = .ok (.new 15, 3) := dr_187 0 15  pk_deca_30.2.2.1
theorem dX2_init_17 : decode cX2_init 17 = .ok (.dup, 1) := dr_89  pk_deca_30.2.2.2.1
theorem dX2_init_18 : decode cX2_init 18 = .ok (.sipush 256, 3) := dr_17 1 0  pk_deca_30.2.2.2.2.1
theorem dX2_init_21 : decode cX2_init 21 = .ok (.invokespecial 17, 3) := dr_183 0 17  pk_deca_30.2.2.2.2.2.1
theorem dX2_init_24 : decode cX2_init 24 = .ok (.putfield 20, 3) := dr_181 0 20  pk_deca_30.2.2.2.2.2.2.1
theorem dX2_init_27 : decode cX2_init 27 = .ok (.aload_n 0, 1) := dr_42  pk_deca_30.2.2.2.2.2.2.2.1
theorem dX2_init_28 : decode cX2_init 28 = .ok (.iconst 0, 1) := dr_3  pk_deca_30.2.2.2.2.2.2.2.2.1
theorem dX2_init_29 : decode cX2_init 29 = .ok (.putfield 24, 3) := dr_181 0 24  pk_deca_30.2.2.2.2.2.2.2.2.2.1
theorem dX2_init_32 : decode cX2_init 32 = .ok (.aload_n 0, 1) := dr_42  pk_deca_30.2.2.2.2.2.2.2.2.2.2.1
theorem dX2_init_33 : decode cX2_init 33 = .ok (.iconst 0, 1) := dr_3  pk_deca_30.2.2.2.2.2.2.2.2.2.2.2.1
theorem dX2_init_34 : decode cX2_init 34 = .ok (.putfield 28, 3) := dr_181 0 28  pk_deca_30.2.2.2.2.2.2.2.2.2.2.2.2.1
theorem dX2_init_37 : decode cX2_init 37 = .ok (.aload_n 0, 1) := dr_42  pk_deca_30.2.2.2.2.2.2.2.2.2.2.2.2.2.1
theorem dX2_init_38 : decode cX2_init 38 = .ok (.iconst 0, 1) := dr_3  pk_deca_30.2.2.2.2.2.2.2.2.2.2.2.2.2.2.1
theorem dX2_init_39 : decode cX2_init 39 = .ok (.putfield 31, 3) := dr_181 0 31  pk_deca_30.2.2.2.2.2.2.2.2.2.2.2.2.2.2.2.1
theorem dX2_init_42 : decode cX2_init 42 = .ok (.aload_n 0, 1) := dr_42  pk_deca_30.2.2.2.2.2.2.2.2.2.2.2.2.2.2.2.2.1
theorem dX2_init_43 : decode cX2_init 43 = .ok (.iconst 0, 1) := dr_3  pk_deca_30.2.2.2.2.2.2.2.2.2.2.2.2.2.2.2.2.2.1
theorem dX2_init_44 : decode cX2_init 44 = .ok (.putfield 34, 3) := dr_181 0 34  pk_deca_30.2.2.2.2.2.2.2.2.2.2.2.2.2.2.2.2.2.2.1
theorem dX2_init_47 : decode cX2_init 47 = .ok (.aload_n 0, 1) := dr_42  pk_deca_30.2.2.2.2.2.2.2.2.2.2.2.2.2.2.2.2.2.2.2.1
theorem dX2_init_48 : decode cX2_init 48 = .ok (.iconst 0, 1) := dr_3  pk_deca_30.2.2.2.2.2.2.2.2.2.2.2.2.2.2.2.2.2.2.2.2.1
theorem dX2_init_49 : decode cX2_init 49 = .ok (.putfield 38, 3) := dr_181 0 38  pk_deca_30.2.2.2.2.2.2.2.2.2.2.2.2.2.2.2.2.2.2.2.2.2.1
theorem dX2_init_52 : decode cX2_init 52 = .ok (.aload_n 0, 1) := dr_42  pk_deca_30.2.2.2.2.2.2.2.2.2.2.2.2.2.2.2.2.2.2.2.2.2.2.1
theorem dX2_init_53 : decode cX2_init 53 = .ok (.iconst 0, 1) := dr_3  pk_deca_30.2.2.2.2.2.2.2.2.2.2.2.2.2.2.2.2.2.2.2.2.2.2.2.1
theorem dX2_init_54 : decode cX2_init 54 = .ok (.putfield 41, 3) := dr_181 0 41  pk_deca_30.2.2.2.2.2.2.2.2.2.2.2.2.2.2.2.2.2.2.2.2.2.2.2.2.1
theorem dX2_init_57 : decode cX2_init 57 = .ok (.aload_n 0, 1) := dr_42  pk_deca_30.2.2.2.2.2.2.2.2.2.2.2.2.2.2.2.2.2.2.2.2.2.2.2.2.2.1
theorem dX2_init_58 : decode cX2_init 58 = .ok (.iconst 0, 1) := dr_3  pk_deca_30.2.2.2.2.2.2.2.2.2.2.2.2.2.2.2.2.2.2.2.2.2.2.2.2.2.2.1
theorem dX2_init_59 : decode cX2_init 59 = .ok (.putfield 44, 3) := dr_181 0 44  pk_deca_30.2.2.2.2.2.2.2.2.2.2.2.2.2.2.2.2.2.2.2.2.2.2.2.2.2.2.2.1
theorem dX2_init_62 : decode cX2_init 62 = .ok (.return_, 1) := dr_177  pk_deca_30.2.2.2.2.2.2.2.2.2.2.2.2.2.2.2.2.2.2.2.2.2.2.2.2.2.2.2.2
set_option maxRecDepth 20000 in
theorem pk_deca_31 : (bq cX2_hasNumber 0 26 = true) ∧ (bq cX2_hasNumber 1 6 = true) ∧ ((bq cX2_hasNumber 2 161 && bq cX2_hasNumber (2 + 1) 0 && bq cX2_hasNumber (2 + 2) 9 && (Reader.signed 16 (0 * 256 + 9) == 9)) = true) ∧ (bq cX2_hasNumber 5 26 = true) ∧ ((bq cX2_hasNumber 6 16 && bq cX2_hasNumber (6 + 1) 7 && (Reader.signed 8 7 == 7)) = true) ∧ ((bq cX2_hasNumber 8 164 && bq cX2_hasNumber (8 + 1) 0 && bq cX2_hasNumber (8 + 2) 15 && (Reader.signed 16 (0 * 256 + 15) == 15)) = true) ∧ (bq cX2_hasNumber 11 26 = true) ∧ ((bq cX2_hasNumber 12 16 && bq cX2_hasNumber (12 + 1) 11 && (Reader.signed 8 11 == 11)) = true) ∧ ((bq cX2_hasNumber 14 161 && bq cX2_hasNumber (14 + 1) 0 && bq cX2_hasNumber (14 + 2) 13 && (Reader.signed 16 (0 * 256 + 13) == 13)) = true) ∧ (bq cX2_hasNumber 17 26 = true) ∧ ((bq cX2_hasNumber 18 16 && bq cX2_hasNumber (18 + 1) 15 && (Reader.signed 8 15 == 15)) = true) ∧ ((bq cX2_hasNumber 20 163 && bq cX2_hasNumber (20 + 1) 0 && bq cX2_hasNumber (20 + 2) 7 && (Reader.signed 16 (0 * 256 + 7) == 7)) = true) ∧ (bq cX2_hasNumber 23 4 = true) ∧ ((bq cX2_hasNumber 24 167 && bq cX2_hasNumber (24 + 1) 0 && bq cX2_hasNumber (24 + 2) 4 && (Reader.signed 16 (0 * 256 + 4) == 4)) = true) ∧ (bq cX2_hasNumber 27 3 = true) ∧ (bq cX2_hasNumber 28 172 = true) := by decide +kernel
theorem dX2_hasNumber_0 : decode cX2_hasNumber 0 = .ok (.iload_n 0, 1) := dr_26  pk_deca_31.1
theorem dX2_hasNumber_1 : decode cX2_hasNumber 1 = .ok (.iconst 3, 1) := dr_6  pk_deca_31.2.1
theorem dX2_hasNumber_2 : decode cX2_hasNumber 2 = .ok (.if_icmp .lt 9, 3) := dr_161 0 9  pk_deca_31.2.2.1
theorem dX2_hasNumber_5 : decode cX2_hasNumber 5 = .ok (.iload_n 0, 1) := dr_26  pk_deca_31.2.2.2.1
theorem dX2_hasNumber_6 : decode cX2_hasNumber 6 = .ok (.bipush 7, 2) := dr_16 7  pk_deca_31.2.2.2.2.1
theorem dX2_hasNumber_8 : decode cX2_hasNumber 8 = .ok (.if_icmp .le 15, 3) := dr_164 0 15  pk_deca_31.2.2.2.2.2.1
theorem dX2_hasNumber_11 : decode cX2_hasNumber 11 = .ok (.iload_n 0, 1) := dr_26  pk_deca_31.2.2.2.2.2.2.1
theorem dX2_hasNumber_12 : decode cX2_hasNumber 12 = .ok (.bipush 11, 2) := dr_16 11  pk_deca_31.2.2.2.2.2.2.2.1
theorem dX2_hasNumber_14 : decode cX2_hasNumber 14 = .ok (.if_icmp .lt 13, 3) := dr_161 0 13  pk_deca_31.2.2.2.2.2.2.2.2.1
theorem dX2_hasNumber_17 : decode cX2_hasNumber 17 = .ok (.iload_n 0, 1) := dr_26  pk_deca_31.2.2.2.2.2.2.2.2.2.1
theorem dX2_hasNumber_18 : decode cX2_hasNumber 18 = .ok (.bipush 15, 2) := dr_16 15  pk_deca_31.2.2.2.2.2.2.2.2.2.2.1
theorem dX2_hasNumber_20 : decode cX2_hasNumber 20 = .ok (.if_icmp .gt 7, 3) := dr_163 0 7  pk_deca_31.2.2.2.2.2.2.2.2.2.2.2.1
theorem dX2_hasNumber_23 : decode cX2_hasNumber 23 = .ok (.iconst 1, 1) := dr_4  pk_deca_31.2.2.2.2.2.2.2.2.2.2.2.2.1
theorem dX2_hasNumber_24 : decode cX2_hasNumber 24 = .ok (.goto 4, 3) := dr_167 0 4  pk_deca_31.2.2.2.2.2.2.2.2.2.2.2.2.2.1
theorem dX2_hasNumber_27 : decode cX2_hasNumber 27 = .ok (.iconst 0, 1) := dr_3  pk_deca_31.2.2.2.2.2.2.2.2.2.2.2.2.2.2.1
theorem dX2_hasNumber_28 : decode cX2_hasNumber 28 = .ok (.ireturn, 1) := dr_172  pk_deca_31.2.2.2.2.2.2.2.2.2.2.2.2.2.2.2
set_option maxRecDepth 20000 in
theorem pk_deca_32 : (bq cX2_memoryAt 0 27 = true) ∧ ((bq cX2_memoryAt 1 155 && bq cX2_memoryAt (1 + 1) 0 && bq cX2_memoryAt (1 + 2) 10 && (Reader.signed 16 (0 * 256 + 10) == 10)) = true) ∧ (bq cX2_memoryAt 4 27 = true) ∧ ((bq cX2_memoryAt 5 17 && bq cX2_memoryAt (5 + 1) 1 && bq cX2_memoryAt (5 + 2) 0 && (Reader.signed 16 (1 * 256 + 0) == 256)) = true) ∧ ((bq cX2_memoryAt 8 161 && bq cX2_memoryAt (8 + 1) 0 && bq cX2_memoryAt (8 + 2) 7 && (Reader.signed 16 (0 * 256 + 7) == 7)) = true) ∧ (bq cX2_memoryAt 11 2 = true) ∧ ((bq cX2_memoryAt 12 167 && bq cX2_memoryAt (12 + 1) 0 && bq cX2_memoryAt (12 + 2) 9 && (Reader.signed 16 (0 * 256 + 9) == 9)) = true) ∧ (bq cX2_memoryAt 15 42 = true) ∧ ((bq cX2_memoryAt 16 180 && bq cX2_memoryAt (16 + 1) 0 && bq cX2_memoryAt (16 + 2) 9 && (0 * 256 + 9 == 9)) = true) ∧ (bq cX2_memoryAt 19 27 = true) ∧ (bq cX2_memoryAt 20 46 = true) ∧ (bq cX2_memoryAt 21 172 = true) := by decide +kernel
theorem dX2_memoryAt_0 : decode cX2_memoryAt 0 = .ok (.iload_n 1, 1) := dr_27  pk_deca_32.1
theorem dX2_memoryAt_1 : decode cX2_memoryAt 1 = .ok (.ifCond .lt 10, 3) := dr_155 0 10  pk_deca_32.2.1
theorem dX2_memoryAt_4 : decode cX2_memoryAt 4 = .ok (.iload_n 1, 1) := dr_27  pk_deca_32.2.2.1
theorem dX2_memoryAt_5 : decode cX2_memoryAt 5 = .ok (.sipush 256, 3) := dr_17 1 0  pk_deca_32.2.2.2.1
theorem dX2_memoryAt_8 : decode cX2_memoryAt 8 = .ok (.if_icmp .lt 7, 3) := dr_161 0 7  pk_deca_32.2.2.2.2.1
theorem dX2_memoryAt_11 : decode cX2_memoryAt 11 = .ok (.iconst (-1), 1) := dr_2  pk_deca_32.2.2.2.2.2.1
theorem dX2_memoryAt_12 : decode cX2_memoryAt 12 = .ok (.goto 9, 3) := dr_167 0 9  pk_deca_32.2.2.2.2.2.2.1
theorem dX2_memoryAt_15 : decode cX2_memoryAt 15 = .ok (.aload_n 0, 1) := dr_42  pk_deca_32.2.2.2.2.2.2.2.1
theorem dX2_memoryAt_16 : decode cX2_memoryAt 16 = .ok (.getfield 9, 3) := dr_180 0 9  pk_deca_32.2.2.2.2.2.2.2.2.1
theorem dX2_memoryAt_19 : decode cX2_memoryAt 19 = .ok (.iload_n 1, 1) := dr_27  pk_deca_32.2.2.2.2.2.2.2.2.2.1
theorem dX2_memoryAt_20 : decode cX2_memoryAt 20 = .ok (.iaload, 1) := dr_46  pk_deca_32.2.2.2.2.2.2.2.2.2.2.1
theorem dX2_memoryAt_21 : decode cX2_memoryAt 21 = .ok (.ireturn, 1) := dr_172  pk_deca_32.2.2.2.2.2.2.2.2.2.2.2
set_option maxRecDepth 20000 in
theorem pk_deca_33 : (bq cX2_builds 0 42 = true) ∧ (bq cX2_builds 1 43 = true) ∧ (bq cX2_builds 2 44 = true) ∧ ((bq cX2_builds 3 182 && bq cX2_builds (3 + 1) 0 && bq cX2_builds (3 + 2) 47 && (0 * 256 + 47 == 47)) = true) ∧ (bq cX2_builds 6 42 = true) ∧ ((bq cX2_builds 7 180 && bq cX2_builds (7 + 1) 0 && bq cX2_builds (7 + 2) 44 && (0 * 256 + 44 == 44)) = true) ∧ ((bq cX2_builds 10 154 && bq cX2_builds (10 + 1) 0 && bq cX2_builds (10 + 2) 17 && (Reader.signed 16 (0 * 256 + 17) == 17)) = true) ∧ (bq cX2_builds 13 42 = true) ∧ ((bq cX2_builds 14 180 && bq cX2_builds (14 + 1) 0 && bq cX2_builds (14 + 2) 20 && (0 * 256 + 20 == 20)) = true) ∧ ((bq cX2_builds 17 180 && bq cX2_builds (17 + 1) 0 && bq cX2_builds (17 + 2) 51 && (0 * 256 + 51 == 51)) = true) ∧ ((bq cX2_builds 20 158 && bq cX2_builds (20 + 1) 0 && bq cX2_builds (20 + 2) 7 && (Reader.signed 16 (0 * 256 + 7) == 7)) = true) ∧ (bq cX2_builds 23 4 = true) ∧ ((bq cX2_builds 24 167 && bq cX2_builds (24 + 1) 0 && bq cX2_builds (24 + 2) 4 && (Reader.signed 16 (0 * 256 + 4) == 4)) = true) ∧ (bq cX2_builds 27 3 = true) ∧ (bq cX2_builds 28 172 = true) := by decide +kernel
theorem dX2_builds_0 : decode cX2_builds 0 = .ok (.aload_n 0, 1) := dr_42  pk_deca_33.1
theorem dX2_builds_1 : decode cX2_builds 1 = .ok (.aload_n 1, 1) := dr_43  pk_deca_33.2.1
theorem dX2_builds_2 : decode cX2_builds 2 = .ok (.aload_n 2, 1) := dr_44  pk_deca_33.2.2.1
theorem dX2_builds_3 : decode cX2_builds 3 = .ok (.invokevirtual 47, 3) := dr_182 0 47  pk_deca_33.2.2.2.1
theorem dX2_builds_6 : decode cX2_builds 6 = .ok (.aload_n 0, 1) := dr_42  pk_deca_33.2.2.2.2.1
theorem dX2_builds_7 : decode cX2_builds 7 = .ok (.getfield 44, 3) := dr_180 0 44  pk_deca_33.2.2.2.2.2.1
theorem dX2_builds_10 : decode cX2_builds 10 = .ok (.ifCond .ne 17, 3) := dr_154 0 17  pk_deca_33.2.2.2.2.2.2.1
theorem dX2_builds_13 : decode cX2_builds 13 = .ok (.aload_n 0, 1) := dr_42  pk_deca_33.2.2.2.2.2.2.2.1
theorem dX2_builds_14 : decode cX2_builds 14 = .ok (.getfield 20, 3) := dr_180 0 20  pk_deca_33.2.2.2.2.2.2.2.2.1
theorem dX2_builds_17 : decode cX2_builds 17 = .ok (.getfield 51, 3) := dr_180 0 51  pk_deca_33.2.2.2.2.2.2.2.2.2.1
theorem dX2_builds_20 : decode cX2_builds 20 = .ok (.ifCond .le 7, 3) := dr_158 0 7  pk_deca_33.2.2.2.2.2.2.2.2.2.2.1
theorem dX2_builds_23 : decode cX2_builds 23 = .ok (.iconst 1, 1) := dr_4  pk_deca_33.2.2.2.2.2.2.2.2.2.2.2.1
theorem dX2_builds_24 : decode cX2_builds 24 = .ok (.goto 4, 3) := dr_167 0 4  pk_deca_33.2.2.2.2.2.2.2.2.2.2.2.2.1
theorem dX2_builds_27 : decode cX2_builds 27 = .ok (.iconst 0, 1) := dr_3  pk_deca_33.2.2.2.2.2.2.2.2.2.2.2.2.2.1
theorem dX2_builds_28 : decode cX2_builds 28 = .ok (.ireturn, 1) := dr_172  pk_deca_33.2.2.2.2.2.2.2.2.2.2.2.2.2.2
set_option maxRecDepth 20000 in
theorem pk_deca_34 : (bq cX2_goThrough 0 42 = true) ∧ (bq cX2_goThrough 1 43 = true) ∧ ((bq cX2_goThrough 2 182 && bq cX2_goThrough (2 + 1) 0 && bq cX2_goThrough (2 + 2) 54 && (0 * 256 + 54 == 54)) = true) ∧ (bq cX2_goThrough 5 4 = true) ∧ (bq cX2_goThrough 6 62 = true) ∧ (bq cX2_goThrough 7 3 = true) ∧ ((bq cX2_goThrough 8 54 && bq cX2_goThrough (8 + 1) 4) = true) ∧ (bq cX2_goThrough 10 29 = true) ∧ ((bq cX2_goThrough 11 153 && bq cX2_goThrough (11 + 1) 0 && bq cX2_goThrough (11 + 2) 84 && (Reader.signed 16 (0 * 256 + 84) == 84)) = true) ∧ ((bq cX2_goThrough 14 21 && bq cX2_goThrough (14 + 1) 4) = true) ∧ ((bq cX2_goThrough 16 17 && bq cX2_goThrough (16 + 1) 19 && bq cX2_goThrough (16 + 2) 136 && (Reader.signed 16 (19 * 256 + 136) == 5000)) = true) ∧ ((bq cX2_goThrough 19 163 && bq cX2_goThrough (19 + 1) 0 && bq cX2_goThrough (19 + 2) 76 && (Reader.signed 16 (0 * 256 + 76) == 76)) = true) ∧ (bq cX2_goThrough 22 42 = true) ∧ ((bq cX2_goThrough 23 180 && bq cX2_goThrough (23 + 1) 0 && bq cX2_goThrough (23 + 2) 9 && (0 * 256 + 9 == 9)) = true) ∧ (bq cX2_goThrough 26 42 = true) ∧ ((bq cX2_goThrough 27 180 && bq cX2_goThrough (27 + 1) 0 && bq cX2_goThrough (27 + 2) 31 && (0 * 256 + 31 == 31)) = true) ∧ ((bq cX2_goThrough 30 17 && bq cX2_goThrough (30 + 1) 0 && bq cX2_goThrough (30 + 2) 255 && (Reader.signed 16 (0 * 256 + 255) == 255)) = true) ∧ (bq cX2_goThrough 33 126 = true) ∧ (bq cX2_goThrough 34 46 = true) ∧ ((bq cX2_goThrough 35 54 && bq cX2_goThrough (35 + 1) 5) = true) ∧ (bq cX2_goThrough 37 42 = true) ∧ (bq cX2_goThrough 38 42 = true) ∧ ((bq cX2_goThrough 39 21 && bq cX2_goThrough (39 + 1) 5) = true) ∧ ((bq cX2_goThrough 41 182 && bq cX2_goThrough (41 + 1) 0 && bq cX2_goThrough (41 + 2) 58 && (0 * 256 + 58 == 58)) = true) ∧ ((bq cX2_goThrough 44 181 && bq cX2_goThrough (44 + 1) 0 && bq cX2_goThrough (44 + 2) 44 && (0 * 256 + 44 == 44)) = true) ∧ (bq cX2_goThrough 47 42 = true) ∧ ((bq cX2_goThrough 48 180 && bq cX2_goThrough (48 + 1) 0 && bq cX2_goThrough (48 + 2) 44 && (0 * 256 + 44 == 44)) = true) ∧ ((bq cX2_goThrough 51 154 && bq cX2_goThrough (51 + 1) 0 && bq cX2_goThrough (51 + 2) 12 && (Reader.signed 16 (0 * 256 + 12) == 12)) = true) ∧ ((bq cX2_goThrough 54 21 && bq cX2_goThrough (54 + 1) 5) = true) ∧ ((bq cX2_goThrough 56 153 && bq cX2_goThrough (56 + 1) 0 && bq cX2_goThrough (56 + 2) 7 && (Reader.signed 16 (0 * 256 + 7) == 7)) = true) ∧ (bq cX2_goThrough 59 4 = true) ∧ ((bq cX2_goThrough 60 167 && bq cX2_goThrough (60 + 1) 0 && bq cX2_goThrough (60 + 2) 4 && (Reader.signed 16 (0 * 256 + 4) == 4)) = true) := by decide +kernel
theorem dX2_goThrough_0 : decode cX2_goThrough 0 = .ok (.aload_n 0, 1) := dr_42  pk_deca_34.1
theorem dX2_goThrough_1 : decode cX2_goThrough 1 = .ok (.aload_n 1, 1) := dr_43  pk_deca_34.2.1
theorem dX2_goThrough_2 : decode cX2_goThrough 2 = .ok (.invokevirtual 54, 3) := dr_182 0 54  pk_deca_34.2.2.1
theorem dX2_goThrough_5 : decode cX2_goThrough 5 = .ok (.iconst 1, 1) := dr_4  pk_deca_34.2.2.2.1
theorem dX2_goThrough_6 : decode cX2_goThrough 6 = .ok (.istore_n 3, 1) := dr_62  pk_deca_34.2.2.2.2.1
theorem dX2_goThrough_7 : decode cX2_goThrough 7 = .ok (.iconst 0, 1) := dr_3  pk_deca_34.2.2.2.2.2.1
theorem dX2_goThrough_8 : decode cX2_goThrough 8 = .ok (.istore 4, 2) := dr_54  pk_deca_34.2.2.2.2.2.2.1
theorem dX2_goThrough_10 : decode cX2_goThrough 10 = .ok (.iload_n 3, 1) := dr_29  pk_deca_34.2.2.2.2.2.2.2.1
theorem dX2_goThrough_11 : decode cX2_goThrough 11 = .ok (.ifCond .eq 84, 3) := dr_153 0 84  pk_deca_34.2.2.2.2.2.2.2.2.1
theorem dX2_goThrough_14 : decode cX2_goThrough 14 = .ok (.iload 4, 2) := dr_21  pk_deca_34.2.2.2.2.2.2.2.2.2.1
theorem dX2_goThrough_16 : decode cX2_goThrough 16 = .ok (.sipush 5000, 3) := dr_17 19 136  pk_deca_34.2.2.2.2.2.2.2.2.2.2.1
theorem dX2_goThrough_19 : decode cX2_goThrough 19 = .ok (.if_icmp .gt 76, 3) := dr_163 0 76  pk_deca_34.2.2.2.2.2.2.2.2.2.2.2.1
theorem dX2_goThrough_22 : decode cX2_goThrough 22 = .ok (.aload_n 0, 1) := dr_42  pk_deca_34.2.2.2.2.2.2.2.2.2.2.2.2.1
theorem dX2_goThrough_23 : decode cX2_goThrough 23 = .ok (.getfield 9, 3) := dr_180 0 9  pk_deca_34.2.2.2.2.2.2.2.2.2.2.2.2.2.1
theorem dX2_goThrough_26 : decode cX2_goThrough 26 = .ok (.aload_n 0, 1) := dr_42  pk_deca_34.2.2.2.2.2.2.2.2.2.2.2.2.2.2.1
theorem dX2_goThrough_27 : decode cX2_goThrough 27 = .ok (.getfield 31, 3) := dr_180 0 31  pk_deca_34.2.2.2.2.2.2.2.2.2.2.2.2.2.2.2.1
theorem dX2_goThrough_30 : decode cX2_goThrough 30 = .ok (.sipush 255, 3) := dr_17 0 255  pk_deca_34.2.2.2.2.2.2.2.2.2.2.2.2.2.2.2.2.1
theorem dX2_goThrough_33 : decode cX2_goThrough 33 = .ok (.iand, 1) := dr_126  pk_deca_34.2.2.2.2.2.2.2.2.2.2.2.2.2.2.2.2.2.1
theorem dX2_goThrough_34 : decode cX2_goThrough 34 = .ok (.iaload, 1) := dr_46  pk_deca_34.2.2.2.2.2.2.2.2.2.2.2.2.2.2.2.2.2.2.1
theorem dX2_goThrough_35 : decode cX2_goThrough 35 = .ok (.istore 5, 2) := dr_54  pk_deca_34.2.2.2.2.2.2.2.2.2.2.2.2.2.2.2.2.2.2.2.1
theorem dX2_goThrough_37 : decode cX2_goThrough 37 = .ok (.aload_n 0, 1) := dr_42  pk_deca_34.2.2.2.2.2.2.2.2.2.2.2.2.2.2.2.2.2.2.2.2.1
theorem dX2_goThrough_38 : decode cX2_goThrough 38 = .ok (.aload_n 0, 1) := dr_42  pk_deca_34.2.2.2.2.2.2.2.2.2.2.2.2.2.2.2.2.2.2.2.2.2.1
theorem dX2_goThrough_39 : decode cX2_goThrough 39 = .ok (.iload 5, 2) := dr_21  pk_deca_34.2.2.2.2.2.2.2.2.2.2.2.2.2.2.2.2.2.2.2.2.2.2.1
theorem dX2_goThrough_41 : decode cX2_goThrough 41 = .ok (.invokevirtual 58, 3) := dr_182 0 58  pk_deca_34.2.2.2.2.2.2.2.2.2.2.2.2.2.2.2.2.2.2.2.2.2.2.2.1
theorem dX2_goThrough_44 : decode cX2_goThrough 44 = .ok (.putfield 44, 3) := dr_181 0 44  pk_deca_34.2.2.2.2.2.2.2.2.2.2.2.2.2.2.2.2.2.2.2.2.2.2.2.2.1
theorem dX2_goThrough_47 : decode cX2_goThrough 47 = .ok (.aload_n 0, 1) := dr_42  pk_deca_34.2.2.2.2.2.2.2.2.2.2.2.2.2.2.2.2.2.2.2.2.2.2.2.2.2.1
theorem dX2_goThrough_48 : decode cX2_goThrough 48 = .ok (.getfield 44, 3) := dr_180 0 44  pk_deca_34.2.2.2.2.2.2.2.2.2.2.2.2.2.2.2.2.2.2.2.2.2.2.2.2.2.2.1
theorem dX2_goThrough_51 : decode cX2_goThrough 51 = .ok (.ifCond .ne 12, 3) := dr_154 0 12  pk_deca_34.2.2.2.2.2.2.2.2.2.2.2.2.2.2.2.2.2.2.2.2.2.2.2.2.2.2.2.1
theorem dX2_goThrough_54 : decode cX2_goThrough 54 = .ok (.iload 5, 2) := dr_21  pk_deca_34.2.2.2.2.2.2.2.2.2.2.2.2.2.2.2.2.2.2.2.2.2.2.2.2.2.2.2.2.1
theorem dX2_goThrough_56 : decode cX2_goThrough 56 = .ok (.ifCond .eq 7, 3) := dr_153 0 7  pk_deca_34.2.2.2.2.2.2.2.2.2.2.2.2.2.2.2.2.2.2.2.2.2.2.2.2.2.2.2.2.2.1
theorem dX2_goThrough_59 : decode cX2_goThrough 59 = .ok (.iconst 1, 1) := dr_4  pk_deca_34.2.2.2.2.2.2.2.2.2.2.2.2.2.2.2.2.2.2.2.2.2.2.2.2.2.2.2.2.2.2.1
theorem dX2_goThrough_60 : decode cX2_goThrough 60 = .ok (.goto 4, 3) := dr_167 0 4  pk_deca_34.2.2.2.2.2.2.2.2.2.2.2.2.2.2.2.2.2.2.2.2.2.2.2.2.2.2.2.2.2.2.2
set_option maxRecDepth 20000 in
theorem pk_deca_35 : (bq cX2_goThrough 63 3 = true) ∧ (bq cX2_goThrough 64 62 = true) ∧ (bq cX2_goThrough 65 42 = true) ∧ ((bq cX2_goThrough 66 180 && bq cX2_goThrough (66 + 1) 0 && bq cX2_goThrough (66 + 2) 44 && (0 * 256 + 44 == 44)) = true) ∧ ((bq cX2_goThrough 69 154 && bq cX2_goThrough (69 + 1) 0 && bq cX2_goThrough (69 + 2) 20 && (Reader.signed 16 (0 * 256 + 20) == 20)) = true) ∧ (bq cX2_goThrough 72 42 = true) ∧ ((bq cX2_goThrough 73 21 && bq cX2_goThrough (73 + 1) 5) = true) ∧ (bq cX2_goThrough 75 44 = true) ∧ ((bq cX2_goThrough 76 182 && bq cX2_goThrough (76 + 1) 0 && bq cX2_goThrough (76 + 2) 62 && (0 * 256 + 62 == 62)) = true) ∧ (bq cX2_goThrough 79 42 = true) ∧ (bq cX2_goThrough 80 89 = true) ∧ ((bq cX2_goThrough 81 180 && bq cX2_goThrough (81 + 1) 0 && bq cX2_goThrough (81 + 2) 38 && (0 * 256 + 38 == 38)) = true) ∧ (bq cX2_goThrough 84 4 = true) ∧ (bq cX2_goThrough 85 96 = true) ∧ ((bq cX2_goThrough 86 181 && bq cX2_goThrough (86 + 1) 0 && bq cX2_goThrough (86 + 2) 38 && (0 * 256 + 38 == 38)) = true) := by decide +kernel
theorem dX2_goThrough_63 : decode cX2_goThrough 63 = .ok (.iconst 0, 1) := dr_3  pk_deca_35.1
theorem dX2_goThrough_64 : decode cX2_goThrough 64 = .ok (.istore_n 3, 1) := dr_62  pk_deca_35.2.1
theorem dX2_goThrough_65 : decode cX2_goThrough 65 = .ok (.aload_n 0, 1) := dr_42  pk_deca_35.2.2.1
theorem dX2_goThrough_66 : decode cX2_goThrough 66 = .ok (.getfield 44, 3) := dr_180 0 44  pk_deca_35.2.2.2.1
theorem dX2_goThrough_69 : decode cX2_goThrough 69 = .ok (.ifCond .ne 20, 3) := dr_154 0 20  pk_deca_35.2.2.2.2.1
theorem dX2_goThrough_72 : decode cX2_goThrough 72 = .ok (.aload_n 0, 1) := dr_42  pk_deca_35.2.2.2.2.2.1
theorem dX2_goThrough_73 : decode cX2_goThrough 73 = .ok (.iload 5, 2) := dr_21  pk_deca_35.2.2.2.2.2.2.1
theorem dX2_goThrough_75 : decode cX2_goThrough 75 = .ok (.aload_n 2, 1) := dr_44  pk_deca_35.2.2.2.2.2.2.2.1
theorem dX2_goThrough_76 : decode cX2_goThrough 76 = .ok (.invokevirtual 62, 3) := dr_182 0 62  pk_deca_35.2.2.2.2.2.2.2.2.1
theorem dX2_goThrough_79 : decode cX2_goThrough 79 = .ok (.aload_n 0, 1) := dr_42  pk_deca_35.2.2.2.2.2.2.2.2.2.1
theorem dX2_goThrough_80 : decode cX2_goThrough 80 = .ok (.dup, 1) := dr_89  pk_deca_35.2.2.2.2.2.2.2.2.2.2.1
theorem dX2_goThrough_81 : decode cX2_goThrough 81 = .ok (.getfield 38, 3) := dr_180 0 38  pk_deca_35.2.2.2.2.2.2.2.2.2.2.2.1
theorem dX2_goThrough_84 : decode cX2_goThrough 84 = .ok (.iconst 1, 1) := dr_4  pk_deca_35.2.2.2.2.2.2.2.2.2.2.2.2.1
theorem dX2_goThrough_85 : decode cX2_goThrough 85 = .ok (.iadd, 1) := dr_96  pk_deca_35.2.2.2.2.2.2.2.2.2.2.2.2.2.1
theorem dX2_goThrough_86 : decode cX2_goThrough 86 = .ok (.putfield 38, 3) := dr_181 0 38  pk_deca_35.2.2.2.2.2.2.2.2.2.2.2.2.2.2
theorem dX2_goThrough_89 : decode cX2_goThrough 89 = .ok (.iinc 4 1, 3) := by decide +kernel
set_option maxRecDepth 20000 in
theorem pk_deca_36 : ((bq cX2_goThrough 92 167 && bq cX2_goThrough (92 + 1) 255 && bq cX2_goThrough (92 + 2) 174 && (Reader.signed 16 (255 * 256 + 174) == (-82))) = true) ∧ (bq cX2_goThrough 95 177 = true) := by decide +kernel
theorem dX2_goThrough_92 : decode cX2_goThrough 92 = .ok (.goto (-82), 3) := dr_167 255 174  pk_deca_36.1
theorem dX2_goThrough_95 : decode cX2_goThrough 95 = .ok (.return_, 1) := dr_177  pk_deca_36.2
set_option maxRecDepth 20000 in
theorem pk_deca_37 : (bq cX2_load 0 3 = true) ∧ (bq cX2_load 1 61 = true) ∧ (bq cX2_load 2 28 = true) ∧ ((bq cX2_load 3 17 && bq cX2_load (3 + 1) 1 && bq cX2_load (3 + 2) 0 && (Reader.signed 16 (1 * 256 + 0) == 256)) = true) ∧ ((bq cX2_load 6 162 && bq cX2_load (6 + 1) 0 && bq cX2_load (6 + 2) 32 && (Reader.signed 16 (0 * 256 + 32) == 32)) = true) ∧ (bq cX2_load 9 42 = true) ∧ ((bq cX2_load 10 180 && bq cX2_load (10 + 1) 0 && bq cX2_load (10 + 2) 9 && (0 * 256 + 9 == 9)) = true) ∧ (bq cX2_load 13 28 = true) ∧ (bq cX2_load 14 28 = true) ∧ (bq cX2_load 15 43 = true) ∧ ((bq cX2_load 16 180 && bq cX2_load (16 + 1) 0 && bq cX2_load (16 + 2) 51 && (0 * 256 + 51 == 51)) = true) ∧ ((bq cX2_load 19 162 && bq cX2_load (19 + 1) 0 && bq cX2_load (19 + 2) 11 && (Reader.signed 16 (0 * 256 + 11) == 11)) = true) ∧ (bq cX2_load 22 43 = true) ∧ (bq cX2_load 23 28 = true) ∧ ((bq cX2_load 24 182 && bq cX2_load (24 + 1) 0 && bq cX2_load (24 + 2) 66 && (0 * 256 + 66 == 66)) = true) ∧ ((bq cX2_load 27 167 && bq cX2_load (27 + 1) 0 && bq cX2_load (27 + 2) 4 && (Reader.signed 16 (0 * 256 + 4) == 4)) = true) ∧ (bq cX2_load 30 3 = true) ∧ (bq cX2_load 31 79 = true) := by decide +kernel
theorem dX2_load_0 : decode cX2_load 0 = .ok (.iconst 0, 1) := dr_3  pk_deca_37.1
theorem dX2_load_1 : decode cX2_load 1 = .ok (.istore_n 2, 1) := dr_61  pk_deca_37.2.1
theorem dX2_load_2 : decode cX2_load 2 = .ok (.iload_n 2, 1) := dr_28  pk_deca_37.2.2.1
theorem dX2_load_3 : decode cX2_load 3 = .ok (.sipush 256, 3) := dr_17 1 0  pk_deca_37.2.2.2.1
theorem dX2_load_6 : decode cX2_load 6 = .ok (.if_icmp .ge 32, 3) := dr_162 0 32  pk_deca_37.2.2.2.2.1
theorem dX2_load_9 : decode cX2_load 9 = .ok (.aload_n 0, 1) := dr_42  pk_deca_37.2.2.2.2.2.1
theorem dX2_load_10 : decode cX2_load 10 = .ok (.getfield 9, 3) := dr_180 0 9  pk_deca_37.2.2.2.2.2.2.1
theorem dX2_load_13 : decode cX2_load 13 = .ok (.iload_n 2, 1) := dr_28  pk_deca_37.2.2.2.2.2.2.2.1
theorem dX2_load_14 : decode cX2_load 14 = .ok (.iload_n 2, 1) := dr_28  pk_deca_37.2.2.2.2.2.2.2.2.1
theorem dX2_load_15 : decode cX2_load 15 = .ok (.aload_n 1, 1) := dr_43  pk_deca_37.2.2.2.2.2.2.2.2.2.1
theorem dX2_load_16 : decode cX2_load 16 = .ok (.getfield 51, 3) := dr_180 0 51  pk_deca_37.2.2.2.2.2.2.2.2.2.2.1
theorem dX2_load_19 : decode cX2_load 19 = .ok (.if_icmp .ge 11, 3) := dr_162 0 11  pk_deca_37.2.2.2.2.2.2.2.2.2.2.2.1
theorem dX2_load_22 : decode cX2_load 22 = .ok (.aload_n 1, 1) := dr_43  pk_deca_37.2.2.2.2.2.2.2.2.2.2.2.2.1
theorem dX2_load_23 : decode cX2_load 23 = .ok (.iload_n 2, 1) := dr_28  pk_deca_37.2.2.2.2.2.2.2.2.2.2.2.2.2.1
theorem dX2_load_24 : decode cX2_load 24 = .ok (.invokevirtual 66, 3) := dr_182 0 66  pk_deca_37.2.2.2.2.2.2.2.2.2.2.2.2.2.2.1
theorem dX2_load_27 : decode cX2_load 27 = .ok (.goto 4, 3) := dr_167 0 4  pk_deca_37.2.2.2.2.2.2.2.2.2.2.2.2.2.2.2.1
theorem dX2_load_30 : decode cX2_load 30 = .ok (.iconst 0, 1) := dr_3  pk_deca_37.2.2.2.2.2.2.2.2.2.2.2.2.2.2.2.2.1
theorem dX2_load_31 : decode cX2_load 31 = .ok (.iastore, 1) := dr_79  pk_deca_37.2.2.2.2.2.2.2.2.2.2.2.2.2.2.2.2.2
theorem dX2_load_32 : decode cX2_load 32 = .ok (.iinc 2 1, 3) := by decide +kernel
set_option maxRecDepth 20000 in
theorem pk_deca_38 : ((bq cX2_load 35 167 && bq cX2_load (35 + 1) 255 && bq cX2_load (35 + 2) 223 && (Reader.signed 16 (255 * 256 + 223) == (-33))) = true) ∧ (bq cX2_load 38 42 = true) ∧ ((bq cX2_load 39 180 && bq cX2_load (39 + 1) 0 && bq cX2_load (39 + 2) 20 && (0 * 256 + 20 == 20)) = true) ∧ (bq cX2_load 42 3 = true) ∧ ((bq cX2_load 43 181 && bq cX2_load (43 + 1) 0 && bq cX2_load (43 + 2) 51 && (0 * 256 + 51 == 51)) = true) ∧ (bq cX2_load 46 42 = true) ∧ (bq cX2_load 47 3 = true) ∧ ((bq cX2_load 48 181 && bq cX2_load (48 + 1) 0 && bq cX2_load (48 + 2) 24 && (0 * 256 + 24 == 24)) = true) ∧ (bq cX2_load 51 42 = true) ∧ (bq cX2_load 52 3 = true) ∧ ((bq cX2_load 53 181 && bq cX2_load (53 + 1) 0 && bq cX2_load (53 + 2) 28 && (0 * 256 + 28 == 28)) = true) ∧ (bq cX2_load 56 42 = true) ∧ (bq cX2_load 57 3 = true) ∧ ((bq cX2_load 58 181 && bq cX2_load (58 + 1) 0 && bq cX2_load (58 + 2) 31 && (0 * 256 + 31 == 31)) = true) ∧ (bq cX2_load 61 42 = true) ∧ (bq cX2_load 62 3 = true) ∧ ((bq cX2_load 63 181 && bq cX2_load (63 + 1) 0 && bq cX2_load (63 + 2) 34 && (0 * 256 + 34 == 34)) = true) ∧ (bq cX2_load 66 42 = true) ∧ (bq cX2_load 67 3 = true) ∧ ((bq cX2_load 68 181 && bq cX2_load (68 + 1) 0 && bq cX2_load (68 + 2) 38 && (0 * 256 + 38 == 38)) = true) ∧ (bq cX2_load 71 42 = true) ∧ (bq cX2_load 72 3 = true) ∧ ((bq cX2_load 73 181 && bq cX2_load (73 + 1) 0 && bq cX2_load (73 + 2) 41 && (0 * 256 + 41 == 41)) = true) ∧ (bq cX2_load 76 42 = true) ∧ (bq cX2_load 77 3 = true) ∧ ((bq cX2_load 78 181 && bq cX2_load (78 + 1) 0 && bq cX2_load (78 + 2) 44 && (0 * 256 + 44 == 44)) = true) ∧ (bq cX2_load 81 177 = true) := by decide +kernel
theorem dX2_load_35 : decode cX2_load 35 = .ok (.goto (-33), 3) := dr_167 255 223  pk_deca_38.1
theorem dX2_load_38 : decode cX2_load 38 = .ok (.aload_n 0, 1) := dr_42  pk_deca_38.2.1
theorem dX2_load_39 : decode cX2_load 39 = .ok (.getfield 20, 3) := dr_180 0 20  pk_deca_38.2.2.1
theorem dX2_load_42 : decode cX2_load 42 = .ok (.iconst 0, 1) := dr_3  pk_deca_38.2.2.2.1
theorem dX2_load_43 : decode cX2_load 43 = .ok (.putfield 51, 3) := dr_181 0 51  pk_deca_38.2.2.2.2.1
theorem dX2_load_46 : decode cX2_load 46 = .ok (.aload_n 0, 1) := dr_42  pk_deca_38.2.2.2.2.2.1
theorem dX2_load_47 : decode cX2_load 47 = .ok (.iconst 0, 1) := dr_3  pk_deca_38.2.2.2.2.2.2.1
theorem dX2_load_48 : decode cX2_load 48 = .ok (.putfield 24, 3) := dr_181 0 24  pk_deca_38.2.2.2.2.2.2.2.1
theorem dX2_load_51 : decode cX2_load 51 = .ok (.aload_n 0, 1) := dr_42  pk_deca_38.2.2.2.2.2.2.2.2.1
theorem dX2_load_52 : decode cX2_load 52 = .ok (.iconst 0, 1) := dr_3  pk_deca_38.2.2.2.2.2.2.2.2.2.1
theorem dX2_load_53 : decode cX2_load 53 = .ok (.putfield 28, 3) := dr_181 0 28  pk_deca_38.2.2.2.2.2.2.2.2.2.2.1
theorem dX2_load_56 : decode cX2_load 56 = .ok (.aload_n 0, 1) := dr_42  pk_deca_38.2.2.2.2.2.2.2.2.2.2.2.1
theorem dX2_load_57 : decode cX2_load 57 = .ok (.iconst 0, 1) := dr_3  pk_deca_38.2.2.2.2.2.2.2.2.2.2.2.2.1
theorem dX2_load_58 : decode cX2_load 58 = .ok (.putfield 31, 3) := dr_181 0 31  pk_deca_38.2.2.2.2.2.2.2.2.2.2.2.2.2.1
theorem dX2_load_61 : decode cX2_load 61 = .ok (.aload_n 0, 1) := dr_42  pk_deca_38.2.2.2.2.2.2.2.2.2.2.2.2.2.2.1
theorem dX2_load_62 : decode cX2_load 62 = .ok (.iconst 0, 1) := dr_3  pk_deca_38.2.2.2.2.2.2.2.2.2.2.2.2.2.2.2.1
theorem dX2_load_63 : decode cX2_load 63 = .ok (.putfield 34, 3) := dr_181 0 34  pk_deca_38.2.2.2.2.2.2.2.2.2.2.2.2.2.2.2.2.1
theorem dX2_load_66 : decode cX2_load 66 = .ok (.aload_n 0, 1) := dr_42  pk_deca_38.2.2.2.2.2.2.2.2.2.2.2.2.2.2.2.2.2.1
theorem dX2_load_67 : decode cX2_load 67 = .ok (.iconst 0, 1) := dr_3  pk_deca_38.2.2.2.2.2.2.2.2.2.2.2.2.2.2.2.2.2.2.1
theorem dX2_load_68 : decode cX2_load 68 = .ok (.putfield 38, 3) := dr_181 0 38  pk_deca_38.2.2.2.2.2.2.2.2.2.2.2.2.2.2.2.2.2.2.2.1
theorem dX2_load_71 : decode cX2_load 71 = .ok (.aload_n 0, 1) := dr_42  pk_deca_38.2.2.2.2.2.2.2.2.2.2.2.2.2.2.2.2.2.2.2.2.1
theorem dX2_load_72 : decode cX2_load 72 = .ok (.iconst 0, 1) := dr_3  pk_deca_38.2.2.2.2.2.2.2.2.2.2.2.2.2.2.2.2.2.2.2.2.2.1
theorem dX2_load_73 : decode cX2_load 73 = .ok (.putfield 41, 3) := dr_181 0 41  pk_deca_38.2.2.2.2.2.2.2.2.2.2.2.2.2.2.2.2.2.2.2.2.2.2.1
theorem dX2_load_76 : decode cX2_load 76 = .ok (.aload_n 0, 1) := dr_42  pk_deca_38.2.2.2.2.2.2.2.2.2.2.2.2.2.2.2.2.2.2.2.2.2.2.2.1
theorem dX2_load_77 : decode cX2_load 77 = .ok (.iconst 0, 1) := dr_3  pk_deca_38.2.2.2.2.2.2.2.2.2.2.2.2.2.2.2.2.2.2.2.2.2.2.2.2.1
theorem dX2_load_78 : decode cX2_load 78 = .ok (.putfield 44, 3) := dr_181 0 44  pk_deca_38.2.2.2.2.2.2.2.2.2.2.2.2.2.2.2.2.2.2.2.2.2.2.2.2.2.1
theorem dX2_load_81 : decode cX2_load 81 = .ok (.return_, 1) := dr_177  pk_deca_38.2.2.2.2.2.2.2.2.2.2.2.2.2.2.2.2.2.2.2.2.2.2.2.2.2.2
set_option maxRecDepth 20000 in
theorem pk_deca_39 : (bq cX2_harmOf 0 27 = true) ∧ ((bq cX2_harmOf 1 16 && bq cX2_harmOf (1 + 1) 15 && (Reader.signed 8 15 == 15)) = true) ∧ ((bq cX2_harmOf 3 164 && bq cX2_harmOf (3 + 1) 0 && bq cX2_harmOf (3 + 2) 5 && (Reader.signed 16 (0 * 256 + 5) == 5)) = true) ∧ (bq cX2_harmOf 6 4 = true) ∧ (bq cX2_harmOf 7 172 = true) ∧ (bq cX2_harmOf 8 42 = true) ∧ ((bq cX2_harmOf 9 180 && bq cX2_harmOf (9 + 1) 0 && bq cX2_harmOf (9 + 2) 38 && (0 * 256 + 38 == 38)) = true) ∧ ((bq cX2_harmOf 12 17 && bq cX2_harmOf (12 + 1) 19 && bq cX2_harmOf (12 + 2) 136 && (Reader.signed 16 (19 * 256 + 136) == 5000)) = true) ∧ ((bq cX2_harmOf 15 161 && bq cX2_harmOf (15 + 1) 0 && bq cX2_harmOf (15 + 2) 5 && (Reader.signed 16 (0 * 256 + 5) == 5)) = true) ∧ (bq cX2_harmOf 18 6 = true) ∧ (bq cX2_harmOf 19 172 = true) ∧ (bq cX2_harmOf 20 27 = true) ∧ (bq cX2_harmOf 21 5 = true) ∧ ((bq cX2_harmOf 22 160 && bq cX2_harmOf (22 + 1) 0 && bq cX2_harmOf (22 + 2) 20 && (Reader.signed 16 (0 * 256 + 20) == 20)) = true) ∧ (bq cX2_harmOf 25 42 = true) ∧ ((bq cX2_harmOf 26 180 && bq cX2_harmOf (26 + 1) 0 && bq cX2_harmOf (26 + 2) 20 && (0 * 256 + 20 == 20)) = true) ∧ ((bq cX2_harmOf 29 180 && bq cX2_harmOf (29 + 1) 0 && bq cX2_harmOf (29 + 2) 51 && (0 * 256 + 51 == 51)) = true) ∧ ((bq cX2_harmOf 32 17 && bq cX2_harmOf (32 + 1) 1 && bq cX2_harmOf (32 + 2) 0 && (Reader.signed 16 (1 * 256 + 0) == 256)) = true) ∧ ((bq cX2_harmOf 35 161 && bq cX2_harmOf (35 + 1) 0 && bq cX2_harmOf (35 + 2) 7 && (Reader.signed 16 (0 * 256 + 7) == 7)) = true) ∧ (bq cX2_harmOf 38 5 = true) ∧ ((bq cX2_harmOf 39 167 && bq cX2_harmOf (39 + 1) 0 && bq cX2_harmOf (39 + 2) 4 && (Reader.signed 16 (0 * 256 + 4) == 4)) = true) ∧ (bq cX2_harmOf 42 3 = true) ∧ (bq cX2_harmOf 43 172 = true) := by decide +kernel
theorem dX2_harmOf_0 : decode cX2_harmOf 0 = .ok (.iload_n 1, 1) := dr_27  pk_deca_39.1
theorem dX2_harmOf_1 : decode cX2_harmOf 1 = .ok (.bipush 15, 2) := dr_16 15  pk_deca_39.2.1
theorem dX2_harmOf_3 : decode cX2_harmOf 3 = .ok (.if_icmp .le 5, 3) := dr_164 0 5  pk_deca_39.2.2.1
theorem dX2_harmOf_6 : decode cX2_harmOf 6 = .ok (.iconst 1, 1) := dr_4  pk_deca_39.2.2.2.1
theorem dX2_harmOf_7 : decode cX2_harmOf 7 = .ok (.ireturn, 1) := dr_172  pk_deca_39.2.2.2.2.1
theorem dX2_harmOf_8 : decode cX2_harmOf 8 = .ok (.aload_n 0, 1) := dr_42  pk_deca_39.2.2.2.2.2.1
theorem dX2_harmOf_9 : decode cX2_harmOf 9 = .ok (.getfield 38, 3) := dr_180 0 38  pk_deca_39.2.2.2.2.2.2.1
theorem dX2_harmOf_12 : decode cX2_harmOf 12 = .ok (.sipush 5000, 3) := dr_17 19 136  pk_deca_39.2.2.2.2.2.2.2.1
theorem dX2_harmOf_15 : decode cX2_harmOf 15 = .ok (.if_icmp .lt 5, 3) := dr_161 0 5  pk_deca_39.2.2.2.2.2.2.2.2.1
theorem dX2_harmOf_18 : decode cX2_harmOf 18 = .ok (.iconst 3, 1) := dr_6  pk_deca_39.2.2.2.2.2.2.2.2.2.1
theorem dX2_harmOf_19 : decode cX2_harmOf 19 = .ok (.ireturn, 1) := dr_172  pk_deca_39.2.2.2.2.2.2.2.2.2.2.1
theorem dX2_harmOf_20 : decode cX2_harmOf 20 = .ok (.iload_n 1, 1) := dr_27  pk_deca_39.2.2.2.2.2.2.2.2.2.2.2.1
theorem dX2_harmOf_21 : decode cX2_harmOf 21 = .ok (.iconst 2, 1) := dr_5  pk_deca_39.2.2.2.2.2.2.2.2.2.2.2.2.1
theorem dX2_harmOf_22 : decode cX2_harmOf 22 = .ok (.if_icmp .ne 20, 3) := dr_160 0 20  pk_deca_39.2.2.2.2.2.2.2.2.2.2.2.2.2.1
theorem dX2_harmOf_25 : decode cX2_harmOf 25 = .ok (.aload_n 0, 1) := dr_42  pk_deca_39.2.2.2.2.2.2.2.2.2.2.2.2.2.2.1
theorem dX2_harmOf_26 : decode cX2_harmOf 26 = .ok (.getfield 20, 3) := dr_180 0 20  pk_deca_39.2.2.2.2.2.2.2.2.2.2.2.2.2.2.2.1
theorem dX2_harmOf_29 : decode cX2_harmOf 29 = .ok (.getfield 51, 3) := dr_180 0 51  pk_deca_39.2.2.2.2.2.2.2.2.2.2.2.2.2.2.2.2.1
theorem dX2_harmOf_32 : decode cX2_harmOf 32 = .ok (.sipush 256, 3) := dr_17 1 0  pk_deca_39.2.2.2.2.2.2.2.2.2.2.2.2.2.2.2.2.2.1
theorem dX2_harmOf_35 : decode cX2_harmOf 35 = .ok (.if_icmp .lt 7, 3) := dr_161 0 7  pk_deca_39.2.2.2.2.2.2.2.2.2.2.2.2.2.2.2.2.2.2.1
theorem dX2_harmOf_38 : decode cX2_harmOf 38 = .ok (.iconst 2, 1) := dr_5  pk_deca_39.2.2.2.2.2.2.2.2.2.2.2.2.2.2.2.2.2.2.2.1
theorem dX2_harmOf_39 : decode cX2_harmOf 39 = .ok (.goto 4, 3) := dr_167 0 4  pk_deca_39.2.2.2.2.2.2.2.2.2.2.2.2.2.2.2.2.2.2.2.2.1
theorem dX2_harmOf_42 : decode cX2_harmOf 42 = .ok (.iconst 0, 1) := dr_3  pk_deca_39.2.2.2.2.2.2.2.2.2.2.2.2.2.2.2.2.2.2.2.2.2.1
theorem dX2_harmOf_43 : decode cX2_harmOf 43 = .ok (.ireturn, 1) := dr_172  pk_deca_39.2.2.2.2.2.2.2.2.2.2.2.2.2.2.2.2.2.2.2.2.2.2
set_option maxRecDepth 20000 in
theorem pk_deca_40 : (bq cX2_obey 0 42 = true) ∧ ((bq cX2_obey 1 180 && bq cX2_obey (1 + 1) 0 && bq cX2_obey (1 + 2) 9 && (0 * 256 + 9 == 9)) = true) ∧ (bq cX2_obey 4 42 = true) ∧ ((bq cX2_obey 5 180 && bq cX2_obey (5 + 1) 0 && bq cX2_obey (5 + 2) 31 && (0 * 256 + 31 == 31)) = true) ∧ (bq cX2_obey 8 4 = true) ∧ (bq cX2_obey 9 96 = true) ∧ ((bq cX2_obey 10 17 && bq cX2_obey (10 + 1) 0 && bq cX2_obey (10 + 2) 255 && (Reader.signed 16 (0 * 256 + 255) == 255)) = true) ∧ (bq cX2_obey 13 126 = true) ∧ (bq cX2_obey 14 46 = true) ∧ ((bq cX2_obey 15 17 && bq cX2_obey (15 + 1) 0 && bq cX2_obey (15 + 2) 255 && (Reader.signed 16 (0 * 256 + 255) == 255)) = true) ∧ (bq cX2_obey 18 126 = true) ∧ (bq cX2_obey 19 62 = true) ∧ (bq cX2_obey 20 42 = true) ∧ ((bq cX2_obey 21 180 && bq cX2_obey (21 + 1) 0 && bq cX2_obey (21 + 2) 31 && (0 * 256 + 31 == 31)) = true) ∧ (bq cX2_obey 24 27 = true) ∧ ((bq cX2_obey 25 184 && bq cX2_obey (25 + 1) 0 && bq cX2_obey (25 + 2) 69 && (0 * 256 + 69 == 69)) = true) ∧ ((bq cX2_obey 28 153 && bq cX2_obey (28 + 1) 0 && bq cX2_obey (28 + 2) 7 && (Reader.signed 16 (0 * 256 + 7) == 7)) = true) ∧ (bq cX2_obey 31 5 = true) ∧ ((bq cX2_obey 32 167 && bq cX2_obey (32 + 1) 0 && bq cX2_obey (32 + 2) 4 && (Reader.signed 16 (0 * 256 + 4) == 4)) = true) ∧ (bq cX2_obey 35 4 = true) ∧ (bq cX2_obey 36 96 = true) ∧ ((bq cX2_obey 37 54 && bq cX2_obey (37 + 1) 4) = true) ∧ (bq cX2_obey 39 27 = true) := by decide +kernel
theorem dX2_obey_0 : decode cX2_obey 0 = .ok (.aload_n 0, 1) := dr_42  pk_deca_40.1
theorem dX2_obey_1 : decode cX2_obey 1 = .ok (.getfield 9, 3) := dr_180 0 9  pk_deca_40.2.1
theorem dX2_obey_4 : decode cX2_obey 4 = .ok (.aload_n 0, 1) := dr_42  pk_deca_40.2.2.1
theorem dX2_obey_5 : decode cX2_obey 5 = .ok (.getfield 31, 3) := dr_180 0 31  pk_deca_40.2.2.2.1
theorem dX2_obey_8 : decode cX2_obey 8 = .ok (.iconst 1, 1) := dr_4  pk_deca_40.2.2.2.2.1
theorem dX2_obey_9 : decode cX2_obey 9 = .ok (.iadd, 1) := dr_96  pk_deca_40.2.2.2.2.2.1
theorem dX2_obey_10 : decode cX2_obey 10 = .ok (.sipush 255, 3) := dr_17 0 255  pk_deca_40.2.2.2.2.2.2.1
theorem dX2_obey_13 : decode cX2_obey 13 = .ok (.iand, 1) := dr_126  pk_deca_40.2.2.2.2.2.2.2.1
theorem dX2_obey_14 : decode cX2_obey 14 = .ok (.iaload, 1) := dr_46  pk_deca_40.2.2.2.2.2.2.2.2.1
theorem dX2_obey_15 : decode cX2_obey 15 = .ok (.sipush 255, 3) := dr_17 0 255  pk_deca_40.2.2.2.2.2.2.2.2.2.1
theorem dX2_obey_18 : decode cX2_obey 18 = .ok (.iand, 1) := dr_126  pk_deca_40.2.2.2.2.2.2.2.2.2.2.1
theorem dX2_obey_19 : decode cX2_obey 19 = .ok (.istore_n 3, 1) := dr_62  pk_deca_40.2.2.2.2.2.2.2.2.2.2.2.1
theorem dX2_obey_20 : decode cX2_obey 20 = .ok (.aload_n 0, 1) := dr_42  pk_deca_40.2.2.2.2.2.2.2.2.2.2.2.2.1
theorem dX2_obey_21 : decode cX2_obey 21 = .ok (.getfield 31, 3) := dr_180 0 31  pk_deca_40.2.2.2.2.2.2.2.2.2.2.2.2.2.1
theorem dX2_obey_24 : decode cX2_obey 24 = .ok (.iload_n 1, 1) := dr_27  pk_deca_40.2.2.2.2.2.2.2.2.2.2.2.2.2.2.1
theorem dX2_obey_25 : decode cX2_obey 25 = .ok (.invokestatic 69, 3) := dr_184 0 69  pk_deca_40.2.2.2.2.2.2.2.2.2.2.2.2.2.2.2.1
theorem dX2_obey_28 : decode cX2_obey 28 = .ok (.ifCond .eq 7, 3) := dr_153 0 7  pk_deca_40.2.2.2.2.2.2.2.2.2.2.2.2.2.2.2.2.1
theorem dX2_obey_31 : decode cX2_obey 31 = .ok (.iconst 2, 1) := dr_5  pk_deca_40.2.2.2.2.2.2.2.2.2.2.2.2.2.2.2.2.2.1
theorem dX2_obey_32 : decode cX2_obey 32 = .ok (.goto 4, 3) := dr_167 0 4  pk_deca_40.2.2.2.2.2.2.2.2.2.2.2.2.2.2.2.2.2.2.1
theorem dX2_obey_35 : decode cX2_obey 35 = .ok (.iconst 1, 1) := dr_4  pk_deca_40.2.2.2.2.2.2.2.2.2.2.2.2.2.2.2.2.2.2.2.1
theorem dX2_obey_36 : decode cX2_obey 36 = .ok (.iadd, 1) := dr_96  pk_deca_40.2.2.2.2.2.2.2.2.2.2.2.2.2.2.2.2.2.2.2.2.1
theorem dX2_obey_37 : decode cX2_obey 37 = .ok (.istore 4, 2) := dr_54  pk_deca_40.2.2.2.2.2.2.2.2.2.2.2.2.2.2.2.2.2.2.2.2.2.1
theorem dX2_obey_39 : decode cX2_obey 39 = .ok (.iload_n 1, 1) := dr_27  pk_deca_40.2.2.2.2.2.2.2.2.2.2.2.2.2.2.2.2.2.2.2.2.2.2
theorem dX2_obey_40 : decode cX2_obey 40 = .ok (.tableswitch 325 1 15 #[76, 91, 116, 124, 137, 150, 172, 194, 214, 234, 245, 251, 269, 287, 304], 76) := by decide +kernel
set_option maxRecDepth 20000 in
theorem pk_deca_41 : (bq cX2_obey 116 42 = true) ∧ (bq cX2_obey 117 44 = true) ∧ (bq cX2_obey 118 42 = true) ∧ ((bq cX2_obey 119 180 && bq cX2_obey (119 + 1) 0 && bq cX2_obey (119 + 2) 41 && (0 * 256 + 41 == 41)) = true) ∧ ((bq cX2_obey 122 182 && bq cX2_obey (122 + 1) 0 && bq cX2_obey (122 + 2) 73 && (0 * 256 + 73 == 73)) = true) ∧ ((bq cX2_obey 125 182 && bq cX2_obey (125 + 1) 0 && bq cX2_obey (125 + 2) 76 && (0 * 256 + 76 == 76)) = true) ∧ ((bq cX2_obey 128 167 && bq cX2_obey (128 + 1) 0 && bq cX2_obey (128 + 2) 237 && (Reader.signed 16 (0 * 256 + 237) == 237)) = true) ∧ (bq cX2_obey 131 42 = true) ∧ ((bq cX2_obey 132 180 && bq cX2_obey (132 + 1) 0 && bq cX2_obey (132 + 2) 20 && (0 * 256 + 20 == 20)) = true) ∧ (bq cX2_obey 135 42 = true) ∧ ((bq cX2_obey 136 180 && bq cX2_obey (136 + 1) 0 && bq cX2_obey (136 + 2) 24 && (0 * 256 + 24 == 24)) = true) ∧ (bq cX2_obey 139 3 = true) ∧ (bq cX2_obey 140 42 = true) ∧ ((bq cX2_obey 141 180 && bq cX2_obey (141 + 1) 0 && bq cX2_obey (141 + 2) 41 && (0 * 256 + 41 == 41)) = true) ∧ (bq cX2_obey 144 4 = true) ∧ (bq cX2_obey 145 100 = true) ∧ ((bq cX2_obey 146 184 && bq cX2_obey (146 + 1) 0 && bq cX2_obey (146 + 2) 79 && (0 * 256 + 79 == 79)) = true) ∧ ((bq cX2_obey 149 182 && bq cX2_obey (149 + 1) 0 && bq cX2_obey (149 + 2) 85 && (0 * 256 + 85 == 85)) = true) ∧ (bq cX2_obey 152 87 = true) ∧ ((bq cX2_obey 153 167 && bq cX2_obey (153 + 1) 0 && bq cX2_obey (153 + 2) 212 && (Reader.signed 16 (0 * 256 + 212) == 212)) = true) ∧ (bq cX2_obey 156 42 = true) ∧ (bq cX2_obey 157 29 = true) ∧ ((bq cX2_obey 158 181 && bq cX2_obey (158 + 1) 0 && bq cX2_obey (158 + 2) 24 && (0 * 256 + 24 == 24)) = true) ∧ ((bq cX2_obey 161 167 && bq cX2_obey (161 + 1) 0 && bq cX2_obey (161 + 2) 204 && (Reader.signed 16 (0 * 256 + 204) == 204)) = true) ∧ (bq cX2_obey 164 42 = true) ∧ (bq cX2_obey 165 42 = true) ∧ ((bq cX2_obey 166 180 && bq cX2_obey (166 + 1) 0 && bq cX2_obey (166 + 2) 9 && (0 * 256 + 9 == 9)) = true) ∧ (bq cX2_obey 169 29 = true) ∧ (bq cX2_obey 170 46 = true) ∧ ((bq cX2_obey 171 181 && bq cX2_obey (171 + 1) 0 && bq cX2_obey (171 + 2) 24 && (0 * 256 + 24 == 24)) = true) ∧ ((bq cX2_obey 174 167 && bq cX2_obey (174 + 1) 0 && bq cX2_obey (174 + 2) 191 && (Reader.signed 16 (0 * 256 + 191) == 191)) = true) ∧ (bq cX2_obey 177 42 = true) := by decide +kernel
theorem dX2_obey_116 : decode cX2_obey 116 = .ok (.aload_n 0, 1) := dr_42  pk_deca_41.1
theorem dX2_obey_117 : decode cX2_obey 117 = .ok (.aload_n 2, 1) := dr_44  pk_deca_41.2.1
theorem dX2_obey_118 : decode cX2_obey 118 = .ok (.aload_n 0, 1) := dr_42  pk_deca_41.2.2.1
theorem dX2_obey_119 : decode cX2_obey 119 = .ok (.getfield 41, 3) := dr_180 0 41  pk_deca_41.2.2.2.1
theorem dX2_obey_122 : decode cX2_obey 122 = .ok (.invokevirtual 73, 3) := dr_182 0 73  pk_deca_41.2.2.2.2.1
theorem dX2_obey_125 : decode cX2_obey 125 = .ok (.invokevirtual 76, 3) := dr_182 0 76  pk_deca_41.2.2.2.2.2.1
theorem dX2_obey_128 : decode cX2_obey 128 = .ok (.goto 237, 3) := dr_167 0 237  pk_deca_41.2.2.2.2.2.2.1
theorem dX2_obey_131 : decode cX2_obey 131 = .ok (.aload_n 0, 1) := dr_42  pk_deca_41.2.2.2.2.2.2.2.1
theorem dX2_obey_132 : decode cX2_obey 132 = .ok (.getfield 20, 3) := dr_180 0 20  pk_deca_41.2.2.2.2.2.2.2.2.1
theorem dX2_obey_135 : decode cX2_obey 135 = .ok (.aload_n 0, 1) := dr_42  pk_deca_41.2.2.2.2.2.2.2.2.2.1
theorem dX2_obey_136 : decode cX2_obey 136 = .ok (.getfield 24, 3) := dr_180 0 24  pk_deca_41.2.2.2.2.2.2.2.2.2.2.1
theorem dX2_obey_139 : decode cX2_obey 139 = .ok (.iconst 0, 1) := dr_3  pk_deca_41.2.2.2.2.2.2.2.2.2.2.2.1
theorem dX2_obey_140 : decode cX2_obey 140 = .ok (.aload_n 0, 1) := dr_42  pk_deca_41.2.2.2.2.2.2.2.2.2.2.2.2.1
theorem dX2_obey_141 : decode cX2_obey 141 = .ok (.getfield 41, 3) := dr_180 0 41  pk_deca_41.2.2.2.2.2.2.2.2.2.2.2.2.2.1
theorem dX2_obey_144 : decode cX2_obey 144 = .ok (.iconst 1, 1) := dr_4  pk_deca_41.2.2.2.2.2.2.2.2.2.2.2.2.2.2.1
theorem dX2_obey_145 : decode cX2_obey 145 = .ok (.isub, 1) := dr_100  pk_deca_41.2.2.2.2.2.2.2.2.2.2.2.2.2.2.2.1
theorem dX2_obey_146 : decode cX2_obey 146 = .ok (.invokestatic 79, 3) := dr_184 0 79  pk_deca_41.2.2.2.2.2.2.2.2.2.2.2.2.2.2.2.2.1
theorem dX2_obey_149 : decode cX2_obey 149 = .ok (.invokevirtual 85, 3) := dr_182 0 85  pk_deca_41.2.2.2.2.2.2.2.2.2.2.2.2.2.2.2.2.2.1
theorem dX2_obey_152 : decode cX2_obey 152 = .ok (.pop, 1) := dr_87  pk_deca_41.2.2.2.2.2.2.2.2.2.2.2.2.2.2.2.2.2.2.1
theorem dX2_obey_153 : decode cX2_obey 153 = .ok (.goto 212, 3) := dr_167 0 212  pk_deca_41.2.2.2.2.2.2.2.2.2.2.2.2.2.2.2.2.2.2.2.1
theorem dX2_obey_156 : decode cX2_obey 156 = .ok (.aload_n 0, 1) := dr_42  pk_deca_41.2.2.2.2.2.2.2.2.2.2.2.2.2.2.2.2.2.2.2.2.1
theorem dX2_obey_157 : decode cX2_obey 157 = .ok (.iload_n 3, 1) := dr_29  pk_deca_41.2.2.2.2.2.2.2.2.2.2.2.2.2.2.2.2.2.2.2.2.2.1
theorem dX2_obey_158 : decode cX2_obey 158 = .ok (.putfield 24, 3) := dr_181 0 24  pk_deca_41.2.2.2.2.2.2.2.2.2.2.2.2.2.2.2.2.2.2.2.2.2.2.1
theorem dX2_obey_161 : decode cX2_obey 161 = .ok (.goto 204, 3) := dr_167 0 204  pk_deca_41.2.2.2.2.2.2.2.2.2.2.2.2.2.2.2.2.2.2.2.2.2.2.2.1
theorem dX2_obey_164 : decode cX2_obey 164 = .ok (.aload_n 0, 1) := dr_42  pk_deca_41.2.2.2.2.2.2.2.2.2.2.2.2.2.2.2.2.2.2.2.2.2.2.2.2.1
theorem dX2_obey_165 : decode cX2_obey 165 = .ok (.aload_n 0, 1) := dr_42  pk_deca_41.2.2.2.2.2.2.2.2.2.2.2.2.2.2.2.2.2.2.2.2.2.2.2.2.2.1
theorem dX2_obey_166 : decode cX2_obey 166 = .ok (.getfield 9, 3) := dr_180 0 9  pk_deca_41.2.2.2.2.2.2.2.2.2.2.2.2.2.2.2.2.2.2.2.2.2.2.2.2.2.2.1
theorem dX2_obey_169 : decode cX2_obey 169 = .ok (.iload_n 3, 1) := dr_29  pk_deca_41.2.2.2.2.2.2.2.2.2.2.2.2.2.2.2.2.2.2.2.2.2.2.2.2.2.2.2.1
theorem dX2_obey_170 : decode cX2_obey 170 = .ok (.iaload, 1) := dr_46  pk_deca_41.2.2.2.2.2.2.2.2.2.2.2.2.2.2.2.2.2.2.2.2.2.2.2.2.2.2.2.2.1
theorem dX2_obey_171 : decode cX2_obey 171 = .ok (.putfield 24, 3) := dr_181 0 24  pk_deca_41.2.2.2.2.2.2.2.2.2.2.2.2.2.2.2.2.2.2.2.2.2.2.2.2.2.2.2.2.2.1
theorem dX2_obey_174 : decode cX2_obey 174 = .ok (.goto 191, 3) := dr_167 0 191  pk_deca_41.2.2.2.2.2.2.2.2.2.2.2.2.2.2.2.2.2.2.2.2.2.2.2.2.2.2.2.2.2.2.1
theorem dX2_obey_177 : decode cX2_obey 177 = .ok (.aload_n 0, 1) := dr_42  pk_deca_41.2.2.2.2.2.2.2.2.2.2.2.2.2.2.2.2.2.2.2.2.2.2.2.2.2.2.2.2.2.2.2
set_option maxRecDepth 20000 in
theorem pk_deca_42 : ((bq cX2_obey 178 180 && bq cX2_obey (178 + 1) 0 && bq cX2_obey (178 + 2) 9 && (0 * 256 + 9 == 9)) = true) ∧ (bq cX2_obey 181 29 = true) ∧ (bq cX2_obey 182 42 = true) ∧ ((bq cX2_obey 183 180 && bq cX2_obey (183 + 1) 0 && bq cX2_obey (183 + 2) 24 && (0 * 256 + 24 == 24)) = true) ∧ (bq cX2_obey 186 79 = true) ∧ ((bq cX2_obey 187 167 && bq cX2_obey (187 + 1) 0 && bq cX2_obey (187 + 2) 178 && (Reader.signed 16 (0 * 256 + 178) == 178)) = true) ∧ (bq cX2_obey 190 42 = true) ∧ (bq cX2_obey 191 42 = true) ∧ ((bq cX2_obey 192 180 && bq cX2_obey (192 + 1) 0 && bq cX2_obey (192 + 2) 24 && (0 * 256 + 24 == 24)) = true) ∧ (bq cX2_obey 195 42 = true) ∧ ((bq cX2_obey 196 180 && bq cX2_obey (196 + 1) 0 && bq cX2_obey (196 + 2) 9 && (0 * 256 + 9 == 9)) = true) ∧ (bq cX2_obey 199 29 = true) ∧ (bq cX2_obey 200 46 = true) ∧ (bq cX2_obey 201 96 = true) ∧ ((bq cX2_obey 202 17 && bq cX2_obey (202 + 1) 0 && bq cX2_obey (202 + 2) 255 && (Reader.signed 16 (0 * 256 + 255) == 255)) = true) ∧ (bq cX2_obey 205 126 = true) ∧ ((bq cX2_obey 206 181 && bq cX2_obey (206 + 1) 0 && bq cX2_obey (206 + 2) 24 && (0 * 256 + 24 == 24)) = true) ∧ ((bq cX2_obey 209 167 && bq cX2_obey (209 + 1) 0 && bq cX2_obey (209 + 2) 156 && (Reader.signed 16 (0 * 256 + 156) == 156)) = true) ∧ (bq cX2_obey 212 42 = true) ∧ (bq cX2_obey 213 42 = true) ∧ ((bq cX2_obey 214 180 && bq cX2_obey (214 + 1) 0 && bq cX2_obey (214 + 2) 24 && (0 * 256 + 24 == 24)) = true) ∧ (bq cX2_obey 217 42 = true) ∧ ((bq cX2_obey 218 180 && bq cX2_obey (218 + 1) 0 && bq cX2_obey (218 + 2) 9 && (0 * 256 + 9 == 9)) = true) ∧ (bq cX2_obey 221 29 = true) ∧ (bq cX2_obey 222 46 = true) ∧ (bq cX2_obey 223 100 = true) ∧ ((bq cX2_obey 224 17 && bq cX2_obey (224 + 1) 0 && bq cX2_obey (224 + 2) 255 && (Reader.signed 16 (0 * 256 + 255) == 255)) = true) ∧ (bq cX2_obey 227 126 = true) ∧ ((bq cX2_obey 228 181 && bq cX2_obey (228 + 1) 0 && bq cX2_obey (228 + 2) 24 && (0 * 256 + 24 == 24)) = true) ∧ ((bq cX2_obey 231 167 && bq cX2_obey (231 + 1) 0 && bq cX2_obey (231 + 2) 134 && (Reader.signed 16 (0 * 256 + 134) == 134)) = true) ∧ (bq cX2_obey 234 42 = true) ∧ (bq cX2_obey 235 42 = true) := by decide +kernel
theorem dX2_obey_178 : decode cX2_obey 178 = .ok (.getfield 9, 3) := dr_180 0 9  pk_deca_42.1
theorem dX2_obey_181 : decode cX2_obey 181 = .ok (.iload_n 3, 1) := dr_29  pk_deca_42.2.1
theorem dX2_obey_182 : decode cX2_obey 182 = .ok (.aload_n 0, 1) := dr_42  pk_deca_42.2.2.1
theorem dX2_obey_183 : decode cX2_obey 183 = .ok (.getfield 24, 3) := dr_180 0 24  pk_deca_42.2.2.2.1
theorem dX2_obey_186 : decode cX2_obey 186 = .ok (.iastore, 1) := dr_79  pk_deca_42.2.2.2.2.1
theorem dX2_obey_187 : decode cX2_obey 187 = .ok (.goto 178, 3) := dr_167 0 178  pk_deca_42.2.2.2.2.2.1
theorem dX2_obey_190 : decode cX2_obey 190 = .ok (.aload_n 0, 1) := dr_42  pk_deca_42.2.2.2.2.2.2.1
theorem dX2_obey_191 : decode cX2_obey 191 = .ok (.aload_n 0, 1) := dr_42  pk_deca_42.2.2.2.2.2.2.2.1
theorem dX2_obey_192 : decode cX2_obey 192 = .ok (.getfield 24, 3) := dr_180 0 24  pk_deca_42.2.2.2.2.2.2.2.2.1
theorem dX2_obey_195 : decode cX2_obey 195 = .ok (.aload_n 0, 1) := dr_42  pk_deca_42.2.2.2.2.2.2.2.2.2.1
theorem dX2_obey_196 : decode cX2_obey 196 = .ok (.getfield 9, 3) := dr_180 0 9  pk_deca_42.2.2.2.2.2.2.2.2.2.2.1
theorem dX2_obey_199 : decode cX2_obey 199 = .ok (.iload_n 3, 1) := dr_29  pk_deca_42.2.2.2.2.2.2.2.2.2.2.2.1
theorem dX2_obey_200 : decode cX2_obey 200 = .ok (.iaload, 1) := dr_46  pk_deca_42.2.2.2.2.2.2.2.2.2.2.2.2.1
theorem dX2_obey_201 : decode cX2_obey 201 = .ok (.iadd, 1) := dr_96  pk_deca_42.2.2.2.2.2.2.2.2.2.2.2.2.2.1
theorem dX2_obey_202 : decode cX2_obey 202 = .ok (.sipush 255, 3) := dr_17 0 255  pk_deca_42.2.2.2.2.2.2.2.2.2.2.2.2.2.2.1
theorem dX2_obey_205 : decode cX2_obey 205 = .ok (.iand, 1) := dr_126  pk_deca_42.2.2.2.2.2.2.2.2.2.2.2.2.2.2.2.1
theorem dX2_obey_206 : decode cX2_obey 206 = .ok (.putfield 24, 3) := dr_181 0 24  pk_deca_42.2.2.2.2.2.2.2.2.2.2.2.2.2.2.2.2.1
theorem dX2_obey_209 : decode cX2_obey 209 = .ok (.goto 156, 3) := dr_167 0 156  pk_deca_42.2.2.2.2.2.2.2.2.2.2.2.2.2.2.2.2.2.1
theorem dX2_obey_212 : decode cX2_obey 212 = .ok (.aload_n 0, 1) := dr_42  pk_deca_42.2.2.2.2.2.2.2.2.2.2.2.2.2.2.2.2.2.2.1
theorem dX2_obey_213 : decode cX2_obey 213 = .ok (.aload_n 0, 1) := dr_42  pk_deca_42.2.2.2.2.2.2.2.2.2.2.2.2.2.2.2.2.2.2.2.1
theorem dX2_obey_214 : decode cX2_obey 214 = .ok (.getfield 24, 3) := dr_180 0 24  pk_deca_42.2.2.2.2.2.2.2.2.2.2.2.2.2.2.2.2.2.2.2.2.1
theorem dX2_obey_217 : decode cX2_obey 217 = .ok (.aload_n 0, 1) := dr_42  pk_deca_42.2.2.2.2.2.2.2.2.2.2.2.2.2.2.2.2.2.2.2.2.2.1
theorem dX2_obey_218 : decode cX2_obey 218 = .ok (.getfield 9, 3) := dr_180 0 9  pk_deca_42.2.2.2.2.2.2.2.2.2.2.2.2.2.2.2.2.2.2.2.2.2.2.1
theorem dX2_obey_221 : decode cX2_obey 221 = .ok (.iload_n 3, 1) := dr_29  pk_deca_42.2.2.2.2.2.2.2.2.2.2.2.2.2.2.2.2.2.2.2.2.2.2.2.1
theorem dX2_obey_222 : decode cX2_obey 222 = .ok (.iaload, 1) := dr_46  pk_deca_42.2.2.2.2.2.2.2.2.2.2.2.2.2.2.2.2.2.2.2.2.2.2.2.2.1
theorem dX2_obey_223 : decode cX2_obey 223 = .ok (.isub, 1) := dr_100  pk_deca_42.2.2.2.2.2.2.2.2.2.2.2.2.2.2.2.2.2.2.2.2.2.2.2.2.2.1
theorem dX2_obey_224 : decode cX2_obey 224 = .ok (.sipush 255, 3) := dr_17 0 255  pk_deca_42.2.2.2.2.2.2.2.2.2.2.2.2.2.2.2.2.2.2.2.2.2.2.2.2.2.2.1
theorem dX2_obey_227 : decode cX2_obey 227 = .ok (.iand, 1) := dr_126  pk_deca_42.2.2.2.2.2.2.2.2.2.2.2.2.2.2.2.2.2.2.2.2.2.2.2.2.2.2.2.1
theorem dX2_obey_228 : decode cX2_obey 228 = .ok (.putfield 24, 3) := dr_181 0 24  pk_deca_42.2.2.2.2.2.2.2.2.2.2.2.2.2.2.2.2.2.2.2.2.2.2.2.2.2.2.2.2.1
theorem dX2_obey_231 : decode cX2_obey 231 = .ok (.goto 134, 3) := dr_167 0 134  pk_deca_42.2.2.2.2.2.2.2.2.2.2.2.2.2.2.2.2.2.2.2.2.2.2.2.2.2.2.2.2.2.1
theorem dX2_obey_234 : decode cX2_obey 234 = .ok (.aload_n 0, 1) := dr_42  pk_deca_42.2.2.2.2.2.2.2.2.2.2.2.2.2.2.2.2.2.2.2.2.2.2.2.2.2.2.2.2.2.2.1
theorem dX2_obey_235 : decode cX2_obey 235 = .ok (.aload_n 0, 1) := dr_42  pk_deca_42.2.2.2.2.2.2.2.2.2.2.2.2.2.2.2.2.2.2.2.2.2.2.2.2.2.2.2.2.2.2.2
set_option maxRecDepth 20000 in
theorem pk_deca_43 : ((bq cX2_obey 236 180 && bq cX2_obey (236 + 1) 0 && bq cX2_obey (236 + 2) 9 && (0 * 256 + 9 == 9)) = true) ∧ (bq cX2_obey 239 42 = true) ∧ ((bq cX2_obey 240 180 && bq cX2_obey (240 + 1) 0 && bq cX2_obey (240 + 2) 28 && (0 * 256 + 28 == 28)) = true) ∧ ((bq cX2_obey 243 17 && bq cX2_obey (243 + 1) 0 && bq cX2_obey (243 + 2) 255 && (Reader.signed 16 (0 * 256 + 255) == 255)) = true) ∧ (bq cX2_obey 246 126 = true) ∧ (bq cX2_obey 247 46 = true) ∧ ((bq cX2_obey 248 181 && bq cX2_obey (248 + 1) 0 && bq cX2_obey (248 + 2) 24 && (0 * 256 + 24 == 24)) = true) ∧ ((bq cX2_obey 251 167 && bq cX2_obey (251 + 1) 0 && bq cX2_obey (251 + 2) 114 && (Reader.signed 16 (0 * 256 + 114) == 114)) = true) ∧ (bq cX2_obey 254 42 = true) ∧ ((bq cX2_obey 255 180 && bq cX2_obey (255 + 1) 0 && bq cX2_obey (255 + 2) 9 && (0 * 256 + 9 == 9)) = true) ∧ (bq cX2_obey 258 42 = true) ∧ ((bq cX2_obey 259 180 && bq cX2_obey (259 + 1) 0 && bq cX2_obey (259 + 2) 28 && (0 * 256 + 28 == 28)) = true) ∧ ((bq cX2_obey 262 17 && bq cX2_obey (262 + 1) 0 && bq cX2_obey (262 + 2) 255 && (Reader.signed 16 (0 * 256 + 255) == 255)) = true) ∧ (bq cX2_obey 265 126 = true) ∧ (bq cX2_obey 266 42 = true) ∧ ((bq cX2_obey 267 180 && bq cX2_obey (267 + 1) 0 && bq cX2_obey (267 + 2) 24 && (0 * 256 + 24 == 24)) = true) ∧ (bq cX2_obey 270 79 = true) ∧ ((bq cX2_obey 271 167 && bq cX2_obey (271 + 1) 0 && bq cX2_obey (271 + 2) 94 && (Reader.signed 16 (0 * 256 + 94) == 94)) = true) ∧ (bq cX2_obey 274 42 = true) ∧ (bq cX2_obey 275 42 = true) ∧ ((bq cX2_obey 276 180 && bq cX2_obey (276 + 1) 0 && bq cX2_obey (276 + 2) 24 && (0 * 256 + 24 == 24)) = true) ∧ ((bq cX2_obey 279 181 && bq cX2_obey (279 + 1) 0 && bq cX2_obey (279 + 2) 28 && (0 * 256 + 28 == 28)) = true) ∧ ((bq cX2_obey 282 167 && bq cX2_obey (282 + 1) 0 && bq cX2_obey (282 + 2) 83 && (Reader.signed 16 (0 * 256 + 83) == 83)) = true) ∧ (bq cX2_obey 285 29 = true) ∧ ((bq cX2_obey 286 54 && bq cX2_obey (286 + 1) 4) = true) ∧ ((bq cX2_obey 288 167 && bq cX2_obey (288 + 1) 0 && bq cX2_obey (288 + 2) 77 && (Reader.signed 16 (0 * 256 + 77) == 77)) = true) ∧ (bq cX2_obey 291 42 = true) ∧ ((bq cX2_obey 292 180 && bq cX2_obey (292 + 1) 0 && bq cX2_obey (292 + 2) 24 && (0 * 256 + 24 == 24)) = true) ∧ ((bq cX2_obey 295 154 && bq cX2_obey (295 + 1) 0 && bq cX2_obey (295 + 2) 7 && (Reader.signed 16 (0 * 256 + 7) == 7)) = true) ∧ (bq cX2_obey 298 29 = true) ∧ ((bq cX2_obey 299 167 && bq cX2_obey (299 + 1) 0 && bq cX2_obey (299 + 2) 5 && (Reader.signed 16 (0 * 256 + 5) == 5)) = true) ∧ ((bq cX2_obey 302 21 && bq cX2_obey (302 + 1) 4) = true) := by decide +kernel
theorem dX2_obey_236 : decode cX2_obey 236 = .ok (.getfield 9, 3) := dr_180 0 9  pk_deca_43.1
theorem dX2_obey_239 : decode cX2_obey 239 = .ok (.aload_n 0, 1) := dr_42  pk_deca_43.2.1
theorem dX2_obey_240 : decode cX2_obey 240 = .ok (.getfield 28, 3) := dr_180 0 28  pk_deca_43.2.2.1
theorem dX2_obey_243 : decode cX2_obey 243 = .ok (.sipush 255, 3) := dr_17 0 255  pk_deca_43.2.2.2.1
theorem dX2_obey_246 : decode cX2_obey 246 = .ok (.iand, 1) := dr_126  pk_deca_43.2.2.2.2.1
theorem dX2_obey_247 : decode cX2_obey 247 = .ok (.iaload, 1) := dr_46  pk_deca_43.2.2.2.2.2.1
theorem dX2_obey_248 : decode cX2_obey 248 = .ok (.putfield 24, 3) := dr_181 0 24  pk_deca_43.2.2.2.2.2.2.1
theorem dX2_obey_251 : decode cX2_obey 251 = .ok (.goto 114, 3) := dr_167 0 114  pk_deca_43.2.2.2.2.2.2.2.1
theorem dX2_obey_254 : decode cX2_obey 254 = .ok (.aload_n 0, 1) := dr_42  pk_deca_43.2.2.2.2.2.2.2.2.1
theorem dX2_obey_255 : decode cX2_obey 255 = .ok (.getfield 9, 3) := dr_180 0 9  pk_deca_43.2.2.2.2.2.2.2.2.2.1
theorem dX2_obey_258 : decode cX2_obey 258 = .ok (.aload_n 0, 1) := dr_42  pk_deca_43.2.2.2.2.2.2.2.2.2.2.1
theorem dX2_obey_259 : decode cX2_obey 259 = .ok (.getfield 28, 3) := dr_180 0 28  pk_deca_43.2.2.2.2.2.2.2.2.2.2.2.1
theorem dX2_obey_262 : decode cX2_obey 262 = .ok (.sipush 255, 3) := dr_17 0 255  pk_deca_43.2.2.2.2.2.2.2.2.2.2.2.2.1
theorem dX2_obey_265 : decode cX2_obey 265 = .ok (.iand, 1) := dr_126  pk_deca_43.2.2.2.2.2.2.2.2.2.2.2.2.2.1
theorem dX2_obey_266 : decode cX2_obey 266 = .ok (.aload_n 0, 1) := dr_42  pk_deca_43.2.2.2.2.2.2.2.2.2.2.2.2.2.2.1
theorem dX2_obey_267 : decode cX2_obey 267 = .ok (.getfield 24, 3) := dr_180 0 24  pk_deca_43.2.2.2.2.2.2.2.2.2.2.2.2.2.2.2.1
theorem dX2_obey_270 : decode cX2_obey 270 = .ok (.iastore, 1) := dr_79  pk_deca_43.2.2.2.2.2.2.2.2.2.2.2.2.2.2.2.2.1
theorem dX2_obey_271 : decode cX2_obey 271 = .ok (.goto 94, 3) := dr_167 0 94  pk_deca_43.2.2.2.2.2.2.2.2.2.2.2.2.2.2.2.2.2.1
theorem dX2_obey_274 : decode cX2_obey 274 = .ok (.aload_n 0, 1) := dr_42  pk_deca_43.2.2.2.2.2.2.2.2.2.2.2.2.2.2.2.2.2.2.1
theorem dX2_obey_275 : decode cX2_obey 275 = .ok (.aload_n 0, 1) := dr_42  pk_deca_43.2.2.2.2.2.2.2.2.2.2.2.2.2.2.2.2.2.2.2.1
theorem dX2_obey_276 : decode cX2_obey 276 = .ok (.getfield 24, 3) := dr_180 0 24  pk_deca_43.2.2.2.2.2.2.2.2.2.2.2.2.2.2.2.2.2.2.2.2.1
theorem dX2_obey_279 : decode cX2_obey 279 = .ok (.putfield 28, 3) := dr_181 0 28  pk_deca_43.2.2.2.2.2.2.2.2.2.2.2.2.2.2.2.2.2.2.2.2.2.1
theorem dX2_obey_282 : decode cX2_obey 282 = .ok (.goto 83, 3) := dr_167 0 83  pk_deca_43.2.2.2.2.2.2.2.2.2.2.2.2.2.2.2.2.2.2.2.2.2.2.1
theorem dX2_obey_285 : decode cX2_obey 285 = .ok (.iload_n 3, 1) := dr_29  pk_deca_43.2.2.2.2.2.2.2.2.2.2.2.2.2.2.2.2.2.2.2.2.2.2.2.1
theorem dX2_obey_286 : decode cX2_obey 286 = .ok (.istore 4, 2) := dr_54  pk_deca_43.2.2.2.2.2.2.2.2.2.2.2.2.2.2.2.2.2.2.2.2.2.2.2.2.1
theorem dX2_obey_288 : decode cX2_obey 288 = .ok (.goto 77, 3) := dr_167 0 77  pk_deca_43.2.2.2.2.2.2.2.2.2.2.2.2.2.2.2.2.2.2.2.2.2.2.2.2.2.1
theorem dX2_obey_291 : decode cX2_obey 291 = .ok (.aload_n 0, 1) := dr_42  pk_deca_43.2.2.2.2.2.2.2.2.2.2.2.2.2.2.2.2.2.2.2.2.2.2.2.2.2.2.1
theorem dX2_obey_292 : decode cX2_obey 292 = .ok (.getfield 24, 3) := dr_180 0 24  pk_deca_43.2.2.2.2.2.2.2.2.2.2.2.2.2.2.2.2.2.2.2.2.2.2.2.2.2.2.2.1
theorem dX2_obey_295 : decode cX2_obey 295 = .ok (.ifCond .ne 7, 3) := dr_154 0 7  pk_deca_43.2.2.2.2.2.2.2.2.2.2.2.2.2.2.2.2.2.2.2.2.2.2.2.2.2.2.2.2.1
theorem dX2_obey_298 : decode cX2_obey 298 = .ok (.iload_n 3, 1) := dr_29  pk_deca_43.2.2.2.2.2.2.2.2.2.2.2.2.2.2.2.2.2.2.2.2.2.2.2.2.2.2.2.2.2.1
theorem dX2_obey_299 : decode cX2_obey 299 = .ok (.goto 5, 3) := dr_167 0 5  pk_deca_43.2.2.2.2.2.2.2.2.2.2.2.2.2.2.2.2.2.2.2.2.2.2.2.2.2.2.2.2.2.2.1
theorem dX2_obey_302 : decode cX2_obey 302 = .ok (.iload 4, 2) := dr_21  pk_deca_43.2.2.2.2.2.2.2.2.2.2.2.2.2.2.2.2.2.2.2.2.2.2.2.2.2.2.2.2.2.2.2
set_option maxRecDepth 20000 in
theorem pk_deca_44 : ((bq cX2_obey 304 54 && bq cX2_obey (304 + 1) 4) = true) ∧ ((bq cX2_obey 306 167 && bq cX2_obey (306 + 1) 0 && bq cX2_obey (306 + 2) 59 && (Reader.signed 16 (0 * 256 + 59) == 59)) = true) ∧ (bq cX2_obey 309 42 = true) ∧ ((bq cX2_obey 310 180 && bq cX2_obey (310 + 1) 0 && bq cX2_obey (310 + 2) 34 && (0 * 256 + 34 == 34)) = true) ∧ ((bq cX2_obey 313 153 && bq cX2_obey (313 + 1) 0 && bq cX2_obey (313 + 2) 7 && (Reader.signed 16 (0 * 256 + 7) == 7)) = true) ∧ (bq cX2_obey 316 29 = true) ∧ ((bq cX2_obey 317 167 && bq cX2_obey (317 + 1) 0 && bq cX2_obey (317 + 2) 5 && (Reader.signed 16 (0 * 256 + 5) == 5)) = true) ∧ ((bq cX2_obey 320 21 && bq cX2_obey (320 + 1) 4) = true) ∧ ((bq cX2_obey 322 54 && bq cX2_obey (322 + 1) 4) = true) ∧ ((bq cX2_obey 324 167 && bq cX2_obey (324 + 1) 0 && bq cX2_obey (324 + 2) 41 && (Reader.signed 16 (0 * 256 + 41) == 41)) = true) ∧ (bq cX2_obey 327 42 = true) ∧ (bq cX2_obey 328 42 = true) ∧ ((bq cX2_obey 329 180 && bq cX2_obey (329 + 1) 0 && bq cX2_obey (329 + 2) 24 && (0 * 256 + 24 == 24)) = true) ∧ (bq cX2_obey 332 29 = true) ∧ (bq cX2_obey 333 96 = true) ∧ ((bq cX2_obey 334 17 && bq cX2_obey (334 + 1) 0 && bq cX2_obey (334 + 2) 255 && (Reader.signed 16 (0 * 256 + 255) == 255)) = true) ∧ (bq cX2_obey 337 126 = true) ∧ ((bq cX2_obey 338 181 && bq cX2_obey (338 + 1) 0 && bq cX2_obey (338 + 2) 24 && (0 * 256 + 24 == 24)) = true) ∧ ((bq cX2_obey 341 167 && bq cX2_obey (341 + 1) 0 && bq cX2_obey (341 + 2) 24 && (Reader.signed 16 (0 * 256 + 24) == 24)) = true) ∧ (bq cX2_obey 344 42 = true) ∧ ((bq cX2_obey 345 180 && bq cX2_obey (345 + 1) 0 && bq cX2_obey (345 + 2) 24 && (0 * 256 + 24 == 24)) = true) ∧ ((bq cX2_obey 348 17 && bq cX2_obey (348 + 1) 0 && bq cX2_obey (348 + 2) 128 && (Reader.signed 16 (0 * 256 + 128) == 128)) = true) ∧ ((bq cX2_obey 351 161 && bq cX2_obey (351 + 1) 0 && bq cX2_obey (351 + 2) 7 && (Reader.signed 16 (0 * 256 + 7) == 7)) = true) ∧ (bq cX2_obey 354 29 = true) ∧ ((bq cX2_obey 355 167 && bq cX2_obey (355 + 1) 0 && bq cX2_obey (355 + 2) 5 && (Reader.signed 16 (0 * 256 + 5) == 5)) = true) ∧ ((bq cX2_obey 358 21 && bq cX2_obey (358 + 1) 4) = true) ∧ ((bq cX2_obey 360 54 && bq cX2_obey (360 + 1) 4) = true) ∧ ((bq cX2_obey 362 167 && bq cX2_obey (362 + 1) 0 && bq cX2_obey (362 + 2) 3 && (Reader.signed 16 (0 * 256 + 3) == 3)) = true) ∧ (bq cX2_obey 365 42 = true) ∧ ((bq cX2_obey 366 21 && bq cX2_obey (366 + 1) 4) = true) ∧ ((bq cX2_obey 368 17 && bq cX2_obey (368 + 1) 0 && bq cX2_obey (368 + 2) 255 && (Reader.signed 16 (0 * 256 + 255) == 255)) = true) ∧ (bq cX2_obey 371 126 = true) := by decide +kernel
theorem dX2_obey_304 : decode cX2_obey 304 = .ok (.istore 4, 2) := dr_54  pk_deca_44.1
theorem dX2_obey_306 : decode cX2_obey 306 = .ok (.goto 59, 3) := dr_167 0 59  pk_deca_44.2.1
theorem dX2_obey_309 : decode cX2_obey 309 = .ok (.aload_n 0, 1) := dr_42  pk_deca_44.2.2.1
theorem dX2_obey_310 : decode cX2_obey 310 = .ok (.getfield 34, 3) := dr_180 0 34  pk_deca_44.2.2.2.1
theorem dX2_obey_313 : decode cX2_obey 313 = .ok (.ifCond .eq 7, 3) := dr_153 0 7  pk_deca_44.2.2.2.2.1
theorem dX2_obey_316 : decode cX2_obey 316 = .ok (.iload_n 3, 1) := dr_29  pk_deca_44.2.2.2.2.2.1
theorem dX2_obey_317 : decode cX2_obey 317 = .ok (.goto 5, 3) := dr_167 0 5  pk_deca_44.2.2.2.2.2.2.1
theorem dX2_obey_320 : decode cX2_obey 320 = .ok (.iload 4, 2) := dr_21  pk_deca_44.2.2.2.2.2.2.2.1
theorem dX2_obey_322 : decode cX2_obey 322 = .ok (.istore 4, 2) := dr_54  pk_deca_44.2.2.2.2.2.2.2.2.1
theorem dX2_obey_324 : decode cX2_obey 324 = .ok (.goto 41, 3) := dr_167 0 41  pk_deca_44.2.2.2.2.2.2.2.2.2.1
theorem dX2_obey_327 : decode cX2_obey 327 = .ok (.aload_n 0, 1) := dr_42  pk_deca_44.2.2.2.2.2.2.2.2.2.2.1
theorem dX2_obey_328 : decode cX2_obey 328 = .ok (.aload_n 0, 1) := dr_42  pk_deca_44.2.2.2.2.2.2.2.2.2.2.2.1
theorem dX2_obey_329 : decode cX2_obey 329 = .ok (.getfield 24, 3) := dr_180 0 24  pk_deca_44.2.2.2.2.2.2.2.2.2.2.2.2.1
theorem dX2_obey_332 : decode cX2_obey 332 = .ok (.iload_n 3, 1) := dr_29  pk_deca_44.2.2.2.2.2.2.2.2.2.2.2.2.2.1
theorem dX2_obey_333 : decode cX2_obey 333 = .ok (.iadd, 1) := dr_96  pk_deca_44.2.2.2.2.2.2.2.2.2.2.2.2.2.2.1
theorem dX2_obey_334 : decode cX2_obey 334 = .ok (.sipush 255, 3) := dr_17 0 255  pk_deca_44.2.2.2.2.2.2.2.2.2.2.2.2.2.2.2.1
theorem dX2_obey_337 : decode cX2_obey 337 = .ok (.iand, 1) := dr_126  pk_deca_44.2.2.2.2.2.2.2.2.2.2.2.2.2.2.2.2.1
theorem dX2_obey_338 : decode cX2_obey 338 = .ok (.putfield 24, 3) := dr_181 0 24  pk_deca_44.2.2.2.2.2.2.2.2.2.2.2.2.2.2.2.2.2.1
theorem dX2_obey_341 : decode cX2_obey 341 = .ok (.goto 24, 3) := dr_167 0 24  pk_deca_44.2.2.2.2.2.2.2.2.2.2.2.2.2.2.2.2.2.2.1
theorem dX2_obey_344 : decode cX2_obey 344 = .ok (.aload_n 0, 1) := dr_42  pk_deca_44.2.2.2.2.2.2.2.2.2.2.2.2.2.2.2.2.2.2.2.1
theorem dX2_obey_345 : decode cX2_obey 345 = .ok (.getfield 24, 3) := dr_180 0 24  pk_deca_44.2.2.2.2.2.2.2.2.2.2.2.2.2.2.2.2.2.2.2.2.1
theorem dX2_obey_348 : decode cX2_obey 348 = .ok (.sipush 128, 3) := dr_17 0 128  pk_deca_44.2.2.2.2.2.2.2.2.2.2.2.2.2.2.2.2.2.2.2.2.2.1
theorem dX2_obey_351 : decode cX2_obey 351 = .ok (.if_icmp .lt 7, 3) := dr_161 0 7  pk_deca_44.2.2.2.2.2.2.2.2.2.2.2.2.2.2.2.2.2.2.2.2.2.2.1
theorem dX2_obey_354 : decode cX2_obey 354 = .ok (.iload_n 3, 1) := dr_29  pk_deca_44.2.2.2.2.2.2.2.2.2.2.2.2.2.2.2.2.2.2.2.2.2.2.2.1
theorem dX2_obey_355 : decode cX2_obey 355 = .ok (.goto 5, 3) := dr_167 0 5  pk_deca_44.2.2.2.2.2.2.2.2.2.2.2.2.2.2.2.2.2.2.2.2.2.2.2.2.1
theorem dX2_obey_358 : decode cX2_obey 358 = .ok (.iload 4, 2) := dr_21  pk_deca_44.2.2.2.2.2.2.2.2.2.2.2.2.2.2.2.2.2.2.2.2.2.2.2.2.2.1
theorem dX2_obey_360 : decode cX2_obey 360 = .ok (.istore 4, 2) := dr_54  pk_deca_44.2.2.2.2.2.2.2.2.2.2.2.2.2.2.2.2.2.2.2.2.2.2.2.2.2.2.1
theorem dX2_obey_362 : decode cX2_obey 362 = .ok (.goto 3, 3) := dr_167 0 3  pk_deca_44.2.2.2.2.2.2.2.2.2.2.2.2.2.2.2.2.2.2.2.2.2.2.2.2.2.2.2.1
theorem dX2_obey_365 : decode cX2_obey 365 = .ok (.aload_n 0, 1) := dr_42  pk_deca_44.2.2.2.2.2.2.2.2.2.2.2.2.2.2.2.2.2.2.2.2.2.2.2.2.2.2.2.2.1
theorem dX2_obey_366 : decode cX2_obey 366 = .ok (.iload 4, 2) := dr_21  pk_deca_44.2.2.2.2.2.2.2.2.2.2.2.2.2.2.2.2.2.2.2.2.2.2.2.2.2.2.2.2.2.1
theorem dX2_obey_368 : decode cX2_obey 368 = .ok (.sipush 255, 3) := dr_17 0 255  pk_deca_44.2.2.2.2.2.2.2.2.2.2.2.2.2.2.2.2.2.2.2.2.2.2.2.2.2.2.2.2.2.2.1
theorem dX2_obey_371 : decode cX2_obey 371 = .ok (.iand, 1) := dr_126  pk_deca_44.2.2.2.2.2.2.2.2.2.2.2.2.2.2.2.2.2.2.2.2.2.2.2.2.2.2.2.2.2.2.2
set_option maxRecDepth 20000 in
theorem pk_deca_45 : ((bq cX2_obey 372 181 && bq cX2_obey (372 + 1) 0 && bq cX2_obey (372 + 2) 31 && (0 * 256 + 31 == 31)) = true) ∧ (bq cX2_obey 375 177 = true) := by decide +kernel
theorem dX2_obey_372 : decode cX2_obey 372 = .ok (.putfield 31, 3) := dr_181 0 31  pk_deca_45.1
theorem dX2_obey_375 : decode cX2_obey 375 = .ok (.return_, 1) := dr_177  pk_deca_45.2
set_option maxRecDepth 20000 in
theorem pk_deca_46 : (bq cX2_take 0 27 = true) ∧ (bq cX2_take 1 2 = true) ∧ ((bq cX2_take 2 160 && bq cX2_take (2 + 1) 0 && bq cX2_take (2 + 2) 16 && (Reader.signed 16 (0 * 256 + 16) == 16)) = true) ∧ (bq cX2_take 5 42 = true) ∧ (bq cX2_take 6 3 = true) ∧ ((bq cX2_take 7 181 && bq cX2_take (7 + 1) 0 && bq cX2_take (7 + 2) 24 && (0 * 256 + 24 == 24)) = true) ∧ (bq cX2_take 10 42 = true) ∧ (bq cX2_take 11 4 = true) ∧ ((bq cX2_take 12 181 && bq cX2_take (12 + 1) 0 && bq cX2_take (12 + 2) 34 && (0 * 256 + 34 == 34)) = true) ∧ ((bq cX2_take 15 167 && bq cX2_take (15 + 1) 0 && bq cX2_take (15 + 2) 18 && (Reader.signed 16 (0 * 256 + 18) == 18)) = true) ∧ (bq cX2_take 18 42 = true) ∧ (bq cX2_take 19 27 = true) ∧ ((bq cX2_take 20 181 && bq cX2_take (20 + 1) 0 && bq cX2_take (20 + 2) 24 && (0 * 256 + 24 == 24)) = true) ∧ (bq cX2_take 23 42 = true) ∧ (bq cX2_take 24 89 = true) ∧ ((bq cX2_take 25 180 && bq cX2_take (25 + 1) 0 && bq cX2_take (25 + 2) 41 && (0 * 256 + 41 == 41)) = true) ∧ (bq cX2_take 28 4 = true) ∧ (bq cX2_take 29 96 = true) ∧ ((bq cX2_take 30 181 && bq cX2_take (30 + 1) 0 && bq cX2_take (30 + 2) 41 && (0 * 256 + 41 == 41)) = true) ∧ (bq cX2_take 33 177 = true) := by decide +kernel
theorem dX2_take_0 : decode cX2_take 0 = .ok (.iload_n 1, 1) := dr_27  pk_deca_46.1
theorem dX2_take_1 : decode cX2_take 1 = .ok (.iconst (-1), 1) := dr_2  pk_deca_46.2.1
theorem dX2_take_2 : decode cX2_take 2 = .ok (.if_icmp .ne 16, 3) := dr_160 0 16  pk_deca_46.2.2.1
theorem dX2_take_5 : decode cX2_take 5 = .ok (.aload_n 0, 1) := dr_42  pk_deca_46.2.2.2.1
theorem dX2_take_6 : decode cX2_take 6 = .ok (.iconst 0, 1) := dr_3  pk_deca_46.2.2.2.2.1
theorem dX2_take_7 : decode cX2_take 7 = .ok (.putfield 24, 3) := dr_181 0 24  pk_deca_46.2.2.2.2.2.1
theorem dX2_take_10 : decode cX2_take 10 = .ok (.aload_n 0, 1) := dr_42  pk_deca_46.2.2.2.2.2.2.1
theorem dX2_take_11 : decode cX2_take 11 = .ok (.iconst 1, 1) := dr_4  pk_deca_46.2.2.2.2.2.2.2.1
theorem dX2_take_12 : decode cX2_take 12 = .ok (.putfield 34, 3) := dr_181 0 34  pk_deca_46.2.2.2.2.2.2.2.2.1
theorem dX2_take_15 : decode cX2_take 15 = .ok (.goto 18, 3) := dr_167 0 18  pk_deca_46.2.2.2.2.2.2.2.2.2.1
theorem dX2_take_18 : decode cX2_take 18 = .ok (.aload_n 0, 1) := dr_42  pk_deca_46.2.2.2.2.2.2.2.2.2.2.1
theorem dX2_take_19 : decode cX2_take 19 = .ok (.iload_n 1, 1) := dr_27  pk_deca_46.2.2.2.2.2.2.2.2.2.2.2.1
theorem dX2_take_20 : decode cX2_take 20 = .ok (.putfield 24, 3) := dr_181 0 24  pk_deca_46.2.2.2.2.2.2.2.2.2.2.2.2.1
theorem dX2_take_23 : decode cX2_take 23 = .ok (.aload_n 0, 1) := dr_42  pk_deca_46.2.2.2.2.2.2.2.2.2.2.2.2.2.1
theorem dX2_take_24 : decode cX2_take 24 = .ok (.dup, 1) := dr_89  pk_deca_46.2.2.2.2.2.2.2.2.2.2.2.2.2.2.1
theorem dX2_take_25 : decode cX2_take 25 = .ok (.getfield 41, 3) := dr_180 0 41  pk_deca_46.2.2.2.2.2.2.2.2.2.2.2.2.2.2.2.1
theorem dX2_take_28 : decode cX2_take 28 = .ok (.iconst 1, 1) := dr_4  pk_deca_46.2.2.2.2.2.2.2.2.2.2.2.2.2.2.2.2.1
theorem dX2_take_29 : decode cX2_take 29 = .ok (.iadd, 1) := dr_96  pk_deca_46.2.2.2.2.2.2.2.2.2.2.2.2.2.2.2.2.2.1
theorem dX2_take_30 : decode cX2_take 30 = .ok (.putfield 41, 3) := dr_181 0 41  pk_deca_46.2.2.2.2.2.2.2.2.2.2.2.2.2.2.2.2.2.2.1
theorem dX2_take_33 : decode cX2_take 33 = .ok (.return_, 1) := dr_177  pk_deca_46.2.2.2.2.2.2.2.2.2.2.2.2.2.2.2.2.2.2.2
set_option maxRecDepth 20000 in
theorem pk_deca_47 : (bq cX3_init 0 42 = true) ∧ ((bq cX3_init 1 183 && bq cX3_init (1 + 1) 0 && bq cX3_init (1 + 2) 3 && (0 * 256 + 3 == 3)) = true) ∧ (bq cX3_init 4 42 = true) ∧ ((bq cX3_init 5 187 && bq cX3_init (5 + 1) 0 && bq cX3_init (5 + 2) 9 && (0 * 256 + 9 == 9)) = true) ∧ (bq cX3_init 8 89 = true) ∧ ((bq cX3_init 9 17 && bq cX3_init (9 + 1) 1 && bq cX3_init (9 + 2) 0 && (Reader.signed 16 (1 * 256 + 0) == 256)) = true) ∧ ((bq cX3_init 12 183 && bq cX3_init (12 + 1) 0 && bq cX3_init (12 + 2) 11 && (0 * 256 + 11 == 11)) = true) ∧ ((bq cX3_init 15 181 && bq cX3_init (15 + 1) 0 && bq cX3_init (15 + 2) 14 && (0 * 256 + 14 == 14)) = true) ∧ (bq cX3_init 18 177 = true) := by decide +kernel
theorem dX3_init_0 : decode cX3_init 0 = .ok (.aload_n 0, 1) := dr_42  pk_deca_47.1
theorem dX3_init_1 : decode cX3_init 1 = .ok (.invokespecial 3, 3) := dr_183 0 3  pk_deca_47.2.1
theorem dX3_init_4 : decode cX3_init 4 = .ok (.aload_n 0, 1) := dr_42  pk_deca_47.2.2.1
theorem dX3_init_5 : decode cX3_init 5 = .ok (.new 9, 3) := dr_187 0 9  pk_deca_47.2.2.2.1
theorem dX3_init_8 : decode cX3_init 8 = .ok (.dup, 1) := dr_89  pk_deca_47.2.2.2.2.1
theorem dX3_init_9 : decode cX3_init 9 = .ok (.sipush 256, 3) := dr_17 1 0  pk_deca_47.2.2.2.2.2.1
theorem dX3_init_12 : decode cX3_init 12 = .ok (.invokespecial 11, 3) := dr_183 0 11  pk_deca_47.2.2.2.2.2.2.1
theorem dX3_init_15 : decode cX3_init 15 = .ok (.putfield 14, 3) := dr_181 0 14  pk_deca_47.2.2.2.2.2.2.2.1
theorem dX3_init_18 : decode cX3_init 18 = .ok (.return_, 1) := dr_177  pk_deca_47.2.2.2.2.2.2.2.2
set_option maxRecDepth 20000 in
theorem pk_deca_48 : (bq cX4_init 0 42 = true) ∧ ((bq cX4_init 1 183 && bq cX4_init (1 + 1) 0 && bq cX4_init (1 + 2) 3 && (0 * 256 + 3 == 3)) = true) ∧ (bq cX4_init 4 42 = true) ∧ ((bq cX4_init 5 16 && bq cX4_init (5 + 1) 26 && (Reader.signed 8 26 == 26)) = true) := by decide +kernel
theorem dX4_init_0 : decode cX4_init 0 = .ok (.aload_n 0, 1) := dr_42  pk_deca_48.1
theorem dX4_init_1 : decode cX4_init 1 = .ok (.invokespecial 3, 3) := dr_183 0 3  pk_deca_48.2.1
theorem dX4_init_4 : decode cX4_init 4 = .ok (.aload_n 0, 1) := dr_42  pk_deca_48.2.2.1
theorem dX4_init_5 : decode cX4_init 5 = .ok (.bipush 26, 2) := dr_16 26  pk_deca_48.2.2.2
theorem dX4_init_7 : decode cX4_init 7 = .ok (.newarray .int, 2) := by decide +kernel
set_option maxRecDepth 20000 in
theorem pk_deca_49 : ((bq cX4_init 9 181 && bq cX4_init (9 + 1) 0 && bq cX4_init (9 + 2) 11 && (0 * 256 + 11 == 11)) = true) ∧ (bq cX4_init 12 42 = true) ∧ ((bq cX4_init 13 17 && bq cX4_init (13 + 1) 1 && bq cX4_init (13 + 2) 0 && (Reader.signed 16 (1 * 256 + 0) == 256)) = true) := by decide +kernel
theorem dX4_init_9 : decode cX4_init 9 = .ok (.putfield 11, 3) := dr_181 0 11  pk_deca_49.1
theorem dX4_init_12 : decode cX4_init 12 = .ok (.aload_n 0, 1) := dr_42  pk_deca_49.2.1
theorem dX4_init_13 : decode cX4_init 13 = .ok (.sipush 256, 3) := dr_17 1 0  pk_deca_49.2.2
theorem dX4_init_16 : decode cX4_init 16 = .ok (.newarray .int, 2) := by decide +kernel
set_option maxRecDepth 20000 in
theorem pk_deca_50 : ((bq cX4_init 18 181 && bq cX4_init (18 + 1) 0 && bq cX4_init (18 + 2) 15 && (0 * 256 + 15 == 15)) = true) ∧ (bq cX4_init 21 42 = true) ∧ (bq cX4_init 22 3 = true) ∧ ((bq cX4_init 23 181 && bq cX4_init (23 + 1) 0 && bq cX4_init (23 + 2) 18 && (0 * 256 + 18 == 18)) = true) ∧ (bq cX4_init 26 42 = true) ∧ ((bq cX4_init 27 16 && bq cX4_init (27 + 1) 247 && (Reader.signed 8 247 == (-9))) = true) ∧ ((bq cX4_init 29 181 && bq cX4_init (29 + 1) 0 && bq cX4_init (29 + 2) 22 && (0 * 256 + 22 == 22)) = true) ∧ (bq cX4_init 32 177 = true) := by decide +kernel
theorem dX4_init_18 : decode cX4_init 18 = .ok (.putfield 15, 3) := dr_181 0 15  pk_deca_50.1
theorem dX4_init_21 : decode cX4_init 21 = .ok (.aload_n 0, 1) := dr_42  pk_deca_50.2.1
theorem dX4_init_22 : decode cX4_init 22 = .ok (.iconst 0, 1) := dr_3  pk_deca_50.2.2.1
theorem dX4_init_23 : decode cX4_init 23 = .ok (.putfield 18, 3) := dr_181 0 18  pk_deca_50.2.2.2.1
theorem dX4_init_26 : decode cX4_init 26 = .ok (.aload_n 0, 1) := dr_42  pk_deca_50.2.2.2.2.1
theorem dX4_init_27 : decode cX4_init 27 = .ok (.bipush (-9), 2) := dr_16 247  pk_deca_50.2.2.2.2.2.1
theorem dX4_init_29 : decode cX4_init 29 = .ok (.putfield 22, 3) := dr_181 0 22  pk_deca_50.2.2.2.2.2.2.1
theorem dX4_init_32 : decode cX4_init 32 = .ok (.return_, 1) := dr_177  pk_deca_50.2.2.2.2.2.2.2
set_option maxRecDepth 20000 in
theorem pk_deca_51 : (bq cX4_faultIn 0 42 = true) ∧ ((bq cX4_faultIn 1 182 && bq cX4_faultIn (1 + 1) 0 && bq cX4_faultIn (1 + 2) 25 && (0 * 256 + 25 == 25)) = true) ∧ (bq cX4_faultIn 4 43 = true) ∧ (bq cX4_faultIn 5 3 = true) ∧ ((bq cX4_faultIn 6 182 && bq cX4_faultIn (6 + 1) 0 && bq cX4_faultIn (6 + 2) 28 && (0 * 256 + 28 == 28)) = true) ∧ (bq cX4_faultIn 9 61 = true) ∧ (bq cX4_faultIn 10 3 = true) ∧ (bq cX4_faultIn 11 62 = true) ∧ (bq cX4_faultIn 12 29 = true) ∧ ((bq cX4_faultIn 13 17 && bq cX4_faultIn (13 + 1) 0 && bq cX4_faultIn (13 + 2) 200 && (Reader.signed 16 (0 * 256 + 200) == 200)) = true) ∧ ((bq cX4_faultIn 16 162 && bq cX4_faultIn (16 + 1) 0 && bq cX4_faultIn (16 + 2) 51 && (Reader.signed 16 (0 * 256 + 51) == 51)) = true) ∧ (bq cX4_faultIn 19 28 = true) ∧ (bq cX4_faultIn 20 43 = true) ∧ ((bq cX4_faultIn 21 180 && bq cX4_faultIn (21 + 1) 0 && bq cX4_faultIn (21 + 2) 34 && (0 * 256 + 34 == 34)) = true) ∧ ((bq cX4_faultIn 24 162 && bq cX4_faultIn (24 + 1) 0 && bq cX4_faultIn (24 + 2) 43 && (Reader.signed 16 (0 * 256 + 43) == 43)) = true) ∧ (bq cX4_faultIn 27 43 = true) ∧ (bq cX4_faultIn 28 28 = true) ∧ ((bq cX4_faultIn 29 184 && bq cX4_faultIn (29 + 1) 0 && bq cX4_faultIn (29 + 2) 37 && (0 * 256 + 37 == 37)) = true) ∧ ((bq cX4_faultIn 32 54 && bq cX4_faultIn (32 + 1) 4) = true) ∧ ((bq cX4_faultIn 34 21 && bq cX4_faultIn (34 + 1) 4) = true) ∧ ((bq cX4_faultIn 36 153 && bq cX4_faultIn (36 + 1) 0 && bq cX4_faultIn (36 + 2) 14 && (Reader.signed 16 (0 * 256 + 14) == 14)) = true) ∧ (bq cX4_faultIn 39 42 = true) ∧ (bq cX4_faultIn 40 43 = true) ∧ (bq cX4_faultIn 41 28 = true) ∧ ((bq cX4_faultIn 42 21 && bq cX4_faultIn (42 + 1) 4) = true) ∧ ((bq cX4_faultIn 44 182 && bq cX4_faultIn (44 + 1) 0 && bq cX4_faultIn (44 + 2) 41 && (0 * 256 + 41 == 41)) = true) ∧ ((bq cX4_faultIn 47 154 && bq cX4_faultIn (47 + 1) 0 && bq cX4_faultIn (47 + 2) 5 && (Reader.signed 16 (0 * 256 + 5) == 5)) = true) ∧ (bq cX4_faultIn 50 28 = true) ∧ (bq cX4_faultIn 51 172 = true) ∧ (bq cX4_faultIn 52 43 = true) ∧ (bq cX4_faultIn 53 28 = true) ∧ ((bq cX4_faultIn 54 21 && bq cX4_faultIn (54 + 1) 4) = true) := by decide +kernel
theorem dX4_faultIn_0 : decode cX4_faultIn 0 = .ok (.aload_n 0, 1) := dr_42  pk_deca_51.1
theorem dX4_faultIn_1 : decode cX4_faultIn 1 = .ok (.invokevirtual 25, 3) := dr_182 0 25  pk_deca_51.2.1
theorem dX4_faultIn_4 : decode cX4_faultIn 4 = .ok (.aload_n 1, 1) := dr_43  pk_deca_51.2.2.1
theorem dX4_faultIn_5 : decode cX4_faultIn 5 = .ok (.iconst 0, 1) := dr_3  pk_deca_51.2.2.2.1
theorem dX4_faultIn_6 : decode cX4_faultIn 6 = .ok (.invokevirtual 28, 3) := dr_182 0 28  pk_deca_51.2.2.2.2.1
theorem dX4_faultIn_9 : decode cX4_faultIn 9 = .ok (.istore_n 2, 1) := dr_61  pk_deca_51.2.2.2.2.2.1
theorem dX4_faultIn_10 : decode cX4_faultIn 10 = .ok (.iconst 0, 1) := dr_3  pk_deca_51.2.2.2.2.2.2.1
theorem dX4_faultIn_11 : decode cX4_faultIn 11 = .ok (.istore_n 3, 1) := dr_62  pk_deca_51.2.2.2.2.2.2.2.1
theorem dX4_faultIn_12 : decode cX4_faultIn 12 = .ok (.iload_n 3, 1) := dr_29  pk_deca_51.2.2.2.2.2.2.2.2.1
theorem dX4_faultIn_13 : decode cX4_faultIn 13 = .ok (.sipush 200, 3) := dr_17 0 200  pk_deca_51.2.2.2.2.2.2.2.2.2.1
theorem dX4_faultIn_16 : decode cX4_faultIn 16 = .ok (.if_icmp .ge 51, 3) := dr_162 0 51  pk_deca_51.2.2.2.2.2.2.2.2.2.2.1
theorem dX4_faultIn_19 : decode cX4_faultIn 19 = .ok (.iload_n 2, 1) := dr_28  pk_deca_51.2.2.2.2.2.2.2.2.2.2.2.1
theorem dX4_faultIn_20 : decode cX4_faultIn 20 = .ok (.aload_n 1, 1) := dr_43  pk_deca_51.2.2.2.2.2.2.2.2.2.2.2.2.1
theorem dX4_faultIn_21 : decode cX4_faultIn 21 = .ok (.getfield 34, 3) := dr_180 0 34  pk_deca_51.2.2.2.2.2.2.2.2.2.2.2.2.2.1
theorem dX4_faultIn_24 : decode cX4_faultIn 24 = .ok (.if_icmp .ge 43, 3) := dr_162 0 43  pk_deca_51.2.2.2.2.2.2.2.2.2.2.2.2.2.2.1
theorem dX4_faultIn_27 : decode cX4_faultIn 27 = .ok (.aload_n 1, 1) := dr_43  pk_deca_51.2.2.2.2.2.2.2.2.2.2.2.2.2.2.2.1
theorem dX4_faultIn_28 : decode cX4_faultIn 28 = .ok (.iload_n 2, 1) := dr_28  pk_deca_51.2.2.2.2.2.2.2.2.2.2.2.2.2.2.2.2.1
theorem dX4_faultIn_29 : decode cX4_faultIn 29 = .ok (.invokestatic 37, 3) := dr_184 0 37  pk_deca_51.2.2.2.2.2.2.2.2.2.2.2.2.2.2.2.2.2.1
theorem dX4_faultIn_32 : decode cX4_faultIn 32 = .ok (.istore 4, 2) := dr_54  pk_deca_51.2.2.2.2.2.2.2.2.2.2.2.2.2.2.2.2.2.2.1
theorem dX4_faultIn_34 : decode cX4_faultIn 34 = .ok (.iload 4, 2) := dr_21  pk_deca_51.2.2.2.2.2.2.2.2.2.2.2.2.2.2.2.2.2.2.2.1
theorem dX4_faultIn_36 : decode cX4_faultIn 36 = .ok (.ifCond .eq 14, 3) := dr_153 0 14  pk_deca_51.2.2.2.2.2.2.2.2.2.2.2.2.2.2.2.2.2.2.2.2.1
theorem dX4_faultIn_39 : decode cX4_faultIn 39 = .ok (.aload_n 0, 1) := dr_42  pk_deca_51.2.2.2.2.2.2.2.2.2.2.2.2.2.2.2.2.2.2.2.2.2.1
theorem dX4_faultIn_40 : decode cX4_faultIn 40 = .ok (.aload_n 1, 1) := dr_43  pk_deca_51.2.2.2.2.2.2.2.2.2.2.2.2.2.2.2.2.2.2.2.2.2.2.1
theorem dX4_faultIn_41 : decode cX4_faultIn 41 = .ok (.iload_n 2, 1) := dr_28  pk_deca_51.2.2.2.2.2.2.2.2.2.2.2.2.2.2.2.2.2.2.2.2.2.2.2.1
theorem dX4_faultIn_42 : decode cX4_faultIn 42 = .ok (.iload 4, 2) := dr_21  pk_deca_51.2.2.2.2.2.2.2.2.2.2.2.2.2.2.2.2.2.2.2.2.2.2.2.2.1
theorem dX4_faultIn_44 : decode cX4_faultIn 44 = .ok (.invokevirtual 41, 3) := dr_182 0 41  pk_deca_51.2.2.2.2.2.2.2.2.2.2.2.2.2.2.2.2.2.2.2.2.2.2.2.2.2.1
theorem dX4_faultIn_47 : decode cX4_faultIn 47 = .ok (.ifCond .ne 5, 3) := dr_154 0 5  pk_deca_51.2.2.2.2.2.2.2.2.2.2.2.2.2.2.2.2.2.2.2.2.2.2.2.2.2.2.1
theorem dX4_faultIn_50 : decode cX4_faultIn 50 = .ok (.iload_n 2, 1) := dr_28  pk_deca_51.2.2.2.2.2.2.2.2.2.2.2.2.2.2.2.2.2.2.2.2.2.2.2.2.2.2.2.1
theorem dX4_faultIn_51 : decode cX4_faultIn 51 = .ok (.ireturn, 1) := dr_172  pk_deca_51.2.2.2.2.2.2.2.2.2.2.2.2.2.2.2.2.2.2.2.2.2.2.2.2.2.2.2.2.1
theorem dX4_faultIn_52 : decode cX4_faultIn 52 = .ok (.aload_n 1, 1) := dr_43  pk_deca_51.2.2.2.2.2.2.2.2.2.2.2.2.2.2.2.2.2.2.2.2.2.2.2.2.2.2.2.2.2.1
theorem dX4_faultIn_53 : decode cX4_faultIn 53 = .ok (.iload_n 2, 1) := dr_28  pk_deca_51.2.2.2.2.2.2.2.2.2.2.2.2.2.2.2.2.2.2.2.2.2.2.2.2.2.2.2.2.2.2.1
theorem dX4_faultIn_54 : decode cX4_faultIn 54 = .ok (.iload 4, 2) := dr_21  pk_deca_51.2.2.2.2.2.2.2.2.2.2.2.2.2.2.2.2.2.2.2.2.2.2.2.2.2.2.2.2.2.2.2
set_option maxRecDepth 20000 in
theorem pk_deca_52 : (bq cX4_faultIn 56 96 = true) ∧ ((bq cX4_faultIn 57 182 && bq cX4_faultIn (57 + 1) 0 && bq cX4_faultIn (57 + 2) 28 && (0 * 256 + 28 == 28)) = true) ∧ (bq cX4_faultIn 60 61 = true) := by decide +kernel
theorem dX4_faultIn_56 : decode cX4_faultIn 56 = .ok (.iadd, 1) := dr_96  pk_deca_52.1
theorem dX4_faultIn_57 : decode cX4_faultIn 57 = .ok (.invokevirtual 28, 3) := dr_182 0 28  pk_deca_52.2.1
theorem dX4_faultIn_60 : decode cX4_faultIn 60 = .ok (.istore_n 2, 1) := dr_61  pk_deca_52.2.2
theorem dX4_faultIn_61 : decode cX4_faultIn 61 = .ok (.iinc 3 1, 3) := by decide +kernel
set_option maxRecDepth 20000 in
theorem pk_deca_53 : ((bq cX4_faultIn 64 167 && bq cX4_faultIn (64 + 1) 255 && bq cX4_faultIn (64 + 2) 204 && (Reader.signed 16 (255 * 256 + 204) == (-52))) = true) ∧ (bq cX4_faultIn 67 42 = true) ∧ ((bq cX4_faultIn 68 180 && bq cX4_faultIn (68 + 1) 0 && bq cX4_faultIn (68 + 2) 18 && (0 * 256 + 18 == 18)) = true) ∧ ((bq cX4_faultIn 71 154 && bq cX4_faultIn (71 + 1) 0 && bq cX4_faultIn (71 + 2) 13 && (Reader.signed 16 (0 * 256 + 13) == 13)) = true) ∧ (bq cX4_faultIn 74 42 = true) ∧ ((bq cX4_faultIn 75 180 && bq cX4_faultIn (75 + 1) 0 && bq cX4_faultIn (75 + 2) 45 && (0 * 256 + 45 == 45)) = true) ∧ ((bq cX4_faultIn 78 180 && bq cX4_faultIn (78 + 1) 0 && bq cX4_faultIn (78 + 2) 49 && (0 * 256 + 49 == 49)) = true) ∧ ((bq cX4_faultIn 81 154 && bq cX4_faultIn (81 + 1) 0 && bq cX4_faultIn (81 + 2) 8 && (Reader.signed 16 (0 * 256 + 8) == 8)) = true) ∧ (bq cX4_faultIn 84 43 = true) ∧ ((bq cX4_faultIn 85 180 && bq cX4_faultIn (85 + 1) 0 && bq cX4_faultIn (85 + 2) 34 && (0 * 256 + 34 == 34)) = true) ∧ (bq cX4_faultIn 88 172 = true) ∧ (bq cX4_faultIn 89 42 = true) ∧ ((bq cX4_faultIn 90 182 && bq cX4_faultIn (90 + 1) 0 && bq cX4_faultIn (90 + 2) 52 && (0 * 256 + 52 == 52)) = true) ∧ (bq cX4_faultIn 93 172 = true) := by decide +kernel
theorem dX4_faultIn_64 : decode cX4_faultIn 64 = .ok (.goto (-52), 3) := dr_167 255 204  pk_deca_53.1
theorem dX4_faultIn_67 : decode cX4_faultIn 67 = .ok (.aload_n 0, 1) := dr_42  pk_deca_53.2.1
theorem dX4_faultIn_68 : decode cX4_faultIn 68 = .ok (.getfield 18, 3) := dr_180 0 18  pk_deca_53.2.2.1
theorem dX4_faultIn_71 : decode cX4_faultIn 71 = .ok (.ifCond .ne 13, 3) := dr_154 0 13  pk_deca_53.2.2.2.1
theorem dX4_faultIn_74 : decode cX4_faultIn 74 = .ok (.aload_n 0, 1) := dr_42  pk_deca_53.2.2.2.2.1
theorem dX4_faultIn_75 : decode cX4_faultIn 75 = .ok (.getfield 45, 3) := dr_180 0 45  pk_deca_53.2.2.2.2.2.1
theorem dX4_faultIn_78 : decode cX4_faultIn 78 = .ok (.getfield 49, 3) := dr_180 0 49  pk_deca_53.2.2.2.2.2.2.1
theorem dX4_faultIn_81 : decode cX4_faultIn 81 = .ok (.ifCond .ne 8, 3) := dr_154 0 8  pk_deca_53.2.2.2.2.2.2.2.1
theorem dX4_faultIn_84 : decode cX4_faultIn 84 = .ok (.aload_n 1, 1) := dr_43  pk_deca_53.2.2.2.2.2.2.2.2.1
theorem dX4_faultIn_85 : decode cX4_faultIn 85 = .ok (.getfield 34, 3) := dr_180 0 34  pk_deca_53.2.2.2.2.2.2.2.2.2.1
theorem dX4_faultIn_88 : decode cX4_faultIn 88 = .ok (.ireturn, 1) := dr_172  pk_deca_53.2.2.2.2.2.2.2.2.2.2.1
theorem dX4_faultIn_89 : decode cX4_faultIn 89 = .ok (.aload_n 0, 1) := dr_42  pk_deca_53.2.2.2.2.2.2.2.2.2.2.2.1
theorem dX4_faultIn_90 : decode cX4_faultIn 90 = .ok (.invokevirtual 52, 3) := dr_182 0 52  pk_deca_53.2.2.2.2.2.2.2.2.2.2.2.2.1
theorem dX4_faultIn_93 : decode cX4_faultIn 93 = .ok (.ireturn, 1) := dr_172  pk_deca_53.2.2.2.2.2.2.2.2.2.2.2.2.2
set_option maxRecDepth 20000 in
theorem pk_deca_54 : (bq cX4_begin 0 42 = true) ∧ ((bq cX4_begin 1 180 && bq cX4_begin (1 + 1) 0 && bq cX4_begin (1 + 2) 45 && (0 * 256 + 45 == 45)) = true) ∧ (bq cX4_begin 4 3 = true) ∧ ((bq cX4_begin 5 181 && bq cX4_begin (5 + 1) 0 && bq cX4_begin (5 + 2) 49 && (0 * 256 + 49 == 49)) = true) ∧ (bq cX4_begin 8 42 = true) ∧ (bq cX4_begin 9 3 = true) ∧ ((bq cX4_begin 10 181 && bq cX4_begin (10 + 1) 0 && bq cX4_begin (10 + 2) 18 && (0 * 256 + 18 == 18)) = true) ∧ (bq cX4_begin 13 42 = true) ∧ ((bq cX4_begin 14 16 && bq cX4_begin (14 + 1) 247 && (Reader.signed 8 247 == (-9))) = true) ∧ ((bq cX4_begin 16 181 && bq cX4_begin (16 + 1) 0 && bq cX4_begin (16 + 2) 22 && (0 * 256 + 22 == 22)) = true) ∧ (bq cX4_begin 19 3 = true) ∧ (bq cX4_begin 20 60 = true) ∧ (bq cX4_begin 21 27 = true) ∧ ((bq cX4_begin 22 16 && bq cX4_begin (22 + 1) 26 && (Reader.signed 8 26 == 26)) = true) ∧ ((bq cX4_begin 24 162 && bq cX4_begin (24 + 1) 0 && bq cX4_begin (24 + 2) 17 && (Reader.signed 16 (0 * 256 + 17) == 17)) = true) ∧ (bq cX4_begin 27 42 = true) ∧ ((bq cX4_begin 28 180 && bq cX4_begin (28 + 1) 0 && bq cX4_begin (28 + 2) 11 && (0 * 256 + 11 == 11)) = true) ∧ (bq cX4_begin 31 27 = true) ∧ ((bq cX4_begin 32 16 && bq cX4_begin (32 + 1) 247 && (Reader.signed 8 247 == (-9))) = true) ∧ (bq cX4_begin 34 79 = true) := by decide +kernel
theorem dX4_begin_0 : decode cX4_begin 0 = .ok (.aload_n 0, 1) := dr_42  pk_deca_54.1
theorem dX4_begin_1 : decode cX4_begin 1 = .ok (.getfield 45, 3) := dr_180 0 45  pk_deca_54.2.1
theorem dX4_begin_4 : decode cX4_begin 4 = .ok (.iconst 0, 1) := dr_3  pk_deca_54.2.2.1
theorem dX4_begin_5 : decode cX4_begin 5 = .ok (.putfield 49, 3) := dr_181 0 49  pk_deca_54.2.2.2.1
theorem dX4_begin_8 : decode cX4_begin 8 = .ok (.aload_n 0, 1) := dr_42  pk_deca_54.2.2.2.2.1
theorem dX4_begin_9 : decode cX4_begin 9 = .ok (.iconst 0, 1) := dr_3  pk_deca_54.2.2.2.2.2.1
theorem dX4_begin_10 : decode cX4_begin 10 = .ok (.putfield 18, 3) := dr_181 0 18  pk_deca_54.2.2.2.2.2.2.1
theorem dX4_begin_13 : decode cX4_begin 13 = .ok (.aload_n 0, 1) := dr_42  pk_deca_54.2.2.2.2.2.2.2.1
theorem dX4_begin_14 : decode cX4_begin 14 = .ok (.bipush (-9), 2) := dr_16 247  pk_deca_54.2.2.2.2.2.2.2.2.1
theorem dX4_begin_16 : decode cX4_begin 16 = .ok (.putfield 22, 3) := dr_181 0 22  pk_deca_54.2.2.2.2.2.2.2.2.2.1
theorem dX4_begin_19 : decode cX4_begin 19 = .ok (.iconst 0, 1) := dr_3  pk_deca_54.2.2.2.2.2.2.2.2.2.2.1
theorem dX4_begin_20 : decode cX4_begin 20 = .ok (.istore_n 1, 1) := dr_60  pk_deca_54.2.2.2.2.2.2.2.2.2.2.2.1
theorem dX4_begin_21 : decode cX4_begin 21 = .ok (.iload_n 1, 1) := dr_27  pk_deca_54.2.2.2.2.2.2.2.2.2.2.2.2.1
theorem dX4_begin_22 : decode cX4_begin 22 = .ok (.bipush 26, 2) := dr_16 26  pk_deca_54.2.2.2.2.2.2.2.2.2.2.2.2.2.1
theorem dX4_begin_24 : decode cX4_begin 24 = .ok (.if_icmp .ge 17, 3) := dr_162 0 17  pk_deca_54.2.2.2.2.2.2.2.2.2.2.2.2.2.2.1
theorem dX4_begin_27 : decode cX4_begin 27 = .ok (.aload_n 0, 1) := dr_42  pk_deca_54.2.2.2.2.2.2.2.2.2.2.2.2.2.2.2.1
theorem dX4_begin_28 : decode cX4_begin 28 = .ok (.getfield 11, 3) := dr_180 0 11  pk_deca_54.2.2.2.2.2.2.2.2.2.2.2.2.2.2.2.2.1
theorem dX4_begin_31 : decode cX4_begin 31 = .ok (.iload_n 1, 1) := dr_27  pk_deca_54.2.2.2.2.2.2.2.2.2.2.2.2.2.2.2.2.2.1
theorem dX4_begin_32 : decode cX4_begin 32 = .ok (.bipush (-9), 2) := dr_16 247  pk_deca_54.2.2.2.2.2.2.2.2.2.2.2.2.2.2.2.2.2.2.1
theorem dX4_begin_34 : decode cX4_begin 34 = .ok (.iastore, 1) := dr_79  pk_deca_54.2.2.2.2.2.2.2.2.2.2.2.2.2.2.2.2.2.2.2
theorem dX4_begin_35 : decode cX4_begin 35 = .ok (.iinc 1 1, 3) := by decide +kernel
set_option maxRecDepth 20000 in
theorem pk_deca_55 : ((bq cX4_begin 38 167 && bq cX4_begin (38 + 1) 255 && bq cX4_begin (38 + 2) 239 && (Reader.signed 16 (255 * 256 + 239) == (-17))) = true) ∧ (bq cX4_begin 41 3 = true) ∧ (bq cX4_begin 42 60 = true) ∧ (bq cX4_begin 43 27 = true) ∧ ((bq cX4_begin 44 17 && bq cX4_begin (44 + 1) 1 && bq cX4_begin (44 + 2) 0 && (Reader.signed 16 (1 * 256 + 0) == 256)) = true) ∧ ((bq cX4_begin 47 162 && bq cX4_begin (47 + 1) 0 && bq cX4_begin (47 + 2) 17 && (Reader.signed 16 (0 * 256 + 17) == 17)) = true) ∧ (bq cX4_begin 50 42 = true) ∧ ((bq cX4_begin 51 180 && bq cX4_begin (51 + 1) 0 && bq cX4_begin (51 + 2) 15 && (0 * 256 + 15 == 15)) = true) ∧ (bq cX4_begin 54 27 = true) ∧ ((bq cX4_begin 55 16 && bq cX4_begin (55 + 1) 247 && (Reader.signed 8 247 == (-9))) = true) ∧ (bq cX4_begin 57 79 = true) := by decide +kernel
theorem dX4_begin_38 : decode cX4_begin 38 = .ok (.goto (-17), 3) := dr_167 255 239  pk_deca_55.1
theorem dX4_begin_41 : decode cX4_begin 41 = .ok (.iconst 0, 1) := dr_3  pk_deca_55.2.1
theorem dX4_begin_42 : decode cX4_begin 42 = .ok (.istore_n 1, 1) := dr_60  pk_deca_55.2.2.1
theorem dX4_begin_43 : decode cX4_begin 43 = .ok (.iload_n 1, 1) := dr_27  pk_deca_55.2.2.2.1
theorem dX4_begin_44 : decode cX4_begin 44 = .ok (.sipush 256, 3) := dr_17 1 0  pk_deca_55.2.2.2.2.1
theorem dX4_begin_47 : decode cX4_begin 47 = .ok (.if_icmp .ge 17, 3) := dr_162 0 17  pk_deca_55.2.2.2.2.2.1
theorem dX4_begin_50 : decode cX4_begin 50 = .ok (.aload_n 0, 1) := dr_42  pk_deca_55.2.2.2.2.2.2.1
theorem dX4_begin_51 : decode cX4_begin 51 = .ok (.getfield 15, 3) := dr_180 0 15  pk_deca_55.2.2.2.2.2.2.2.1
theorem dX4_begin_54 : decode cX4_begin 54 = .ok (.iload_n 1, 1) := dr_27  pk_deca_55.2.2.2.2.2.2.2.2.1
theorem dX4_begin_55 : decode cX4_begin 55 = .ok (.bipush (-9), 2) := dr_16 247  pk_deca_55.2.2.2.2.2.2.2.2.2.1
theorem dX4_begin_57 : decode cX4_begin 57 = .ok (.iastore, 1) := dr_79  pk_deca_55.2.2.2.2.2.2.2.2.2.2
theorem dX4_begin_58 : decode cX4_begin 58 = .ok (.iinc 1 1, 3) := by decide +kernel
set_option maxRecDepth 20000 in
theorem pk_deca_56 : ((bq cX4_begin 61 167 && bq cX4_begin (61 + 1) 255 && bq cX4_begin (61 + 2) 238 && (Reader.signed 16 (255 * 256 + 238) == (-18))) = true) ∧ (bq cX4_begin 64 177 = true) := by decide +kernel
theorem dX4_begin_61 : decode cX4_begin 61 = .ok (.goto (-18), 3) := dr_167 255 238  pk_deca_56.1
theorem dX4_begin_64 : decode cX4_begin 64 = .ok (.return_, 1) := dr_177  pk_deca_56.2
set_option maxRecDepth 20000 in
theorem pk_deca_57 : (bq cX4_isDigit 0 26 = true) ∧ ((bq cX4_isDigit 1 16 && bq cX4_isDigit (1 + 1) 48 && (Reader.signed 8 48 == 48)) = true) ∧ ((bq cX4_isDigit 3 161 && bq cX4_isDigit (3 + 1) 0 && bq cX4_isDigit (3 + 2) 13 && (Reader.signed 16 (0 * 256 + 13) == 13)) = true) ∧ (bq cX4_isDigit 6 26 = true) ∧ ((bq cX4_isDigit 7 16 && bq cX4_isDigit (7 + 1) 57 && (Reader.signed 8 57 == 57)) = true) ∧ ((bq cX4_isDigit 9 163 && bq cX4_isDigit (9 + 1) 0 && bq cX4_isDigit (9 + 2) 7 && (Reader.signed 16 (0 * 256 + 7) == 7)) = true) ∧ (bq cX4_isDigit 12 4 = true) ∧ ((bq cX4_isDigit 13 167 && bq cX4_isDigit (13 + 1) 0 && bq cX4_isDigit (13 + 2) 4 && (Reader.signed 16 (0 * 256 + 4) == 4)) = true) ∧ (bq cX4_isDigit 16 3 = true) ∧ (bq cX4_isDigit 17 172 = true) := by decide +kernel
theorem dX4_isDigit_0 : decode cX4_isDigit 0 = .ok (.iload_n 0, 1) := dr_26  pk_deca_57.1
theorem dX4_isDigit_1 : decode cX4_isDigit 1 = .ok (.bipush 48, 2) := dr_16 48  pk_deca_57.2.1
theorem dX4_isDigit_3 : decode cX4_isDigit 3 = .ok (.if_icmp .lt 13, 3) := dr_161 0 13  pk_deca_57.2.2.1
theorem dX4_isDigit_6 : decode cX4_isDigit 6 = .ok (.iload_n 0, 1) := dr_26  pk_deca_57.2.2.2.1
theorem dX4_isDigit_7 : decode cX4_isDigit 7 = .ok (.bipush 57, 2) := dr_16 57  pk_deca_57.2.2.2.2.1
theorem dX4_isDigit_9 : decode cX4_isDigit 9 = .ok (.if_icmp .gt 7, 3) := dr_163 0 7  pk_deca_57.2.2.2.2.2.1
theorem dX4_isDigit_12 : decode cX4_isDigit 12 = .ok (.iconst 1, 1) := dr_4  pk_deca_57.2.2.2.2.2.2.1
theorem dX4_isDigit_13 : decode cX4_isDigit 13 = .ok (.goto 4, 3) := dr_167 0 4  pk_deca_57.2.2.2.2.2.2.2.1
theorem dX4_isDigit_16 : decode cX4_isDigit 16 = .ok (.iconst 0, 1) := dr_3  pk_deca_57.2.2.2.2.2.2.2.2.1
theorem dX4_isDigit_17 : decode cX4_isDigit 17 = .ok (.ireturn, 1) := dr_172  pk_deca_57.2.2.2.2.2.2.2.2.2
set_option maxRecDepth 20000 in
theorem pk_deca_58 : (bq cX4_isSmall 0 26 = true) ∧ ((bq cX4_isSmall 1 16 && bq cX4_isSmall (1 + 1) 97 && (Reader.signed 8 97 == 97)) = true) ∧ ((bq cX4_isSmall 3 161 && bq cX4_isSmall (3 + 1) 0 && bq cX4_isSmall (3 + 2) 13 && (Reader.signed 16 (0 * 256 + 13) == 13)) = true) ∧ (bq cX4_isSmall 6 26 = true) ∧ ((bq cX4_isSmall 7 16 && bq cX4_isSmall (7 + 1) 122 && (Reader.signed 8 122 == 122)) = true) ∧ ((bq cX4_isSmall 9 163 && bq cX4_isSmall (9 + 1) 0 && bq cX4_isSmall (9 + 2) 7 && (Reader.signed 16 (0 * 256 + 7) == 7)) = true) ∧ (bq cX4_isSmall 12 4 = true) ∧ ((bq cX4_isSmall 13 167 && bq cX4_isSmall (13 + 1) 0 && bq cX4_isSmall (13 + 2) 4 && (Reader.signed 16 (0 * 256 + 4) == 4)) = true) ∧ (bq cX4_isSmall 16 3 = true) ∧ (bq cX4_isSmall 17 172 = true) := by decide +kernel
theorem dX4_isSmall_0 : decode cX4_isSmall 0 = .ok (.iload_n 0, 1) := dr_26  pk_deca_58.1
theorem dX4_isSmall_1 : decode cX4_isSmall 1 = .ok (.bipush 97, 2) := dr_16 97  pk_deca_58.2.1
theorem dX4_isSmall_3 : decode cX4_isSmall 3 = .ok (.if_icmp .lt 13, 3) := dr_161 0 13  pk_deca_58.2.2.1
theorem dX4_isSmall_6 : decode cX4_isSmall 6 = .ok (.iload_n 0, 1) := dr_26  pk_deca_58.2.2.2.1
theorem dX4_isSmall_7 : decode cX4_isSmall 7 = .ok (.bipush 122, 2) := dr_16 122  pk_deca_58.2.2.2.2.1
theorem dX4_isSmall_9 : decode cX4_isSmall 9 = .ok (.if_icmp .gt 7, 3) := dr_163 0 7  pk_deca_58.2.2.2.2.2.1
theorem dX4_isSmall_12 : decode cX4_isSmall 12 = .ok (.iconst 1, 1) := dr_4  pk_deca_58.2.2.2.2.2.2.1
theorem dX4_isSmall_13 : decode cX4_isSmall 13 = .ok (.goto 4, 3) := dr_167 0 4  pk_deca_58.2.2.2.2.2.2.2.1
theorem dX4_isSmall_16 : decode cX4_isSmall 16 = .ok (.iconst 0, 1) := dr_3  pk_deca_58.2.2.2.2.2.2.2.2.1
theorem dX4_isSmall_17 : decode cX4_isSmall 17 = .ok (.ireturn, 1) := dr_172  pk_deca_58.2.2.2.2.2.2.2.2.2
set_option maxRecDepth 20000 in
theorem pk_deca_59 : (bq cX4_isLetter 0 26 = true) ∧ ((bq cX4_isLetter 1 16 && bq cX4_isLetter (1 + 1) 65 && (Reader.signed 8 65 == 65)) = true) ∧ ((bq cX4_isLetter 3 161 && bq cX4_isLetter (3 + 1) 0 && bq cX4_isLetter (3 + 2) 13 && (Reader.signed 16 (0 * 256 + 13) == 13)) = true) ∧ (bq cX4_isLetter 6 26 = true) ∧ ((bq cX4_isLetter 7 16 && bq cX4_isLetter (7 + 1) 90 && (Reader.signed 8 90 == 90)) = true) ∧ ((bq cX4_isLetter 9 163 && bq cX4_isLetter (9 + 1) 0 && bq cX4_isLetter (9 + 2) 7 && (Reader.signed 16 (0 * 256 + 7) == 7)) = true) ∧ (bq cX4_isLetter 12 4 = true) ∧ ((bq cX4_isLetter 13 167 && bq cX4_isLetter (13 + 1) 0 && bq cX4_isLetter (13 + 2) 4 && (Reader.signed 16 (0 * 256 + 4) == 4)) = true) ∧ (bq cX4_isLetter 16 3 = true) ∧ (bq cX4_isLetter 17 172 = true) := by decide +kernel
theorem dX4_isLetter_0 : decode cX4_isLetter 0 = .ok (.iload_n 0, 1) := dr_26  pk_deca_59.1
theorem dX4_isLetter_1 : decode cX4_isLetter 1 = .ok (.bipush 65, 2) := dr_16 65  pk_deca_59.2.1
theorem dX4_isLetter_3 : decode cX4_isLetter 3 = .ok (.if_icmp .lt 13, 3) := dr_161 0 13  pk_deca_59.2.2.1
theorem dX4_isLetter_6 : decode cX4_isLetter 6 = .ok (.iload_n 0, 1) := dr_26  pk_deca_59.2.2.2.1
theorem dX4_isLetter_7 : decode cX4_isLetter 7 = .ok (.bipush 90, 2) := dr_16 90  pk_deca_59.2.2.2.2.1
theorem dX4_isLetter_9 : decode cX4_isLetter 9 = .ok (.if_icmp .gt 7, 3) := dr_163 0 7  pk_deca_59.2.2.2.2.2.1
theorem dX4_isLetter_12 : decode cX4_isLetter 12 = .ok (.iconst 1, 1) := dr_4  pk_deca_59.2.2.2.2.2.2.1
theorem dX4_isLetter_13 : decode cX4_isLetter 13 = .ok (.goto 4, 3) := dr_167 0 4  pk_deca_59.2.2.2.2.2.2.2.1
theorem dX4_isLetter_16 : decode cX4_isLetter 16 = .ok (.iconst 0, 1) := dr_3  pk_deca_59.2.2.2.2.2.2.2.2.1
theorem dX4_isLetter_17 : decode cX4_isLetter 17 = .ok (.ireturn, 1) := dr_172  pk_deca_59.2.2.2.2.2.2.2.2.2
set_option maxRecDepth 20000 in
theorem pk_deca_60 : (bq cX4_tokenSigns 0 42 = true) ∧ (bq cX4_tokenSigns 1 27 = true) ∧ ((bq cX4_tokenSigns 2 182 && bq cX4_tokenSigns (2 + 1) 0 && bq cX4_tokenSigns (2 + 2) 56 && (0 * 256 + 56 == 56)) = true) ∧ (bq cX4_tokenSigns 5 61 = true) ∧ (bq cX4_tokenSigns 6 28 = true) ∧ ((bq cX4_tokenSigns 7 16 && bq cX4_tokenSigns (7 + 1) 58 && (Reader.signed 8 58 == 58)) = true) ∧ ((bq cX4_tokenSigns 9 159 && bq cX4_tokenSigns (9 + 1) 0 && bq cX4_tokenSigns (9 + 2) 10 && (Reader.signed 16 (0 * 256 + 10) == 10)) = true) ∧ (bq cX4_tokenSigns 12 28 = true) ∧ ((bq cX4_tokenSigns 13 184 && bq cX4_tokenSigns (13 + 1) 0 && bq cX4_tokenSigns (13 + 2) 59 && (0 * 256 + 59 == 59)) = true) ∧ ((bq cX4_tokenSigns 16 153 && bq cX4_tokenSigns (16 + 1) 0 && bq cX4_tokenSigns (16 + 2) 5 && (Reader.signed 16 (0 * 256 + 5) == 5)) = true) ∧ (bq cX4_tokenSigns 19 4 = true) ∧ (bq cX4_tokenSigns 20 172 = true) ∧ (bq cX4_tokenSigns 21 27 = true) ∧ (bq cX4_tokenSigns 22 62 = true) ∧ (bq cX4_tokenSigns 23 29 = true) ∧ (bq cX4_tokenSigns 24 42 = true) ∧ ((bq cX4_tokenSigns 25 180 && bq cX4_tokenSigns (25 + 1) 0 && bq cX4_tokenSigns (25 + 2) 34 && (0 * 256 + 34 == 34)) = true) ∧ ((bq cX4_tokenSigns 28 162 && bq cX4_tokenSigns (28 + 1) 0 && bq cX4_tokenSigns (28 + 2) 21 && (Reader.signed 16 (0 * 256 + 21) == 21)) = true) ∧ (bq cX4_tokenSigns 31 28 = true) ∧ (bq cX4_tokenSigns 32 42 = true) ∧ (bq cX4_tokenSigns 33 29 = true) ∧ ((bq cX4_tokenSigns 34 182 && bq cX4_tokenSigns (34 + 1) 0 && bq cX4_tokenSigns (34 + 2) 56 && (0 * 256 + 56 == 56)) = true) ∧ ((bq cX4_tokenSigns 37 184 && bq cX4_tokenSigns (37 + 1) 0 && bq cX4_tokenSigns (37 + 2) 63 && (0 * 256 + 63 == 63)) = true) ∧ ((bq cX4_tokenSigns 40 153 && bq cX4_tokenSigns (40 + 1) 0 && bq cX4_tokenSigns (40 + 2) 9 && (Reader.signed 16 (0 * 256 + 9) == 9)) = true) := by decide +kernel
theorem dX4_tokenSigns_0 : decode cX4_tokenSigns 0 = .ok (.aload_n 0, 1) := dr_42  pk_deca_60.1
theorem dX4_tokenSigns_1 : decode cX4_tokenSigns 1 = .ok (.iload_n 1, 1) := dr_27  pk_deca_60.2.1
theorem dX4_tokenSigns_2 : decode cX4_tokenSigns 2 = .ok (.invokevirtual 56, 3) := dr_182 0 56  pk_deca_60.2.2.1
theorem dX4_tokenSigns_5 : decode cX4_tokenSigns 5 = .ok (.istore_n 2, 1) := dr_61  pk_deca_60.2.2.2.1
theorem dX4_tokenSigns_6 : decode cX4_tokenSigns 6 = .ok (.iload_n 2, 1) := dr_28  pk_deca_60.2.2.2.2.1
theorem dX4_tokenSigns_7 : decode cX4_tokenSigns 7 = .ok (.bipush 58, 2) := dr_16 58  pk_deca_60.2.2.2.2.2.1
theorem dX4_tokenSigns_9 : decode cX4_tokenSigns 9 = .ok (.if_icmp .eq 10, 3) := dr_159 0 10  pk_deca_60.2.2.2.2.2.2.1
theorem dX4_tokenSigns_12 : decode cX4_tokenSigns 12 = .ok (.iload_n 2, 1) := dr_28  pk_deca_60.2.2.2.2.2.2.2.1
theorem dX4_tokenSigns_13 : decode cX4_tokenSigns 13 = .ok (.invokestatic 59, 3) := dr_184 0 59  pk_deca_60.2.2.2.2.2.2.2.2.1
theorem dX4_tokenSigns_16 : decode cX4_tokenSigns 16 = .ok (.ifCond .eq 5, 3) := dr_153 0 5  pk_deca_60.2.2.2.2.2.2.2.2.2.1
theorem dX4_tokenSigns_19 : decode cX4_tokenSigns 19 = .ok (.iconst 1, 1) := dr_4  pk_deca_60.2.2.2.2.2.2.2.2.2.2.1
theorem dX4_tokenSigns_20 : decode cX4_tokenSigns 20 = .ok (.ireturn, 1) := dr_172  pk_deca_60.2.2.2.2.2.2.2.2.2.2.2.1
theorem dX4_tokenSigns_21 : decode cX4_tokenSigns 21 = .ok (.iload_n 1, 1) := dr_27  pk_deca_60.2.2.2.2.2.2.2.2.2.2.2.2.1
theorem dX4_tokenSigns_22 : decode cX4_tokenSigns 22 = .ok (.istore_n 3, 1) := dr_62  pk_deca_60.2.2.2.2.2.2.2.2.2.2.2.2.2.1
theorem dX4_tokenSigns_23 : decode cX4_tokenSigns 23 = .ok (.iload_n 3, 1) := dr_29  pk_deca_60.2.2.2.2.2.2.2.2.2.2.2.2.2.2.1
theorem dX4_tokenSigns_24 : decode cX4_tokenSigns 24 = .ok (.aload_n 0, 1) := dr_42  pk_deca_60.2.2.2.2.2.2.2.2.2.2.2.2.2.2.2.1
theorem dX4_tokenSigns_25 : decode cX4_tokenSigns 25 = .ok (.getfield 34, 3) := dr_180 0 34  pk_deca_60.2.2.2.2.2.2.2.2.2.2.2.2.2.2.2.2.1
theorem dX4_tokenSigns_28 : decode cX4_tokenSigns 28 = .ok (.if_icmp .ge 21, 3) := dr_162 0 21  pk_deca_60.2.2.2.2.2.2.2.2.2.2.2.2.2.2.2.2.2.1
theorem dX4_tokenSigns_31 : decode cX4_tokenSigns 31 = .ok (.iload_n 2, 1) := dr_28  pk_deca_60.2.2.2.2.2.2.2.2.2.2.2.2.2.2.2.2.2.2.1
theorem dX4_tokenSigns_32 : decode cX4_tokenSigns 32 = .ok (.aload_n 0, 1) := dr_42  pk_deca_60.2.2.2.2.2.2.2.2.2.2.2.2.2.2.2.2.2.2.2.1
theorem dX4_tokenSigns_33 : decode cX4_tokenSigns 33 = .ok (.iload_n 3, 1) := dr_29  pk_deca_60.2.2.2.2.2.2.2.2.2.2.2.2.2.2.2.2.2.2.2.2.1
theorem dX4_tokenSigns_34 : decode cX4_tokenSigns 34 = .ok (.invokevirtual 56, 3) := dr_182 0 56  pk_deca_60.2.2.2.2.2.2.2.2.2.2.2.2.2.2.2.2.2.2.2.2.2.1
theorem dX4_tokenSigns_37 : decode cX4_tokenSigns 37 = .ok (.invokestatic 63, 3) := dr_184 0 63  pk_deca_60.2.2.2.2.2.2.2.2.2.2.2.2.2.2.2.2.2.2.2.2.2.2.1
theorem dX4_tokenSigns_40 : decode cX4_tokenSigns 40 = .ok (.ifCond .eq 9, 3) := dr_153 0 9  pk_deca_60.2.2.2.2.2.2.2.2.2.2.2.2.2.2.2.2.2.2.2.2.2.2.2
theorem dX4_tokenSigns_43 : decode cX4_tokenSigns 43 = .ok (.iinc 3 1, 3) := by decide +kernel
set_option maxRecDepth 20000 in
theorem pk_deca_61 : ((bq cX4_tokenSigns 46 167 && bq cX4_tokenSigns (46 + 1) 255 && bq cX4_tokenSigns (46 + 2) 233 && (Reader.signed 16 (255 * 256 + 233) == (-23))) = true) ∧ (bq cX4_tokenSigns 49 29 = true) ∧ (bq cX4_tokenSigns 50 27 = true) ∧ (bq cX4_tokenSigns 51 100 = true) ∧ (bq cX4_tokenSigns 52 172 = true) := by decide +kernel
theorem dX4_tokenSigns_46 : decode cX4_tokenSigns 46 = .ok (.goto (-23), 3) := dr_167 255 233  pk_deca_61.1
theorem dX4_tokenSigns_49 : decode cX4_tokenSigns 49 = .ok (.iload_n 3, 1) := dr_29  pk_deca_61.2.1
theorem dX4_tokenSigns_50 : decode cX4_tokenSigns 50 = .ok (.iload_n 1, 1) := dr_27  pk_deca_61.2.2.1
theorem dX4_tokenSigns_51 : decode cX4_tokenSigns 51 = .ok (.isub, 1) := dr_100  pk_deca_61.2.2.2.1
theorem dX4_tokenSigns_52 : decode cX4_tokenSigns 52 = .ok (.ireturn, 1) := dr_172  pk_deca_61.2.2.2.2
set_option maxRecDepth 20000 in
theorem pk_deca_62 : (bq cX4_isMoreOf 0 26 = true) ∧ ((bq cX4_isMoreOf 1 184 && bq cX4_isMoreOf (1 + 1) 0 && bq cX4_isMoreOf (1 + 2) 67 && (0 * 256 + 67 == 67)) = true) ∧ ((bq cX4_isMoreOf 4 153 && bq cX4_isMoreOf (4 + 1) 0 && bq cX4_isMoreOf (4 + 2) 10 && (Reader.signed 16 (0 * 256 + 10) == 10)) = true) ∧ (bq cX4_isMoreOf 7 27 = true) ∧ ((bq cX4_isMoreOf 8 184 && bq cX4_isMoreOf (8 + 1) 0 && bq cX4_isMoreOf (8 + 2) 67 && (0 * 256 + 67 == 67)) = true) ∧ ((bq cX4_isMoreOf 11 154 && bq cX4_isMoreOf (11 + 1) 0 && bq cX4_isMoreOf (11 + 2) 17 && (Reader.signed 16 (0 * 256 + 17) == 17)) = true) ∧ (bq cX4_isMoreOf 14 26 = true) ∧ ((bq cX4_isMoreOf 15 184 && bq cX4_isMoreOf (15 + 1) 0 && bq cX4_isMoreOf (15 + 2) 70 && (0 * 256 + 70 == 70)) = true) ∧ ((bq cX4_isMoreOf 18 153 && bq cX4_isMoreOf (18 + 1) 0 && bq cX4_isMoreOf (18 + 2) 14 && (Reader.signed 16 (0 * 256 + 14) == 14)) = true) ∧ (bq cX4_isMoreOf 21 27 = true) ∧ ((bq cX4_isMoreOf 22 184 && bq cX4_isMoreOf (22 + 1) 0 && bq cX4_isMoreOf (22 + 2) 70 && (0 * 256 + 70 == 70)) = true) ∧ ((bq cX4_isMoreOf 25 153 && bq cX4_isMoreOf (25 + 1) 0 && bq cX4_isMoreOf (25 + 2) 7 && (Reader.signed 16 (0 * 256 + 7) == 7)) = true) ∧ (bq cX4_isMoreOf 28 4 = true) ∧ ((bq cX4_isMoreOf 29 167 && bq cX4_isMoreOf (29 + 1) 0 && bq cX4_isMoreOf (29 + 2) 4 && (Reader.signed 16 (0 * 256 + 4) == 4)) = true) ∧ (bq cX4_isMoreOf 32 3 = true) ∧ (bq cX4_isMoreOf 33 172 = true) := by decide +kernel
theorem dX4_isMoreOf_0 : decode cX4_isMoreOf 0 = .ok (.iload_n 0, 1) := dr_26  pk_deca_62.1
theorem dX4_isMoreOf_1 : decode cX4_isMoreOf 1 = .ok (.invokestatic 67, 3) := dr_184 0 67  pk_deca_62.2.1
theorem dX4_isMoreOf_4 : decode cX4_isMoreOf 4 = .ok (.ifCond .eq 10, 3) := dr_153 0 10  pk_deca_62.2.2.1
theorem dX4_isMoreOf_7 : decode cX4_isMoreOf 7 = .ok (.iload_n 1, 1) := dr_27  pk_deca_62.2.2.2.1
theorem dX4_isMoreOf_8 : decode cX4_isMoreOf 8 = .ok (.invokestatic 67, 3) := dr_184 0 67  pk_deca_62.2.2.2.2.1
theorem dX4_isMoreOf_11 : decode cX4_isMoreOf 11 = .ok (.ifCond .ne 17, 3) := dr_154 0 17  pk_deca_62.2.2.2.2.2.1
theorem dX4_isMoreOf_14 : decode cX4_isMoreOf 14 = .ok (.iload_n 0, 1) := dr_26  pk_deca_62.2.2.2.2.2.2.1
theorem dX4_isMoreOf_15 : decode cX4_isMoreOf 15 = .ok (.invokestatic 70, 3) := dr_184 0 70  pk_deca_62.2.2.2.2.2.2.2.1
theorem dX4_isMoreOf_18 : decode cX4_isMoreOf 18 = .ok (.ifCond .eq 14, 3) := dr_153 0 14  pk_deca_62.2.2.2.2.2.2.2.2.1
theorem dX4_isMoreOf_21 : decode cX4_isMoreOf 21 = .ok (.iload_n 1, 1) := dr_27  pk_deca_62.2.2.2.2.2.2.2.2.2.1
theorem dX4_isMoreOf_22 : decode cX4_isMoreOf 22 = .ok (.invokestatic 70, 3) := dr_184 0 70  pk_deca_62.2.2.2.2.2.2.2.2.2.2.1
theorem dX4_isMoreOf_25 : decode cX4_isMoreOf 25 = .ok (.ifCond .eq 7, 3) := dr_153 0 7  pk_deca_62.2.2.2.2.2.2.2.2.2.2.2.1
theorem dX4_isMoreOf_28 : decode cX4_isMoreOf 28 = .ok (.iconst 1, 1) := dr_4  pk_deca_62.2.2.2.2.2.2.2.2.2.2.2.2.1
theorem dX4_isMoreOf_29 : decode cX4_isMoreOf 29 = .ok (.goto 4, 3) := dr_167 0 4  pk_deca_62.2.2.2.2.2.2.2.2.2.2.2.2.2.1
theorem dX4_isMoreOf_32 : decode cX4_isMoreOf 32 = .ok (.iconst 0, 1) := dr_3  pk_deca_62.2.2.2.2.2.2.2.2.2.2.2.2.2.2.1
theorem dX4_isMoreOf_33 : decode cX4_isMoreOf 33 = .ok (.ireturn, 1) := dr_172  pk_deca_62.2.2.2.2.2.2.2.2.2.2.2.2.2.2.2
set_option maxRecDepth 20000 in
theorem pk_deca_63 : (bq cX4_takes 0 43 = true) ∧ (bq cX4_takes 1 28 = true) ∧ ((bq cX4_takes 2 182 && bq cX4_takes (2 + 1) 0 && bq cX4_takes (2 + 2) 56 && (0 * 256 + 56 == 56)) = true) ∧ ((bq cX4_takes 5 54 && bq cX4_takes (5 + 1) 4) = true) ∧ ((bq cX4_takes 7 21 && bq cX4_takes (7 + 1) 4) = true) ∧ ((bq cX4_takes 9 16 && bq cX4_takes (9 + 1) 58 && (Reader.signed 8 58 == 58)) = true) ∧ ((bq cX4_takes 11 160 && bq cX4_takes (11 + 1) 0 && bq cX4_takes (11 + 2) 9 && (Reader.signed 16 (0 * 256 + 9) == 9)) = true) ∧ (bq cX4_takes 14 42 = true) ∧ (bq cX4_takes 15 28 = true) ∧ ((bq cX4_takes 16 182 && bq cX4_takes (16 + 1) 0 && bq cX4_takes (16 + 2) 73 && (0 * 256 + 73 == 73)) = true) ∧ (bq cX4_takes 19 172 = true) ∧ ((bq cX4_takes 20 21 && bq cX4_takes (20 + 1) 4) = true) ∧ ((bq cX4_takes 22 184 && bq cX4_takes (22 + 1) 0 && bq cX4_takes (22 + 2) 59 && (0 * 256 + 59 == 59)) = true) ∧ ((bq cX4_takes 25 153 && bq cX4_takes (25 + 1) 0 && bq cX4_takes (25 + 2) 35 && (Reader.signed 16 (0 * 256 + 35) == 35)) = true) ∧ (bq cX4_takes 28 42 = true) ∧ ((bq cX4_takes 29 180 && bq cX4_takes (29 + 1) 0 && bq cX4_takes (29 + 2) 18 && (0 * 256 + 18 == 18)) = true) ∧ (bq cX4_takes 32 5 = true) ∧ ((bq cX4_takes 33 160 && bq cX4_takes (33 + 1) 0 && bq cX4_takes (33 + 2) 16 && (Reader.signed 16 (0 * 256 + 16) == 16)) = true) ∧ (bq cX4_takes 36 42 = true) ∧ ((bq cX4_takes 37 21 && bq cX4_takes (37 + 1) 4) = true) ∧ ((bq cX4_takes 39 16 && bq cX4_takes (39 + 1) 65 && (Reader.signed 8 65 == 65)) = true) ∧ (bq cX4_takes 41 100 = true) ∧ (bq cX4_takes 42 28 = true) ∧ ((bq cX4_takes 43 182 && bq cX4_takes (43 + 1) 0 && bq cX4_takes (43 + 2) 76 && (0 * 256 + 76 == 76)) = true) ∧ ((bq cX4_takes 46 167 && bq cX4_takes (46 + 1) 0 && bq cX4_takes (46 + 2) 13 && (Reader.signed 16 (0 * 256 + 13) == 13)) = true) ∧ (bq cX4_takes 49 42 = true) ∧ ((bq cX4_takes 50 21 && bq cX4_takes (50 + 1) 4) = true) ∧ ((bq cX4_takes 52 16 && bq cX4_takes (52 + 1) 65 && (Reader.signed 8 65 == 65)) = true) ∧ (bq cX4_takes 54 100 = true) ∧ (bq cX4_takes 55 28 = true) ∧ ((bq cX4_takes 56 182 && bq cX4_takes (56 + 1) 0 && bq cX4_takes (56 + 2) 79 && (0 * 256 + 79 == 79)) = true) ∧ (bq cX4_takes 59 172 = true) := by decide +kernel
theorem dX4_takes_0 : decode cX4_takes 0 = .ok (.aload_n 1, 1) := dr_43  pk_deca_63.1
theorem dX4_takes_1 : decode cX4_takes 1 = .ok (.iload_n 2, 1) := dr_28  pk_deca_63.2.1
theorem dX4_takes_2 : decode cX4_takes 2 = .ok (.invokevirtual 56, 3) := dr_182 0 56  pk_deca_63.2.2.1
theorem dX4_takes_5 : decode cX4_takes 5 = .ok (.istore 4, 2) := dr_54  pk_deca_63.2.2.2.1
theorem dX4_takes_7 : decode cX4_takes 7 = .ok (.iload 4, 2) := dr_21  pk_deca_63.2.2.2.2.1
theorem dX4_takes_9 : decode cX4_takes 9 = .ok (.bipush 58, 2) := dr_16 58  pk_deca_63.2.2.2.2.2.1
theorem dX4_takes_11 : decode cX4_takes 11 = .ok (.if_icmp .ne 9, 3) := dr_160 0 9  pk_deca_63.2.2.2.2.2.2.1
theorem dX4_takes_14 : decode cX4_takes 14 = .ok (.aload_n 0, 1) := dr_42  pk_deca_63.2.2.2.2.2.2.2.1
theorem dX4_takes_15 : decode cX4_takes 15 = .ok (.iload_n 2, 1) := dr_28  pk_deca_63.2.2.2.2.2.2.2.2.1
theorem dX4_takes_16 : decode cX4_takes 16 = .ok (.invokevirtual 73, 3) := dr_182 0 73  pk_deca_63.2.2.2.2.2.2.2.2.2.1
theorem dX4_takes_19 : decode cX4_takes 19 = .ok (.ireturn, 1) := dr_172  pk_deca_63.2.2.2.2.2.2.2.2.2.2.1
theorem dX4_takes_20 : decode cX4_takes 20 = .ok (.iload 4, 2) := dr_21  pk_deca_63.2.2.2.2.2.2.2.2.2.2.2.1
theorem dX4_takes_22 : decode cX4_takes 22 = .ok (.invokestatic 59, 3) := dr_184 0 59  pk_deca_63.2.2.2.2.2.2.2.2.2.2.2.2.1
theorem dX4_takes_25 : decode cX4_takes 25 = .ok (.ifCond .eq 35, 3) := dr_153 0 35  pk_deca_63.2.2.2.2.2.2.2.2.2.2.2.2.2.1
theorem dX4_takes_28 : decode cX4_takes 28 = .ok (.aload_n 0, 1) := dr_42  pk_deca_63.2.2.2.2.2.2.2.2.2.2.2.2.2.2.1
theorem dX4_takes_29 : decode cX4_takes 29 = .ok (.getfield 18, 3) := dr_180 0 18  pk_deca_63.2.2.2.2.2.2.2.2.2.2.2.2.2.2.2.1
theorem dX4_takes_32 : decode cX4_takes 32 = .ok (.iconst 2, 1) := dr_5  pk_deca_63.2.2.2.2.2.2.2.2.2.2.2.2.2.2.2.2.1
theorem dX4_takes_33 : decode cX4_takes 33 = .ok (.if_icmp .ne 16, 3) := dr_160 0 16  pk_deca_63.2.2.2.2.2.2.2.2.2.2.2.2.2.2.2.2.2.1
theorem dX4_takes_36 : decode cX4_takes 36 = .ok (.aload_n 0, 1) := dr_42  pk_deca_63.2.2.2.2.2.2.2.2.2.2.2.2.2.2.2.2.2.2.1
theorem dX4_takes_37 : decode cX4_takes 37 = .ok (.iload 4, 2) := dr_21  pk_deca_63.2.2.2.2.2.2.2.2.2.2.2.2.2.2.2.2.2.2.2.1
theorem dX4_takes_39 : decode cX4_takes 39 = .ok (.bipush 65, 2) := dr_16 65  pk_deca_63.2.2.2.2.2.2.2.2.2.2.2.2.2.2.2.2.2.2.2.2.1
theorem dX4_takes_41 : decode cX4_takes 41 = .ok (.isub, 1) := dr_100  pk_deca_63.2.2.2.2.2.2.2.2.2.2.2.2.2.2.2.2.2.2.2.2.2.1
theorem dX4_takes_42 : decode cX4_takes 42 = .ok (.iload_n 2, 1) := dr_28  pk_deca_63.2.2.2.2.2.2.2.2.2.2.2.2.2.2.2.2.2.2.2.2.2.2.1
theorem dX4_takes_43 : decode cX4_takes 43 = .ok (.invokevirtual 76, 3) := dr_182 0 76  pk_deca_63.2.2.2.2.2.2.2.2.2.2.2.2.2.2.2.2.2.2.2.2.2.2.2.1
theorem dX4_takes_46 : decode cX4_takes 46 = .ok (.goto 13, 3) := dr_167 0 13  pk_deca_63.2.2.2.2.2.2.2.2.2.2.2.2.2.2.2.2.2.2.2.2.2.2.2.2.1
theorem dX4_takes_49 : decode cX4_takes 49 = .ok (.aload_n 0, 1) := dr_42  pk_deca_63.2.2.2.2.2.2.2.2.2.2.2.2.2.2.2.2.2.2.2.2.2.2.2.2.2.1
theorem dX4_takes_50 : decode cX4_takes 50 = .ok (.iload 4, 2) := dr_21  pk_deca_63.2.2.2.2.2.2.2.2.2.2.2.2.2.2.2.2.2.2.2.2.2.2.2.2.2.2.1
theorem dX4_takes_52 : decode cX4_takes 52 = .ok (.bipush 65, 2) := dr_16 65  pk_deca_63.2.2.2.2.2.2.2.2.2.2.2.2.2.2.2.2.2.2.2.2.2.2.2.2.2.2.2.1
theorem dX4_takes_54 : decode cX4_takes 54 = .ok (.isub, 1) := dr_100  pk_deca_63.2.2.2.2.2.2.2.2.2.2.2.2.2.2.2.2.2.2.2.2.2.2.2.2.2.2.2.2.1
theorem dX4_takes_55 : decode cX4_takes 55 = .ok (.iload_n 2, 1) := dr_28  pk_deca_63.2.2.2.2.2.2.2.2.2.2.2.2.2.2.2.2.2.2.2.2.2.2.2.2.2.2.2.2.2.1
theorem dX4_takes_56 : decode cX4_takes 56 = .ok (.invokevirtual 79, 3) := dr_182 0 79  pk_deca_63.2.2.2.2.2.2.2.2.2.2.2.2.2.2.2.2.2.2.2.2.2.2.2.2.2.2.2.2.2.2.1
theorem dX4_takes_59 : decode cX4_takes 59 = .ok (.ireturn, 1) := dr_172  pk_deca_63.2.2.2.2.2.2.2.2.2.2.2.2.2.2.2.2.2.2.2.2.2.2.2.2.2.2.2.2.2.2.2
set_option maxRecDepth 20000 in
theorem pk_deca_64 : ((bq cX4_takes 60 21 && bq cX4_takes (60 + 1) 4) = true) ∧ ((bq cX4_takes 62 184 && bq cX4_takes (62 + 1) 0 && bq cX4_takes (62 + 2) 67 && (0 * 256 + 67 == 67)) = true) ∧ ((bq cX4_takes 65 153 && bq cX4_takes (65 + 1) 0 && bq cX4_takes (65 + 2) 17 && (Reader.signed 16 (0 * 256 + 17) == 17)) = true) ∧ (bq cX4_takes 68 42 = true) ∧ (bq cX4_takes 69 43 = true) ∧ (bq cX4_takes 70 28 = true) ∧ (bq cX4_takes 71 29 = true) ∧ ((bq cX4_takes 72 184 && bq cX4_takes (72 + 1) 0 && bq cX4_takes (72 + 2) 82 && (0 * 256 + 82 == 82)) = true) ∧ (bq cX4_takes 75 28 = true) ∧ ((bq cX4_takes 76 182 && bq cX4_takes (76 + 1) 0 && bq cX4_takes (76 + 2) 86 && (0 * 256 + 86 == 86)) = true) ∧ ((bq cX4_takes 79 167 && bq cX4_takes (79 + 1) 0 && bq cX4_takes (79 + 2) 14 && (Reader.signed 16 (0 * 256 + 14) == 14)) = true) ∧ (bq cX4_takes 82 42 = true) ∧ (bq cX4_takes 83 43 = true) ∧ (bq cX4_takes 84 28 = true) ∧ (bq cX4_takes 85 29 = true) ∧ ((bq cX4_takes 86 184 && bq cX4_takes (86 + 1) 0 && bq cX4_takes (86 + 2) 89 && (0 * 256 + 89 == 89)) = true) ∧ (bq cX4_takes 89 28 = true) ∧ ((bq cX4_takes 90 182 && bq cX4_takes (90 + 1) 0 && bq cX4_takes (90 + 2) 92 && (0 * 256 + 92 == 92)) = true) ∧ (bq cX4_takes 93 172 = true) := by decide +kernel
theorem dX4_takes_60 : decode cX4_takes 60 = .ok (.iload 4, 2) := dr_21  pk_deca_64.1
theorem dX4_takes_62 : decode cX4_takes 62 = .ok (.invokestatic 67, 3) := dr_184 0 67  pk_deca_64.2.1
theorem dX4_takes_65 : decode cX4_takes 65 = .ok (.ifCond .eq 17, 3) := dr_153 0 17  pk_deca_64.2.2.1
theorem dX4_takes_68 : decode cX4_takes 68 = .ok (.aload_n 0, 1) := dr_42  pk_deca_64.2.2.2.1
theorem dX4_takes_69 : decode cX4_takes 69 = .ok (.aload_n 1, 1) := dr_43  pk_deca_64.2.2.2.2.1
theorem dX4_takes_70 : decode cX4_takes 70 = .ok (.iload_n 2, 1) := dr_28  pk_deca_64.2.2.2.2.2.1
theorem dX4_takes_71 : decode cX4_takes 71 = .ok (.iload_n 3, 1) := dr_29  pk_deca_64.2.2.2.2.2.2.1
theorem dX4_takes_72 : decode cX4_takes 72 = .ok (.invokestatic 82, 3) := dr_184 0 82  pk_deca_64.2.2.2.2.2.2.2.1
theorem dX4_takes_75 : decode cX4_takes 75 = .ok (.iload_n 2, 1) := dr_28  pk_deca_64.2.2.2.2.2.2.2.2.1
theorem dX4_takes_76 : decode cX4_takes 76 = .ok (.invokevirtual 86, 3) := dr_182 0 86  pk_deca_64.2.2.2.2.2.2.2.2.2.1
theorem dX4_takes_79 : decode cX4_takes 79 = .ok (.goto 14, 3) := dr_167 0 14  pk_deca_64.2.2.2.2.2.2.2.2.2.2.1
theorem dX4_takes_82 : decode cX4_takes 82 = .ok (.aload_n 0, 1) := dr_42  pk_deca_64.2.2.2.2.2.2.2.2.2.2.2.1
theorem dX4_takes_83 : decode cX4_takes 83 = .ok (.aload_n 1, 1) := dr_43  pk_deca_64.2.2.2.2.2.2.2.2.2.2.2.2.1
theorem dX4_takes_84 : decode cX4_takes 84 = .ok (.iload_n 2, 1) := dr_28  pk_deca_64.2.2.2.2.2.2.2.2.2.2.2.2.2.1
theorem dX4_takes_85 : decode cX4_takes 85 = .ok (.iload_n 3, 1) := dr_29  pk_deca_64.2.2.2.2.2.2.2.2.2.2.2.2.2.2.1
theorem dX4_takes_86 : decode cX4_takes 86 = .ok (.invokestatic 89, 3) := dr_184 0 89  pk_deca_64.2.2.2.2.2.2.2.2.2.2.2.2.2.2.2.1
theorem dX4_takes_89 : decode cX4_takes 89 = .ok (.iload_n 2, 1) := dr_28  pk_deca_64.2.2.2.2.2.2.2.2.2.2.2.2.2.2.2.2.1
theorem dX4_takes_90 : decode cX4_takes 90 = .ok (.invokevirtual 92, 3) := dr_182 0 92  pk_deca_64.2.2.2.2.2.2.2.2.2.2.2.2.2.2.2.2.2.1
theorem dX4_takes_93 : decode cX4_takes 93 = .ok (.ireturn, 1) := dr_172  pk_deca_64.2.2.2.2.2.2.2.2.2.2.2.2.2.2.2.2.2.2
set_option maxRecDepth 20000 in
theorem pk_deca_65 : (bq cX4_takesColon 0 42 = true) ∧ ((bq cX4_takesColon 1 180 && bq cX4_takesColon (1 + 1) 0 && bq cX4_takesColon (1 + 2) 18 && (0 * 256 + 18 == 18)) = true) ∧ (bq cX4_takesColon 4 4 = true) ∧ ((bq cX4_takesColon 5 160 && bq cX4_takesColon (5 + 1) 0 && bq cX4_takesColon (5 + 2) 13 && (Reader.signed 16 (0 * 256 + 13) == 13)) = true) ∧ (bq cX4_takesColon 8 27 = true) ∧ (bq cX4_takesColon 9 42 = true) ∧ ((bq cX4_takesColon 10 180 && bq cX4_takesColon (10 + 1) 0 && bq cX4_takesColon (10 + 2) 22 && (0 * 256 + 22 == 22)) = true) ∧ (bq cX4_takesColon 13 4 = true) ∧ (bq cX4_takesColon 14 96 = true) ∧ ((bq cX4_takesColon 15 159 && bq cX4_takesColon (15 + 1) 0 && bq cX4_takesColon (15 + 2) 5 && (Reader.signed 16 (0 * 256 + 5) == 5)) = true) ∧ (bq cX4_takesColon 18 3 = true) ∧ (bq cX4_takesColon 19 172 = true) ∧ (bq cX4_takesColon 20 42 = true) ∧ (bq cX4_takesColon 21 3 = true) ∧ ((bq cX4_takesColon 22 181 && bq cX4_takesColon (22 + 1) 0 && bq cX4_takesColon (22 + 2) 18 && (0 * 256 + 18 == 18)) = true) ∧ (bq cX4_takesColon 25 4 = true) ∧ (bq cX4_takesColon 26 172 = true) := by decide +kernel
theorem dX4_takesColon_0 : decode cX4_takesColon 0 = .ok (.aload_n 0, 1) := dr_42  pk_deca_65.1
theorem dX4_takesColon_1 : decode cX4_takesColon 1 = .ok (.getfield 18, 3) := dr_180 0 18  pk_deca_65.2.1
theorem dX4_takesColon_4 : decode cX4_takesColon 4 = .ok (.iconst 1, 1) := dr_4  pk_deca_65.2.2.1
theorem dX4_takesColon_5 : decode cX4_takesColon 5 = .ok (.if_icmp .ne 13, 3) := dr_160 0 13  pk_deca_65.2.2.2.1
theorem dX4_takesColon_8 : decode cX4_takesColon 8 = .ok (.iload_n 1, 1) := dr_27  pk_deca_65.2.2.2.2.1
theorem dX4_takesColon_9 : decode cX4_takesColon 9 = .ok (.aload_n 0, 1) := dr_42  pk_deca_65.2.2.2.2.2.1
theorem dX4_takesColon_10 : decode cX4_takesColon 10 = .ok (.getfield 22, 3) := dr_180 0 22  pk_deca_65.2.2.2.2.2.2.1
theorem dX4_takesColon_13 : decode cX4_takesColon 13 = .ok (.iconst 1, 1) := dr_4  pk_deca_65.2.2.2.2.2.2.2.1
theorem dX4_takesColon_14 : decode cX4_takesColon 14 = .ok (.iadd, 1) := dr_96  pk_deca_65.2.2.2.2.2.2.2.2.1
theorem dX4_takesColon_15 : decode cX4_takesColon 15 = .ok (.if_icmp .eq 5, 3) := dr_159 0 5  pk_deca_65.2.2.2.2.2.2.2.2.2.1
theorem dX4_takesColon_18 : decode cX4_takesColon 18 = .ok (.iconst 0, 1) := dr_3  pk_deca_65.2.2.2.2.2.2.2.2.2.2.1
theorem dX4_takesColon_19 : decode cX4_takesColon 19 = .ok (.ireturn, 1) := dr_172  pk_deca_65.2.2.2.2.2.2.2.2.2.2.2.1
theorem dX4_takesColon_20 : decode cX4_takesColon 20 = .ok (.aload_n 0, 1) := dr_42  pk_deca_65.2.2.2.2.2.2.2.2.2.2.2.2.1
theorem dX4_takesColon_21 : decode cX4_takesColon 21 = .ok (.iconst 0, 1) := dr_3  pk_deca_65.2.2.2.2.2.2.2.2.2.2.2.2.2.1
theorem dX4_takesColon_22 : decode cX4_takesColon 22 = .ok (.putfield 18, 3) := dr_181 0 18  pk_deca_65.2.2.2.2.2.2.2.2.2.2.2.2.2.2.1
theorem dX4_takesColon_25 : decode cX4_takesColon 25 = .ok (.iconst 1, 1) := dr_4  pk_deca_65.2.2.2.2.2.2.2.2.2.2.2.2.2.2.2.1
theorem dX4_takesColon_26 : decode cX4_takesColon 26 = .ok (.ireturn, 1) := dr_172  pk_deca_65.2.2.2.2.2.2.2.2.2.2.2.2.2.2.2.2
set_option maxRecDepth 20000 in
theorem pk_deca_66 : (bq cX4_takesPlace 0 42 = true) ∧ ((bq cX4_takesPlace 1 180 && bq cX4_takesPlace (1 + 1) 0 && bq cX4_takesPlace (1 + 2) 18 && (0 * 256 + 18 == 18)) = true) ∧ ((bq cX4_takesPlace 4 154 && bq cX4_takesPlace (4 + 1) 0 && bq cX4_takesPlace (4 + 2) 24 && (Reader.signed 16 (0 * 256 + 24) == 24)) = true) ∧ (bq cX4_takesPlace 7 27 = true) ∧ ((bq cX4_takesPlace 8 155 && bq cX4_takesPlace (8 + 1) 0 && bq cX4_takesPlace (8 + 2) 20 && (Reader.signed 16 (0 * 256 + 20) == 20)) = true) ∧ (bq cX4_takesPlace 11 27 = true) ∧ ((bq cX4_takesPlace 12 16 && bq cX4_takesPlace (12 + 1) 26 && (Reader.signed 8 26 == 26)) = true) ∧ ((bq cX4_takesPlace 14 162 && bq cX4_takesPlace (14 + 1) 0 && bq cX4_takesPlace (14 + 2) 14 && (Reader.signed 16 (0 * 256 + 14) == 14)) = true) ∧ (bq cX4_takesPlace 17 42 = true) ∧ ((bq cX4_takesPlace 18 180 && bq cX4_takesPlace (18 + 1) 0 && bq cX4_takesPlace (18 + 2) 11 && (0 * 256 + 11 == 11)) = true) ∧ (bq cX4_takesPlace 21 27 = true) ∧ (bq cX4_takesPlace 22 46 = true) ∧ ((bq cX4_takesPlace 23 16 && bq cX4_takesPlace (23 + 1) 247 && (Reader.signed 8 247 == (-9))) = true) ∧ ((bq cX4_takesPlace 25 159 && bq cX4_takesPlace (25 + 1) 0 && bq cX4_takesPlace (25 + 2) 5 && (Reader.signed 16 (0 * 256 + 5) == 5)) = true) ∧ (bq cX4_takesPlace 28 3 = true) ∧ (bq cX4_takesPlace 29 172 = true) ∧ (bq cX4_takesPlace 30 42 = true) ∧ ((bq cX4_takesPlace 31 180 && bq cX4_takesPlace (31 + 1) 0 && bq cX4_takesPlace (31 + 2) 11 && (0 * 256 + 11 == 11)) = true) ∧ (bq cX4_takesPlace 34 27 = true) ∧ (bq cX4_takesPlace 35 42 = true) ∧ ((bq cX4_takesPlace 36 180 && bq cX4_takesPlace (36 + 1) 0 && bq cX4_takesPlace (36 + 2) 45 && (0 * 256 + 45 == 45)) = true) ∧ ((bq cX4_takesPlace 39 180 && bq cX4_takesPlace (39 + 1) 0 && bq cX4_takesPlace (39 + 2) 49 && (0 * 256 + 49 == 49)) = true) ∧ (bq cX4_takesPlace 42 79 = true) ∧ (bq cX4_takesPlace 43 42 = true) ∧ (bq cX4_takesPlace 44 28 = true) ∧ ((bq cX4_takesPlace 45 181 && bq cX4_takesPlace (45 + 1) 0 && bq cX4_takesPlace (45 + 2) 22 && (0 * 256 + 22 == 22)) = true) ∧ (bq cX4_takesPlace 48 42 = true) ∧ (bq cX4_takesPlace 49 4 = true) ∧ ((bq cX4_takesPlace 50 181 && bq cX4_takesPlace (50 + 1) 0 && bq cX4_takesPlace (50 + 2) 18 && (0 * 256 + 18 == 18)) = true) ∧ (bq cX4_takesPlace 53 4 = true) ∧ (bq cX4_takesPlace 54 172 = true) := by decide +kernel
theorem dX4_takesPlace_0 : decode cX4_takesPlace 0 = .ok (.aload_n 0, 1) := dr_42  pk_deca_66.1
theorem dX4_takesPlace_1 : decode cX4_takesPlace 1 = .ok (.getfield 18, 3) := dr_180 0 18  pk_deca_66.2.1
theorem dX4_takesPlace_4 : decode cX4_takesPlace 4 = .ok (.ifCond .ne 24, 3) := dr_154 0 24  pk_deca_66.2.2.1
theorem dX4_takesPlace_7 : decode cX4_takesPlace 7 = .ok (.iload_n 1, 1) := dr_27  pk_deca_66.2.2.2.1
theorem dX4_takesPlace_8 : decode cX4_takesPlace 8 = .ok (.ifCond .lt 20, 3) := dr_155 0 20  pk_deca_66.2.2.2.2.1
theorem dX4_takesPlace_11 : decode cX4_takesPlace 11 = .ok (.iload_n 1, 1) := dr_27  pk_deca_66.2.2.2.2.2.1
theorem dX4_takesPlace_12 : decode cX4_takesPlace 12 = .ok (.bipush 26, 2) := dr_16 26  pk_deca_66.2.2.2.2.2.2.1
theorem dX4_takesPlace_14 : decode cX4_takesPlace 14 = .ok (.if_icmp .ge 14, 3) := dr_162 0 14  pk_deca_66.2.2.2.2.2.2.2.1
theorem dX4_takesPlace_17 : decode cX4_takesPlace 17 = .ok (.aload_n 0, 1) := dr_42  pk_deca_66.2.2.2.2.2.2.2.2.1
theorem dX4_takesPlace_18 : decode cX4_takesPlace 18 = .ok (.getfield 11, 3) := dr_180 0 11  pk_deca_66.2.2.2.2.2.2.2.2.2.1
theorem dX4_takesPlace_21 : decode cX4_takesPlace 21 = .ok (.iload_n 1, 1) := dr_27  pk_deca_66.2.2.2.2.2.2.2.2.2.2.1
theorem dX4_takesPlace_22 : decode cX4_takesPlace 22 = .ok (.iaload, 1) := dr_46  pk_deca_66.2.2.2.2.2.2.2.2.2.2.2.1
theorem dX4_takesPlace_23 : decode cX4_takesPlace 23 = .ok (.bipush (-9), 2) := dr_16 247  pk_deca_66.2.2.2.2.2.2.2.2.2.2.2.2.1
theorem dX4_takesPlace_25 : decode cX4_takesPlace 25 = .ok (.if_icmp .eq 5, 3) := dr_159 0 5  pk_deca_66.2.2.2.2.2.2.2.2.2.2.2.2.2.1
theorem dX4_takesPlace_28 : decode cX4_takesPlace 28 = .ok (.iconst 0, 1) := dr_3  pk_deca_66.2.2.2.2.2.2.2.2.2.2.2.2.2.2.1
theorem dX4_takesPlace_29 : decode cX4_takesPlace 29 = .ok (.ireturn, 1) := dr_172  pk_deca_66.2.2.2.2.2.2.2.2.2.2.2.2.2.2.2.1
theorem dX4_takesPlace_30 : decode cX4_takesPlace 30 = .ok (.aload_n 0, 1) := dr_42  pk_deca_66.2.2.2.2.2.2.2.2.2.2.2.2.2.2.2.2.1
theorem dX4_takesPlace_31 : decode cX4_takesPlace 31 = .ok (.getfield 11, 3) := dr_180 0 11  pk_deca_66.2.2.2.2.2.2.2.2.2.2.2.2.2.2.2.2.2.1
theorem dX4_takesPlace_34 : decode cX4_takesPlace 34 = .ok (.iload_n 1, 1) := dr_27  pk_deca_66.2.2.2.2.2.2.2.2.2.2.2.2.2.2.2.2.2.2.1
theorem dX4_takesPlace_35 : decode cX4_takesPlace 35 = .ok (.aload_n 0, 1) := dr_42  pk_deca_66.2.2.2.2.2.2.2.2.2.2.2.2.2.2.2.2.2.2.2.1
theorem dX4_takesPlace_36 : decode cX4_takesPlace 36 = .ok (.getfield 45, 3) := dr_180 0 45  pk_deca_66.2.2.2.2.2.2.2.2.2.2.2.2.2.2.2.2.2.2.2.2.1
theorem dX4_takesPlace_39 : decode cX4_takesPlace 39 = .ok (.getfield 49, 3) := dr_180 0 49  pk_deca_66.2.2.2.2.2.2.2.2.2.2.2.2.2.2.2.2.2.2.2.2.2.1
theorem dX4_takesPlace_42 : decode cX4_takesPlace 42 = .ok (.iastore, 1) := dr_79  pk_deca_66.2.2.2.2.2.2.2.2.2.2.2.2.2.2.2.2.2.2.2.2.2.2.1
theorem dX4_takesPlace_43 : decode cX4_takesPlace 43 = .ok (.aload_n 0, 1) := dr_42  pk_deca_66.2.2.2.2.2.2.2.2.2.2.2.2.2.2.2.2.2.2.2.2.2.2.2.1
theorem dX4_takesPlace_44 : decode cX4_takesPlace 44 = .ok (.iload_n 2, 1) := dr_28  pk_deca_66.2.2.2.2.2.2.2.2.2.2.2.2.2.2.2.2.2.2.2.2.2.2.2.2.1
theorem dX4_takesPlace_45 : decode cX4_takesPlace 45 = .ok (.putfield 22, 3) := dr_181 0 22  pk_deca_66.2.2.2.2.2.2.2.2.2.2.2.2.2.2.2.2.2.2.2.2.2.2.2.2.2.1
theorem dX4_takesPlace_48 : decode cX4_takesPlace 48 = .ok (.aload_n 0, 1) := dr_42  pk_deca_66.2.2.2.2.2.2.2.2.2.2.2.2.2.2.2.2.2.2.2.2.2.2.2.2.2.2.1
theorem dX4_takesPlace_49 : decode cX4_takesPlace 49 = .ok (.iconst 1, 1) := dr_4  pk_deca_66.2.2.2.2.2.2.2.2.2.2.2.2.2.2.2.2.2.2.2.2.2.2.2.2.2.2.2.1
theorem dX4_takesPlace_50 : decode cX4_takesPlace 50 = .ok (.putfield 18, 3) := dr_181 0 18  pk_deca_66.2.2.2.2.2.2.2.2.2.2.2.2.2.2.2.2.2.2.2.2.2.2.2.2.2.2.2.2.1
theorem dX4_takesPlace_53 : decode cX4_takesPlace 53 = .ok (.iconst 1, 1) := dr_4  pk_deca_66.2.2.2.2.2.2.2.2.2.2.2.2.2.2.2.2.2.2.2.2.2.2.2.2.2.2.2.2.2.1
theorem dX4_takesPlace_54 : decode cX4_takesPlace 54 = .ok (.ireturn, 1) := dr_172  pk_deca_66.2.2.2.2.2.2.2.2.2.2.2.2.2.2.2.2.2.2.2.2.2.2.2.2.2.2.2.2.2.2
set_option maxRecDepth 20000 in
theorem pk_deca_67 : (bq cX4_takesLetter 0 42 = true) ∧ ((bq cX4_takesLetter 1 180 && bq cX4_takesLetter (1 + 1) 0 && bq cX4_takesLetter (1 + 2) 45 && (0 * 256 + 45 == 45)) = true) ∧ ((bq cX4_takesLetter 4 180 && bq cX4_takesLetter (4 + 1) 0 && bq cX4_takesLetter (4 + 2) 49 && (0 * 256 + 49 == 49)) = true) ∧ (bq cX4_takesLetter 7 62 = true) ∧ (bq cX4_takesLetter 8 29 = true) ∧ ((bq cX4_takesLetter 9 155 && bq cX4_takesLetter (9 + 1) 0 && bq cX4_takesLetter (9 + 2) 10 && (Reader.signed 16 (0 * 256 + 10) == 10)) = true) ∧ (bq cX4_takesLetter 12 29 = true) ∧ ((bq cX4_takesLetter 13 17 && bq cX4_takesLetter (13 + 1) 1 && bq cX4_takesLetter (13 + 2) 0 && (Reader.signed 16 (1 * 256 + 0) == 256)) = true) ∧ ((bq cX4_takesLetter 16 161 && bq cX4_takesLetter (16 + 1) 0 && bq cX4_takesLetter (16 + 2) 5 && (Reader.signed 16 (0 * 256 + 5) == 5)) = true) ∧ (bq cX4_takesLetter 19 3 = true) ∧ (bq cX4_takesLetter 20 172 = true) ∧ (bq cX4_takesLetter 21 42 = true) ∧ ((bq cX4_takesLetter 22 180 && bq cX4_takesLetter (22 + 1) 0 && bq cX4_takesLetter (22 + 2) 15 && (0 * 256 + 15 == 15)) = true) ∧ (bq cX4_takesLetter 25 29 = true) ∧ (bq cX4_takesLetter 26 27 = true) ∧ (bq cX4_takesLetter 27 79 = true) ∧ (bq cX4_takesLetter 28 42 = true) ∧ (bq cX4_takesLetter 29 3 = true) ∧ ((bq cX4_takesLetter 30 181 && bq cX4_takesLetter (30 + 1) 0 && bq cX4_takesLetter (30 + 2) 18 && (0 * 256 + 18 == 18)) = true) ∧ (bq cX4_takesLetter 33 42 = true) ∧ ((bq cX4_takesLetter 34 180 && bq cX4_takesLetter (34 + 1) 0 && bq cX4_takesLetter (34 + 2) 45 && (0 * 256 + 45 == 45)) = true) ∧ (bq cX4_takesLetter 37 3 = true) ∧ (bq cX4_takesLetter 38 28 = true) ∧ ((bq cX4_takesLetter 39 182 && bq cX4_takesLetter (39 + 1) 0 && bq cX4_takesLetter (39 + 2) 95 && (0 * 256 + 95 == 95)) = true) ∧ (bq cX4_takesLetter 42 172 = true) := by decide +kernel
theorem dX4_takesLetter_0 : decode cX4_takesLetter 0 = .ok (.aload_n 0, 1) := dr_42  pk_deca_67.1
theorem dX4_takesLetter_1 : decode cX4_takesLetter 1 = .ok (.getfield 45, 3) := dr_180 0 45  pk_deca_67.2.1
theorem dX4_takesLetter_4 : decode cX4_takesLetter 4 = .ok (.getfield 49, 3) := dr_180 0 49  pk_deca_67.2.2.1
theorem dX4_takesLetter_7 : decode cX4_takesLetter 7 = .ok (.istore_n 3, 1) := dr_62  pk_deca_67.2.2.2.1
theorem dX4_takesLetter_8 : decode cX4_takesLetter 8 = .ok (.iload_n 3, 1) := dr_29  pk_deca_67.2.2.2.2.1
theorem dX4_takesLetter_9 : decode cX4_takesLetter 9 = .ok (.ifCond .lt 10, 3) := dr_155 0 10  pk_deca_67.2.2.2.2.2.1
theorem dX4_takesLetter_12 : decode cX4_takesLetter 12 = .ok (.iload_n 3, 1) := dr_29  pk_deca_67.2.2.2.2.2.2.1
theorem dX4_takesLetter_13 : decode cX4_takesLetter 13 = .ok (.sipush 256, 3) := dr_17 1 0  pk_deca_67.2.2.2.2.2.2.2.1
theorem dX4_takesLetter_16 : decode cX4_takesLetter 16 = .ok (.if_icmp .lt 5, 3) := dr_161 0 5  pk_deca_67.2.2.2.2.2.2.2.2.1
theorem dX4_takesLetter_21 : decode cX4_takesLetter 21 = .ok (.aload_n 0, 1) := dr_42  pk_deca_67.2.2.2.2.2.2.2.2.2.2.2.1
theorem dX4_takesLetter_22 : decode cX4_takesLetter 22 = .ok (.getfield 15, 3) := dr_180 0 15  pk_deca_67.2.2.2.2.2.2.2.2.2.2.2.2.1
theorem dX4_takesLetter_25 : decode cX4_takesLetter 25 = .ok (.iload_n 3, 1) := dr_29  pk_deca_67.2.2.2.2.2.2.2.2.2.2.2.2.2.1
theorem dX4_takesLetter_26 : decode cX4_takesLetter 26 = .ok (.iload_n 1, 1) := dr_27  pk_deca_67.2.2.2.2.2.2.2.2.2.2.2.2.2.2.1
theorem dX4_takesLetter_27 : decode cX4_takesLetter 27 = .ok (.iastore, 1) := dr_79  pk_deca_67.2.2.2.2.2.2.2.2.2.2.2.2.2.2.2.1
theorem dX4_takesLetter_28 : decode cX4_takesLetter 28 = .ok (.aload_n 0, 1) := dr_42  pk_deca_67.2.2.2.2.2.2.2.2.2.2.2.2.2.2.2.2.1
theorem dX4_takesLetter_29 : decode cX4_takesLetter 29 = .ok (.iconst 0, 1) := dr_3  pk_deca_67.2.2.2.2.2.2.2.2.2.2.2.2.2.2.2.2.2.1
theorem dX4_takesLetter_30 : decode cX4_takesLetter 30 = .ok (.putfield 18, 3) := dr_181 0 18  pk_deca_67.2.2.2.2.2.2.2.2.2.2.2.2.2.2.2.2.2.2.1
theorem dX4_takesLetter_33 : decode cX4_takesLetter 33 = .ok (.aload_n 0, 1) := dr_42  pk_deca_67.2.2.2.2.2.2.2.2.2.2.2.2.2.2.2.2.2.2.2.1
theorem dX4_takesLetter_34 : decode cX4_takesLetter 34 = .ok (.getfield 45, 3) := dr_180 0 45  pk_deca_67.2.2.2.2.2.2.2.2.2.2.2.2.2.2.2.2.2.2.2.2.1
theorem dX4_takesLetter_37 : decode cX4_takesLetter 37 = .ok (.iconst 0, 1) := dr_3  pk_deca_67.2.2.2.2.2.2.2.2.2.2.2.2.2.2.2.2.2.2.2.2.2.1
theorem dX4_takesLetter_38 : decode cX4_takesLetter 38 = .ok (.iload_n 2, 1) := dr_28  pk_deca_67.2.2.2.2.2.2.2.2.2.2.2.2.2.2.2.2.2.2.2.2.2.2.1
theorem dX4_takesLetter_39 : decode cX4_takesLetter 39 = .ok (.invokevirtual 95, 3) := dr_182 0 95  pk_deca_67.2.2.2.2.2.2.2.2.2.2.2.2.2.2.2.2.2.2.2.2.2.2.2.1
theorem dX4_takesLetter_42 : decode cX4_takesLetter 42 = .ok (.ireturn, 1) := dr_172  pk_deca_67.2.2.2.2.2.2.2.2.2.2.2.2.2.2.2.2.2.2.2.2.2.2.2.2
set_option maxRecDepth 20000 in
theorem pk_deca_68 : (bq cX4_takesNumber 0 42 = true) ∧ ((bq cX4_takesNumber 1 180 && bq cX4_takesNumber (1 + 1) 0 && bq cX4_takesNumber (1 + 2) 18 && (0 * 256 + 18 == 18)) = true) ∧ (bq cX4_takesNumber 4 5 = true) ∧ ((bq cX4_takesNumber 5 160 && bq cX4_takesNumber (5 + 1) 0 && bq cX4_takesNumber (5 + 2) 9 && (Reader.signed 16 (0 * 256 + 9) == 9)) = true) ∧ (bq cX4_takesNumber 8 27 = true) ∧ ((bq cX4_takesNumber 9 16 && bq cX4_takesNumber (9 + 1) 247 && (Reader.signed 8 247 == (-9))) = true) ∧ ((bq cX4_takesNumber 11 160 && bq cX4_takesNumber (11 + 1) 0 && bq cX4_takesNumber (11 + 2) 5 && (Reader.signed 16 (0 * 256 + 5) == 5)) = true) ∧ (bq cX4_takesNumber 14 3 = true) ∧ (bq cX4_takesNumber 15 172 = true) ∧ (bq cX4_takesNumber 16 42 = true) ∧ (bq cX4_takesNumber 17 3 = true) ∧ ((bq cX4_takesNumber 18 181 && bq cX4_takesNumber (18 + 1) 0 && bq cX4_takesNumber (18 + 2) 18 && (0 * 256 + 18 == 18)) = true) ∧ (bq cX4_takesNumber 21 42 = true) ∧ ((bq cX4_takesNumber 22 180 && bq cX4_takesNumber (22 + 1) 0 && bq cX4_takesNumber (22 + 2) 45 && (0 * 256 + 45 == 45)) = true) ∧ (bq cX4_takesNumber 25 27 = true) ∧ (bq cX4_takesNumber 26 28 = true) ∧ ((bq cX4_takesNumber 27 182 && bq cX4_takesNumber (27 + 1) 0 && bq cX4_takesNumber (27 + 2) 95 && (0 * 256 + 95 == 95)) = true) ∧ (bq cX4_takesNumber 30 172 = true) := by decide +kernel
theorem dX4_takesNumber_0 : decode cX4_takesNumber 0 = .ok (.aload_n 0, 1) := dr_42  pk_deca_68.1
theorem dX4_takesNumber_1 : decode cX4_takesNumber 1 = .ok (.getfield 18, 3) := dr_180 0 18  pk_deca_68.2.1
theorem dX4_takesNumber_4 : decode cX4_takesNumber 4 = .ok (.iconst 2, 1) := dr_5  pk_deca_68.2.2.1
theorem dX4_takesNumber_5 : decode cX4_takesNumber 5 = .ok (.if_icmp .ne 9, 3) := dr_160 0 9  pk_deca_68.2.2.2.1
theorem dX4_takesNumber_8 : decode cX4_takesNumber 8 = .ok (.iload_n 1, 1) := dr_27  pk_deca_68.2.2.2.2.1
theorem dX4_takesNumber_9 : decode cX4_takesNumber 9 = .ok (.bipush (-9), 2) := dr_16 247  pk_deca_68.2.2.2.2.2.1
theorem dX4_takesNumber_11 : decode cX4_takesNumber 11 = .ok (.if_icmp .ne 5, 3) := dr_160 0 5  pk_deca_68.2.2.2.2.2.2.1
theorem dX4_takesNumber_14 : decode cX4_takesNumber 14 = .ok (.iconst 0, 1) := dr_3  pk_deca_68.2.2.2.2.2.2.2.1
theorem dX4_takesNumber_15 : decode cX4_takesNumber 15 = .ok (.ireturn, 1) := dr_172  pk_deca_68.2.2.2.2.2.2.2.2.1
theorem dX4_takesNumber_16 : decode cX4_takesNumber 16 = .ok (.aload_n 0, 1) := dr_42  pk_deca_68.2.2.2.2.2.2.2.2.2.1
theorem dX4_takesNumber_17 : decode cX4_takesNumber 17 = .ok (.iconst 0, 1) := dr_3  pk_deca_68.2.2.2.2.2.2.2.2.2.2.1
theorem dX4_takesNumber_18 : decode cX4_takesNumber 18 = .ok (.putfield 18, 3) := dr_181 0 18  pk_deca_68.2.2.2.2.2.2.2.2.2.2.2.1
theorem dX4_takesNumber_21 : decode cX4_takesNumber 21 = .ok (.aload_n 0, 1) := dr_42  pk_deca_68.2.2.2.2.2.2.2.2.2.2.2.2.1
theorem dX4_takesNumber_22 : decode cX4_takesNumber 22 = .ok (.getfield 45, 3) := dr_180 0 45  pk_deca_68.2.2.2.2.2.2.2.2.2.2.2.2.2.1
theorem dX4_takesNumber_25 : decode cX4_takesNumber 25 = .ok (.iload_n 1, 1) := dr_27  pk_deca_68.2.2.2.2.2.2.2.2.2.2.2.2.2.2.1
theorem dX4_takesNumber_26 : decode cX4_takesNumber 26 = .ok (.iload_n 2, 1) := dr_28  pk_deca_68.2.2.2.2.2.2.2.2.2.2.2.2.2.2.2.1
theorem dX4_takesNumber_27 : decode cX4_takesNumber 27 = .ok (.invokevirtual 95, 3) := dr_182 0 95  pk_deca_68.2.2.2.2.2.2.2.2.2.2.2.2.2.2.2.2.1
theorem dX4_takesNumber_30 : decode cX4_takesNumber 30 = .ok (.ireturn, 1) := dr_172  pk_deca_68.2.2.2.2.2.2.2.2.2.2.2.2.2.2.2.2.2
set_option maxRecDepth 20000 in
theorem pk_deca_69 : (bq cX4_valueOf 0 28 = true) ∧ (bq cX4_valueOf 1 6 = true) ∧ ((bq cX4_valueOf 2 163 && bq cX4_valueOf (2 + 1) 0 && bq cX4_valueOf (2 + 2) 18 && (Reader.signed 16 (0 * 256 + 18) == 18)) = true) ∧ (bq cX4_valueOf 5 28 = true) ∧ (bq cX4_valueOf 6 4 = true) ∧ ((bq cX4_valueOf 7 164 && bq cX4_valueOf (7 + 1) 0 && bq cX4_valueOf (7 + 2) 16 && (Reader.signed 16 (0 * 256 + 16) == 16)) = true) ∧ (bq cX4_valueOf 10 42 = true) ∧ (bq cX4_valueOf 11 27 = true) ∧ ((bq cX4_valueOf 12 182 && bq cX4_valueOf (12 + 1) 0 && bq cX4_valueOf (12 + 2) 56 && (0 * 256 + 56 == 56)) = true) ∧ ((bq cX4_valueOf 15 16 && bq cX4_valueOf (15 + 1) 48 && (Reader.signed 8 48 == 48)) = true) ∧ ((bq cX4_valueOf 17 160 && bq cX4_valueOf (17 + 1) 0 && bq cX4_valueOf (17 + 2) 6 && (Reader.signed 16 (0 * 256 + 6) == 6)) = true) ∧ ((bq cX4_valueOf 20 16 && bq cX4_valueOf (20 + 1) 247 && (Reader.signed 8 247 == (-9))) = true) ∧ (bq cX4_valueOf 22 172 = true) ∧ (bq cX4_valueOf 23 3 = true) ∧ (bq cX4_valueOf 24 62 = true) ∧ (bq cX4_valueOf 25 3 = true) ∧ ((bq cX4_valueOf 26 54 && bq cX4_valueOf (26 + 1) 4) = true) ∧ ((bq cX4_valueOf 28 21 && bq cX4_valueOf (28 + 1) 4) = true) ∧ (bq cX4_valueOf 30 28 = true) ∧ ((bq cX4_valueOf 31 162 && bq cX4_valueOf (31 + 1) 0 && bq cX4_valueOf (31 + 2) 26 && (Reader.signed 16 (0 * 256 + 26) == 26)) = true) ∧ ((bq cX4_valueOf 34 16 && bq cX4_valueOf (34 + 1) 10 && (Reader.signed 8 10 == 10)) = true) ∧ (bq cX4_valueOf 36 29 = true) ∧ (bq cX4_valueOf 37 104 = true) ∧ (bq cX4_valueOf 38 42 = true) ∧ (bq cX4_valueOf 39 27 = true) ∧ ((bq cX4_valueOf 40 21 && bq cX4_valueOf (40 + 1) 4) = true) ∧ (bq cX4_valueOf 42 96 = true) ∧ ((bq cX4_valueOf 43 182 && bq cX4_valueOf (43 + 1) 0 && bq cX4_valueOf (43 + 2) 56 && (0 * 256 + 56 == 56)) = true) ∧ (bq cX4_valueOf 46 96 = true) ∧ ((bq cX4_valueOf 47 16 && bq cX4_valueOf (47 + 1) 48 && (Reader.signed 8 48 == 48)) = true) ∧ (bq cX4_valueOf 49 100 = true) ∧ (bq cX4_valueOf 50 62 = true) := by decide +kernel
theorem dX4_valueOf_0 : decode cX4_valueOf 0 = .ok (.iload_n 2, 1) := dr_28  pk_deca_69.1
theorem dX4_valueOf_1 : decode cX4_valueOf 1 = .ok (.iconst 3, 1) := dr_6  pk_deca_69.2.1
theorem dX4_valueOf_2 : decode cX4_valueOf 2 = .ok (.if_icmp .gt 18, 3) := dr_163 0 18  pk_deca_69.2.2.1
theorem dX4_valueOf_5 : decode cX4_valueOf 5 = .ok (.iload_n 2, 1) := dr_28  pk_deca_69.2.2.2.1
theorem dX4_valueOf_6 : decode cX4_valueOf 6 = .ok (.iconst 1, 1) := dr_4  pk_deca_69.2.2.2.2.1
theorem dX4_valueOf_7 : decode cX4_valueOf 7 = .ok (.if_icmp .le 16, 3) := dr_164 0 16  pk_deca_69.2.2.2.2.2.1
theorem dX4_valueOf_10 : decode cX4_valueOf 10 = .ok (.aload_n 0, 1) := dr_42  pk_deca_69.2.2.2.2.2.2.1
theorem dX4_valueOf_11 : decode cX4_valueOf 11 = .ok (.iload_n 1, 1) := dr_27  pk_deca_69.2.2.2.2.2.2.2.1
theorem dX4_valueOf_12 : decode cX4_valueOf 12 = .ok (.invokevirtual 56, 3) := dr_182 0 56  pk_deca_69.2.2.2.2.2.2.2.2.1
theorem dX4_valueOf_15 : decode cX4_valueOf 15 = .ok (.bipush 48, 2) := dr_16 48  pk_deca_69.2.2.2.2.2.2.2.2.2.1
theorem dX4_valueOf_17 : decode cX4_valueOf 17 = .ok (.if_icmp .ne 6, 3) := dr_160 0 6  pk_deca_69.2.2.2.2.2.2.2.2.2.2.1
theorem dX4_valueOf_20 : decode cX4_valueOf 20 = .ok (.bipush (-9), 2) := dr_16 247  pk_deca_69.2.2.2.2.2.2.2.2.2.2.2.1
theorem dX4_valueOf_22 : decode cX4_valueOf 22 = .ok (.ireturn, 1) := dr_172  pk_deca_69.2.2.2.2.2.2.2.2.2.2.2.2.1
theorem dX4_valueOf_23 : decode cX4_valueOf 23 = .ok (.iconst 0, 1) := dr_3  pk_deca_69.2.2.2.2.2.2.2.2.2.2.2.2.2.1
theorem dX4_valueOf_24 : decode cX4_valueOf 24 = .ok (.istore_n 3, 1) := dr_62  pk_deca_69.2.2.2.2.2.2.2.2.2.2.2.2.2.2.1
theorem dX4_valueOf_25 : decode cX4_valueOf 25 = .ok (.iconst 0, 1) := dr_3  pk_deca_69.2.2.2.2.2.2.2.2.2.2.2.2.2.2.2.1
theorem dX4_valueOf_26 : decode cX4_valueOf 26 = .ok (.istore 4, 2) := dr_54  pk_deca_69.2.2.2.2.2.2.2.2.2.2.2.2.2.2.2.2.1
theorem dX4_valueOf_28 : decode cX4_valueOf 28 = .ok (.iload 4, 2) := dr_21  pk_deca_69.2.2.2.2.2.2.2.2.2.2.2.2.2.2.2.2.2.1
theorem dX4_valueOf_30 : decode cX4_valueOf 30 = .ok (.iload_n 2, 1) := dr_28  pk_deca_69.2.2.2.2.2.2.2.2.2.2.2.2.2.2.2.2.2.2.1
theorem dX4_valueOf_31 : decode cX4_valueOf 31 = .ok (.if_icmp .ge 26, 3) := dr_162 0 26  pk_deca_69.2.2.2.2.2.2.2.2.2.2.2.2.2.2.2.2.2.2.2.1
theorem dX4_valueOf_34 : decode cX4_valueOf 34 = .ok (.bipush 10, 2) := dr_16 10  pk_deca_69.2.2.2.2.2.2.2.2.2.2.2.2.2.2.2.2.2.2.2.2.1
theorem dX4_valueOf_36 : decode cX4_valueOf 36 = .ok (.iload_n 3, 1) := dr_29  pk_deca_69.2.2.2.2.2.2.2.2.2.2.2.2.2.2.2.2.2.2.2.2.2.1
theorem dX4_valueOf_37 : decode cX4_valueOf 37 = .ok (.imul, 1) := dr_104  pk_deca_69.2.2.2.2.2.2.2.2.2.2.2.2.2.2.2.2.2.2.2.2.2.2.1
theorem dX4_valueOf_38 : decode cX4_valueOf 38 = .ok (.aload_n 0, 1) := dr_42  pk_deca_69.2.2.2.2.2.2.2.2.2.2.2.2.2.2.2.2.2.2.2.2.2.2.2.1
theorem dX4_valueOf_39 : decode cX4_valueOf 39 = .ok (.iload_n 1, 1) := dr_27  pk_deca_69.2.2.2.2.2.2.2.2.2.2.2.2.2.2.2.2.2.2.2.2.2.2.2.2.1
theorem dX4_valueOf_40 : decode cX4_valueOf 40 = .ok (.iload 4, 2) := dr_21  pk_deca_69.2.2.2.2.2.2.2.2.2.2.2.2.2.2.2.2.2.2.2.2.2.2.2.2.2.1
theorem dX4_valueOf_42 : decode cX4_valueOf 42 = .ok (.iadd, 1) := dr_96  pk_deca_69.2.2.2.2.2.2.2.2.2.2.2.2.2.2.2.2.2.2.2.2.2.2.2.2.2.2.1
theorem dX4_valueOf_43 : decode cX4_valueOf 43 = .ok (.invokevirtual 56, 3) := dr_182 0 56  pk_deca_69.2.2.2.2.2.2.2.2.2.2.2.2.2.2.2.2.2.2.2.2.2.2.2.2.2.2.2.1
theorem dX4_valueOf_46 : decode cX4_valueOf 46 = .ok (.iadd, 1) := dr_96  pk_deca_69.2.2.2.2.2.2.2.2.2.2.2.2.2.2.2.2.2.2.2.2.2.2.2.2.2.2.2.2.1
theorem dX4_valueOf_47 : decode cX4_valueOf 47 = .ok (.bipush 48, 2) := dr_16 48  pk_deca_69.2.2.2.2.2.2.2.2.2.2.2.2.2.2.2.2.2.2.2.2.2.2.2.2.2.2.2.2.2.1
theorem dX4_valueOf_49 : decode cX4_valueOf 49 = .ok (.isub, 1) := dr_100  pk_deca_69.2.2.2.2.2.2.2.2.2.2.2.2.2.2.2.2.2.2.2.2.2.2.2.2.2.2.2.2.2.2.1
theorem dX4_valueOf_50 : decode cX4_valueOf 50 = .ok (.istore_n 3, 1) := dr_62  pk_deca_69.2.2.2.2.2.2.2.2.2.2.2.2.2.2.2.2.2.2.2.2.2.2.2.2.2.2.2.2.2.2.2
theorem dX4_valueOf_51 : decode cX4_valueOf 51 = .ok (.iinc 4 1, 3) := by decide +kernel
set_option maxRecDepth 20000 in
theorem pk_deca_70 : ((bq cX4_valueOf 54 167 && bq cX4_valueOf (54 + 1) 255 && bq cX4_valueOf (54 + 2) 230 && (Reader.signed 16 (255 * 256 + 230) == (-26))) = true) ∧ (bq cX4_valueOf 57 29 = true) ∧ ((bq cX4_valueOf 58 17 && bq cX4_valueOf (58 + 1) 0 && bq cX4_valueOf (58 + 2) 255 && (Reader.signed 16 (0 * 256 + 255) == 255)) = true) ∧ ((bq cX4_valueOf 61 164 && bq cX4_valueOf (61 + 1) 0 && bq cX4_valueOf (61 + 2) 8 && (Reader.signed 16 (0 * 256 + 8) == 8)) = true) ∧ ((bq cX4_valueOf 64 16 && bq cX4_valueOf (64 + 1) 247 && (Reader.signed 8 247 == (-9))) = true) ∧ ((bq cX4_valueOf 66 167 && bq cX4_valueOf (66 + 1) 0 && bq cX4_valueOf (66 + 2) 4 && (Reader.signed 16 (0 * 256 + 4) == 4)) = true) ∧ (bq cX4_valueOf 69 29 = true) ∧ (bq cX4_valueOf 70 172 = true) := by decide +kernel
theorem dX4_valueOf_54 : decode cX4_valueOf 54 = .ok (.goto (-26), 3) := dr_167 255 230  pk_deca_70.1
theorem dX4_valueOf_57 : decode cX4_valueOf 57 = .ok (.iload_n 3, 1) := dr_29  pk_deca_70.2.1
theorem dX4_valueOf_58 : decode cX4_valueOf 58 = .ok (.sipush 255, 3) := dr_17 0 255  pk_deca_70.2.2.1
theorem dX4_valueOf_61 : decode cX4_valueOf 61 = .ok (.if_icmp .le 8, 3) := dr_164 0 8  pk_deca_70.2.2.2.1
theorem dX4_valueOf_64 : decode cX4_valueOf 64 = .ok (.bipush (-9), 2) := dr_16 247  pk_deca_70.2.2.2.2.1
theorem dX4_valueOf_66 : decode cX4_valueOf 66 = .ok (.goto 4, 3) := dr_167 0 4  pk_deca_70.2.2.2.2.2.1
theorem dX4_valueOf_69 : decode cX4_valueOf 69 = .ok (.iload_n 3, 1) := dr_29  pk_deca_70.2.2.2.2.2.2.1
theorem dX4_valueOf_70 : decode cX4_valueOf 70 = .ok (.ireturn, 1) := dr_172  pk_deca_70.2.2.2.2.2.2.2
set_option maxRecDepth 20000 in
theorem pk_deca_71 : (bq cX4_takesWord 0 42 = true) ∧ ((bq cX4_takesWord 1 180 && bq cX4_takesWord (1 + 1) 0 && bq cX4_takesWord (1 + 2) 18 && (0 * 256 + 18 == 18)) = true) ∧ ((bq cX4_takesWord 4 154 && bq cX4_takesWord (4 + 1) 0 && bq cX4_takesWord (4 + 2) 9 && (Reader.signed 16 (0 * 256 + 9) == 9)) = true) ∧ (bq cX4_takesWord 7 27 = true) ∧ ((bq cX4_takesWord 8 16 && bq cX4_takesWord (8 + 1) 247 && (Reader.signed 8 247 == (-9))) = true) ∧ ((bq cX4_takesWord 10 160 && bq cX4_takesWord (10 + 1) 0 && bq cX4_takesWord (10 + 2) 5 && (Reader.signed 16 (0 * 256 + 5) == 5)) = true) ∧ (bq cX4_takesWord 13 3 = true) ∧ (bq cX4_takesWord 14 172 = true) ∧ (bq cX4_takesWord 15 27 = true) ∧ ((bq cX4_takesWord 16 16 && bq cX4_takesWord (16 + 1) 16 && (Reader.signed 8 16 == 16)) = true) ∧ ((bq cX4_takesWord 18 160 && bq cX4_takesWord (18 + 1) 0 && bq cX4_takesWord (18 + 2) 10 && (Reader.signed 16 (0 * 256 + 10) == 10)) = true) ∧ (bq cX4_takesWord 21 42 = true) ∧ (bq cX4_takesWord 22 5 = true) ∧ ((bq cX4_takesWord 23 181 && bq cX4_takesWord (23 + 1) 0 && bq cX4_takesWord (23 + 2) 18 && (0 * 256 + 18 == 18)) = true) ∧ (bq cX4_takesWord 26 4 = true) ∧ (bq cX4_takesWord 27 172 = true) ∧ (bq cX4_takesWord 28 42 = true) ∧ (bq cX4_takesWord 29 27 = true) ∧ ((bq cX4_takesWord 30 184 && bq cX4_takesWord (30 + 1) 0 && bq cX4_takesWord (30 + 2) 98 && (0 * 256 + 98 == 98)) = true) ∧ ((bq cX4_takesWord 33 153 && bq cX4_takesWord (33 + 1) 0 && bq cX4_takesWord (33 + 2) 7 && (Reader.signed 16 (0 * 256 + 7) == 7)) = true) ∧ (bq cX4_takesWord 36 5 = true) ∧ ((bq cX4_takesWord 37 167 && bq cX4_takesWord (37 + 1) 0 && bq cX4_takesWord (37 + 2) 4 && (Reader.signed 16 (0 * 256 + 4) == 4)) = true) ∧ (bq cX4_takesWord 40 3 = true) ∧ ((bq cX4_takesWord 41 181 && bq cX4_takesWord (41 + 1) 0 && bq cX4_takesWord (41 + 2) 18 && (0 * 256 + 18 == 18)) = true) ∧ (bq cX4_takesWord 44 42 = true) ∧ ((bq cX4_takesWord 45 180 && bq cX4_takesWord (45 + 1) 0 && bq cX4_takesWord (45 + 2) 45 && (0 * 256 + 45 == 45)) = true) ∧ (bq cX4_takesWord 48 27 = true) ∧ (bq cX4_takesWord 49 28 = true) ∧ ((bq cX4_takesWord 50 182 && bq cX4_takesWord (50 + 1) 0 && bq cX4_takesWord (50 + 2) 95 && (0 * 256 + 95 == 95)) = true) ∧ (bq cX4_takesWord 53 172 = true) := by decide +kernel
theorem dX4_takesWord_0 : decode cX4_takesWord 0 = .ok (.aload_n 0, 1) := dr_42  pk_deca_71.1
theorem dX4_takesWord_1 : decode cX4_takesWord 1 = .ok (.getfield 18, 3) := dr_180 0 18  pk_deca_71.2.1
theorem dX4_takesWord_4 : decode cX4_takesWord 4 = .ok (.ifCond .ne 9, 3) := dr_154 0 9  pk_deca_71.2.2.1
theorem dX4_takesWord_7 : decode cX4_takesWord 7 = .ok (.iload_n 1, 1) := dr_27  pk_deca_71.2.2.2.1
theorem dX4_takesWord_8 : decode cX4_takesWord 8 = .ok (.bipush (-9), 2) := dr_16 247  pk_deca_71.2.2.2.2.1
theorem dX4_takesWord_10 : decode cX4_takesWord 10 = .ok (.if_icmp .ne 5, 3) := dr_160 0 5  pk_deca_71.2.2.2.2.2.1
theorem dX4_takesWord_13 : decode cX4_takesWord 13 = .ok (.iconst 0, 1) := dr_3  pk_deca_71.2.2.2.2.2.2.1
theorem dX4_takesWord_14 : decode cX4_takesWord 14 = .ok (.ireturn, 1) := dr_172  pk_deca_71.2.2.2.2.2.2.2.1
theorem dX4_takesWord_15 : decode cX4_takesWord 15 = .ok (.iload_n 1, 1) := dr_27  pk_deca_71.2.2.2.2.2.2.2.2.1
theorem dX4_takesWord_16 : decode cX4_takesWord 16 = .ok (.bipush 16, 2) := dr_16 16  pk_deca_71.2.2.2.2.2.2.2.2.2.1
theorem dX4_takesWord_18 : decode cX4_takesWord 18 = .ok (.if_icmp .ne 10, 3) := dr_160 0 10  pk_deca_71.2.2.2.2.2.2.2.2.2.2.1
theorem dX4_takesWord_21 : decode cX4_takesWord 21 = .ok (.aload_n 0, 1) := dr_42  pk_deca_71.2.2.2.2.2.2.2.2.2.2.2.1
theorem dX4_takesWord_22 : decode cX4_takesWord 22 = .ok (.iconst 2, 1) := dr_5  pk_deca_71.2.2.2.2.2.2.2.2.2.2.2.2.1
theorem dX4_takesWord_23 : decode cX4_takesWord 23 = .ok (.putfield 18, 3) := dr_181 0 18  pk_deca_71.2.2.2.2.2.2.2.2.2.2.2.2.2.1
theorem dX4_takesWord_26 : decode cX4_takesWord 26 = .ok (.iconst 1, 1) := dr_4  pk_deca_71.2.2.2.2.2.2.2.2.2.2.2.2.2.2.1
theorem dX4_takesWord_27 : decode cX4_takesWord 27 = .ok (.ireturn, 1) := dr_172  pk_deca_71.2.2.2.2.2.2.2.2.2.2.2.2.2.2.2.1
theorem dX4_takesWord_28 : decode cX4_takesWord 28 = .ok (.aload_n 0, 1) := dr_42  pk_deca_71.2.2.2.2.2.2.2.2.2.2.2.2.2.2.2.2.1
theorem dX4_takesWord_29 : decode cX4_takesWord 29 = .ok (.iload_n 1, 1) := dr_27  pk_deca_71.2.2.2.2.2.2.2.2.2.2.2.2.2.2.2.2.2.1
theorem dX4_takesWord_30 : decode cX4_takesWord 30 = .ok (.invokestatic 98, 3) := dr_184 0 98  pk_deca_71.2.2.2.2.2.2.2.2.2.2.2.2.2.2.2.2.2.2.1
theorem dX4_takesWord_33 : decode cX4_takesWord 33 = .ok (.ifCond .eq 7, 3) := dr_153 0 7  pk_deca_71.2.2.2.2.2.2.2.2.2.2.2.2.2.2.2.2.2.2.2.1
theorem dX4_takesWord_36 : decode cX4_takesWord 36 = .ok (.iconst 2, 1) := dr_5  pk_deca_71.2.2.2.2.2.2.2.2.2.2.2.2.2.2.2.2.2.2.2.2.1
theorem dX4_takesWord_37 : decode cX4_takesWord 37 = .ok (.goto 4, 3) := dr_167 0 4  pk_deca_71.2.2.2.2.2.2.2.2.2.2.2.2.2.2.2.2.2.2.2.2.2.1
theorem dX4_takesWord_40 : decode cX4_takesWord 40 = .ok (.iconst 0, 1) := dr_3  pk_deca_71.2.2.2.2.2.2.2.2.2.2.2.2.2.2.2.2.2.2.2.2.2.2.1
theorem dX4_takesWord_41 : decode cX4_takesWord 41 = .ok (.putfield 18, 3) := dr_181 0 18  pk_deca_71.2.2.2.2.2.2.2.2.2.2.2.2.2.2.2.2.2.2.2.2.2.2.2.1
theorem dX4_takesWord_44 : decode cX4_takesWord 44 = .ok (.aload_n 0, 1) := dr_42  pk_deca_71.2.2.2.2.2.2.2.2.2.2.2.2.2.2.2.2.2.2.2.2.2.2.2.2.1
theorem dX4_takesWord_45 : decode cX4_takesWord 45 = .ok (.getfield 45, 3) := dr_180 0 45  pk_deca_71.2.2.2.2.2.2.2.2.2.2.2.2.2.2.2.2.2.2.2.2.2.2.2.2.2.1
theorem dX4_takesWord_48 : decode cX4_takesWord 48 = .ok (.iload_n 1, 1) := dr_27  pk_deca_71.2.2.2.2.2.2.2.2.2.2.2.2.2.2.2.2.2.2.2.2.2.2.2.2.2.2.1
theorem dX4_takesWord_49 : decode cX4_takesWord 49 = .ok (.iload_n 2, 1) := dr_28  pk_deca_71.2.2.2.2.2.2.2.2.2.2.2.2.2.2.2.2.2.2.2.2.2.2.2.2.2.2.2.1
theorem dX4_takesWord_50 : decode cX4_takesWord 50 = .ok (.invokevirtual 95, 3) := dr_182 0 95  pk_deca_71.2.2.2.2.2.2.2.2.2.2.2.2.2.2.2.2.2.2.2.2.2.2.2.2.2.2.2.2.1
theorem dX4_takesWord_53 : decode cX4_takesWord 53 = .ok (.ireturn, 1) := dr_172  pk_deca_71.2.2.2.2.2.2.2.2.2.2.2.2.2.2.2.2.2.2.2.2.2.2.2.2.2.2.2.2.2
set_option maxRecDepth 20000 in
theorem pk_deca_72 : (bq cX4_wordOf 0 28 = true) ∧ (bq cX4_wordOf 1 8 = true) ∧ ((bq cX4_wordOf 2 164 && bq cX4_wordOf (2 + 1) 0 && bq cX4_wordOf (2 + 2) 6 && (Reader.signed 16 (0 * 256 + 6) == 6)) = true) ∧ ((bq cX4_wordOf 5 16 && bq cX4_wordOf (5 + 1) 247 && (Reader.signed 8 247 == (-9))) = true) ∧ (bq cX4_wordOf 7 172 = true) ∧ (bq cX4_wordOf 8 3 = true) ∧ (bq cX4_wordOf 9 62 = true) ∧ (bq cX4_wordOf 10 29 = true) ∧ ((bq cX4_wordOf 11 16 && bq cX4_wordOf (11 + 1) 17 && (Reader.signed 8 17 == 17)) = true) ∧ ((bq cX4_wordOf 13 162 && bq cX4_wordOf (13 + 1) 0 && bq cX4_wordOf (13 + 2) 96 && (Reader.signed 16 (0 * 256 + 96) == 96)) = true) ∧ (bq cX4_wordOf 16 3 = true) ∧ ((bq cX4_wordOf 17 54 && bq cX4_wordOf (17 + 1) 4) = true) ∧ (bq cX4_wordOf 19 3 = true) ∧ ((bq cX4_wordOf 20 54 && bq cX4_wordOf (20 + 1) 5) = true) ∧ ((bq cX4_wordOf 22 21 && bq cX4_wordOf (22 + 1) 5) = true) ∧ (bq cX4_wordOf 24 8 = true) ∧ ((bq cX4_wordOf 25 162 && bq cX4_wordOf (25 + 1) 0 && bq cX4_wordOf (25 + 2) 70 && (Reader.signed 16 (0 * 256 + 70) == 70)) = true) ∧ ((bq cX4_wordOf 28 21 && bq cX4_wordOf (28 + 1) 4) = true) ∧ ((bq cX4_wordOf 30 21 && bq cX4_wordOf (30 + 1) 5) = true) ∧ ((bq cX4_wordOf 32 160 && bq cX4_wordOf (32 + 1) 0 && bq cX4_wordOf (32 + 2) 63 && (Reader.signed 16 (0 * 256 + 63) == 63)) = true) ∧ (bq cX4_wordOf 35 8 = true) ∧ (bq cX4_wordOf 36 29 = true) ∧ (bq cX4_wordOf 37 104 = true) ∧ ((bq cX4_wordOf 38 21 && bq cX4_wordOf (38 + 1) 5) = true) ∧ (bq cX4_wordOf 40 96 = true) ∧ ((bq cX4_wordOf 41 54 && bq cX4_wordOf (41 + 1) 6) = true) ∧ ((bq cX4_wordOf 43 21 && bq cX4_wordOf (43 + 1) 5) = true) ∧ (bq cX4_wordOf 45 28 = true) ∧ ((bq cX4_wordOf 46 162 && bq cX4_wordOf (46 + 1) 0 && bq cX4_wordOf (46 + 2) 14 && (Reader.signed 16 (0 * 256 + 14) == 14)) = true) ∧ (bq cX4_wordOf 49 42 = true) ∧ (bq cX4_wordOf 50 27 = true) ∧ ((bq cX4_wordOf 51 21 && bq cX4_wordOf (51 + 1) 5) = true) := by decide +kernel
theorem dX4_wordOf_0 : decode cX4_wordOf 0 = .ok (.iload_n 2, 1) := dr_28  pk_deca_72.1
theorem dX4_wordOf_1 : decode cX4_wordOf 1 = .ok (.iconst 5, 1) := dr_8  pk_deca_72.2.1
theorem dX4_wordOf_2 : decode cX4_wordOf 2 = .ok (.if_icmp .le 6, 3) := dr_164 0 6  pk_deca_72.2.2.1
theorem dX4_wordOf_5 : decode cX4_wordOf 5 = .ok (.bipush (-9), 2) := dr_16 247  pk_deca_72.2.2.2.1
theorem dX4_wordOf_7 : decode cX4_wordOf 7 = .ok (.ireturn, 1) := dr_172  pk_deca_72.2.2.2.2.1
theorem dX4_wordOf_8 : decode cX4_wordOf 8 = .ok (.iconst 0, 1) := dr_3  pk_deca_72.2.2.2.2.2.1
theorem dX4_wordOf_9 : decode cX4_wordOf 9 = .ok (.istore_n 3, 1) := dr_62  pk_deca_72.2.2.2.2.2.2.1
theorem dX4_wordOf_10 : decode cX4_wordOf 10 = .ok (.iload_n 3, 1) := dr_29  pk_deca_72.2.2.2.2.2.2.2.1
theorem dX4_wordOf_11 : decode cX4_wordOf 11 = .ok (.bipush 17, 2) := dr_16 17  pk_deca_72.2.2.2.2.2.2.2.2.1
theorem dX4_wordOf_13 : decode cX4_wordOf 13 = .ok (.if_icmp .ge 96, 3) := dr_162 0 96  pk_deca_72.2.2.2.2.2.2.2.2.2.1
theorem dX4_wordOf_16 : decode cX4_wordOf 16 = .ok (.iconst 0, 1) := dr_3  pk_deca_72.2.2.2.2.2.2.2.2.2.2.1
theorem dX4_wordOf_17 : decode cX4_wordOf 17 = .ok (.istore 4, 2) := dr_54  pk_deca_72.2.2.2.2.2.2.2.2.2.2.2.1
theorem dX4_wordOf_19 : decode cX4_wordOf 19 = .ok (.iconst 0, 1) := dr_3  pk_deca_72.2.2.2.2.2.2.2.2.2.2.2.2.1
theorem dX4_wordOf_20 : decode cX4_wordOf 20 = .ok (.istore 5, 2) := dr_54  pk_deca_72.2.2.2.2.2.2.2.2.2.2.2.2.2.1
theorem dX4_wordOf_22 : decode cX4_wordOf 22 = .ok (.iload 5, 2) := dr_21  pk_deca_72.2.2.2.2.2.2.2.2.2.2.2.2.2.2.1
theorem dX4_wordOf_24 : decode cX4_wordOf 24 = .ok (.iconst 5, 1) := dr_8  pk_deca_72.2.2.2.2.2.2.2.2.2.2.2.2.2.2.2.1
theorem dX4_wordOf_25 : decode cX4_wordOf 25 = .ok (.if_icmp .ge 70, 3) := dr_162 0 70  pk_deca_72.2.2.2.2.2.2.2.2.2.2.2.2.2.2.2.2.1
theorem dX4_wordOf_28 : decode cX4_wordOf 28 = .ok (.iload 4, 2) := dr_21  pk_deca_72.2.2.2.2.2.2.2.2.2.2.2.2.2.2.2.2.2.1
theorem dX4_wordOf_30 : decode cX4_wordOf 30 = .ok (.iload 5, 2) := dr_21  pk_deca_72.2.2.2.2.2.2.2.2.2.2.2.2.2.2.2.2.2.2.1
theorem dX4_wordOf_32 : decode cX4_wordOf 32 = .ok (.if_icmp .ne 63, 3) := dr_160 0 63  pk_deca_72.2.2.2.2.2.2.2.2.2.2.2.2.2.2.2.2.2.2.2.1
theorem dX4_wordOf_35 : decode cX4_wordOf 35 = .ok (.iconst 5, 1) := dr_8  pk_deca_72.2.2.2.2.2.2.2.2.2.2.2.2.2.2.2.2.2.2.2.2.1
theorem dX4_wordOf_36 : decode cX4_wordOf 36 = .ok (.iload_n 3, 1) := dr_29  pk_deca_72.2.2.2.2.2.2.2.2.2.2.2.2.2.2.2.2.2.2.2.2.2.1
theorem dX4_wordOf_37 : decode cX4_wordOf 37 = .ok (.imul, 1) := dr_104  pk_deca_72.2.2.2.2.2.2.2.2.2.2.2.2.2.2.2.2.2.2.2.2.2.2.1
theorem dX4_wordOf_38 : decode cX4_wordOf 38 = .ok (.iload 5, 2) := dr_21  pk_deca_72.2.2.2.2.2.2.2.2.2.2.2.2.2.2.2.2.2.2.2.2.2.2.2.1
theorem dX4_wordOf_40 : decode cX4_wordOf 40 = .ok (.iadd, 1) := dr_96  pk_deca_72.2.2.2.2.2.2.2.2.2.2.2.2.2.2.2.2.2.2.2.2.2.2.2.2.1
theorem dX4_wordOf_41 : decode cX4_wordOf 41 = .ok (.istore 6, 2) := dr_54  pk_deca_72.2.2.2.2.2.2.2.2.2.2.2.2.2.2.2.2.2.2.2.2.2.2.2.2.2.1
theorem dX4_wordOf_43 : decode cX4_wordOf 43 = .ok (.iload 5, 2) := dr_21  pk_deca_72.2.2.2.2.2.2.2.2.2.2.2.2.2.2.2.2.2.2.2.2.2.2.2.2.2.2.1
theorem dX4_wordOf_45 : decode cX4_wordOf 45 = .ok (.iload_n 2, 1) := dr_28  pk_deca_72.2.2.2.2.2.2.2.2.2.2.2.2.2.2.2.2.2.2.2.2.2.2.2.2.2.2.2.1
theorem dX4_wordOf_46 : decode cX4_wordOf 46 = .ok (.if_icmp .ge 14, 3) := dr_162 0 14  pk_deca_72.2.2.2.2.2.2.2.2.2.2.2.2.2.2.2.2.2.2.2.2.2.2.2.2.2.2.2.2.1
theorem dX4_wordOf_49 : decode cX4_wordOf 49 = .ok (.aload_n 0, 1) := dr_42  pk_deca_72.2.2.2.2.2.2.2.2.2.2.2.2.2.2.2.2.2.2.2.2.2.2.2.2.2.2.2.2.2.1
theorem dX4_wordOf_50 : decode cX4_wordOf 50 = .ok (.iload_n 1, 1) := dr_27  pk_deca_72.2.2.2.2.2.2.2.2.2.2.2.2.2.2.2.2.2.2.2.2.2.2.2.2.2.2.2.2.2.2.1
theorem dX4_wordOf_51 : decode cX4_wordOf 51 = .ok (.iload 5, 2) := dr_21  pk_deca_72.2.2.2.2.2.2.2.2.2.2.2.2.2.2.2.2.2.2.2.2.2.2.2.2.2.2.2.2.2.2.2
set_option maxRecDepth 20000 in
theorem pk_deca_73 : (bq cX4_wordOf 53 96 = true) ∧ ((bq cX4_wordOf 54 182 && bq cX4_wordOf (54 + 1) 0 && bq cX4_wordOf (54 + 2) 56 && (0 * 256 + 56 == 56)) = true) ∧ ((bq cX4_wordOf 57 167 && bq cX4_wordOf (57 + 1) 0 && bq cX4_wordOf (57 + 2) 5 && (Reader.signed 16 (0 * 256 + 5) == 5)) = true) ∧ ((bq cX4_wordOf 60 16 && bq cX4_wordOf (60 + 1) 32 && (Reader.signed 8 32 == 32)) = true) ∧ ((bq cX4_wordOf 62 54 && bq cX4_wordOf (62 + 1) 7) = true) ∧ ((bq cX4_wordOf 64 21 && bq cX4_wordOf (64 + 1) 6) = true) ∧ ((bq cX4_wordOf 66 18 && bq cX4_wordOf (66 + 1) 103) = true) ∧ ((bq cX4_wordOf 68 182 && bq cX4_wordOf (68 + 1) 0 && bq cX4_wordOf (68 + 2) 105 && (0 * 256 + 105 == 105)) = true) ∧ ((bq cX4_wordOf 71 162 && bq cX4_wordOf (71 + 1) 0 && bq cX4_wordOf (71 + 2) 18 && (Reader.signed 16 (0 * 256 + 18) == 18)) = true) ∧ ((bq cX4_wordOf 74 18 && bq cX4_wordOf (74 + 1) 103) = true) ∧ ((bq cX4_wordOf 76 21 && bq cX4_wordOf (76 + 1) 6) = true) ∧ ((bq cX4_wordOf 78 182 && bq cX4_wordOf (78 + 1) 0 && bq cX4_wordOf (78 + 2) 109 && (0 * 256 + 109 == 109)) = true) ∧ ((bq cX4_wordOf 81 21 && bq cX4_wordOf (81 + 1) 7) = true) ∧ ((bq cX4_wordOf 83 160 && bq cX4_wordOf (83 + 1) 0 && bq cX4_wordOf (83 + 2) 6 && (Reader.signed 16 (0 * 256 + 6) == 6)) = true) := by decide +kernel
theorem dX4_wordOf_53 : decode cX4_wordOf 53 = .ok (.iadd, 1) := dr_96  pk_deca_73.1
theorem dX4_wordOf_54 : decode cX4_wordOf 54 = .ok (.invokevirtual 56, 3) := dr_182 0 56  pk_deca_73.2.1
theorem dX4_wordOf_57 : decode cX4_wordOf 57 = .ok (.goto 5, 3) := dr_167 0 5  pk_deca_73.2.2.1
theorem dX4_wordOf_60 : decode cX4_wordOf 60 = .ok (.bipush 32, 2) := dr_16 32  pk_deca_73.2.2.2.1
theorem dX4_wordOf_62 : decode cX4_wordOf 62 = .ok (.istore 7, 2) := dr_54  pk_deca_73.2.2.2.2.1
theorem dX4_wordOf_64 : decode cX4_wordOf 64 = .ok (.iload 6, 2) := dr_21  pk_deca_73.2.2.2.2.2.1
theorem dX4_wordOf_66 : decode cX4_wordOf 66 = .ok (.ldc 103, 2) := dr_18  pk_deca_73.2.2.2.2.2.2.1
theorem dX4_wordOf_68 : decode cX4_wordOf 68 = .ok (.invokevirtual 105, 3) := dr_182 0 105  pk_deca_73.2.2.2.2.2.2.2.1
theorem dX4_wordOf_71 : decode cX4_wordOf 71 = .ok (.if_icmp .ge 18, 3) := dr_162 0 18  pk_deca_73.2.2.2.2.2.2.2.2.1
theorem dX4_wordOf_74 : decode cX4_wordOf 74 = .ok (.ldc 103, 2) := dr_18  pk_deca_73.2.2.2.2.2.2.2.2.2.1
theorem dX4_wordOf_76 : decode cX4_wordOf 76 = .ok (.iload 6, 2) := dr_21  pk_deca_73.2.2.2.2.2.2.2.2.2.2.1
theorem dX4_wordOf_78 : decode cX4_wordOf 78 = .ok (.invokevirtual 109, 3) := dr_182 0 109  pk_deca_73.2.2.2.2.2.2.2.2.2.2.2.1
theorem dX4_wordOf_81 : decode cX4_wordOf 81 = .ok (.iload 7, 2) := dr_21  pk_deca_73.2.2.2.2.2.2.2.2.2.2.2.2.1
theorem dX4_wordOf_83 : decode cX4_wordOf 83 = .ok (.if_icmp .ne 6, 3) := dr_160 0 6  pk_deca_73.2.2.2.2.2.2.2.2.2.2.2.2.2
theorem dX4_wordOf_86 : decode cX4_wordOf 86 = .ok (.iinc 4 1, 3) := by decide +kernel
theorem dX4_wordOf_89 : decode cX4_wordOf 89 = .ok (.iinc 5 1, 3) := by decide +kernel
set_option maxRecDepth 20000 in
theorem pk_deca_74 : ((bq cX4_wordOf 92 167 && bq cX4_wordOf (92 + 1) 255 && bq cX4_wordOf (92 + 2) 186 && (Reader.signed 16 (255 * 256 + 186) == (-70))) = true) ∧ ((bq cX4_wordOf 95 21 && bq cX4_wordOf (95 + 1) 4) = true) ∧ (bq cX4_wordOf 97 8 = true) ∧ ((bq cX4_wordOf 98 160 && bq cX4_wordOf (98 + 1) 0 && bq cX4_wordOf (98 + 2) 5 && (Reader.signed 16 (0 * 256 + 5) == 5)) = true) ∧ (bq cX4_wordOf 101 29 = true) ∧ (bq cX4_wordOf 102 172 = true) := by decide +kernel
theorem dX4_wordOf_92 : decode cX4_wordOf 92 = .ok (.goto (-70), 3) := dr_167 255 186  pk_deca_74.1
theorem dX4_wordOf_95 : decode cX4_wordOf 95 = .ok (.iload 4, 2) := dr_21  pk_deca_74.2.1
theorem dX4_wordOf_97 : decode cX4_wordOf 97 = .ok (.iconst 5, 1) := dr_8  pk_deca_74.2.2.1
theorem dX4_wordOf_98 : decode cX4_wordOf 98 = .ok (.if_icmp .ne 5, 3) := dr_160 0 5  pk_deca_74.2.2.2.1
theorem dX4_wordOf_101 : decode cX4_wordOf 101 = .ok (.iload_n 3, 1) := dr_29  pk_deca_74.2.2.2.2.1
theorem dX4_wordOf_102 : decode cX4_wordOf 102 = .ok (.ireturn, 1) := dr_172  pk_deca_74.2.2.2.2.2
theorem dX4_wordOf_103 : decode cX4_wordOf 103 = .ok (.iinc 3 1, 3) := by decide +kernel
set_option maxRecDepth 20000 in
theorem pk_deca_75 : ((bq cX4_wordOf 106 167 && bq cX4_wordOf (106 + 1) 255 && bq cX4_wordOf (106 + 2) 160 && (Reader.signed 16 (255 * 256 + 160) == (-96))) = true) ∧ ((bq cX4_wordOf 109 16 && bq cX4_wordOf (109 + 1) 247 && (Reader.signed 8 247 == (-9))) = true) ∧ (bq cX4_wordOf 111 172 = true) := by decide +kernel
theorem dX4_wordOf_106 : decode cX4_wordOf 106 = .ok (.goto (-96), 3) := dr_167 255 160  pk_deca_75.1
theorem dX4_wordOf_109 : decode cX4_wordOf 109 = .ok (.bipush (-9), 2) := dr_16 247  pk_deca_75.2.1
theorem dX4_wordOf_111 : decode cX4_wordOf 111 = .ok (.ireturn, 1) := dr_172  pk_deca_75.2.2
set_option maxRecDepth 20000 in
theorem pk_deca_76 : (bq cX4_putPlaces 0 3 = true) ∧ (bq cX4_putPlaces 1 60 = true) ∧ (bq cX4_putPlaces 2 27 = true) ∧ (bq cX4_putPlaces 3 42 = true) ∧ ((bq cX4_putPlaces 4 180 && bq cX4_putPlaces (4 + 1) 0 && bq cX4_putPlaces (4 + 2) 45 && (0 * 256 + 45 == 45)) = true) ∧ ((bq cX4_putPlaces 7 180 && bq cX4_putPlaces (7 + 1) 0 && bq cX4_putPlaces (7 + 2) 49 && (0 * 256 + 49 == 49)) = true) ∧ ((bq cX4_putPlaces 10 162 && bq cX4_putPlaces (10 + 1) 0 && bq cX4_putPlaces (10 + 2) 67 && (Reader.signed 16 (0 * 256 + 67) == 67)) = true) ∧ (bq cX4_putPlaces 13 27 = true) ∧ ((bq cX4_putPlaces 14 17 && bq cX4_putPlaces (14 + 1) 1 && bq cX4_putPlaces (14 + 2) 0 && (Reader.signed 16 (1 * 256 + 0) == 256)) = true) ∧ ((bq cX4_putPlaces 17 162 && bq cX4_putPlaces (17 + 1) 0 && bq cX4_putPlaces (17 + 2) 60 && (Reader.signed 16 (0 * 256 + 60) == 60)) = true) ∧ (bq cX4_putPlaces 20 42 = true) ∧ ((bq cX4_putPlaces 21 180 && bq cX4_putPlaces (21 + 1) 0 && bq cX4_putPlaces (21 + 2) 15 && (0 * 256 + 15 == 15)) = true) ∧ (bq cX4_putPlaces 24 27 = true) ∧ (bq cX4_putPlaces 25 46 = true) ∧ (bq cX4_putPlaces 26 61 = true) ∧ (bq cX4_putPlaces 27 28 = true) ∧ ((bq cX4_putPlaces 28 155 && bq cX4_putPlaces (28 + 1) 0 && bq cX4_putPlaces (28 + 2) 43 && (Reader.signed 16 (0 * 256 + 43) == 43)) = true) ∧ (bq cX4_putPlaces 31 28 = true) ∧ ((bq cX4_putPlaces 32 16 && bq cX4_putPlaces (32 + 1) 26 && (Reader.signed 8 26 == 26)) = true) ∧ ((bq cX4_putPlaces 34 162 && bq cX4_putPlaces (34 + 1) 0 && bq cX4_putPlaces (34 + 2) 37 && (Reader.signed 16 (0 * 256 + 37) == 37)) = true) ∧ (bq cX4_putPlaces 37 42 = true) ∧ ((bq cX4_putPlaces 38 180 && bq cX4_putPlaces (38 + 1) 0 && bq cX4_putPlaces (38 + 2) 11 && (0 * 256 + 11 == 11)) = true) ∧ (bq cX4_putPlaces 41 28 = true) ∧ (bq cX4_putPlaces 42 46 = true) ∧ ((bq cX4_putPlaces 43 16 && bq cX4_putPlaces (43 + 1) 247 && (Reader.signed 8 247 == (-9))) = true) ∧ ((bq cX4_putPlaces 45 160 && bq cX4_putPlaces (45 + 1) 0 && bq cX4_putPlaces (45 + 2) 12 && (Reader.signed 16 (0 * 256 + 12) == 12)) = true) ∧ (bq cX4_putPlaces 48 42 = true) ∧ ((bq cX4_putPlaces 49 180 && bq cX4_putPlaces (49 + 1) 0 && bq cX4_putPlaces (49 + 2) 45 && (0 * 256 + 45 == 45)) = true) ∧ (bq cX4_putPlaces 52 27 = true) ∧ ((bq cX4_putPlaces 53 182 && bq cX4_putPlaces (53 + 1) 0 && bq cX4_putPlaces (53 + 2) 113 && (0 * 256 + 113 == 113)) = true) ∧ (bq cX4_putPlaces 56 172 = true) ∧ (bq cX4_putPlaces 57 42 = true) := by decide +kernel
theorem dX4_putPlaces_0 : decode cX4_putPlaces 0 = .ok (.iconst 0, 1) := dr_3  pk_deca_76.1
theorem dX4_putPlaces_1 : decode cX4_putPlaces 1 = .ok (.istore_n 1, 1) := dr_60  pk_deca_76.2.1
theorem dX4_putPlaces_2 : decode cX4_putPlaces 2 = .ok (.iload_n 1, 1) := dr_27  pk_deca_76.2.2.1
theorem dX4_putPlaces_3 : decode cX4_putPlaces 3 = .ok (.aload_n 0, 1) := dr_42  pk_deca_76.2.2.2.1
theorem dX4_putPlaces_4 : decode cX4_putPlaces 4 = .ok (.getfield 45, 3) := dr_180 0 45  pk_deca_76.2.2.2.2.1
theorem dX4_putPlaces_7 : decode cX4_putPlaces 7 = .ok (.getfield 49, 3) := dr_180 0 49  pk_deca_76.2.2.2.2.2.1
theorem dX4_putPlaces_10 : decode cX4_putPlaces 10 = .ok (.if_icmp .ge 67, 3) := dr_162 0 67  pk_deca_76.2.2.2.2.2.2.1
theorem dX4_putPlaces_13 : decode cX4_putPlaces 13 = .ok (.iload_n 1, 1) := dr_27  pk_deca_76.2.2.2.2.2.2.2.1
theorem dX4_putPlaces_14 : decode cX4_putPlaces 14 = .ok (.sipush 256, 3) := dr_17 1 0  pk_deca_76.2.2.2.2.2.2.2.2.1
theorem dX4_putPlaces_17 : decode cX4_putPlaces 17 = .ok (.if_icmp .ge 60, 3) := dr_162 0 60  pk_deca_76.2.2.2.2.2.2.2.2.2.1
theorem dX4_putPlaces_20 : decode cX4_putPlaces 20 = .ok (.aload_n 0, 1) := dr_42  pk_deca_76.2.2.2.2.2.2.2.2.2.2.1
theorem dX4_putPlaces_21 : decode cX4_putPlaces 21 = .ok (.getfield 15, 3) := dr_180 0 15  pk_deca_76.2.2.2.2.2.2.2.2.2.2.2.1
theorem dX4_putPlaces_24 : decode cX4_putPlaces 24 = .ok (.iload_n 1, 1) := dr_27  pk_deca_76.2.2.2.2.2.2.2.2.2.2.2.2.1
theorem dX4_putPlaces_25 : decode cX4_putPlaces 25 = .ok (.iaload, 1) := dr_46  pk_deca_76.2.2.2.2.2.2.2.2.2.2.2.2.2.1
theorem dX4_putPlaces_26 : decode cX4_putPlaces 26 = .ok (.istore_n 2, 1) := dr_61  pk_deca_76.2.2.2.2.2.2.2.2.2.2.2.2.2.2.1
theorem dX4_putPlaces_27 : decode cX4_putPlaces 27 = .ok (.iload_n 2, 1) := dr_28  pk_deca_76.2.2.2.2.2.2.2.2.2.2.2.2.2.2.2.1
theorem dX4_putPlaces_28 : decode cX4_putPlaces 28 = .ok (.ifCond .lt 43, 3) := dr_155 0 43  pk_deca_76.2.2.2.2.2.2.2.2.2.2.2.2.2.2.2.2.1
theorem dX4_putPlaces_31 : decode cX4_putPlaces 31 = .ok (.iload_n 2, 1) := dr_28  pk_deca_76.2.2.2.2.2.2.2.2.2.2.2.2.2.2.2.2.2.1
theorem dX4_putPlaces_32 : decode cX4_putPlaces 32 = .ok (.bipush 26, 2) := dr_16 26  pk_deca_76.2.2.2.2.2.2.2.2.2.2.2.2.2.2.2.2.2.2.1
theorem dX4_putPlaces_34 : decode cX4_putPlaces 34 = .ok (.if_icmp .ge 37, 3) := dr_162 0 37  pk_deca_76.2.2.2.2.2.2.2.2.2.2.2.2.2.2.2.2.2.2.2.1
theorem dX4_putPlaces_37 : decode cX4_putPlaces 37 = .ok (.aload_n 0, 1) := dr_42  pk_deca_76.2.2.2.2.2.2.2.2.2.2.2.2.2.2.2.2.2.2.2.2.1
theorem dX4_putPlaces_38 : decode cX4_putPlaces 38 = .ok (.getfield 11, 3) := dr_180 0 11  pk_deca_76.2.2.2.2.2.2.2.2.2.2.2.2.2.2.2.2.2.2.2.2.2.1
theorem dX4_putPlaces_41 : decode cX4_putPlaces 41 = .ok (.iload_n 2, 1) := dr_28  pk_deca_76.2.2.2.2.2.2.2.2.2.2.2.2.2.2.2.2.2.2.2.2.2.2.1
theorem dX4_putPlaces_42 : decode cX4_putPlaces 42 = .ok (.iaload, 1) := dr_46  pk_deca_76.2.2.2.2.2.2.2.2.2.2.2.2.2.2.2.2.2.2.2.2.2.2.2.1
theorem dX4_putPlaces_43 : decode cX4_putPlaces 43 = .ok (.bipush (-9), 2) := dr_16 247  pk_deca_76.2.2.2.2.2.2.2.2.2.2.2.2.2.2.2.2.2.2.2.2.2.2.2.2.1
theorem dX4_putPlaces_45 : decode cX4_putPlaces 45 = .ok (.if_icmp .ne 12, 3) := dr_160 0 12  pk_deca_76.2.2.2.2.2.2.2.2.2.2.2.2.2.2.2.2.2.2.2.2.2.2.2.2.2.1
theorem dX4_putPlaces_48 : decode cX4_putPlaces 48 = .ok (.aload_n 0, 1) := dr_42  pk_deca_76.2.2.2.2.2.2.2.2.2.2.2.2.2.2.2.2.2.2.2.2.2.2.2.2.2.2.1
theorem dX4_putPlaces_49 : decode cX4_putPlaces 49 = .ok (.getfield 45, 3) := dr_180 0 45  pk_deca_76.2.2.2.2.2.2.2.2.2.2.2.2.2.2.2.2.2.2.2.2.2.2.2.2.2.2.2.1
theorem dX4_putPlaces_52 : decode cX4_putPlaces 52 = .ok (.iload_n 1, 1) := dr_27  pk_deca_76.2.2.2.2.2.2.2.2.2.2.2.2.2.2.2.2.2.2.2.2.2.2.2.2.2.2.2.2.1
theorem dX4_putPlaces_53 : decode cX4_putPlaces 53 = .ok (.invokevirtual 113, 3) := dr_182 0 113  pk_deca_76.2.2.2.2.2.2.2.2.2.2.2.2.2.2.2.2.2.2.2.2.2.2.2.2.2.2.2.2.2.1
theorem dX4_putPlaces_56 : decode cX4_putPlaces 56 = .ok (.ireturn, 1) := dr_172  pk_deca_76.2.2.2.2.2.2.2.2.2.2.2.2.2.2.2.2.2.2.2.2.2.2.2.2.2.2.2.2.2.2.1
theorem dX4_putPlaces_57 : decode cX4_putPlaces 57 = .ok (.aload_n 0, 1) := dr_42  pk_deca_76.2.2.2.2.2.2.2.2.2.2.2.2.2.2.2.2.2.2.2.2.2.2.2.2.2.2.2.2.2.2.2
set_option maxRecDepth 20000 in
theorem pk_deca_77 : ((bq cX4_putPlaces 58 180 && bq cX4_putPlaces (58 + 1) 0 && bq cX4_putPlaces (58 + 2) 45 && (0 * 256 + 45 == 45)) = true) ∧ (bq cX4_putPlaces 61 27 = true) ∧ (bq cX4_putPlaces 62 42 = true) ∧ ((bq cX4_putPlaces 63 180 && bq cX4_putPlaces (63 + 1) 0 && bq cX4_putPlaces (63 + 2) 11 && (0 * 256 + 11 == 11)) = true) ∧ (bq cX4_putPlaces 66 28 = true) ∧ (bq cX4_putPlaces 67 46 = true) ∧ ((bq cX4_putPlaces 68 182 && bq cX4_putPlaces (68 + 1) 0 && bq cX4_putPlaces (68 + 2) 116 && (0 * 256 + 116 == 116)) = true) := by decide +kernel
theorem dX4_putPlaces_58 : decode cX4_putPlaces 58 = .ok (.getfield 45, 3) := dr_180 0 45  pk_deca_77.1
theorem dX4_putPlaces_61 : decode cX4_putPlaces 61 = .ok (.iload_n 1, 1) := dr_27  pk_deca_77.2.1
theorem dX4_putPlaces_62 : decode cX4_putPlaces 62 = .ok (.aload_n 0, 1) := dr_42  pk_deca_77.2.2.1
theorem dX4_putPlaces_63 : decode cX4_putPlaces 63 = .ok (.getfield 11, 3) := dr_180 0 11  pk_deca_77.2.2.2.1
theorem dX4_putPlaces_66 : decode cX4_putPlaces 66 = .ok (.iload_n 2, 1) := dr_28  pk_deca_77.2.2.2.2.1
theorem dX4_putPlaces_67 : decode cX4_putPlaces 67 = .ok (.iaload, 1) := dr_46  pk_deca_77.2.2.2.2.2.1
theorem dX4_putPlaces_68 : decode cX4_putPlaces 68 = .ok (.invokevirtual 116, 3) := dr_182 0 116  pk_deca_77.2.2.2.2.2.2
theorem dX4_putPlaces_71 : decode cX4_putPlaces 71 = .ok (.iinc 1 1, 3) := by decide +kernel
set_option maxRecDepth 20000 in
theorem pk_deca_78 : ((bq cX4_putPlaces 74 167 && bq cX4_putPlaces (74 + 1) 255 && bq cX4_putPlaces (74 + 2) 184 && (Reader.signed 16 (255 * 256 + 184) == (-72))) = true) ∧ ((bq cX4_putPlaces 77 16 && bq cX4_putPlaces (77 + 1) 247 && (Reader.signed 8 247 == (-9))) = true) ∧ (bq cX4_putPlaces 79 172 = true) := by decide +kernel
theorem dX4_putPlaces_74 : decode cX4_putPlaces 74 = .ok (.goto (-72), 3) := dr_167 255 184  pk_deca_78.1
theorem dX4_putPlaces_77 : decode cX4_putPlaces 77 = .ok (.bipush (-9), 2) := dr_16 247  pk_deca_78.2.1
theorem dX4_putPlaces_79 : decode cX4_putPlaces 79 = .ok (.ireturn, 1) := dr_172  pk_deca_78.2.2
set_option maxRecDepth 20000 in
theorem pk_deca_79 : (bq cX5_init 0 42 = true) ∧ ((bq cX5_init 1 183 && bq cX5_init (1 + 1) 0 && bq cX5_init (1 + 2) 3 && (0 * 256 + 3 == 3)) = true) ∧ (bq cX5_init 4 177 = true) := by decide +kernel
theorem dX5_init_0 : decode cX5_init 0 = .ok (.aload_n 0, 1) := dr_42  pk_deca_79.1
theorem dX5_init_1 : decode cX5_init 1 = .ok (.invokespecial 3, 3) := dr_183 0 3  pk_deca_79.2.1
theorem dX5_init_4 : decode cX5_init 4 = .ok (.return_, 1) := dr_177  pk_deca_79.2.2
set_option maxRecDepth 20000 in
theorem pk_deca_80 : (bq cX5_faultIn 0 42 = true) ∧ ((bq cX5_faultIn 1 180 && bq cX5_faultIn (1 + 1) 0 && bq cX5_faultIn (1 + 2) 9 && (0 * 256 + 9 == 9)) = true) ∧ (bq cX5_faultIn 4 3 = true) ∧ ((bq cX5_faultIn 5 181 && bq cX5_faultIn (5 + 1) 0 && bq cX5_faultIn (5 + 2) 15 && (0 * 256 + 15 == 15)) = true) ∧ (bq cX5_faultIn 8 43 = true) ∧ (bq cX5_faultIn 9 3 = true) ∧ ((bq cX5_faultIn 10 182 && bq cX5_faultIn (10 + 1) 0 && bq cX5_faultIn (10 + 2) 21 && (0 * 256 + 21 == 21)) = true) ∧ (bq cX5_faultIn 13 61 = true) ∧ (bq cX5_faultIn 14 3 = true) ∧ (bq cX5_faultIn 15 62 = true) ∧ (bq cX5_faultIn 16 29 = true) ∧ ((bq cX5_faultIn 17 17 && bq cX5_faultIn (17 + 1) 0 && bq cX5_faultIn (17 + 2) 200 && (Reader.signed 16 (0 * 256 + 200) == 200)) = true) ∧ ((bq cX5_faultIn 20 162 && bq cX5_faultIn (20 + 1) 0 && bq cX5_faultIn (20 + 2) 86 && (Reader.signed 16 (0 * 256 + 86) == 86)) = true) ∧ (bq cX5_faultIn 23 28 = true) ∧ (bq cX5_faultIn 24 43 = true) ∧ ((bq cX5_faultIn 25 180 && bq cX5_faultIn (25 + 1) 0 && bq cX5_faultIn (25 + 2) 27 && (0 * 256 + 27 == 27)) = true) ∧ ((bq cX5_faultIn 28 162 && bq cX5_faultIn (28 + 1) 0 && bq cX5_faultIn (28 + 2) 78 && (Reader.signed 16 (0 * 256 + 78) == 78)) = true) ∧ (bq cX5_faultIn 31 43 = true) ∧ (bq cX5_faultIn 32 28 = true) ∧ ((bq cX5_faultIn 33 182 && bq cX5_faultIn (33 + 1) 0 && bq cX5_faultIn (33 + 2) 28 && (0 * 256 + 28 == 28)) = true) ∧ ((bq cX5_faultIn 36 184 && bq cX5_faultIn (36 + 1) 0 && bq cX5_faultIn (36 + 2) 31 && (0 * 256 + 31 == 31)) = true) ∧ ((bq cX5_faultIn 39 54 && bq cX5_faultIn (39 + 1) 4) = true) ∧ ((bq cX5_faultIn 41 21 && bq cX5_faultIn (41 + 1) 4) = true) ∧ ((bq cX5_faultIn 43 16 && bq cX5_faultIn (43 + 1) 247 && (Reader.signed 8 247 == (-9))) = true) ∧ ((bq cX5_faultIn 45 160 && bq cX5_faultIn (45 + 1) 0 && bq cX5_faultIn (45 + 2) 5 && (Reader.signed 16 (0 * 256 + 5) == 5)) = true) ∧ (bq cX5_faultIn 48 28 = true) ∧ (bq cX5_faultIn 49 172 = true) ∧ (bq cX5_faultIn 50 43 = true) ∧ (bq cX5_faultIn 51 28 = true) ∧ (bq cX5_faultIn 52 4 = true) ∧ (bq cX5_faultIn 53 96 = true) ∧ ((bq cX5_faultIn 54 182 && bq cX5_faultIn (54 + 1) 0 && bq cX5_faultIn (54 + 2) 28 && (0 * 256 + 28 == 28)) = true) := by decide +kernel
theorem dX5_faultIn_0 : decode cX5_faultIn 0 = .ok (.aload_n 0, 1) := dr_42  pk_deca_80.1
theorem dX5_faultIn_1 : decode cX5_faultIn 1 = .ok (.getfield 9, 3) := dr_180 0 9  pk_deca_80.2.1
theorem dX5_faultIn_4 : decode cX5_faultIn 4 = .ok (.iconst 0, 1) := dr_3  pk_deca_80.2.2.1
theorem dX5_faultIn_5 : decode cX5_faultIn 5 = .ok (.putfield 15, 3) := dr_181 0 15  pk_deca_80.2.2.2.1
theorem dX5_faultIn_8 : decode cX5_faultIn 8 = .ok (.aload_n 1, 1) := dr_43  pk_deca_80.2.2.2.2.1
theorem dX5_faultIn_9 : decode cX5_faultIn 9 = .ok (.iconst 0, 1) := dr_3  pk_deca_80.2.2.2.2.2.1
theorem dX5_faultIn_10 : decode cX5_faultIn 10 = .ok (.invokevirtual 21, 3) := dr_182 0 21  pk_deca_80.2.2.2.2.2.2.1
theorem dX5_faultIn_13 : decode cX5_faultIn 13 = .ok (.istore_n 2, 1) := dr_61  pk_deca_80.2.2.2.2.2.2.2.1
theorem dX5_faultIn_14 : decode cX5_faultIn 14 = .ok (.iconst 0, 1) := dr_3  pk_deca_80.2.2.2.2.2.2.2.2.1
theorem dX5_faultIn_15 : decode cX5_faultIn 15 = .ok (.istore_n 3, 1) := dr_62  pk_deca_80.2.2.2.2.2.2.2.2.2.1
theorem dX5_faultIn_16 : decode cX5_faultIn 16 = .ok (.iload_n 3, 1) := dr_29  pk_deca_80.2.2.2.2.2.2.2.2.2.2.1
theorem dX5_faultIn_17 : decode cX5_faultIn 17 = .ok (.sipush 200, 3) := dr_17 0 200  pk_deca_80.2.2.2.2.2.2.2.2.2.2.2.1
theorem dX5_faultIn_20 : decode cX5_faultIn 20 = .ok (.if_icmp .ge 86, 3) := dr_162 0 86  pk_deca_80.2.2.2.2.2.2.2.2.2.2.2.2.1
theorem dX5_faultIn_23 : decode cX5_faultIn 23 = .ok (.iload_n 2, 1) := dr_28  pk_deca_80.2.2.2.2.2.2.2.2.2.2.2.2.2.1
theorem dX5_faultIn_24 : decode cX5_faultIn 24 = .ok (.aload_n 1, 1) := dr_43  pk_deca_80.2.2.2.2.2.2.2.2.2.2.2.2.2.2.1
theorem dX5_faultIn_25 : decode cX5_faultIn 25 = .ok (.getfield 27, 3) := dr_180 0 27  pk_deca_80.2.2.2.2.2.2.2.2.2.2.2.2.2.2.2.1
theorem dX5_faultIn_28 : decode cX5_faultIn 28 = .ok (.if_icmp .ge 78, 3) := dr_162 0 78  pk_deca_80.2.2.2.2.2.2.2.2.2.2.2.2.2.2.2.2.1
theorem dX5_faultIn_31 : decode cX5_faultIn 31 = .ok (.aload_n 1, 1) := dr_43  pk_deca_80.2.2.2.2.2.2.2.2.2.2.2.2.2.2.2.2.2.1
theorem dX5_faultIn_32 : decode cX5_faultIn 32 = .ok (.iload_n 2, 1) := dr_28  pk_deca_80.2.2.2.2.2.2.2.2.2.2.2.2.2.2.2.2.2.2.1
theorem dX5_faultIn_33 : decode cX5_faultIn 33 = .ok (.invokevirtual 28, 3) := dr_182 0 28  pk_deca_80.2.2.2.2.2.2.2.2.2.2.2.2.2.2.2.2.2.2.2.1
theorem dX5_faultIn_36 : decode cX5_faultIn 36 = .ok (.invokestatic 31, 3) := dr_184 0 31  pk_deca_80.2.2.2.2.2.2.2.2.2.2.2.2.2.2.2.2.2.2.2.2.1
theorem dX5_faultIn_39 : decode cX5_faultIn 39 = .ok (.istore 4, 2) := dr_54  pk_deca_80.2.2.2.2.2.2.2.2.2.2.2.2.2.2.2.2.2.2.2.2.2.1
theorem dX5_faultIn_41 : decode cX5_faultIn 41 = .ok (.iload 4, 2) := dr_21  pk_deca_80.2.2.2.2.2.2.2.2.2.2.2.2.2.2.2.2.2.2.2.2.2.2.1
theorem dX5_faultIn_43 : decode cX5_faultIn 43 = .ok (.bipush (-9), 2) := dr_16 247  pk_deca_80.2.2.2.2.2.2.2.2.2.2.2.2.2.2.2.2.2.2.2.2.2.2.2.1
theorem dX5_faultIn_45 : decode cX5_faultIn 45 = .ok (.if_icmp .ne 5, 3) := dr_160 0 5  pk_deca_80.2.2.2.2.2.2.2.2.2.2.2.2.2.2.2.2.2.2.2.2.2.2.2.2.1
theorem dX5_faultIn_48 : decode cX5_faultIn 48 = .ok (.iload_n 2, 1) := dr_28  pk_deca_80.2.2.2.2.2.2.2.2.2.2.2.2.2.2.2.2.2.2.2.2.2.2.2.2.2.1
theorem dX5_faultIn_49 : decode cX5_faultIn 49 = .ok (.ireturn, 1) := dr_172  pk_deca_80.2.2.2.2.2.2.2.2.2.2.2.2.2.2.2.2.2.2.2.2.2.2.2.2.2.2.1
theorem dX5_faultIn_50 : decode cX5_faultIn 50 = .ok (.aload_n 1, 1) := dr_43  pk_deca_80.2.2.2.2.2.2.2.2.2.2.2.2.2.2.2.2.2.2.2.2.2.2.2.2.2.2.2.1
theorem dX5_faultIn_51 : decode cX5_faultIn 51 = .ok (.iload_n 2, 1) := dr_28  pk_deca_80.2.2.2.2.2.2.2.2.2.2.2.2.2.2.2.2.2.2.2.2.2.2.2.2.2.2.2.2.1
theorem dX5_faultIn_52 : decode cX5_faultIn 52 = .ok (.iconst 1, 1) := dr_4  pk_deca_80.2.2.2.2.2.2.2.2.2.2.2.2.2.2.2.2.2.2.2.2.2.2.2.2.2.2.2.2.2.1
theorem dX5_faultIn_53 : decode cX5_faultIn 53 = .ok (.iadd, 1) := dr_96  pk_deca_80.2.2.2.2.2.2.2.2.2.2.2.2.2.2.2.2.2.2.2.2.2.2.2.2.2.2.2.2.2.2.1
theorem dX5_faultIn_54 : decode cX5_faultIn 54 = .ok (.invokevirtual 28, 3) := dr_182 0 28  pk_deca_80.2.2.2.2.2.2.2.2.2.2.2.2.2.2.2.2.2.2.2.2.2.2.2.2.2.2.2.2.2.2.2
set_option maxRecDepth 20000 in
theorem pk_deca_81 : ((bq cX5_faultIn 57 184 && bq cX5_faultIn (57 + 1) 0 && bq cX5_faultIn (57 + 2) 31 && (0 * 256 + 31 == 31)) = true) ∧ ((bq cX5_faultIn 60 54 && bq cX5_faultIn (60 + 1) 5) = true) ∧ ((bq cX5_faultIn 62 21 && bq cX5_faultIn (62 + 1) 5) = true) ∧ ((bq cX5_faultIn 64 16 && bq cX5_faultIn (64 + 1) 247 && (Reader.signed 8 247 == (-9))) = true) ∧ ((bq cX5_faultIn 66 159 && bq cX5_faultIn (66 + 1) 0 && bq cX5_faultIn (66 + 2) 22 && (Reader.signed 16 (0 * 256 + 22) == 22)) = true) ∧ (bq cX5_faultIn 69 42 = true) ∧ ((bq cX5_faultIn 70 180 && bq cX5_faultIn (70 + 1) 0 && bq cX5_faultIn (70 + 2) 9 && (0 * 256 + 9 == 9)) = true) ∧ ((bq cX5_faultIn 73 16 && bq cX5_faultIn (73 + 1) 16 && (Reader.signed 8 16 == 16)) = true) ∧ ((bq cX5_faultIn 75 21 && bq cX5_faultIn (75 + 1) 4) = true) ∧ (bq cX5_faultIn 77 104 = true) ∧ ((bq cX5_faultIn 78 21 && bq cX5_faultIn (78 + 1) 5) = true) ∧ (bq cX5_faultIn 80 96 = true) ∧ (bq cX5_faultIn 81 28 = true) ∧ ((bq cX5_faultIn 82 182 && bq cX5_faultIn (82 + 1) 0 && bq cX5_faultIn (82 + 2) 34 && (0 * 256 + 34 == 34)) = true) ∧ ((bq cX5_faultIn 85 154 && bq cX5_faultIn (85 + 1) 0 && bq cX5_faultIn (85 + 2) 7 && (Reader.signed 16 (0 * 256 + 7) == 7)) = true) ∧ (bq cX5_faultIn 88 28 = true) ∧ (bq cX5_faultIn 89 4 = true) ∧ (bq cX5_faultIn 90 96 = true) ∧ (bq cX5_faultIn 91 172 = true) ∧ (bq cX5_faultIn 92 43 = true) ∧ (bq cX5_faultIn 93 28 = true) ∧ (bq cX5_faultIn 94 5 = true) ∧ (bq cX5_faultIn 95 96 = true) ∧ ((bq cX5_faultIn 96 182 && bq cX5_faultIn (96 + 1) 0 && bq cX5_faultIn (96 + 2) 21 && (0 * 256 + 21 == 21)) = true) ∧ (bq cX5_faultIn 99 61 = true) := by decide +kernel
theorem dX5_faultIn_57 : decode cX5_faultIn 57 = .ok (.invokestatic 31, 3) := dr_184 0 31  pk_deca_81.1
theorem dX5_faultIn_60 : decode cX5_faultIn 60 = .ok (.istore 5, 2) := dr_54  pk_deca_81.2.1
theorem dX5_faultIn_62 : decode cX5_faultIn 62 = .ok (.iload 5, 2) := dr_21  pk_deca_81.2.2.1
theorem dX5_faultIn_64 : decode cX5_faultIn 64 = .ok (.bipush (-9), 2) := dr_16 247  pk_deca_81.2.2.2.1
theorem dX5_faultIn_66 : decode cX5_faultIn 66 = .ok (.if_icmp .eq 22, 3) := dr_159 0 22  pk_deca_81.2.2.2.2.1
theorem dX5_faultIn_69 : decode cX5_faultIn 69 = .ok (.aload_n 0, 1) := dr_42  pk_deca_81.2.2.2.2.2.1
theorem dX5_faultIn_70 : decode cX5_faultIn 70 = .ok (.getfield 9, 3) := dr_180 0 9  pk_deca_81.2.2.2.2.2.2.1
theorem dX5_faultIn_73 : decode cX5_faultIn 73 = .ok (.bipush 16, 2) := dr_16 16  pk_deca_81.2.2.2.2.2.2.2.1
theorem dX5_faultIn_75 : decode cX5_faultIn 75 = .ok (.iload 4, 2) := dr_21  pk_deca_81.2.2.2.2.2.2.2.2.1
theorem dX5_faultIn_77 : decode cX5_faultIn 77 = .ok (.imul, 1) := dr_104  pk_deca_81.2.2.2.2.2.2.2.2.2.1
theorem dX5_faultIn_78 : decode cX5_faultIn 78 = .ok (.iload 5, 2) := dr_21  pk_deca_81.2.2.2.2.2.2.2.2.2.2.1
theorem dX5_faultIn_80 : decode cX5_faultIn 80 = .ok (.iadd, 1) := dr_96  pk_deca_81.2.2.2.2.2.2.2.2.2.2.2.1
theorem dX5_faultIn_81 : decode cX5_faultIn 81 = .ok (.iload_n 2, 1) := dr_28  pk_deca_81.2.2.2.2.2.2.2.2.2.2.2.2.1
theorem dX5_faultIn_82 : decode cX5_faultIn 82 = .ok (.invokevirtual 34, 3) := dr_182 0 34  pk_deca_81.2.2.2.2.2.2.2.2.2.2.2.2.2.1
theorem dX5_faultIn_85 : decode cX5_faultIn 85 = .ok (.ifCond .ne 7, 3) := dr_154 0 7  pk_deca_81.2.2.2.2.2.2.2.2.2.2.2.2.2.2.1
theorem dX5_faultIn_88 : decode cX5_faultIn 88 = .ok (.iload_n 2, 1) := dr_28  pk_deca_81.2.2.2.2.2.2.2.2.2.2.2.2.2.2.2.1
theorem dX5_faultIn_89 : decode cX5_faultIn 89 = .ok (.iconst 1, 1) := dr_4  pk_deca_81.2.2.2.2.2.2.2.2.2.2.2.2.2.2.2.2.1
theorem dX5_faultIn_90 : decode cX5_faultIn 90 = .ok (.iadd, 1) := dr_96  pk_deca_81.2.2.2.2.2.2.2.2.2.2.2.2.2.2.2.2.2.1
theorem dX5_faultIn_91 : decode cX5_faultIn 91 = .ok (.ireturn, 1) := dr_172  pk_deca_81.2.2.2.2.2.2.2.2.2.2.2.2.2.2.2.2.2.2.1
theorem dX5_faultIn_92 : decode cX5_faultIn 92 = .ok (.aload_n 1, 1) := dr_43  pk_deca_81.2.2.2.2.2.2.2.2.2.2.2.2.2.2.2.2.2.2.2.1
theorem dX5_faultIn_93 : decode cX5_faultIn 93 = .ok (.iload_n 2, 1) := dr_28  pk_deca_81.2.2.2.2.2.2.2.2.2.2.2.2.2.2.2.2.2.2.2.2.1
theorem dX5_faultIn_94 : decode cX5_faultIn 94 = .ok (.iconst 2, 1) := dr_5  pk_deca_81.2.2.2.2.2.2.2.2.2.2.2.2.2.2.2.2.2.2.2.2.2.1
theorem dX5_faultIn_95 : decode cX5_faultIn 95 = .ok (.iadd, 1) := dr_96  pk_deca_81.2.2.2.2.2.2.2.2.2.2.2.2.2.2.2.2.2.2.2.2.2.2.1
theorem dX5_faultIn_96 : decode cX5_faultIn 96 = .ok (.invokevirtual 21, 3) := dr_182 0 21  pk_deca_81.2.2.2.2.2.2.2.2.2.2.2.2.2.2.2.2.2.2.2.2.2.2.2.1
theorem dX5_faultIn_99 : decode cX5_faultIn 99 = .ok (.istore_n 2, 1) := dr_61  pk_deca_81.2.2.2.2.2.2.2.2.2.2.2.2.2.2.2.2.2.2.2.2.2.2.2.2
theorem dX5_faultIn_100 : decode cX5_faultIn 100 = .ok (.iinc 3 1, 3) := by decide +kernel
set_option maxRecDepth 20000 in
theorem pk_deca_82 : ((bq cX5_faultIn 103 167 && bq cX5_faultIn (103 + 1) 255 && bq cX5_faultIn (103 + 2) 169 && (Reader.signed 16 (255 * 256 + 169) == (-87))) = true) ∧ (bq cX5_faultIn 106 42 = true) ∧ ((bq cX5_faultIn 107 180 && bq cX5_faultIn (107 + 1) 0 && bq cX5_faultIn (107 + 2) 9 && (0 * 256 + 9 == 9)) = true) ∧ ((bq cX5_faultIn 110 180 && bq cX5_faultIn (110 + 1) 0 && bq cX5_faultIn (110 + 2) 15 && (0 * 256 + 15 == 15)) = true) ∧ ((bq cX5_faultIn 113 154 && bq cX5_faultIn (113 + 1) 0 && bq cX5_faultIn (113 + 2) 10 && (Reader.signed 16 (0 * 256 + 10) == 10)) = true) ∧ (bq cX5_faultIn 116 43 = true) ∧ ((bq cX5_faultIn 117 180 && bq cX5_faultIn (117 + 1) 0 && bq cX5_faultIn (117 + 2) 27 && (0 * 256 + 27 == 27)) = true) ∧ ((bq cX5_faultIn 120 167 && bq cX5_faultIn (120 + 1) 0 && bq cX5_faultIn (120 + 2) 5 && (Reader.signed 16 (0 * 256 + 5) == 5)) = true) ∧ ((bq cX5_faultIn 123 16 && bq cX5_faultIn (123 + 1) 247 && (Reader.signed 8 247 == (-9))) = true) ∧ (bq cX5_faultIn 125 172 = true) := by decide +kernel
theorem dX5_faultIn_103 : decode cX5_faultIn 103 = .ok (.goto (-87), 3) := dr_167 255 169  pk_deca_82.1
theorem dX5_faultIn_106 : decode cX5_faultIn 106 = .ok (.aload_n 0, 1) := dr_42  pk_deca_82.2.1
theorem dX5_faultIn_107 : decode cX5_faultIn 107 = .ok (.getfield 9, 3) := dr_180 0 9  pk_deca_82.2.2.1
theorem dX5_faultIn_110 : decode cX5_faultIn 110 = .ok (.getfield 15, 3) := dr_180 0 15  pk_deca_82.2.2.2.1
theorem dX5_faultIn_113 : decode cX5_faultIn 113 = .ok (.ifCond .ne 10, 3) := dr_154 0 10  pk_deca_82.2.2.2.2.1
theorem dX5_faultIn_116 : decode cX5_faultIn 116 = .ok (.aload_n 1, 1) := dr_43  pk_deca_82.2.2.2.2.2.1
theorem dX5_faultIn_117 : decode cX5_faultIn 117 = .ok (.getfield 27, 3) := dr_180 0 27  pk_deca_82.2.2.2.2.2.2.1
theorem dX5_faultIn_120 : decode cX5_faultIn 120 = .ok (.goto 5, 3) := dr_167 0 5  pk_deca_82.2.2.2.2.2.2.2.1
theorem dX5_faultIn_123 : decode cX5_faultIn 123 = .ok (.bipush (-9), 2) := dr_16 247  pk_deca_82.2.2.2.2.2.2.2.2.1
theorem dX5_faultIn_125 : decode cX5_faultIn 125 = .ok (.ireturn, 1) := dr_172  pk_deca_82.2.2.2.2.2.2.2.2.2
set_option maxRecDepth 20000 in
theorem pk_deca_83 : (bq cX5_digit 0 26 = true) ∧ ((bq cX5_digit 1 16 && bq cX5_digit (1 + 1) 48 && (Reader.signed 8 48 == 48)) = true) ∧ ((bq cX5_digit 3 161 && bq cX5_digit (3 + 1) 0 && bq cX5_digit (3 + 2) 14 && (Reader.signed 16 (0 * 256 + 14) == 14)) = true) ∧ (bq cX5_digit 6 26 = true) ∧ ((bq cX5_digit 7 16 && bq cX5_digit (7 + 1) 57 && (Reader.signed 8 57 == 57)) = true) ∧ ((bq cX5_digit 9 163 && bq cX5_digit (9 + 1) 0 && bq cX5_digit (9 + 2) 8 && (Reader.signed 16 (0 * 256 + 8) == 8)) = true) ∧ (bq cX5_digit 12 26 = true) ∧ ((bq cX5_digit 13 16 && bq cX5_digit (13 + 1) 48 && (Reader.signed 8 48 == 48)) = true) ∧ (bq cX5_digit 15 100 = true) ∧ (bq cX5_digit 16 172 = true) ∧ (bq cX5_digit 17 26 = true) ∧ ((bq cX5_digit 18 16 && bq cX5_digit (18 + 1) 97 && (Reader.signed 8 97 == 97)) = true) ∧ ((bq cX5_digit 20 161 && bq cX5_digit (20 + 1) 0 && bq cX5_digit (20 + 2) 19 && (Reader.signed 16 (0 * 256 + 19) == 19)) = true) ∧ (bq cX5_digit 23 26 = true) ∧ ((bq cX5_digit 24 16 && bq cX5_digit (24 + 1) 102 && (Reader.signed 8 102 == 102)) = true) ∧ ((bq cX5_digit 26 163 && bq cX5_digit (26 + 1) 0 && bq cX5_digit (26 + 2) 13 && (Reader.signed 16 (0 * 256 + 13) == 13)) = true) ∧ (bq cX5_digit 29 26 = true) ∧ ((bq cX5_digit 30 16 && bq cX5_digit (30 + 1) 97 && (Reader.signed 8 97 == 97)) = true) ∧ (bq cX5_digit 32 100 = true) ∧ ((bq cX5_digit 33 16 && bq cX5_digit (33 + 1) 10 && (Reader.signed 8 10 == 10)) = true) ∧ (bq cX5_digit 35 96 = true) ∧ ((bq cX5_digit 36 167 && bq cX5_digit (36 + 1) 0 && bq cX5_digit (36 + 2) 5 && (Reader.signed 16 (0 * 256 + 5) == 5)) = true) ∧ ((bq cX5_digit 39 16 && bq cX5_digit (39 + 1) 247 && (Reader.signed 8 247 == (-9))) = true) ∧ (bq cX5_digit 41 172 = true) := by decide +kernel
theorem dX5_digit_0 : decode cX5_digit 0 = .ok (.iload_n 0, 1) := dr_26  pk_deca_83.1
theorem dX5_digit_1 : decode cX5_digit 1 = .ok (.bipush 48, 2) := dr_16 48  pk_deca_83.2.1
theorem dX5_digit_3 : decode cX5_digit 3 = .ok (.if_icmp .lt 14, 3) := dr_161 0 14  pk_deca_83.2.2.1
theorem dX5_digit_6 : decode cX5_digit 6 = .ok (.iload_n 0, 1) := dr_26  pk_deca_83.2.2.2.1
theorem dX5_digit_7 : decode cX5_digit 7 = .ok (.bipush 57, 2) := dr_16 57  pk_deca_83.2.2.2.2.1
theorem dX5_digit_9 : decode cX5_digit 9 = .ok (.if_icmp .gt 8, 3) := dr_163 0 8  pk_deca_83.2.2.2.2.2.1
theorem dX5_digit_12 : decode cX5_digit 12 = .ok (.iload_n 0, 1) := dr_26  pk_deca_83.2.2.2.2.2.2.1
theorem dX5_digit_13 : decode cX5_digit 13 = .ok (.bipush 48, 2) := dr_16 48  pk_deca_83.2.2.2.2.2.2.2.1
theorem dX5_digit_15 : decode cX5_digit 15 = .ok (.isub, 1) := dr_100  pk_deca_83.2.2.2.2.2.2.2.2.1
theorem dX5_digit_16 : decode cX5_digit 16 = .ok (.ireturn, 1) := dr_172  pk_deca_83.2.2.2.2.2.2.2.2.2.1
theorem dX5_digit_17 : decode cX5_digit 17 = .ok (.iload_n 0, 1) := dr_26  pk_deca_83.2.2.2.2.2.2.2.2.2.2.1
theorem dX5_digit_18 : decode cX5_digit 18 = .ok (.bipush 97, 2) := dr_16 97  pk_deca_83.2.2.2.2.2.2.2.2.2.2.2.1
theorem dX5_digit_20 : decode cX5_digit 20 = .ok (.if_icmp .lt 19, 3) := dr_161 0 19  pk_deca_83.2.2.2.2.2.2.2.2.2.2.2.2.1
theorem dX5_digit_23 : decode cX5_digit 23 = .ok (.iload_n 0, 1) := dr_26  pk_deca_83.2.2.2.2.2.2.2.2.2.2.2.2.2.1
theorem dX5_digit_24 : decode cX5_digit 24 = .ok (.bipush 102, 2) := dr_16 102  pk_deca_83.2.2.2.2.2.2.2.2.2.2.2.2.2.2.1
theorem dX5_digit_26 : decode cX5_digit 26 = .ok (.if_icmp .gt 13, 3) := dr_163 0 13  pk_deca_83.2.2.2.2.2.2.2.2.2.2.2.2.2.2.2.1
theorem dX5_digit_29 : decode cX5_digit 29 = .ok (.iload_n 0, 1) := dr_26  pk_deca_83.2.2.2.2.2.2.2.2.2.2.2.2.2.2.2.2.1
theorem dX5_digit_30 : decode cX5_digit 30 = .ok (.bipush 97, 2) := dr_16 97  pk_deca_83.2.2.2.2.2.2.2.2.2.2.2.2.2.2.2.2.2.1
theorem dX5_digit_32 : decode cX5_digit 32 = .ok (.isub, 1) := dr_100  pk_deca_83.2.2.2.2.2.2.2.2.2.2.2.2.2.2.2.2.2.2.1
theorem dX5_digit_33 : decode cX5_digit 33 = .ok (.bipush 10, 2) := dr_16 10  pk_deca_83.2.2.2.2.2.2.2.2.2.2.2.2.2.2.2.2.2.2.2.1
theorem dX5_digit_35 : decode cX5_digit 35 = .ok (.iadd, 1) := dr_96  pk_deca_83.2.2.2.2.2.2.2.2.2.2.2.2.2.2.2.2.2.2.2.2.1
theorem dX5_digit_36 : decode cX5_digit 36 = .ok (.goto 5, 3) := dr_167 0 5  pk_deca_83.2.2.2.2.2.2.2.2.2.2.2.2.2.2.2.2.2.2.2.2.2.1
theorem dX5_digit_39 : decode cX5_digit 39 = .ok (.bipush (-9), 2) := dr_16 247  pk_deca_83.2.2.2.2.2.2.2.2.2.2.2.2.2.2.2.2.2.2.2.2.2.2.1
theorem dX5_digit_41 : decode cX5_digit 41 = .ok (.ireturn, 1) := dr_172  pk_deca_83.2.2.2.2.2.2.2.2.2.2.2.2.2.2.2.2.2.2.2.2.2.2.2
set_option maxRecDepth 20000 in
theorem pk_deca_84 : (bq cX6_init 0 42 = true) ∧ ((bq cX6_init 1 183 && bq cX6_init (1 + 1) 0 && bq cX6_init (1 + 2) 3 && (0 * 256 + 3 == 3)) = true) ∧ (bq cX6_init 4 42 = true) ∧ ((bq cX6_init 5 17 && bq cX6_init (5 + 1) 0 && bq cX6_init (5 + 2) 200 && (Reader.signed 16 (0 * 256 + 200) == 200)) = true) := by decide +kernel
theorem dX6_init_0 : decode cX6_init 0 = .ok (.aload_n 0, 1) := dr_42  pk_deca_84.1
theorem dX6_init_1 : decode cX6_init 1 = .ok (.invokespecial 3, 3) := dr_183 0 3  pk_deca_84.2.1
theorem dX6_init_4 : decode cX6_init 4 = .ok (.aload_n 0, 1) := dr_42  pk_deca_84.2.2.1
theorem dX6_init_5 : decode cX6_init 5 = .ok (.sipush 200, 3) := dr_17 0 200  pk_deca_84.2.2.2
theorem dX6_init_8 : decode cX6_init 8 = .ok (.newarray .int, 2) := by decide +kernel
set_option maxRecDepth 20000 in
theorem pk_deca_85 : ((bq cX6_init 10 181 && bq cX6_init (10 + 1) 0 && bq cX6_init (10 + 2) 9 && (0 * 256 + 9 == 9)) = true) ∧ (bq cX6_init 13 42 = true) ∧ (bq cX6_init 14 3 = true) ∧ ((bq cX6_init 15 181 && bq cX6_init (15 + 1) 0 && bq cX6_init (15 + 2) 15 && (0 * 256 + 15 == 15)) = true) ∧ (bq cX6_init 18 177 = true) := by decide +kernel
theorem dX6_init_10 : decode cX6_init 10 = .ok (.putfield 9, 3) := dr_181 0 9  pk_deca_85.1
theorem dX6_init_13 : decode cX6_init 13 = .ok (.aload_n 0, 1) := dr_42  pk_deca_85.2.1
theorem dX6_init_14 : decode cX6_init 14 = .ok (.iconst 0, 1) := dr_3  pk_deca_85.2.2.1
theorem dX6_init_15 : decode cX6_init 15 = .ok (.putfield 15, 3) := dr_181 0 15  pk_deca_85.2.2.2.1
theorem dX6_init_18 : decode cX6_init 18 = .ok (.return_, 1) := dr_177  pk_deca_85.2.2.2.2
set_option maxRecDepth 20000 in
theorem pk_deca_86 : (bq cX6_at 0 27 = true) ∧ ((bq cX6_at 1 155 && bq cX6_at (1 + 1) 0 && bq cX6_at (1 + 2) 18 && (Reader.signed 16 (0 * 256 + 18) == 18)) = true) ∧ (bq cX6_at 4 27 = true) ∧ (bq cX6_at 5 42 = true) ∧ ((bq cX6_at 6 180 && bq cX6_at (6 + 1) 0 && bq cX6_at (6 + 2) 15 && (0 * 256 + 15 == 15)) = true) := by decide +kernel
theorem dX6_at_0 : decode cX6_at 0 = .ok (.iload_n 1, 1) := dr_27  pk_deca_86.1
theorem dX6_at_1 : decode cX6_at 1 = .ok (.ifCond .lt 18, 3) := dr_155 0 18  pk_deca_86.2.1
theorem dX6_at_4 : decode cX6_at 4 = .ok (.iload_n 1, 1) := dr_27  pk_deca_86.2.2.1
theorem dX6_at_5 : decode cX6_at 5 = .ok (.aload_n 0, 1) := dr_42  pk_deca_86.2.2.2.1
theorem dX6_at_6 : decode cX6_at 6 = .ok (.getfield 15, 3) := dr_180 0 15  pk_deca_86.2.2.2.2
