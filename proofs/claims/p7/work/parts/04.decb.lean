theorem dX6_at_9 : decode cX6_at 9 = .ok (.if_icmp .ge 10, 3) := by decide +kernel
theorem dX6_at_12 : decode cX6_at 12 = .ok (.iload_n 1, 1) := by decide +kernel
theorem dX6_at_13 : decode cX6_at 13 = .ok (.sipush 200, 3) := by decide +kernel
theorem dX6_at_16 : decode cX6_at 16 = .ok (.if_icmp .lt 7, 3) := by decide +kernel
theorem dX6_at_19 : decode cX6_at 19 = .ok (.iconst (-1), 1) := by decide +kernel
theorem dX6_at_20 : decode cX6_at 20 = .ok (.goto 9, 3) := by decide +kernel
theorem dX6_at_23 : decode cX6_at 23 = .ok (.aload_n 0, 1) := by decide +kernel
theorem dX6_at_24 : decode cX6_at 24 = .ok (.getfield 9, 3) := by decide +kernel
theorem dX6_at_27 : decode cX6_at 27 = .ok (.iload_n 1, 1) := by decide +kernel
theorem dX6_at_28 : decode cX6_at 28 = .ok (.iaload, 1) := by decide +kernel
theorem dX6_at_29 : decode cX6_at 29 = .ok (.ireturn, 1) := by decide +kernel
theorem dX6_add_0 : decode cX6_add 0 = .ok (.aload_n 0, 1) := by decide +kernel
theorem dX6_add_1 : decode cX6_add 1 = .ok (.getfield 15, 3) := by decide +kernel
theorem dX6_add_4 : decode cX6_add 4 = .ok (.ifCond .lt 33, 3) := by decide +kernel
theorem dX6_add_7 : decode cX6_add 7 = .ok (.aload_n 0, 1) := by decide +kernel
theorem dX6_add_8 : decode cX6_add 8 = .ok (.getfield 15, 3) := by decide +kernel
theorem dX6_add_11 : decode cX6_add 11 = .ok (.sipush 200, 3) := by decide +kernel
theorem dX6_add_14 : decode cX6_add 14 = .ok (.if_icmp .ge 23, 3) := by decide +kernel
theorem dX6_add_17 : decode cX6_add 17 = .ok (.aload_n 0, 1) := by decide +kernel
theorem dX6_add_18 : decode cX6_add 18 = .ok (.getfield 9, 3) := by decide +kernel
theorem dX6_add_21 : decode cX6_add 21 = .ok (.aload_n 0, 1) := by decide +kernel
theorem dX6_add_22 : decode cX6_add 22 = .ok (.getfield 15, 3) := by decide +kernel
theorem dX6_add_25 : decode cX6_add 25 = .ok (.iload_n 1, 1) := by decide +kernel
theorem dX6_add_26 : decode cX6_add 26 = .ok (.iastore, 1) := by decide +kernel
theorem dX6_add_27 : decode cX6_add 27 = .ok (.aload_n 0, 1) := by decide +kernel
theorem dX6_add_28 : decode cX6_add 28 = .ok (.dup, 1) := by decide +kernel
theorem dX6_add_29 : decode cX6_add 29 = .ok (.getfield 15, 3) := by decide +kernel
theorem dX6_add_32 : decode cX6_add 32 = .ok (.iconst 1, 1) := by decide +kernel
theorem dX6_add_33 : decode cX6_add 33 = .ok (.iadd, 1) := by decide +kernel
theorem dX6_add_34 : decode cX6_add 34 = .ok (.putfield 15, 3) := by decide +kernel
theorem dX6_add_37 : decode cX6_add 37 = .ok (.return_, 1) := by decide +kernel
theorem dX6_become_0 : decode cX6_become 0 = .ok (.aload_n 0, 1) := by decide +kernel
theorem dX6_become_1 : decode cX6_become 1 = .ok (.iconst 0, 1) := by decide +kernel
theorem dX6_become_2 : decode cX6_become 2 = .ok (.putfield 15, 3) := by decide +kernel
theorem dX6_become_5 : decode cX6_become 5 = .ok (.iconst 0, 1) := by decide +kernel
theorem dX6_become_6 : decode cX6_become 6 = .ok (.istore_n 2, 1) := by decide +kernel
theorem dX6_become_7 : decode cX6_become 7 = .ok (.iload_n 2, 1) := by decide +kernel
theorem dX6_become_8 : decode cX6_become 8 = .ok (.aload_n 1, 1) := by decide +kernel
theorem dX6_become_9 : decode cX6_become 9 = .ok (.getfield 15, 3) := by decide +kernel
theorem dX6_become_12 : decode cX6_become 12 = .ok (.if_icmp .ge 18, 3) := by decide +kernel
theorem dX6_become_15 : decode cX6_become 15 = .ok (.aload_n 0, 1) := by decide +kernel
theorem dX6_become_16 : decode cX6_become 16 = .ok (.aload_n 1, 1) := by decide +kernel
theorem dX6_become_17 : decode cX6_become 17 = .ok (.iload_n 2, 1) := by decide +kernel
theorem dX6_become_18 : decode cX6_become 18 = .ok (.invokevirtual 19, 3) := by decide +kernel
theorem dX6_become_21 : decode cX6_become 21 = .ok (.invokevirtual 23, 3) := by decide +kernel
theorem dX6_become_24 : decode cX6_become 24 = .ok (.iinc 2 1, 3) := by decide +kernel
theorem dX6_become_27 : decode cX6_become 27 = .ok (.goto (-20), 3) := by decide +kernel
theorem dX6_become_30 : decode cX6_become 30 = .ok (.return_, 1) := by decide +kernel
theorem dX6_pastGap_0 : decode cX6_pastGap 0 = .ok (.iconst 0, 1) := by decide +kernel
theorem dX6_pastGap_1 : decode cX6_pastGap 1 = .ok (.istore_n 2, 1) := by decide +kernel
theorem dX6_pastGap_2 : decode cX6_pastGap 2 = .ok (.iload_n 1, 1) := by decide +kernel
theorem dX6_pastGap_3 : decode cX6_pastGap 3 = .ok (.istore_n 3, 1) := by decide +kernel
theorem dX6_pastGap_4 : decode cX6_pastGap 4 = .ok (.iload_n 3, 1) := by decide +kernel
theorem dX6_pastGap_5 : decode cX6_pastGap 5 = .ok (.aload_n 0, 1) := by decide +kernel
theorem dX6_pastGap_6 : decode cX6_pastGap 6 = .ok (.getfield 15, 3) := by decide +kernel
theorem dX6_pastGap_9 : decode cX6_pastGap 9 = .ok (.if_icmp .ge 53, 3) := by decide +kernel
theorem dX6_pastGap_12 : decode cX6_pastGap 12 = .ok (.aload_n 0, 1) := by decide +kernel
theorem dX6_pastGap_13 : decode cX6_pastGap 13 = .ok (.iload_n 3, 1) := by decide +kernel
theorem dX6_pastGap_14 : decode cX6_pastGap 14 = .ok (.invokevirtual 19, 3) := by decide +kernel
theorem dX6_pastGap_17 : decode cX6_pastGap 17 = .ok (.istore 4, 2) := by decide +kernel
theorem dX6_pastGap_19 : decode cX6_pastGap 19 = .ok (.iload 4, 2) := by decide +kernel
theorem dX6_pastGap_21 : decode cX6_pastGap 21 = .ok (.bipush 10, 2) := by decide +kernel
theorem dX6_pastGap_23 : decode cX6_pastGap 23 = .ok (.if_icmp .ne 8, 3) := by decide +kernel
theorem dX6_pastGap_26 : decode cX6_pastGap 26 = .ok (.iconst 0, 1) := by decide +kernel
theorem dX6_pastGap_27 : decode cX6_pastGap 27 = .ok (.istore_n 2, 1) := by decide +kernel
theorem dX6_pastGap_28 : decode cX6_pastGap 28 = .ok (.goto 28, 3) := by decide +kernel
theorem dX6_pastGap_31 : decode cX6_pastGap 31 = .ok (.iload 4, 2) := by decide +kernel
theorem dX6_pastGap_33 : decode cX6_pastGap 33 = .ok (.bipush 35, 2) := by decide +kernel
theorem dX6_pastGap_35 : decode cX6_pastGap 35 = .ok (.if_icmp .ne 8, 3) := by decide +kernel
theorem dX6_pastGap_38 : decode cX6_pastGap 38 = .ok (.iconst 1, 1) := by decide +kernel
theorem dX6_pastGap_39 : decode cX6_pastGap 39 = .ok (.istore_n 2, 1) := by decide +kernel
theorem dX6_pastGap_40 : decode cX6_pastGap 40 = .ok (.goto 16, 3) := by decide +kernel
theorem dX6_pastGap_43 : decode cX6_pastGap 43 = .ok (.iload_n 2, 1) := by decide +kernel
theorem dX6_pastGap_44 : decode cX6_pastGap 44 = .ok (.ifCond .ne 12, 3) := by decide +kernel
theorem dX6_pastGap_47 : decode cX6_pastGap 47 = .ok (.iload 4, 2) := by decide +kernel
theorem dX6_pastGap_49 : decode cX6_pastGap 49 = .ok (.bipush 32, 2) := by decide +kernel
theorem dX6_pastGap_51 : decode cX6_pastGap 51 = .ok (.if_icmp .eq 5, 3) := by decide +kernel
theorem dX6_pastGap_54 : decode cX6_pastGap 54 = .ok (.iload_n 3, 1) := by decide +kernel
theorem dX6_pastGap_55 : decode cX6_pastGap 55 = .ok (.ireturn, 1) := by decide +kernel
theorem dX6_pastGap_56 : decode cX6_pastGap 56 = .ok (.iinc 3 1, 3) := by decide +kernel
theorem dX6_pastGap_59 : decode cX6_pastGap 59 = .ok (.goto (-55), 3) := by decide +kernel
theorem dX6_pastGap_62 : decode cX6_pastGap 62 = .ok (.aload_n 0, 1) := by decide +kernel
theorem dX6_pastGap_63 : decode cX6_pastGap 63 = .ok (.getfield 15, 3) := by decide +kernel
theorem dX6_pastGap_66 : decode cX6_pastGap 66 = .ok (.ireturn, 1) := by decide +kernel
theorem dX7_init_0 : decode cX7_init 0 = .ok (.aload_n 0, 1) := by decide +kernel
theorem dX7_init_1 : decode cX7_init 1 = .ok (.invokespecial 1, 3) := by decide +kernel
theorem dX7_init_4 : decode cX7_init 4 = .ok (.aload_n 0, 1) := by decide +kernel
theorem dX7_init_5 : decode cX7_init 5 = .ok (.iconst 0, 1) := by decide +kernel
theorem dX7_init_6 : decode cX7_init 6 = .ok (.putfield 7, 3) := by decide +kernel
theorem dX7_init_9 : decode cX7_init 9 = .ok (.aload_n 0, 1) := by decide +kernel
theorem dX7_init_10 : decode cX7_init 10 = .ok (.aload_n 1, 1) := by decide +kernel
theorem dX7_init_11 : decode cX7_init 11 = .ok (.putfield 13, 3) := by decide +kernel
theorem dX7_init_14 : decode cX7_init 14 = .ok (.aload_n 0, 1) := by decide +kernel
theorem dX7_init_15 : decode cX7_init 15 = .ok (.iload_n 2, 1) := by decide +kernel
theorem dX7_init_16 : decode cX7_init 16 = .ok (.putfield 17, 3) := by decide +kernel
theorem dX7_init_19 : decode cX7_init 19 = .ok (.aload_n 0, 1) := by decide +kernel
theorem dX7_init_20 : decode cX7_init 20 = .ok (.iload_n 3, 1) := by decide +kernel
theorem dX7_init_21 : decode cX7_init 21 = .ok (.putfield 21, 3) := by decide +kernel
theorem dX7_init_24 : decode cX7_init 24 = .ok (.aload_n 0, 1) := by decide +kernel
theorem dX7_init_25 : decode cX7_init 25 = .ok (.iload 4, 2) := by decide +kernel
theorem dX7_init_27 : decode cX7_init 27 = .ok (.putfield 24, 3) := by decide +kernel
theorem dX7_init_30 : decode cX7_init 30 = .ok (.return_, 1) := by decide +kernel
theorem dX8_init_0 : decode cX8_init 0 = .ok (.aload_n 0, 1) := by decide +kernel
theorem dX8_init_1 : decode cX8_init 1 = .ok (.invokespecial 1, 3) := by decide +kernel
theorem dX8_init_4 : decode cX8_init 4 = .ok (.aload_n 0, 1) := by decide +kernel
theorem dX8_init_5 : decode cX8_init 5 = .ok (.new 7, 3) := by decide +kernel
theorem dX8_init_8 : decode cX8_init 8 = .ok (.dup, 1) := by decide +kernel
theorem dX8_init_9 : decode cX8_init 9 = .ok (.invokespecial 9, 3) := by decide +kernel
theorem dX8_init_12 : decode cX8_init 12 = .ok (.putfield 10, 3) := by decide +kernel
theorem dX8_init_15 : decode cX8_init 15 = .ok (.aload_n 0, 1) := by decide +kernel
theorem dX8_init_16 : decode cX8_init 16 = .ok (.bipush 8, 2) := by decide +kernel
theorem dX8_init_18 : decode cX8_init 18 = .ok (.anewarray 7, 3) := by decide +kernel
theorem dX8_init_21 : decode cX8_init 21 = .ok (.putfield 16, 3) := by decide +kernel
theorem dX8_init_24 : decode cX8_init 24 = .ok (.aload_n 0, 1) := by decide +kernel
theorem dX8_init_25 : decode cX8_init 25 = .ok (.bipush 12, 2) := by decide +kernel
theorem dX8_init_27 : decode cX8_init 27 = .ok (.anewarray 20, 3) := by decide +kernel
theorem dX8_init_30 : decode cX8_init 30 = .ok (.putfield 22, 3) := by decide +kernel
theorem dX8_init_33 : decode cX8_init 33 = .ok (.aload_n 0, 1) := by decide +kernel
theorem dX8_init_34 : decode cX8_init 34 = .ok (.iconst 0, 1) := by decide +kernel
theorem dX8_init_35 : decode cX8_init 35 = .ok (.putfield 26, 3) := by decide +kernel
theorem dX8_init_38 : decode cX8_init 38 = .ok (.aload_n 0, 1) := by decide +kernel
theorem dX8_init_39 : decode cX8_init 39 = .ok (.new 30, 3) := by decide +kernel
theorem dX8_init_42 : decode cX8_init 42 = .ok (.dup, 1) := by decide +kernel
theorem dX8_init_43 : decode cX8_init 43 = .ok (.invokespecial 32, 3) := by decide +kernel
theorem dX8_init_46 : decode cX8_init 46 = .ok (.putfield 33, 3) := by decide +kernel
theorem dX8_init_49 : decode cX8_init 49 = .ok (.aload_n 0, 1) := by decide +kernel
theorem dX8_init_50 : decode cX8_init 50 = .ok (.new 37, 3) := by decide +kernel
theorem dX8_init_53 : decode cX8_init 53 = .ok (.dup, 1) := by decide +kernel
theorem dX8_init_54 : decode cX8_init 54 = .ok (.invokespecial 39, 3) := by decide +kernel
theorem dX8_init_57 : decode cX8_init 57 = .ok (.putfield 40, 3) := by decide +kernel
theorem dX8_init_60 : decode cX8_init 60 = .ok (.aload_n 0, 1) := by decide +kernel
theorem dX8_init_61 : decode cX8_init 61 = .ok (.new 43, 3) := by decide +kernel
theorem dX8_init_64 : decode cX8_init 64 = .ok (.dup, 1) := by decide +kernel
theorem dX8_init_65 : decode cX8_init 65 = .ok (.invokespecial 45, 3) := by decide +kernel
theorem dX8_init_68 : decode cX8_init 68 = .ok (.putfield 46, 3) := by decide +kernel
theorem dX8_init_71 : decode cX8_init 71 = .ok (.aload_n 0, 1) := by decide +kernel
theorem dX8_init_72 : decode cX8_init 72 = .ok (.new 43, 3) := by decide +kernel
theorem dX8_init_75 : decode cX8_init 75 = .ok (.dup, 1) := by decide +kernel
theorem dX8_init_76 : decode cX8_init 76 = .ok (.invokespecial 45, 3) := by decide +kernel
theorem dX8_init_79 : decode cX8_init 79 = .ok (.putfield 50, 3) := by decide +kernel
theorem dX8_init_82 : decode cX8_init 82 = .ok (.aload_n 0, 1) := by decide +kernel
theorem dX8_init_83 : decode cX8_init 83 = .ok (.new 43, 3) := by decide +kernel
theorem dX8_init_86 : decode cX8_init 86 = .ok (.dup, 1) := by decide +kernel
theorem dX8_init_87 : decode cX8_init 87 = .ok (.invokespecial 45, 3) := by decide +kernel
theorem dX8_init_90 : decode cX8_init 90 = .ok (.putfield 53, 3) := by decide +kernel
theorem dX8_init_93 : decode cX8_init 93 = .ok (.aload_n 0, 1) := by decide +kernel
theorem dX8_init_94 : decode cX8_init 94 = .ok (.new 56, 3) := by decide +kernel
theorem dX8_init_97 : decode cX8_init 97 = .ok (.dup, 1) := by decide +kernel
theorem dX8_init_98 : decode cX8_init 98 = .ok (.invokespecial 58, 3) := by decide +kernel
theorem dX8_init_101 : decode cX8_init 101 = .ok (.putfield 59, 3) := by decide +kernel
theorem dX8_init_104 : decode cX8_init 104 = .ok (.aload_n 0, 1) := by decide +kernel
theorem dX8_init_105 : decode cX8_init 105 = .ok (.lconst 0, 1) := by decide +kernel
theorem dX8_init_106 : decode cX8_init 106 = .ok (.putfield 63, 3) := by decide +kernel
theorem dX8_init_109 : decode cX8_init 109 = .ok (.iconst 0, 1) := by decide +kernel
theorem dX8_init_110 : decode cX8_init 110 = .ok (.istore_n 1, 1) := by decide +kernel
theorem dX8_init_111 : decode cX8_init 111 = .ok (.iload_n 1, 1) := by decide +kernel
theorem dX8_init_112 : decode cX8_init 112 = .ok (.bipush 8, 2) := by decide +kernel
theorem dX8_init_114 : decode cX8_init 114 = .ok (.if_icmp .ge 22, 3) := by decide +kernel
theorem dX8_init_117 : decode cX8_init 117 = .ok (.aload_n 0, 1) := by decide +kernel
theorem dX8_init_118 : decode cX8_init 118 = .ok (.getfield 16, 3) := by decide +kernel
theorem dX8_init_121 : decode cX8_init 121 = .ok (.iload_n 1, 1) := by decide +kernel
theorem dX8_init_122 : decode cX8_init 122 = .ok (.new 7, 3) := by decide +kernel
theorem dX8_init_125 : decode cX8_init 125 = .ok (.dup, 1) := by decide +kernel
theorem dX8_init_126 : decode cX8_init 126 = .ok (.invokespecial 9, 3) := by decide +kernel
theorem dX8_init_129 : decode cX8_init 129 = .ok (.aastore, 1) := by decide +kernel
theorem dX8_init_130 : decode cX8_init 130 = .ok (.iinc 1 1, 3) := by decide +kernel
theorem dX8_init_133 : decode cX8_init 133 = .ok (.goto (-22), 3) := by decide +kernel
theorem dX8_init_136 : decode cX8_init 136 = .ok (.return_, 1) := by decide +kernel
theorem dX8_type_0 : decode cX8_type 0 = .ok (.iload_n 3, 1) := by decide +kernel
theorem dX8_type_1 : decode cX8_type 1 = .ok (.iconst 1, 1) := by decide +kernel
theorem dX8_type_2 : decode cX8_type 2 = .ok (.if_icmp .lt 9, 3) := by decide +kernel
theorem dX8_type_5 : decode cX8_type 5 = .ok (.iload_n 3, 1) := by decide +kernel
theorem dX8_type_6 : decode cX8_type 6 = .ok (.bipush 8, 2) := by decide +kernel
theorem dX8_type_8 : decode cX8_type 8 = .ok (.if_icmp .le 5, 3) := by decide +kernel
theorem dX8_type_11 : decode cX8_type 11 = .ok (.iconst (-1), 1) := by decide +kernel
theorem dX8_type_12 : decode cX8_type 12 = .ok (.ireturn, 1) := by decide +kernel
theorem dX8_type_13 : decode cX8_type 13 = .ok (.aload_n 0, 1) := by decide +kernel
theorem dX8_type_14 : decode cX8_type 14 = .ok (.getfield 10, 3) := by decide +kernel
theorem dX8_type_17 : decode cX8_type 17 = .ok (.getfield 67, 3) := by decide +kernel
theorem dX8_type_20 : decode cX8_type 20 = .ok (.iload_n 3, 1) := by decide +kernel
theorem dX8_type_21 : decode cX8_type 21 = .ok (.iadd, 1) := by decide +kernel
theorem dX8_type_22 : decode cX8_type 22 = .ok (.sipush 200, 3) := by decide +kernel
theorem dX8_type_25 : decode cX8_type 25 = .ok (.if_icmp .le 6, 3) := by decide +kernel
theorem dX8_type_28 : decode cX8_type 28 = .ok (.bipush (-3), 2) := by decide +kernel
theorem dX8_type_30 : decode cX8_type 30 = .ok (.ireturn, 1) := by decide +kernel
theorem dX8_type_31 : decode cX8_type 31 = .ok (.iload_n 3, 1) := by decide +kernel
theorem dX8_type_32 : decode cX8_type 32 = .ok (.iconst 1, 1) := by decide +kernel
theorem dX8_type_33 : decode cX8_type 33 = .ok (.isub, 1) := by decide +kernel
theorem dX8_type_34 : decode cX8_type 34 = .ok (.istore 4, 2) := by decide +kernel
theorem dX8_type_36 : decode cX8_type 36 = .ok (.iload 4, 2) := by decide +kernel
theorem dX8_type_38 : decode cX8_type 38 = .ok (.ifCond .lt 28, 3) := by decide +kernel
theorem dX8_type_41 : decode cX8_type 41 = .ok (.aload_n 0, 1) := by decide +kernel
theorem dX8_type_42 : decode cX8_type 42 = .ok (.getfield 10, 3) := by decide +kernel
theorem dX8_type_45 : decode cX8_type 45 = .ok (.lload_n 1, 1) := by decide +kernel
theorem dX8_type_46 : decode cX8_type 46 = .ok (.bipush 8, 2) := by decide +kernel
theorem dX8_type_48 : decode cX8_type 48 = .ok (.iload 4, 2) := by decide +kernel
theorem dX8_type_50 : decode cX8_type 50 = .ok (.imul, 1) := by decide +kernel
theorem dX8_type_51 : decode cX8_type 51 = .ok (.lushr, 1) := by decide +kernel
theorem dX8_type_52 : decode cX8_type 52 = .ok (.l2i, 1) := by decide +kernel
theorem dX8_type_53 : decode cX8_type 53 = .ok (.sipush 255, 3) := by decide +kernel
theorem dX8_type_56 : decode cX8_type 56 = .ok (.iand, 1) := by decide +kernel
theorem dX8_type_57 : decode cX8_type 57 = .ok (.invokevirtual 70, 3) := by decide +kernel
theorem dX8_type_60 : decode cX8_type 60 = .ok (.iinc 4 (-1), 3) := by decide +kernel
theorem dX8_type_63 : decode cX8_type 63 = .ok (.goto (-27), 3) := by decide +kernel
theorem dX8_type_66 : decode cX8_type 66 = .ok (.aload_n 0, 1) := by decide +kernel
theorem dX8_type_67 : decode cX8_type 67 = .ok (.getfield 10, 3) := by decide +kernel
theorem dX8_type_70 : decode cX8_type 70 = .ok (.getfield 67, 3) := by decide +kernel
theorem dX8_type_73 : decode cX8_type 73 = .ok (.ireturn, 1) := by decide +kernel
theorem dX8_clear_0 : decode cX8_clear 0 = .ok (.aload_n 0, 1) := by decide +kernel
theorem dX8_clear_1 : decode cX8_clear 1 = .ok (.getfield 10, 3) := by decide +kernel
theorem dX8_clear_4 : decode cX8_clear 4 = .ok (.getfield 67, 3) := by decide +kernel
theorem dX8_clear_7 : decode cX8_clear 7 = .ok (.istore_n 1, 1) := by decide +kernel
theorem dX8_clear_8 : decode cX8_clear 8 = .ok (.aload_n 0, 1) := by decide +kernel
theorem dX8_clear_9 : decode cX8_clear 9 = .ok (.getfield 10, 3) := by decide +kernel
theorem dX8_clear_12 : decode cX8_clear 12 = .ok (.iconst 0, 1) := by decide +kernel
theorem dX8_clear_13 : decode cX8_clear 13 = .ok (.putfield 67, 3) := by decide +kernel
theorem dX8_clear_16 : decode cX8_clear 16 = .ok (.iload_n 1, 1) := by decide +kernel
theorem dX8_clear_17 : decode cX8_clear 17 = .ok (.ireturn, 1) := by decide +kernel
theorem dX8_text_0 : decode cX8_text 0 = .ok (.aload_n 0, 1) := by decide +kernel
theorem dX8_text_1 : decode cX8_text 1 = .ok (.iload_n 1, 1) := by decide +kernel
theorem dX8_text_2 : decode cX8_text 2 = .ok (.invokevirtual 74, 3) := by decide +kernel
theorem dX8_text_5 : decode cX8_text 5 = .ok (.astore_n 2, 1) := by decide +kernel
theorem dX8_text_6 : decode cX8_text 6 = .ok (.aload_n 2, 1) := by decide +kernel
theorem dX8_text_7 : decode cX8_text 7 = .ok (.ifnonnull 5, 3) := by decide +kernel
theorem dX8_text_10 : decode cX8_text 10 = .ok (.iconst (-1), 1) := by decide +kernel
theorem dX8_text_11 : decode cX8_text 11 = .ok (.ireturn, 1) := by decide +kernel
theorem dX8_text_12 : decode cX8_text 12 = .ok (.aload_n 2, 1) := by decide +kernel
theorem dX8_text_13 : decode cX8_text 13 = .ok (.aload_n 0, 1) := by decide +kernel
theorem dX8_text_14 : decode cX8_text 14 = .ok (.getfield 10, 3) := by decide +kernel
theorem dX8_text_17 : decode cX8_text 17 = .ok (.invokevirtual 78, 3) := by decide +kernel
theorem dX8_text_20 : decode cX8_text 20 = .ok (.aload_n 0, 1) := by decide +kernel
theorem dX8_text_21 : decode cX8_text 21 = .ok (.getfield 10, 3) := by decide +kernel
theorem dX8_text_24 : decode cX8_text 24 = .ok (.iconst 0, 1) := by decide +kernel
theorem dX8_text_25 : decode cX8_text 25 = .ok (.putfield 67, 3) := by decide +kernel
theorem dX8_text_28 : decode cX8_text 28 = .ok (.aload_n 2, 1) := by decide +kernel
theorem dX8_text_29 : decode cX8_text 29 = .ok (.getfield 67, 3) := by decide +kernel
theorem dX8_text_32 : decode cX8_text 32 = .ok (.ireturn, 1) := by decide +kernel
theorem dX8_read_0 : decode cX8_read 0 = .ok (.aload_n 0, 1) := by decide +kernel
theorem dX8_read_1 : decode cX8_read 1 = .ok (.iload_n 1, 1) := by decide +kernel
theorem dX8_read_2 : decode cX8_read 2 = .ok (.invokevirtual 74, 3) := by decide +kernel
theorem dX8_read_5 : decode cX8_read 5 = .ok (.astore_n 3, 1) := by decide +kernel
theorem dX8_read_6 : decode cX8_read 6 = .ok (.aload_n 3, 1) := by decide +kernel
theorem dX8_read_7 : decode cX8_read 7 = .ok (.ifnonnull 7, 3) := by decide +kernel
theorem dX8_read_10 : decode cX8_read 10 = .ok (.iconst (-1), 1) := by decide +kernel
theorem dX8_read_11 : decode cX8_read 11 = .ok (.goto 8, 3) := by decide +kernel
theorem dX8_read_14 : decode cX8_read 14 = .ok (.aload_n 3, 1) := by decide +kernel
theorem dX8_read_15 : decode cX8_read 15 = .ok (.iload_n 2, 1) := by decide +kernel
theorem dX8_read_16 : decode cX8_read 16 = .ok (.invokevirtual 82, 3) := by decide +kernel
theorem dX8_read_19 : decode cX8_read 19 = .ok (.ireturn, 1) := by decide +kernel
theorem dX8_pairs_0 : decode cX8_pairs 0 = .ok (.aload_n 0, 1) := by decide +kernel
theorem dX8_pairs_1 : decode cX8_pairs 1 = .ok (.iconst 0, 1) := by decide +kernel
theorem dX8_pairs_2 : decode cX8_pairs 2 = .ok (.iload_n 1, 1) := by decide +kernel
theorem dX8_pairs_3 : decode cX8_pairs 3 = .ok (.invokevirtual 86, 3) := by decide +kernel
theorem dX8_pairs_6 : decode cX8_pairs 6 = .ok (.ireturn, 1) := by decide +kernel
theorem dX8_named_0 : decode cX8_named 0 = .ok (.aload_n 0, 1) := by decide +kernel
theorem dX8_named_1 : decode cX8_named 1 = .ok (.iconst 1, 1) := by decide +kernel
theorem dX8_named_2 : decode cX8_named 2 = .ok (.iload_n 1, 1) := by decide +kernel
theorem dX8_named_3 : decode cX8_named 3 = .ok (.invokevirtual 86, 3) := by decide +kernel
theorem dX8_named_6 : decode cX8_named 6 = .ok (.ireturn, 1) := by decide +kernel
theorem dX8_build_0 : decode cX8_build 0 = .ok (.aload_n 0, 1) := by decide +kernel
theorem dX8_build_1 : decode cX8_build 1 = .ok (.iload_n 1, 1) := by decide +kernel
theorem dX8_build_2 : decode cX8_build 2 = .ok (.invokevirtual 90, 3) := by decide +kernel
theorem dX8_build_5 : decode cX8_build 5 = .ok (.astore_n 3, 1) := by decide +kernel
theorem dX8_build_6 : decode cX8_build 6 = .ok (.aload_n 0, 1) := by decide +kernel
theorem dX8_build_7 : decode cX8_build 7 = .ok (.iload_n 2, 1) := by decide +kernel
theorem dX8_build_8 : decode cX8_build 8 = .ok (.invokevirtual 74, 3) := by decide +kernel
theorem dX8_build_11 : decode cX8_build 11 = .ok (.astore 4, 2) := by decide +kernel
theorem dX8_build_13 : decode cX8_build 13 = .ok (.aload_n 3, 1) := by decide +kernel
theorem dX8_build_14 : decode cX8_build 14 = .ok (.ifnull 8, 3) := by decide +kernel
theorem dX8_build_17 : decode cX8_build 17 = .ok (.aload 4, 2) := by decide +kernel
theorem dX8_build_19 : decode cX8_build 19 = .ok (.ifnonnull 5, 3) := by decide +kernel
theorem dX8_build_22 : decode cX8_build 22 = .ok (.iconst (-1), 1) := by decide +kernel
theorem dX8_build_23 : decode cX8_build 23 = .ok (.ireturn, 1) := by decide +kernel
theorem dX8_build_24 : decode cX8_build 24 = .ok (.aload_n 0, 1) := by decide +kernel
theorem dX8_build_25 : decode cX8_build 25 = .ok (.getfield 50, 3) := by decide +kernel
theorem dX8_build_28 : decode cX8_build 28 = .ok (.aload_n 3, 1) := by decide +kernel
theorem dX8_build_29 : decode cX8_build 29 = .ok (.getfield 94, 3) := by decide +kernel
theorem dX8_build_32 : decode cX8_build 32 = .ok (.aload 4, 2) := by decide +kernel
theorem dX8_build_34 : decode cX8_build 34 = .ok (.invokevirtual 98, 3) := by decide +kernel
theorem dX8_build_37 : decode cX8_build 37 = .ok (.ifCond .ne 6, 3) := by decide +kernel
theorem dX8_build_40 : decode cX8_build 40 = .ok (.bipush (-2), 2) := by decide +kernel
theorem dX8_build_42 : decode cX8_build 42 = .ok (.ireturn, 1) := by decide +kernel
theorem dX8_build_43 : decode cX8_build 43 = .ok (.aload_n 0, 1) := by decide +kernel
theorem dX8_build_44 : decode cX8_build 44 = .ok (.aload_n 0, 1) := by decide +kernel
theorem dX8_build_45 : decode cX8_build 45 = .ok (.getfield 50, 3) := by decide +kernel
theorem dX8_build_48 : decode cX8_build 48 = .ok (.getfield 102, 3) := by decide +kernel
theorem dX8_build_51 : decode cX8_build 51 = .ok (.iconst 2, 1) := by decide +kernel
theorem dX8_build_52 : decode cX8_build 52 = .ok (.iload_n 2, 1) := by decide +kernel
theorem dX8_build_53 : decode cX8_build 53 = .ok (.iload_n 1, 1) := by decide +kernel
theorem dX8_build_54 : decode cX8_build 54 = .ok (.invokevirtual 105, 3) := by decide +kernel
theorem dX8_build_57 : decode cX8_build 57 = .ok (.ireturn, 1) := by decide +kernel
theorem dX8_tool_0 : decode cX8_tool 0 = .ok (.aload_n 0, 1) := by decide +kernel
theorem dX8_tool_1 : decode cX8_tool 1 = .ok (.iload_n 1, 1) := by decide +kernel
theorem dX8_tool_2 : decode cX8_tool 2 = .ok (.invokevirtual 90, 3) := by decide +kernel
theorem dX8_tool_5 : decode cX8_tool 5 = .ok (.astore_n 3, 1) := by decide +kernel
theorem dX8_tool_6 : decode cX8_tool 6 = .ok (.aload_n 3, 1) := by decide +kernel
theorem dX8_tool_7 : decode cX8_tool 7 = .ok (.ifnonnull 5, 3) := by decide +kernel
theorem dX8_tool_10 : decode cX8_tool 10 = .ok (.iconst (-1), 1) := by decide +kernel
theorem dX8_tool_11 : decode cX8_tool 11 = .ok (.ireturn, 1) := by decide +kernel
theorem dX8_tool_12 : decode cX8_tool 12 = .ok (.iload_n 2, 1) := by decide +kernel
theorem dX8_tool_13 : decode cX8_tool 13 = .ok (.tableswitch 71 0 4 #[35, 43, 48, 53, 58], 35) := by decide +kernel
theorem dX8_tool_48 : decode cX8_tool 48 = .ok (.aload_n 3, 1) := by decide +kernel
theorem dX8_tool_49 : decode cX8_tool 49 = .ok (.getfield 94, 3) := by decide +kernel
theorem dX8_tool_52 : decode cX8_tool 52 = .ok (.getfield 109, 3) := by decide +kernel
theorem dX8_tool_55 : decode cX8_tool 55 = .ok (.ireturn, 1) := by decide +kernel
theorem dX8_tool_56 : decode cX8_tool 56 = .ok (.aload_n 3, 1) := by decide +kernel
theorem dX8_tool_57 : decode cX8_tool 57 = .ok (.getfield 112, 3) := by decide +kernel
theorem dX8_tool_60 : decode cX8_tool 60 = .ok (.ireturn, 1) := by decide +kernel
theorem dX8_tool_61 : decode cX8_tool 61 = .ok (.aload_n 3, 1) := by decide +kernel
theorem dX8_tool_62 : decode cX8_tool 62 = .ok (.getfield 115, 3) := by decide +kernel
theorem dX8_tool_65 : decode cX8_tool 65 = .ok (.ireturn, 1) := by decide +kernel
theorem dX8_tool_66 : decode cX8_tool 66 = .ok (.aload_n 3, 1) := by decide +kernel
theorem dX8_tool_67 : decode cX8_tool 67 = .ok (.getfield 118, 3) := by decide +kernel
theorem dX8_tool_70 : decode cX8_tool 70 = .ok (.ireturn, 1) := by decide +kernel
theorem dX8_tool_71 : decode cX8_tool 71 = .ok (.aload_n 3, 1) := by decide +kernel
theorem dX8_tool_72 : decode cX8_tool 72 = .ok (.getfield 121, 3) := by decide +kernel
theorem dX8_tool_75 : decode cX8_tool 75 = .ok (.ifCond .eq 7, 3) := by decide +kernel
theorem dX8_tool_78 : decode cX8_tool 78 = .ok (.iconst 1, 1) := by decide +kernel
theorem dX8_tool_79 : decode cX8_tool 79 = .ok (.goto 4, 3) := by decide +kernel
theorem dX8_tool_82 : decode cX8_tool 82 = .ok (.iconst 0, 1) := by decide +kernel
theorem dX8_tool_83 : decode cX8_tool 83 = .ok (.ireturn, 1) := by decide +kernel
theorem dX8_tool_84 : decode cX8_tool 84 = .ok (.iconst (-1), 1) := by decide +kernel
theorem dX8_tool_85 : decode cX8_tool 85 = .ok (.ireturn, 1) := by decide +kernel
theorem dX8_code_0 : decode cX8_code 0 = .ok (.aload_n 0, 1) := by decide +kernel
theorem dX8_code_1 : decode cX8_code 1 = .ok (.iload_n 1, 1) := by decide +kernel
theorem dX8_code_2 : decode cX8_code 2 = .ok (.invokevirtual 90, 3) := by decide +kernel
theorem dX8_code_5 : decode cX8_code 5 = .ok (.astore 4, 2) := by decide +kernel
theorem dX8_code_7 : decode cX8_code 7 = .ok (.aload 4, 2) := by decide +kernel
theorem dX8_code_9 : decode cX8_code 9 = .ok (.ifnull 12, 3) := by decide +kernel
theorem dX8_code_12 : decode cX8_code 12 = .ok (.iload_n 3, 1) := by decide +kernel
theorem dX8_code_13 : decode cX8_code 13 = .ok (.ifCond .lt 8, 3) := by decide +kernel
theorem dX8_code_16 : decode cX8_code 16 = .ok (.iload_n 3, 1) := by decide +kernel
theorem dX8_code_17 : decode cX8_code 17 = .ok (.iconst 1, 1) := by decide +kernel
theorem dX8_code_18 : decode cX8_code 18 = .ok (.if_icmp .le 5, 3) := by decide +kernel
theorem dX8_code_21 : decode cX8_code 21 = .ok (.iconst (-1), 1) := by decide +kernel
theorem dX8_code_22 : decode cX8_code 22 = .ok (.ireturn, 1) := by decide +kernel
theorem dX8_code_23 : decode cX8_code 23 = .ok (.iload_n 3, 1) := by decide +kernel
theorem dX8_code_24 : decode cX8_code 24 = .ok (.ifCond .ne 15, 3) := by decide +kernel
theorem dX8_code_27 : decode cX8_code 27 = .ok (.aload 4, 2) := by decide +kernel
theorem dX8_code_29 : decode cX8_code 29 = .ok (.getfield 94, 3) := by decide +kernel
theorem dX8_code_32 : decode cX8_code 32 = .ok (.iload_n 2, 1) := by decide +kernel
theorem dX8_code_33 : decode cX8_code 33 = .ok (.invokevirtual 125, 3) := by decide +kernel
theorem dX8_code_36 : decode cX8_code 36 = .ok (.goto 12, 3) := by decide +kernel
theorem dX8_code_39 : decode cX8_code 39 = .ok (.aload 4, 2) := by decide +kernel
theorem dX8_code_41 : decode cX8_code 41 = .ok (.getfield 94, 3) := by decide +kernel
theorem dX8_code_44 : decode cX8_code 44 = .ok (.iload_n 2, 1) := by decide +kernel
theorem dX8_code_45 : decode cX8_code 45 = .ok (.invokevirtual 126, 3) := by decide +kernel
theorem dX8_code_48 : decode cX8_code 48 = .ok (.ireturn, 1) := by decide +kernel
theorem dX8_run_0 : decode cX8_run 0 = .ok (.aload_n 0, 1) := by decide +kernel
theorem dX8_run_1 : decode cX8_run 1 = .ok (.iload_n 1, 1) := by decide +kernel
theorem dX8_run_2 : decode cX8_run 2 = .ok (.invokevirtual 90, 3) := by decide +kernel
theorem dX8_run_5 : decode cX8_run 5 = .ok (.astore_n 3, 1) := by decide +kernel
theorem dX8_run_6 : decode cX8_run 6 = .ok (.aload_n 0, 1) := by decide +kernel
theorem dX8_run_7 : decode cX8_run 7 = .ok (.iload_n 2, 1) := by decide +kernel
theorem dX8_run_8 : decode cX8_run 8 = .ok (.invokevirtual 74, 3) := by decide +kernel
theorem dX8_run_11 : decode cX8_run 11 = .ok (.astore 4, 2) := by decide +kernel
theorem dX8_run_13 : decode cX8_run 13 = .ok (.aload_n 3, 1) := by decide +kernel
theorem dX8_run_14 : decode cX8_run 14 = .ok (.ifnull 8, 3) := by decide +kernel
theorem dX8_run_17 : decode cX8_run 17 = .ok (.aload 4, 2) := by decide +kernel
theorem dX8_run_19 : decode cX8_run 19 = .ok (.ifnonnull 5, 3) := by decide +kernel
theorem dX8_run_22 : decode cX8_run 22 = .ok (.iconst (-1), 1) := by decide +kernel
theorem dX8_run_23 : decode cX8_run 23 = .ok (.ireturn, 1) := by decide +kernel
theorem dX8_run_24 : decode cX8_run 24 = .ok (.aload_n 0, 1) := by decide +kernel
theorem dX8_run_25 : decode cX8_run 25 = .ok (.getfield 46, 3) := by decide +kernel
theorem dX8_run_28 : decode cX8_run 28 = .ok (.aload_n 3, 1) := by decide +kernel
theorem dX8_run_29 : decode cX8_run 29 = .ok (.getfield 94, 3) := by decide +kernel
theorem dX8_run_32 : decode cX8_run 32 = .ok (.aload 4, 2) := by decide +kernel
theorem dX8_run_34 : decode cX8_run 34 = .ok (.invokevirtual 129, 3) := by decide +kernel
theorem dX8_run_37 : decode cX8_run 37 = .ok (.aload_n 0, 1) := by decide +kernel
theorem dX8_run_38 : decode cX8_run 38 = .ok (.getfield 46, 3) := by decide +kernel
theorem dX8_run_41 : decode cX8_run 41 = .ok (.getfield 133, 3) := by decide +kernel
theorem dX8_run_44 : decode cX8_run 44 = .ok (.ifCond .ne 16, 3) := by decide +kernel
theorem dX8_run_47 : decode cX8_run 47 = .ok (.aload_n 0, 1) := by decide +kernel
theorem dX8_run_48 : decode cX8_run 48 = .ok (.getfield 46, 3) := by decide +kernel
theorem dX8_run_51 : decode cX8_run 51 = .ok (.getfield 102, 3) := by decide +kernel
theorem dX8_run_54 : decode cX8_run 54 = .ok (.getfield 109, 3) := by decide +kernel
theorem dX8_run_57 : decode cX8_run 57 = .ok (.goto 13, 3) := by decide +kernel
theorem dX8_run_60 : decode cX8_run 60 = .ok (.bipush (-10), 2) := by decide +kernel
theorem dX8_run_62 : decode cX8_run 62 = .ok (.aload_n 0, 1) := by decide +kernel
theorem dX8_run_63 : decode cX8_run 63 = .ok (.getfield 46, 3) := by decide +kernel
theorem dX8_run_66 : decode cX8_run 66 = .ok (.getfield 133, 3) := by decide +kernel
theorem dX8_run_69 : decode cX8_run 69 = .ok (.isub, 1) := by decide +kernel
theorem dX8_run_70 : decode cX8_run 70 = .ok (.ireturn, 1) := by decide +kernel
theorem dX8_ran_0 : decode cX8_ran 0 = .ok (.iload_n 1, 1) := by decide +kernel
theorem dX8_ran_1 : decode cX8_ran 1 = .ok (.tableswitch 90 0 5 #[39, 47, 55, 63, 71, 79], 39) := by decide +kernel
theorem dX8_ran_40 : decode cX8_ran 40 = .ok (.aload_n 0, 1) := by decide +kernel
theorem dX8_ran_41 : decode cX8_ran 41 = .ok (.getfield 46, 3) := by decide +kernel
theorem dX8_ran_44 : decode cX8_ran 44 = .ok (.getfield 136, 3) := by decide +kernel
theorem dX8_ran_47 : decode cX8_ran 47 = .ok (.ireturn, 1) := by decide +kernel
theorem dX8_ran_48 : decode cX8_ran 48 = .ok (.aload_n 0, 1) := by decide +kernel
theorem dX8_ran_49 : decode cX8_ran 49 = .ok (.getfield 46, 3) := by decide +kernel
theorem dX8_ran_52 : decode cX8_ran 52 = .ok (.getfield 139, 3) := by decide +kernel
theorem dX8_ran_55 : decode cX8_ran 55 = .ok (.ireturn, 1) := by decide +kernel
theorem dX8_ran_56 : decode cX8_ran 56 = .ok (.aload_n 0, 1) := by decide +kernel
theorem dX8_ran_57 : decode cX8_ran 57 = .ok (.getfield 46, 3) := by decide +kernel
theorem dX8_ran_60 : decode cX8_ran 60 = .ok (.getfield 142, 3) := by decide +kernel
theorem dX8_ran_63 : decode cX8_ran 63 = .ok (.ireturn, 1) := by decide +kernel
theorem dX8_ran_64 : decode cX8_ran 64 = .ok (.aload_n 0, 1) := by decide +kernel
theorem dX8_ran_65 : decode cX8_ran 65 = .ok (.getfield 46, 3) := by decide +kernel
theorem dX8_ran_68 : decode cX8_ran 68 = .ok (.getfield 145, 3) := by decide +kernel
theorem dX8_ran_71 : decode cX8_ran 71 = .ok (.ireturn, 1) := by decide +kernel
theorem dX8_ran_72 : decode cX8_ran 72 = .ok (.aload_n 0, 1) := by decide +kernel
theorem dX8_ran_73 : decode cX8_ran 73 = .ok (.getfield 46, 3) := by decide +kernel
theorem dX8_ran_76 : decode cX8_ran 76 = .ok (.getfield 148, 3) := by decide +kernel
theorem dX8_ran_79 : decode cX8_ran 79 = .ok (.ireturn, 1) := by decide +kernel
theorem dX8_ran_80 : decode cX8_ran 80 = .ok (.aload_n 0, 1) := by decide +kernel
theorem dX8_ran_81 : decode cX8_ran 81 = .ok (.getfield 46, 3) := by decide +kernel
theorem dX8_ran_84 : decode cX8_ran 84 = .ok (.getfield 102, 3) := by decide +kernel
theorem dX8_ran_87 : decode cX8_ran 87 = .ok (.getfield 109, 3) := by decide +kernel
theorem dX8_ran_90 : decode cX8_ran 90 = .ok (.ireturn, 1) := by decide +kernel
theorem dX8_ran_91 : decode cX8_ran 91 = .ok (.iconst (-1), 1) := by decide +kernel
theorem dX8_ran_92 : decode cX8_ran 92 = .ok (.ireturn, 1) := by decide +kernel
theorem dX8_tape_0 : decode cX8_tape 0 = .ok (.iload_n 2, 1) := by decide +kernel
theorem dX8_tape_1 : decode cX8_tape 1 = .ok (.ifCond .ne 15, 3) := by decide +kernel
theorem dX8_tape_4 : decode cX8_tape 4 = .ok (.aload_n 0, 1) := by decide +kernel
theorem dX8_tape_5 : decode cX8_tape 5 = .ok (.getfield 46, 3) := by decide +kernel
theorem dX8_tape_8 : decode cX8_tape 8 = .ok (.getfield 102, 3) := by decide +kernel
theorem dX8_tape_11 : decode cX8_tape 11 = .ok (.iload_n 1, 1) := by decide +kernel
theorem dX8_tape_12 : decode cX8_tape 12 = .ok (.invokevirtual 125, 3) := by decide +kernel
theorem dX8_tape_15 : decode cX8_tape 15 = .ok (.ireturn, 1) := by decide +kernel
theorem dX8_tape_16 : decode cX8_tape 16 = .ok (.iload_n 2, 1) := by decide +kernel
theorem dX8_tape_17 : decode cX8_tape 17 = .ok (.iconst 1, 1) := by decide +kernel
theorem dX8_tape_18 : decode cX8_tape 18 = .ok (.if_icmp .ne 14, 3) := by decide +kernel
theorem dX8_tape_21 : decode cX8_tape 21 = .ok (.aload_n 0, 1) := by decide +kernel
theorem dX8_tape_22 : decode cX8_tape 22 = .ok (.getfield 46, 3) := by decide +kernel
theorem dX8_tape_25 : decode cX8_tape 25 = .ok (.iload_n 1, 1) := by decide +kernel
theorem dX8_tape_26 : decode cX8_tape 26 = .ok (.invokevirtual 151, 3) := by decide +kernel
theorem dX8_tape_29 : decode cX8_tape 29 = .ok (.goto 4, 3) := by decide +kernel
theorem dX8_tape_32 : decode cX8_tape 32 = .ok (.iconst (-1), 1) := by decide +kernel
theorem dX8_tape_33 : decode cX8_tape 33 = .ok (.ireturn, 1) := by decide +kernel
theorem dX8_rebuilt_0 : decode cX8_rebuilt 0 = .ok (.aload_n 0, 1) := by decide +kernel
theorem dX8_rebuilt_1 : decode cX8_rebuilt 1 = .ok (.iload_n 1, 1) := by decide +kernel
theorem dX8_rebuilt_2 : decode cX8_rebuilt 2 = .ok (.invokevirtual 90, 3) := by decide +kernel
theorem dX8_rebuilt_5 : decode cX8_rebuilt 5 = .ok (.astore_n 2, 1) := by decide +kernel
theorem dX8_rebuilt_6 : decode cX8_rebuilt 6 = .ok (.aload_n 2, 1) := by decide +kernel
theorem dX8_rebuilt_7 : decode cX8_rebuilt 7 = .ok (.ifnonnull 7, 3) := by decide +kernel
theorem dX8_rebuilt_10 : decode cX8_rebuilt 10 = .ok (.iconst (-1), 1) := by decide +kernel
theorem dX8_rebuilt_11 : decode cX8_rebuilt 11 = .ok (.goto 8, 3) := by decide +kernel
theorem dX8_rebuilt_14 : decode cX8_rebuilt 14 = .ok (.aload_n 0, 1) := by decide +kernel
theorem dX8_rebuilt_15 : decode cX8_rebuilt 15 = .ok (.aload_n 2, 1) := by decide +kernel
theorem dX8_rebuilt_16 : decode cX8_rebuilt 16 = .ok (.invokevirtual 154, 3) := by decide +kernel
theorem dX8_rebuilt_19 : decode cX8_rebuilt 19 = .ok (.ireturn, 1) := by decide +kernel
theorem dX8_stale_0 : decode cX8_stale 0 = .ok (.aload_n 0, 1) := by decide +kernel
theorem dX8_stale_1 : decode cX8_stale 1 = .ok (.invokevirtual 158, 3) := by decide +kernel
theorem dX8_stale_4 : decode cX8_stale 4 = .ok (.ireturn, 1) := by decide +kernel
theorem dX8_settles_0 : decode cX8_settles 0 = .ok (.aload_n 0, 1) := by decide +kernel
theorem dX8_settles_1 : decode cX8_settles 1 = .ok (.iload_n 1, 1) := by decide +kernel
theorem dX8_settles_2 : decode cX8_settles 2 = .ok (.invokevirtual 90, 3) := by decide +kernel
theorem dX8_settles_5 : decode cX8_settles 5 = .ok (.astore_n 3, 1) := by decide +kernel
theorem dX8_settles_6 : decode cX8_settles 6 = .ok (.aload_n 0, 1) := by decide +kernel
theorem dX8_settles_7 : decode cX8_settles 7 = .ok (.iload_n 2, 1) := by decide +kernel
theorem dX8_settles_8 : decode cX8_settles 8 = .ok (.invokevirtual 74, 3) := by decide +kernel
theorem dX8_settles_11 : decode cX8_settles 11 = .ok (.astore 4, 2) := by decide +kernel
theorem dX8_settles_13 : decode cX8_settles 13 = .ok (.aload_n 3, 1) := by decide +kernel
theorem dX8_settles_14 : decode cX8_settles 14 = .ok (.ifnull 8, 3) := by decide +kernel
theorem dX8_settles_17 : decode cX8_settles 17 = .ok (.aload 4, 2) := by decide +kernel
theorem dX8_settles_19 : decode cX8_settles 19 = .ok (.ifnonnull 5, 3) := by decide +kernel
theorem dX8_settles_22 : decode cX8_settles 22 = .ok (.iconst (-1), 1) := by decide +kernel
theorem dX8_settles_23 : decode cX8_settles 23 = .ok (.ireturn, 1) := by decide +kernel
theorem dX8_settles_24 : decode cX8_settles 24 = .ok (.aload_n 3, 1) := by decide +kernel
theorem dX8_settles_25 : decode cX8_settles 25 = .ok (.getfield 94, 3) := by decide +kernel
theorem dX8_settles_28 : decode cX8_settles 28 = .ok (.astore 5, 2) := by decide +kernel
theorem dX8_settles_30 : decode cX8_settles 30 = .ok (.iconst 1, 1) := by decide +kernel
theorem dX8_settles_31 : decode cX8_settles 31 = .ok (.istore 6, 2) := by decide +kernel
theorem dX8_settles_33 : decode cX8_settles 33 = .ok (.iload 6, 2) := by decide +kernel
theorem dX8_settles_35 : decode cX8_settles 35 = .ok (.bipush 6, 2) := by decide +kernel
theorem dX8_settles_37 : decode cX8_settles 37 = .ok (.if_icmp .gt 68, 3) := by decide +kernel
theorem dX8_settles_40 : decode cX8_settles 40 = .ok (.iload 6, 2) := by decide +kernel
theorem dX8_settles_42 : decode cX8_settles 42 = .ok (.iconst 2, 1) := by decide +kernel
theorem dX8_settles_43 : decode cX8_settles 43 = .ok (.irem, 1) := by decide +kernel
theorem dX8_settles_44 : decode cX8_settles 44 = .ok (.iconst 1, 1) := by decide +kernel
theorem dX8_settles_45 : decode cX8_settles 45 = .ok (.if_icmp .ne 10, 3) := by decide +kernel
theorem dX8_settles_48 : decode cX8_settles 48 = .ok (.aload_n 0, 1) := by decide +kernel
theorem dX8_settles_49 : decode cX8_settles 49 = .ok (.getfield 50, 3) := by decide +kernel
theorem dX8_settles_52 : decode cX8_settles 52 = .ok (.goto 7, 3) := by decide +kernel
theorem dX8_settles_55 : decode cX8_settles 55 = .ok (.aload_n 0, 1) := by decide +kernel
theorem dX8_settles_56 : decode cX8_settles 56 = .ok (.getfield 53, 3) := by decide +kernel
theorem dX8_settles_59 : decode cX8_settles 59 = .ok (.astore 7, 2) := by decide +kernel
theorem dX8_settles_61 : decode cX8_settles 61 = .ok (.aload 7, 2) := by decide +kernel
theorem dX8_settles_63 : decode cX8_settles 63 = .ok (.aload 5, 2) := by decide +kernel
theorem dX8_settles_65 : decode cX8_settles 65 = .ok (.aload 4, 2) := by decide +kernel
theorem dX8_settles_67 : decode cX8_settles 67 = .ok (.invokevirtual 98, 3) := by decide +kernel
theorem dX8_settles_70 : decode cX8_settles 70 = .ok (.ifCond .ne 6, 3) := by decide +kernel
theorem dX8_settles_73 : decode cX8_settles 73 = .ok (.bipush (-9), 2) := by decide +kernel
theorem dX8_settles_75 : decode cX8_settles 75 = .ok (.ireturn, 1) := by decide +kernel
theorem dX8_settles_76 : decode cX8_settles 76 = .ok (.aload 5, 2) := by decide +kernel
theorem dX8_settles_78 : decode cX8_settles 78 = .ok (.aload 7, 2) := by decide +kernel
theorem dX8_settles_80 : decode cX8_settles 80 = .ok (.getfield 102, 3) := by decide +kernel
theorem dX8_settles_83 : decode cX8_settles 83 = .ok (.invokevirtual 162, 3) := by decide +kernel
theorem dX8_settles_86 : decode cX8_settles 86 = .ok (.ifCond .ne 6, 3) := by decide +kernel
theorem dX8_settles_89 : decode cX8_settles 89 = .ok (.iload 6, 2) := by decide +kernel
theorem dX8_settles_91 : decode cX8_settles 91 = .ok (.ireturn, 1) := by decide +kernel
theorem dX8_settles_92 : decode cX8_settles 92 = .ok (.aload 7, 2) := by decide +kernel
theorem dX8_settles_94 : decode cX8_settles 94 = .ok (.getfield 102, 3) := by decide +kernel
theorem dX8_settles_97 : decode cX8_settles 97 = .ok (.astore 5, 2) := by decide +kernel
theorem dX8_settles_99 : decode cX8_settles 99 = .ok (.iinc 6 1, 3) := by decide +kernel
theorem dX8_settles_102 : decode cX8_settles 102 = .ok (.goto (-69), 3) := by decide +kernel
theorem dX8_settles_105 : decode cX8_settles 105 = .ok (.bipush (-9), 2) := by decide +kernel
theorem dX8_settles_107 : decode cX8_settles 107 = .ok (.ireturn, 1) := by decide +kernel
theorem dX8_round_0 : decode cX8_round 0 = .ok (.aload_n 0, 1) := by decide +kernel
theorem dX8_round_1 : decode cX8_round 1 = .ok (.iload_n 1, 1) := by decide +kernel
theorem dX8_round_2 : decode cX8_round 2 = .ok (.invokevirtual 90, 3) := by decide +kernel
theorem dX8_round_5 : decode cX8_round 5 = .ok (.astore 4, 2) := by decide +kernel
theorem dX8_round_7 : decode cX8_round 7 = .ok (.aload_n 0, 1) := by decide +kernel
theorem dX8_round_8 : decode cX8_round 8 = .ok (.iload_n 2, 1) := by decide +kernel
theorem dX8_round_9 : decode cX8_round 9 = .ok (.invokevirtual 90, 3) := by decide +kernel
theorem dX8_round_12 : decode cX8_round 12 = .ok (.astore 5, 2) := by decide +kernel
theorem dX8_round_14 : decode cX8_round 14 = .ok (.aload_n 0, 1) := by decide +kernel
theorem dX8_round_15 : decode cX8_round 15 = .ok (.iload_n 3, 1) := by decide +kernel
theorem dX8_round_16 : decode cX8_round 16 = .ok (.invokevirtual 74, 3) := by decide +kernel
theorem dX8_round_19 : decode cX8_round 19 = .ok (.astore 6, 2) := by decide +kernel
theorem dX8_round_21 : decode cX8_round 21 = .ok (.aload 4, 2) := by decide +kernel
theorem dX8_round_23 : decode cX8_round 23 = .ok (.ifnull 13, 3) := by decide +kernel
theorem dX8_round_26 : decode cX8_round 26 = .ok (.aload 5, 2) := by decide +kernel
theorem dX8_round_28 : decode cX8_round 28 = .ok (.ifnull 8, 3) := by decide +kernel
theorem dX8_round_31 : decode cX8_round 31 = .ok (.aload 6, 2) := by decide +kernel
theorem dX8_round_33 : decode cX8_round 33 = .ok (.ifnonnull 5, 3) := by decide +kernel
theorem dX8_round_36 : decode cX8_round 36 = .ok (.iconst (-1), 1) := by decide +kernel
theorem dX8_round_37 : decode cX8_round 37 = .ok (.ireturn, 1) := by decide +kernel
theorem dX8_round_38 : decode cX8_round 38 = .ok (.aload_n 0, 1) := by decide +kernel
theorem dX8_round_39 : decode cX8_round 39 = .ok (.aload 4, 2) := by decide +kernel
theorem dX8_round_41 : decode cX8_round 41 = .ok (.aload 5, 2) := by decide +kernel
theorem dX8_round_43 : decode cX8_round 43 = .ok (.aload 6, 2) := by decide +kernel
theorem dX8_round_45 : decode cX8_round 45 = .ok (.invokevirtual 166, 3) := by decide +kernel
theorem dX8_round_48 : decode cX8_round 48 = .ok (.ireturn, 1) := by decide +kernel
theorem dX8_hides_0 : decode cX8_hides 0 = .ok (.aload_n 0, 1) := by decide +kernel
theorem dX8_hides_1 : decode cX8_hides 1 = .ok (.iload_n 1, 1) := by decide +kernel
theorem dX8_hides_2 : decode cX8_hides 2 = .ok (.invokevirtual 90, 3) := by decide +kernel
theorem dX8_hides_5 : decode cX8_hides 5 = .ok (.astore 4, 2) := by decide +kernel
theorem dX8_hides_7 : decode cX8_hides 7 = .ok (.aload_n 0, 1) := by decide +kernel
theorem dX8_hides_8 : decode cX8_hides 8 = .ok (.iload_n 2, 1) := by decide +kernel
theorem dX8_hides_9 : decode cX8_hides 9 = .ok (.invokevirtual 90, 3) := by decide +kernel
theorem dX8_hides_12 : decode cX8_hides 12 = .ok (.astore 5, 2) := by decide +kernel
theorem dX8_hides_14 : decode cX8_hides 14 = .ok (.aload_n 0, 1) := by decide +kernel
theorem dX8_hides_15 : decode cX8_hides 15 = .ok (.iload_n 3, 1) := by decide +kernel
theorem dX8_hides_16 : decode cX8_hides 16 = .ok (.invokevirtual 74, 3) := by decide +kernel
theorem dX8_hides_19 : decode cX8_hides 19 = .ok (.astore 6, 2) := by decide +kernel
theorem dX8_hides_21 : decode cX8_hides 21 = .ok (.aload 4, 2) := by decide +kernel
theorem dX8_hides_23 : decode cX8_hides 23 = .ok (.ifnull 13, 3) := by decide +kernel
theorem dX8_hides_26 : decode cX8_hides 26 = .ok (.aload 5, 2) := by decide +kernel
theorem dX8_hides_28 : decode cX8_hides 28 = .ok (.ifnull 8, 3) := by decide +kernel
theorem dX8_hides_31 : decode cX8_hides 31 = .ok (.aload 6, 2) := by decide +kernel
theorem dX8_hides_33 : decode cX8_hides 33 = .ok (.ifnonnull 5, 3) := by decide +kernel
theorem dX8_hides_36 : decode cX8_hides 36 = .ok (.iconst (-1), 1) := by decide +kernel
theorem dX8_hides_37 : decode cX8_hides 37 = .ok (.ireturn, 1) := by decide +kernel
theorem dX8_hides_38 : decode cX8_hides 38 = .ok (.aload_n 0, 1) := by decide +kernel
theorem dX8_hides_39 : decode cX8_hides 39 = .ok (.aload 4, 2) := by decide +kernel
theorem dX8_hides_41 : decode cX8_hides 41 = .ok (.aload 5, 2) := by decide +kernel
theorem dX8_hides_43 : decode cX8_hides 43 = .ok (.aload 6, 2) := by decide +kernel
theorem dX8_hides_45 : decode cX8_hides 45 = .ok (.invokevirtual 166, 3) := by decide +kernel
theorem dX8_hides_48 : decode cX8_hides 48 = .ok (.istore 7, 2) := by decide +kernel
theorem dX8_hides_50 : decode cX8_hides 50 = .ok (.iload 7, 2) := by decide +kernel
theorem dX8_hides_52 : decode cX8_hides 52 = .ok (.ifCond .gt 6, 3) := by decide +kernel
theorem dX8_hides_55 : decode cX8_hides 55 = .ok (.iload 7, 2) := by decide +kernel
theorem dX8_hides_57 : decode cX8_hides 57 = .ok (.ireturn, 1) := by decide +kernel
theorem dX8_hides_58 : decode cX8_hides 58 = .ok (.aload_n 0, 1) := by decide +kernel
theorem dX8_hides_59 : decode cX8_hides 59 = .ok (.getfield 50, 3) := by decide +kernel
theorem dX8_hides_62 : decode cX8_hides 62 = .ok (.aload 4, 2) := by decide +kernel
theorem dX8_hides_64 : decode cX8_hides 64 = .ok (.getfield 94, 3) := by decide +kernel
theorem dX8_hides_67 : decode cX8_hides 67 = .ok (.aload 6, 2) := by decide +kernel
theorem dX8_hides_69 : decode cX8_hides 69 = .ok (.invokevirtual 98, 3) := by decide +kernel
theorem dX8_hides_72 : decode cX8_hides 72 = .ok (.ifCond .eq 25, 3) := by decide +kernel
theorem dX8_hides_75 : decode cX8_hides 75 = .ok (.aload 4, 2) := by decide +kernel
theorem dX8_hides_77 : decode cX8_hides 77 = .ok (.getfield 94, 3) := by decide +kernel
theorem dX8_hides_80 : decode cX8_hides 80 = .ok (.aload_n 0, 1) := by decide +kernel
theorem dX8_hides_81 : decode cX8_hides 81 = .ok (.getfield 50, 3) := by decide +kernel
theorem dX8_hides_84 : decode cX8_hides 84 = .ok (.getfield 102, 3) := by decide +kernel
theorem dX8_hides_87 : decode cX8_hides 87 = .ok (.invokevirtual 162, 3) := by decide +kernel
theorem dX8_hides_90 : decode cX8_hides 90 = .ok (.ifCond .ne 7, 3) := by decide +kernel
theorem dX8_hides_93 : decode cX8_hides 93 = .ok (.iconst 1, 1) := by decide +kernel
theorem dX8_hides_94 : decode cX8_hides 94 = .ok (.goto 4, 3) := by decide +kernel
theorem dX8_hides_97 : decode cX8_hides 97 = .ok (.iconst 0, 1) := by decide +kernel
theorem dX8_hides_98 : decode cX8_hides 98 = .ok (.ireturn, 1) := by decide +kernel
theorem dX8_check_0 : decode cX8_check 0 = .ok (.aload_n 0, 1) := by decide +kernel
theorem dX8_check_1 : decode cX8_check 1 = .ok (.iload_n 1, 1) := by decide +kernel
theorem dX8_check_2 : decode cX8_check 2 = .ok (.invokevirtual 90, 3) := by decide +kernel
theorem dX8_check_5 : decode cX8_check 5 = .ok (.astore_n 3, 1) := by decide +kernel
theorem dX8_check_6 : decode cX8_check 6 = .ok (.aload_n 3, 1) := by decide +kernel
theorem dX8_check_7 : decode cX8_check 7 = .ok (.ifnull 12, 3) := by decide +kernel
theorem dX8_check_10 : decode cX8_check 10 = .ok (.iload_n 2, 1) := by decide +kernel
theorem dX8_check_11 : decode cX8_check 11 = .ok (.ifCond .lt 8, 3) := by decide +kernel
theorem dX8_check_14 : decode cX8_check 14 = .ok (.iload_n 2, 1) := by decide +kernel
theorem dX8_check_15 : decode cX8_check 15 = .ok (.iconst 1, 1) := by decide +kernel
theorem dX8_check_16 : decode cX8_check 16 = .ok (.if_icmp .le 5, 3) := by decide +kernel
theorem dX8_check_19 : decode cX8_check 19 = .ok (.iconst (-1), 1) := by decide +kernel
theorem dX8_check_20 : decode cX8_check 20 = .ok (.ireturn, 1) := by decide +kernel
theorem dX8_check_21 : decode cX8_check 21 = .ok (.aload_n 3, 1) := by decide +kernel
theorem dX8_check_22 : decode cX8_check 22 = .ok (.getfield 112, 3) := by decide +kernel
theorem dX8_check_25 : decode cX8_check 25 = .ok (.ifCond .eq 6, 3) := by decide +kernel
theorem dX8_check_28 : decode cX8_check 28 = .ok (.bipush (-2), 2) := by decide +kernel
theorem dX8_check_30 : decode cX8_check 30 = .ok (.ireturn, 1) := by decide +kernel
theorem dX8_check_31 : decode cX8_check 31 = .ok (.aload_n 3, 1) := by decide +kernel
theorem dX8_check_32 : decode cX8_check 32 = .ok (.getfield 121, 3) := by decide +kernel
theorem dX8_check_35 : decode cX8_check 35 = .ok (.ifCond .eq 7, 3) := by decide +kernel
theorem dX8_check_38 : decode cX8_check 38 = .ok (.iconst 1, 1) := by decide +kernel
theorem dX8_check_39 : decode cX8_check 39 = .ok (.goto 4, 3) := by decide +kernel
theorem dX8_check_42 : decode cX8_check 42 = .ok (.iconst 0, 1) := by decide +kernel
theorem dX8_check_43 : decode cX8_check 43 = .ok (.istore 4, 2) := by decide +kernel
theorem dX8_check_45 : decode cX8_check 45 = .ok (.aload_n 3, 1) := by decide +kernel
theorem dX8_check_46 : decode cX8_check 46 = .ok (.iload_n 2, 1) := by decide +kernel
theorem dX8_check_47 : decode cX8_check 47 = .ok (.iconst 1, 1) := by decide +kernel
theorem dX8_check_48 : decode cX8_check 48 = .ok (.if_icmp .ne 7, 3) := by decide +kernel
theorem dX8_check_51 : decode cX8_check 51 = .ok (.iconst 1, 1) := by decide +kernel
theorem dX8_check_52 : decode cX8_check 52 = .ok (.goto 4, 3) := by decide +kernel
theorem dX8_check_55 : decode cX8_check 55 = .ok (.iconst 0, 1) := by decide +kernel
theorem dX8_check_56 : decode cX8_check 56 = .ok (.putfield 121, 3) := by decide +kernel
theorem dX8_check_59 : decode cX8_check 59 = .ok (.iload 4, 2) := by decide +kernel
theorem dX8_check_61 : decode cX8_check 61 = .ok (.ireturn, 1) := by decide +kernel
theorem dX8_chain_0 : decode cX8_chain 0 = .ok (.aload_n 0, 1) := by decide +kernel
theorem dX8_chain_1 : decode cX8_chain 1 = .ok (.iload_n 1, 1) := by decide +kernel
theorem dX8_chain_2 : decode cX8_chain 2 = .ok (.invokevirtual 90, 3) := by decide +kernel
theorem dX8_chain_5 : decode cX8_chain 5 = .ok (.ifnonnull 5, 3) := by decide +kernel
theorem dX8_chain_8 : decode cX8_chain 8 = .ok (.iconst (-1), 1) := by decide +kernel
theorem dX8_chain_9 : decode cX8_chain 9 = .ok (.ireturn, 1) := by decide +kernel
theorem dX8_chain_10 : decode cX8_chain 10 = .ok (.aload_n 0, 1) := by decide +kernel
theorem dX8_chain_11 : decode cX8_chain 11 = .ok (.iload_n 1, 1) := by decide +kernel
theorem dX8_chain_12 : decode cX8_chain 12 = .ok (.invokevirtual 170, 3) := by decide +kernel
theorem dX8_chain_15 : decode cX8_chain 15 = .ok (.istore_n 3, 1) := by decide +kernel
theorem dX8_chain_16 : decode cX8_chain 16 = .ok (.iload_n 2, 1) := by decide +kernel
theorem dX8_chain_17 : decode cX8_chain 17 = .ok (.iconst (-1), 1) := by decide +kernel
theorem dX8_chain_18 : decode cX8_chain 18 = .ok (.if_icmp .ne 5, 3) := by decide +kernel
theorem dX8_chain_21 : decode cX8_chain 21 = .ok (.iload_n 3, 1) := by decide +kernel
theorem dX8_chain_22 : decode cX8_chain 22 = .ok (.ireturn, 1) := by decide +kernel
theorem dX8_chain_23 : decode cX8_chain 23 = .ok (.iload_n 2, 1) := by decide +kernel
theorem dX8_chain_24 : decode cX8_chain 24 = .ok (.ifCond .lt 8, 3) := by decide +kernel
theorem dX8_chain_27 : decode cX8_chain 27 = .ok (.iload_n 2, 1) := by decide +kernel
theorem dX8_chain_28 : decode cX8_chain 28 = .ok (.iload_n 3, 1) := by decide +kernel
theorem dX8_chain_29 : decode cX8_chain 29 = .ok (.if_icmp .lt 7, 3) := by decide +kernel
theorem dX8_chain_32 : decode cX8_chain 32 = .ok (.iconst (-1), 1) := by decide +kernel
theorem dX8_chain_33 : decode cX8_chain 33 = .ok (.goto 9, 3) := by decide +kernel
theorem dX8_chain_36 : decode cX8_chain 36 = .ok (.aload_n 0, 1) := by decide +kernel
theorem dX8_chain_37 : decode cX8_chain 37 = .ok (.iload_n 1, 1) := by decide +kernel
theorem dX8_chain_38 : decode cX8_chain 38 = .ok (.iload_n 2, 1) := by decide +kernel
theorem dX8_chain_39 : decode cX8_chain 39 = .ok (.invokevirtual 173, 3) := by decide +kernel
theorem dX8_chain_42 : decode cX8_chain 42 = .ok (.ireturn, 1) := by decide +kernel
theorem dX8_sealed_0 : decode cX8_sealed 0 = .ok (.aload_n 0, 1) := by decide +kernel
theorem dX8_sealed_1 : decode cX8_sealed 1 = .ok (.iload_n 1, 1) := by decide +kernel
theorem dX8_sealed_2 : decode cX8_sealed 2 = .ok (.invokevirtual 90, 3) := by decide +kernel
theorem dX8_sealed_5 : decode cX8_sealed 5 = .ok (.ifnonnull 5, 3) := by decide +kernel
theorem dX8_sealed_8 : decode cX8_sealed 8 = .ok (.iconst (-1), 1) := by decide +kernel
theorem dX8_sealed_9 : decode cX8_sealed 9 = .ok (.ireturn, 1) := by decide +kernel
theorem dX8_sealed_10 : decode cX8_sealed 10 = .ok (.aload_n 0, 1) := by decide +kernel
theorem dX8_sealed_11 : decode cX8_sealed 11 = .ok (.iload_n 1, 1) := by decide +kernel
theorem dX8_sealed_12 : decode cX8_sealed 12 = .ok (.aload_n 0, 1) := by decide +kernel
theorem dX8_sealed_13 : decode cX8_sealed 13 = .ok (.invokevirtual 158, 3) := by decide +kernel
theorem dX8_sealed_16 : decode cX8_sealed 16 = .ok (.invokevirtual 176, 3) := by decide +kernel
theorem dX8_sealed_19 : decode cX8_sealed 19 = .ok (.ifCond .eq 7, 3) := by decide +kernel
theorem dX8_sealed_22 : decode cX8_sealed 22 = .ok (.iconst 1, 1) := by decide +kernel
theorem dX8_sealed_23 : decode cX8_sealed 23 = .ok (.goto 4, 3) := by decide +kernel
theorem dX8_sealed_26 : decode cX8_sealed 26 = .ok (.iconst 0, 1) := by decide +kernel
theorem dX8_sealed_27 : decode cX8_sealed 27 = .ok (.ireturn, 1) := by decide +kernel
theorem dX8_least_0 : decode cX8_least 0 = .ok (.iload_n 1, 1) := by decide +kernel
theorem dX8_least_1 : decode cX8_least 1 = .ok (.ifCond .lt 13, 3) := by decide +kernel
theorem dX8_least_4 : decode cX8_least 4 = .ok (.iload_n 1, 1) := by decide +kernel
theorem dX8_least_5 : decode cX8_least 5 = .ok (.iconst 1, 1) := by decide +kernel
theorem dX8_least_6 : decode cX8_least 6 = .ok (.aload_n 0, 1) := by decide +kernel
theorem dX8_least_7 : decode cX8_least 7 = .ok (.getfield 26, 3) := by decide +kernel
theorem dX8_least_10 : decode cX8_least 10 = .ok (.ishl, 1) := by decide +kernel
theorem dX8_least_11 : decode cX8_least 11 = .ok (.if_icmp .lt 5, 3) := by decide +kernel
theorem dX8_least_14 : decode cX8_least 14 = .ok (.iconst (-1), 1) := by decide +kernel
theorem dX8_least_15 : decode cX8_least 15 = .ok (.ireturn, 1) := by decide +kernel
theorem dX8_least_16 : decode cX8_least 16 = .ok (.iload_n 1, 1) := by decide +kernel
theorem dX8_least_17 : decode cX8_least 17 = .ok (.aload_n 0, 1) := by decide +kernel
theorem dX8_least_18 : decode cX8_least 18 = .ok (.invokevirtual 158, 3) := by decide +kernel
theorem dX8_least_21 : decode cX8_least 21 = .ok (.iconst (-1), 1) := by decide +kernel
theorem dX8_least_22 : decode cX8_least 22 = .ok (.ixor, 1) := by decide +kernel
theorem dX8_least_23 : decode cX8_least 23 = .ok (.iand, 1) := by decide +kernel
theorem dX8_least_24 : decode cX8_least 24 = .ok (.istore_n 2, 1) := by decide +kernel
theorem dX8_least_25 : decode cX8_least 25 = .ok (.iconst 0, 1) := by decide +kernel
theorem dX8_least_26 : decode cX8_least 26 = .ok (.istore_n 3, 1) := by decide +kernel
theorem dX8_least_27 : decode cX8_least 27 = .ok (.iconst 0, 1) := by decide +kernel
theorem dX8_least_28 : decode cX8_least 28 = .ok (.istore 4, 2) := by decide +kernel
theorem dX8_least_30 : decode cX8_least 30 = .ok (.iload 4, 2) := by decide +kernel
theorem dX8_least_32 : decode cX8_least 32 = .ok (.bipush 12, 2) := by decide +kernel
theorem dX8_least_34 : decode cX8_least 34 = .ok (.if_icmp .ge 62, 3) := by decide +kernel
theorem dX8_least_37 : decode cX8_least 37 = .ok (.iload_n 2, 1) := by decide +kernel
theorem dX8_least_38 : decode cX8_least 38 = .ok (.iload 4, 2) := by decide +kernel
theorem dX8_least_40 : decode cX8_least 40 = .ok (.invokestatic 180, 3) := by decide +kernel
theorem dX8_least_43 : decode cX8_least 43 = .ok (.ifCond .eq 47, 3) := by decide +kernel
theorem dX8_least_46 : decode cX8_least 46 = .ok (.aload_n 0, 1) := by decide +kernel
theorem dX8_least_47 : decode cX8_least 47 = .ok (.iload 4, 2) := by decide +kernel
theorem dX8_least_49 : decode cX8_least 49 = .ok (.invokevirtual 183, 3) := by decide +kernel
theorem dX8_least_52 : decode cX8_least 52 = .ok (.istore 5, 2) := by decide +kernel
theorem dX8_least_54 : decode cX8_least 54 = .ok (.aload_n 0, 1) := by decide +kernel
theorem dX8_least_55 : decode cX8_least 55 = .ok (.iload 5, 2) := by decide +kernel
theorem dX8_least_57 : decode cX8_least 57 = .ok (.invokevirtual 90, 3) := by decide +kernel
theorem dX8_least_60 : decode cX8_least 60 = .ok (.astore 6, 2) := by decide +kernel
theorem dX8_least_62 : decode cX8_least 62 = .ok (.aload 6, 2) := by decide +kernel
theorem dX8_least_64 : decode cX8_least 64 = .ok (.ifnull 26, 3) := by decide +kernel
theorem dX8_least_67 : decode cX8_least 67 = .ok (.aload 6, 2) := by decide +kernel
theorem dX8_least_69 : decode cX8_least 69 = .ok (.getfield 112, 3) := by decide +kernel
theorem dX8_least_72 : decode cX8_least 72 = .ok (.ifCond .ne 18, 3) := by decide +kernel
theorem dX8_least_75 : decode cX8_least 75 = .ok (.aload 6, 2) := by decide +kernel
theorem dX8_least_77 : decode cX8_least 77 = .ok (.getfield 121, 3) := by decide +kernel
theorem dX8_least_80 : decode cX8_least 80 = .ok (.ifCond .ne 10, 3) := by decide +kernel
theorem dX8_least_83 : decode cX8_least 83 = .ok (.iload_n 3, 1) := by decide +kernel
theorem dX8_least_84 : decode cX8_least 84 = .ok (.iconst 1, 1) := by decide +kernel
theorem dX8_least_85 : decode cX8_least 85 = .ok (.iload 5, 2) := by decide +kernel
theorem dX8_least_87 : decode cX8_least 87 = .ok (.ishl, 1) := by decide +kernel
theorem dX8_least_88 : decode cX8_least 88 = .ok (.ior, 1) := by decide +kernel
theorem dX8_least_89 : decode cX8_least 89 = .ok (.istore_n 3, 1) := by decide +kernel
theorem dX8_least_90 : decode cX8_least 90 = .ok (.iinc 4 1, 3) := by decide +kernel
theorem dX8_least_93 : decode cX8_least 93 = .ok (.goto (-63), 3) := by decide +kernel
theorem dX8_least_96 : decode cX8_least 96 = .ok (.iload_n 3, 1) := by decide +kernel
theorem dX8_least_97 : decode cX8_least 97 = .ok (.ireturn, 1) := by decide +kernel
theorem dX8_same_0 : decode cX8_same 0 = .ok (.aload_n 0, 1) := by decide +kernel
theorem dX8_same_1 : decode cX8_same 1 = .ok (.iload_n 1, 1) := by decide +kernel
theorem dX8_same_2 : decode cX8_same 2 = .ok (.invokevirtual 90, 3) := by decide +kernel
theorem dX8_same_5 : decode cX8_same 5 = .ok (.astore_n 3, 1) := by decide +kernel
theorem dX8_same_6 : decode cX8_same 6 = .ok (.aload_n 0, 1) := by decide +kernel
theorem dX8_same_7 : decode cX8_same 7 = .ok (.iload_n 2, 1) := by decide +kernel
theorem dX8_same_8 : decode cX8_same 8 = .ok (.invokevirtual 90, 3) := by decide +kernel
theorem dX8_same_11 : decode cX8_same 11 = .ok (.astore 4, 2) := by decide +kernel
theorem dX8_same_13 : decode cX8_same 13 = .ok (.aload_n 3, 1) := by decide +kernel
theorem dX8_same_14 : decode cX8_same 14 = .ok (.ifnull 8, 3) := by decide +kernel
theorem dX8_same_17 : decode cX8_same 17 = .ok (.aload 4, 2) := by decide +kernel
theorem dX8_same_19 : decode cX8_same 19 = .ok (.ifnonnull 7, 3) := by decide +kernel
theorem dX8_same_22 : decode cX8_same 22 = .ok (.iconst (-1), 1) := by decide +kernel
theorem dX8_same_23 : decode cX8_same 23 = .ok (.goto 15, 3) := by decide +kernel
theorem dX8_same_26 : decode cX8_same 26 = .ok (.aload_n 3, 1) := by decide +kernel
theorem dX8_same_27 : decode cX8_same 27 = .ok (.getfield 94, 3) := by decide +kernel
theorem dX8_same_30 : decode cX8_same 30 = .ok (.aload 4, 2) := by decide +kernel
theorem dX8_same_32 : decode cX8_same 32 = .ok (.getfield 94, 3) := by decide +kernel
theorem dX8_same_35 : decode cX8_same 35 = .ok (.invokevirtual 162, 3) := by decide +kernel
theorem dX8_same_38 : decode cX8_same 38 = .ok (.ireturn, 1) := by decide +kernel
theorem dX8_edition_0 : decode cX8_edition 0 = .ok (.iload_n 1, 1) := by decide +kernel
theorem dX8_edition_1 : decode cX8_edition 1 = .ok (.ifCond .lt 19, 3) := by decide +kernel
theorem dX8_edition_4 : decode cX8_edition 4 = .ok (.iload_n 1, 1) := by decide +kernel
theorem dX8_edition_5 : decode cX8_edition 5 = .ok (.ldc 186, 2) := by decide +kernel
theorem dX8_edition_7 : decode cX8_edition 7 = .ok (.if_icmp .gt 13, 3) := by decide +kernel
theorem dX8_edition_10 : decode cX8_edition 10 = .ok (.iload_n 2, 1) := by decide +kernel
theorem dX8_edition_11 : decode cX8_edition 11 = .ok (.ifCond .lt 9, 3) := by decide +kernel
theorem dX8_edition_14 : decode cX8_edition 14 = .ok (.iload_n 2, 1) := by decide +kernel
theorem dX8_edition_15 : decode cX8_edition 15 = .ok (.ldc 186, 2) := by decide +kernel
theorem dX8_edition_17 : decode cX8_edition 17 = .ok (.if_icmp .le 5, 3) := by decide +kernel
theorem dX8_edition_20 : decode cX8_edition 20 = .ok (.iconst (-1), 1) := by decide +kernel
theorem dX8_edition_21 : decode cX8_edition 21 = .ok (.ireturn, 1) := by decide +kernel
theorem dX8_edition_22 : decode cX8_edition 22 = .ok (.aload_n 0, 1) := by decide +kernel
theorem dX8_edition_23 : decode cX8_edition 23 = .ok (.getfield 59, 3) := by decide +kernel
theorem dX8_edition_26 : decode cX8_edition 26 = .ok (.iload_n 1, 1) := by decide +kernel
theorem dX8_edition_27 : decode cX8_edition 27 = .ok (.iload_n 2, 1) := by decide +kernel
theorem dX8_edition_28 : decode cX8_edition 28 = .ok (.invokevirtual 187, 3) := by decide +kernel
theorem dX8_edition_31 : decode cX8_edition 31 = .ok (.ireturn, 1) := by decide +kernel
theorem dX8_ladder_0 : decode cX8_ladder 0 = .ok (.aload_n 0, 1) := by decide +kernel
theorem dX8_ladder_1 : decode cX8_ladder 1 = .ok (.getfield 59, 3) := by decide +kernel
theorem dX8_ladder_4 : decode cX8_ladder 4 = .ok (.iload_n 1, 1) := by decide +kernel
theorem dX8_ladder_5 : decode cX8_ladder 5 = .ok (.invokevirtual 189, 3) := by decide +kernel
theorem dX8_ladder_8 : decode cX8_ladder 8 = .ok (.ifCond .eq 19, 3) := by decide +kernel
theorem dX8_ladder_11 : decode cX8_ladder 11 = .ok (.aload_n 0, 1) := by decide +kernel
theorem dX8_ladder_12 : decode cX8_ladder 12 = .ok (.getfield 59, 3) := by decide +kernel
theorem dX8_ladder_15 : decode cX8_ladder 15 = .ok (.iload_n 2, 1) := by decide +kernel
theorem dX8_ladder_16 : decode cX8_ladder 16 = .ok (.invokevirtual 189, 3) := by decide +kernel
theorem dX8_ladder_19 : decode cX8_ladder 19 = .ok (.ifCond .eq 8, 3) := by decide +kernel
theorem dX8_ladder_22 : decode cX8_ladder 22 = .ok (.iload_n 3, 1) := by decide +kernel
theorem dX8_ladder_23 : decode cX8_ladder 23 = .ok (.iconst (-1), 1) := by decide +kernel
theorem dX8_ladder_24 : decode cX8_ladder 24 = .ok (.if_icmp .ge 5, 3) := by decide +kernel
theorem dX8_ladder_27 : decode cX8_ladder 27 = .ok (.iconst (-1), 1) := by decide +kernel
theorem dX8_ladder_28 : decode cX8_ladder 28 = .ok (.ireturn, 1) := by decide +kernel
theorem dX8_ladder_29 : decode cX8_ladder 29 = .ok (.aload_n 0, 1) := by decide +kernel
theorem dX8_ladder_30 : decode cX8_ladder 30 = .ok (.getfield 59, 3) := by decide +kernel
theorem dX8_ladder_33 : decode cX8_ladder 33 = .ok (.iload_n 1, 1) := by decide +kernel
theorem dX8_ladder_34 : decode cX8_ladder 34 = .ok (.iload_n 2, 1) := by decide +kernel
theorem dX8_ladder_35 : decode cX8_ladder 35 = .ok (.iconst 0, 1) := by decide +kernel
theorem dX8_ladder_36 : decode cX8_ladder 36 = .ok (.invokevirtual 193, 3) := by decide +kernel
theorem dX8_ladder_39 : decode cX8_ladder 39 = .ok (.istore 4, 2) := by decide +kernel
theorem dX8_ladder_41 : decode cX8_ladder 41 = .ok (.iload 4, 2) := by decide +kernel
theorem dX8_ladder_43 : decode cX8_ladder 43 = .ok (.bipush (-9), 2) := by decide +kernel
theorem dX8_ladder_45 : decode cX8_ladder 45 = .ok (.if_icmp .eq 9, 3) := by decide +kernel
theorem dX8_ladder_48 : decode cX8_ladder 48 = .ok (.iload_n 3, 1) := by decide +kernel
theorem dX8_ladder_49 : decode cX8_ladder 49 = .ok (.iload 4, 2) := by decide +kernel
theorem dX8_ladder_51 : decode cX8_ladder 51 = .ok (.if_icmp .le 6, 3) := by decide +kernel
theorem dX8_ladder_54 : decode cX8_ladder 54 = .ok (.bipush (-9), 2) := by decide +kernel
theorem dX8_ladder_56 : decode cX8_ladder 56 = .ok (.ireturn, 1) := by decide +kernel
theorem dX8_ladder_57 : decode cX8_ladder 57 = .ok (.iload_n 3, 1) := by decide +kernel
theorem dX8_ladder_58 : decode cX8_ladder 58 = .ok (.iconst (-1), 1) := by decide +kernel
theorem dX8_ladder_59 : decode cX8_ladder 59 = .ok (.if_icmp .ne 8, 3) := by decide +kernel
theorem dX8_ladder_62 : decode cX8_ladder 62 = .ok (.iload 4, 2) := by decide +kernel
theorem dX8_ladder_64 : decode cX8_ladder 64 = .ok (.goto 12, 3) := by decide +kernel
theorem dX8_ladder_67 : decode cX8_ladder 67 = .ok (.aload_n 0, 1) := by decide +kernel
theorem dX8_ladder_68 : decode cX8_ladder 68 = .ok (.getfield 59, 3) := by decide +kernel
theorem dX8_ladder_71 : decode cX8_ladder 71 = .ok (.iload_n 1, 1) := by decide +kernel
theorem dX8_ladder_72 : decode cX8_ladder 72 = .ok (.iload_n 3, 1) := by decide +kernel
theorem dX8_ladder_73 : decode cX8_ladder 73 = .ok (.invokevirtual 197, 3) := by decide +kernel
theorem dX8_ladder_76 : decode cX8_ladder 76 = .ok (.ireturn, 1) := by decide +kernel
theorem dX8_needed_0 : decode cX8_needed 0 = .ok (.aload_n 0, 1) := by decide +kernel
theorem dX8_needed_1 : decode cX8_needed 1 = .ok (.getfield 59, 3) := by decide +kernel
theorem dX8_needed_4 : decode cX8_needed 4 = .ok (.iload_n 1, 1) := by decide +kernel
theorem dX8_needed_5 : decode cX8_needed 5 = .ok (.invokevirtual 189, 3) := by decide +kernel
theorem dX8_needed_8 : decode cX8_needed 8 = .ok (.ifCond .eq 23, 3) := by decide +kernel
theorem dX8_needed_11 : decode cX8_needed 11 = .ok (.aload_n 0, 1) := by decide +kernel
theorem dX8_needed_12 : decode cX8_needed 12 = .ok (.getfield 59, 3) := by decide +kernel
theorem dX8_needed_15 : decode cX8_needed 15 = .ok (.iload_n 2, 1) := by decide +kernel
theorem dX8_needed_16 : decode cX8_needed 16 = .ok (.invokevirtual 189, 3) := by decide +kernel
theorem dX8_needed_19 : decode cX8_needed 19 = .ok (.ifCond .eq 12, 3) := by decide +kernel
theorem dX8_needed_22 : decode cX8_needed 22 = .ok (.iload_n 3, 1) := by decide +kernel
theorem dX8_needed_23 : decode cX8_needed 23 = .ok (.ifCond .lt 8, 3) := by decide +kernel
theorem dX8_needed_26 : decode cX8_needed 26 = .ok (.iload_n 3, 1) := by decide +kernel
theorem dX8_needed_27 : decode cX8_needed 27 = .ok (.iconst 1, 1) := by decide +kernel
theorem dX8_needed_28 : decode cX8_needed 28 = .ok (.if_icmp .le 5, 3) := by decide +kernel
theorem dX8_needed_31 : decode cX8_needed 31 = .ok (.iconst (-1), 1) := by decide +kernel
theorem dX8_needed_32 : decode cX8_needed 32 = .ok (.ireturn, 1) := by decide +kernel
theorem dX8_needed_33 : decode cX8_needed 33 = .ok (.bipush (-9), 2) := by decide +kernel
theorem dX8_needed_35 : decode cX8_needed 35 = .ok (.istore 4, 2) := by decide +kernel
theorem dX8_needed_37 : decode cX8_needed 37 = .ok (.aload_n 0, 1) := by decide +kernel
theorem dX8_needed_38 : decode cX8_needed 38 = .ok (.getfield 59, 3) := by decide +kernel
theorem dX8_needed_41 : decode cX8_needed 41 = .ok (.iload_n 1, 1) := by decide +kernel
theorem dX8_needed_42 : decode cX8_needed 42 = .ok (.iload_n 2, 1) := by decide +kernel
theorem dX8_needed_43 : decode cX8_needed 43 = .ok (.iconst 0, 1) := by decide +kernel
theorem dX8_needed_44 : decode cX8_needed 44 = .ok (.invokevirtual 193, 3) := by decide +kernel
theorem dX8_needed_47 : decode cX8_needed 47 = .ok (.istore 5, 2) := by decide +kernel
theorem dX8_needed_49 : decode cX8_needed 49 = .ok (.iconst 0, 1) := by decide +kernel
theorem dX8_needed_50 : decode cX8_needed 50 = .ok (.istore 6, 2) := by decide +kernel
theorem dX8_needed_52 : decode cX8_needed 52 = .ok (.iload 6, 2) := by decide +kernel
theorem dX8_needed_54 : decode cX8_needed 54 = .ok (.bipush 16, 2) := by decide +kernel
theorem dX8_needed_56 : decode cX8_needed 56 = .ok (.if_icmp .ge 53, 3) := by decide +kernel
theorem dX8_needed_59 : decode cX8_needed 59 = .ok (.aload_n 0, 1) := by decide +kernel
theorem dX8_needed_60 : decode cX8_needed 60 = .ok (.getfield 59, 3) := by decide +kernel
theorem dX8_needed_63 : decode cX8_needed 63 = .ok (.iload_n 1, 1) := by decide +kernel
theorem dX8_needed_64 : decode cX8_needed 64 = .ok (.iload_n 2, 1) := by decide +kernel
theorem dX8_needed_65 : decode cX8_needed 65 = .ok (.iconst 1, 1) := by decide +kernel
theorem dX8_needed_66 : decode cX8_needed 66 = .ok (.iload 6, 2) := by decide +kernel
theorem dX8_needed_68 : decode cX8_needed 68 = .ok (.ishl, 1) := by decide +kernel
theorem dX8_needed_69 : decode cX8_needed 69 = .ok (.invokevirtual 193, 3) := by decide +kernel
theorem dX8_needed_72 : decode cX8_needed 72 = .ok (.istore 7, 2) := by decide +kernel
theorem dX8_needed_74 : decode cX8_needed 74 = .ok (.iload 7, 2) := by decide +kernel
theorem dX8_needed_76 : decode cX8_needed 76 = .ok (.bipush (-9), 2) := by decide +kernel
theorem dX8_needed_78 : decode cX8_needed 78 = .ok (.if_icmp .eq 25, 3) := by decide +kernel
theorem dX8_needed_81 : decode cX8_needed 81 = .ok (.iload 5, 2) := by decide +kernel
theorem dX8_needed_83 : decode cX8_needed 83 = .ok (.bipush (-9), 2) := by decide +kernel
theorem dX8_needed_85 : decode cX8_needed 85 = .ok (.if_icmp .eq 10, 3) := by decide +kernel
theorem dX8_needed_88 : decode cX8_needed 88 = .ok (.iload 7, 2) := by decide +kernel
theorem dX8_needed_90 : decode cX8_needed 90 = .ok (.iload 5, 2) := by decide +kernel
theorem dX8_needed_92 : decode cX8_needed 92 = .ok (.if_icmp .ge 11, 3) := by decide +kernel
theorem dX8_needed_95 : decode cX8_needed 95 = .ok (.iload 7, 2) := by decide +kernel
theorem dX8_needed_97 : decode cX8_needed 97 = .ok (.istore 5, 2) := by decide +kernel
theorem dX8_needed_99 : decode cX8_needed 99 = .ok (.iload 6, 2) := by decide +kernel
theorem dX8_needed_101 : decode cX8_needed 101 = .ok (.istore 4, 2) := by decide +kernel
theorem dX8_needed_103 : decode cX8_needed 103 = .ok (.iinc 6 1, 3) := by decide +kernel
theorem dX8_needed_106 : decode cX8_needed 106 = .ok (.goto (-54), 3) := by decide +kernel
theorem dX8_needed_109 : decode cX8_needed 109 = .ok (.iload 4, 2) := by decide +kernel
theorem dX8_needed_111 : decode cX8_needed 111 = .ok (.bipush (-9), 2) := by decide +kernel
theorem dX8_needed_113 : decode cX8_needed 113 = .ok (.if_icmp .eq 7, 3) := by decide +kernel
theorem dX8_needed_116 : decode cX8_needed 116 = .ok (.iload_n 3, 1) := by decide +kernel
theorem dX8_needed_117 : decode cX8_needed 117 = .ok (.ifCond .ne 8, 3) := by decide +kernel
theorem dX8_needed_120 : decode cX8_needed 120 = .ok (.iload 4, 2) := by decide +kernel
theorem dX8_needed_122 : decode cX8_needed 122 = .ok (.goto 5, 3) := by decide +kernel
theorem dX8_needed_125 : decode cX8_needed 125 = .ok (.iload 5, 2) := by decide +kernel
theorem dX8_needed_127 : decode cX8_needed 127 = .ok (.ireturn, 1) := by decide +kernel
theorem dX8_weight_0 : decode cX8_weight 0 = .ok (.aload_n 0, 1) := by decide +kernel
theorem dX8_weight_1 : decode cX8_weight 1 = .ok (.iload_n 2, 1) := by decide +kernel
theorem dX8_weight_2 : decode cX8_weight 2 = .ok (.invokevirtual 90, 3) := by decide +kernel
theorem dX8_weight_5 : decode cX8_weight 5 = .ok (.astore_n 3, 1) := by decide +kernel
theorem dX8_weight_6 : decode cX8_weight 6 = .ok (.aload_n 3, 1) := by decide +kernel
theorem dX8_weight_7 : decode cX8_weight 7 = .ok (.ifnonnull 5, 3) := by decide +kernel
theorem dX8_weight_10 : decode cX8_weight 10 = .ok (.iconst (-1), 1) := by decide +kernel
theorem dX8_weight_11 : decode cX8_weight 11 = .ok (.ireturn, 1) := by decide +kernel
theorem dX8_weight_12 : decode cX8_weight 12 = .ok (.iload_n 1, 1) := by decide +kernel
theorem dX8_weight_13 : decode cX8_weight 13 = .ok (.tableswitch 77 0 5 #[39, 45, 51, 57, 64, 71], 39) := by decide +kernel
theorem dX8_weight_52 : decode cX8_weight 52 = .ok (.aload_n 0, 1) := by decide +kernel
theorem dX8_weight_53 : decode cX8_weight 53 = .ok (.aload_n 3, 1) := by decide +kernel
theorem dX8_weight_54 : decode cX8_weight 54 = .ok (.invokevirtual 200, 3) := by decide +kernel
theorem dX8_weight_57 : decode cX8_weight 57 = .ok (.ireturn, 1) := by decide +kernel
theorem dX8_weight_58 : decode cX8_weight 58 = .ok (.aload_n 0, 1) := by decide +kernel
theorem dX8_weight_59 : decode cX8_weight 59 = .ok (.aload_n 3, 1) := by decide +kernel
theorem dX8_weight_60 : decode cX8_weight 60 = .ok (.invokevirtual 203, 3) := by decide +kernel
theorem dX8_weight_63 : decode cX8_weight 63 = .ok (.ireturn, 1) := by decide +kernel
theorem dX8_weight_64 : decode cX8_weight 64 = .ok (.aload_n 0, 1) := by decide +kernel
theorem dX8_weight_65 : decode cX8_weight 65 = .ok (.aload_n 3, 1) := by decide +kernel
theorem dX8_weight_66 : decode cX8_weight 66 = .ok (.invokevirtual 206, 3) := by decide +kernel
theorem dX8_weight_69 : decode cX8_weight 69 = .ok (.ireturn, 1) := by decide +kernel
theorem dX8_weight_70 : decode cX8_weight 70 = .ok (.aload_n 0, 1) := by decide +kernel
theorem dX8_weight_71 : decode cX8_weight 71 = .ok (.aload_n 3, 1) := by decide +kernel
theorem dX8_weight_72 : decode cX8_weight 72 = .ok (.iload_n 2, 1) := by decide +kernel
theorem dX8_weight_73 : decode cX8_weight 73 = .ok (.invokevirtual 209, 3) := by decide +kernel
theorem dX8_weight_76 : decode cX8_weight 76 = .ok (.ireturn, 1) := by decide +kernel
theorem dX8_weight_77 : decode cX8_weight 77 = .ok (.aload_n 0, 1) := by decide +kernel
theorem dX8_weight_78 : decode cX8_weight 78 = .ok (.aload_n 3, 1) := by decide +kernel
theorem dX8_weight_79 : decode cX8_weight 79 = .ok (.iload_n 2, 1) := by decide +kernel
theorem dX8_weight_80 : decode cX8_weight 80 = .ok (.invokevirtual 213, 3) := by decide +kernel
theorem dX8_weight_83 : decode cX8_weight 83 = .ok (.ireturn, 1) := by decide +kernel
theorem dX8_weight_84 : decode cX8_weight 84 = .ok (.aload_n 0, 1) := by decide +kernel
theorem dX8_weight_85 : decode cX8_weight 85 = .ok (.aload_n 3, 1) := by decide +kernel
theorem dX8_weight_86 : decode cX8_weight 86 = .ok (.invokevirtual 216, 3) := by decide +kernel
theorem dX8_weight_89 : decode cX8_weight 89 = .ok (.ireturn, 1) := by decide +kernel
theorem dX8_weight_90 : decode cX8_weight 90 = .ok (.iconst (-1), 1) := by decide +kernel
theorem dX8_weight_91 : decode cX8_weight 91 = .ok (.ireturn, 1) := by decide +kernel
theorem dX8_count_0 : decode cX8_count 0 = .ok (.iload_n 1, 1) := by decide +kernel
theorem dX8_count_1 : decode cX8_count 1 = .ok (.tableswitch 70 0 4 #[35, 40, 48, 56, 61], 35) := by decide +kernel
theorem dX8_count_36 : decode cX8_count 36 = .ok (.aload_n 0, 1) := by decide +kernel
theorem dX8_count_37 : decode cX8_count 37 = .ok (.getfield 26, 3) := by decide +kernel
theorem dX8_count_40 : decode cX8_count 40 = .ok (.ireturn, 1) := by decide +kernel
theorem dX8_count_41 : decode cX8_count 41 = .ok (.aload_n 0, 1) := by decide +kernel
theorem dX8_count_42 : decode cX8_count 42 = .ok (.getfield 59, 3) := by decide +kernel
theorem dX8_count_45 : decode cX8_count 45 = .ok (.getfield 219, 3) := by decide +kernel
theorem dX8_count_48 : decode cX8_count 48 = .ok (.ireturn, 1) := by decide +kernel
theorem dX8_count_49 : decode cX8_count 49 = .ok (.aload_n 0, 1) := by decide +kernel
theorem dX8_count_50 : decode cX8_count 50 = .ok (.getfield 10, 3) := by decide +kernel
theorem dX8_count_53 : decode cX8_count 53 = .ok (.getfield 67, 3) := by decide +kernel
theorem dX8_count_56 : decode cX8_count 56 = .ok (.ireturn, 1) := by decide +kernel
theorem dX8_count_57 : decode cX8_count 57 = .ok (.aload_n 0, 1) := by decide +kernel
theorem dX8_count_58 : decode cX8_count 58 = .ok (.invokevirtual 222, 3) := by decide +kernel
theorem dX8_count_61 : decode cX8_count 61 = .ok (.ireturn, 1) := by decide +kernel
theorem dX8_count_62 : decode cX8_count 62 = .ok (.aload_n 0, 1) := by decide +kernel
theorem dX8_count_63 : decode cX8_count 63 = .ok (.aload_n 0, 1) := by decide +kernel
theorem dX8_count_64 : decode cX8_count 64 = .ok (.invokevirtual 158, 3) := by decide +kernel
theorem dX8_count_67 : decode cX8_count 67 = .ok (.invokevirtual 225, 3) := by decide +kernel
theorem dX8_count_70 : decode cX8_count 70 = .ok (.ireturn, 1) := by decide +kernel
theorem dX8_count_71 : decode cX8_count 71 = .ok (.iconst (-1), 1) := by decide +kernel
theorem dX8_count_72 : decode cX8_count 72 = .ok (.ireturn, 1) := by decide +kernel
theorem dX8_trace_0 : decode cX8_trace 0 = .ok (.aload_n 0, 1) := by decide +kernel
theorem dX8_trace_1 : decode cX8_trace 1 = .ok (.getfield 63, 3) := by decide +kernel
theorem dX8_trace_4 : decode cX8_trace 4 = .ok (.lreturn, 1) := by decide +kernel
theorem dX8_textAt_0 : decode cX8_textAt 0 = .ok (.iload_n 1, 1) := by decide +kernel
theorem dX8_textAt_1 : decode cX8_textAt 1 = .ok (.ifCond .lt 9, 3) := by decide +kernel
theorem dX8_textAt_4 : decode cX8_textAt 4 = .ok (.iload_n 1, 1) := by decide +kernel
theorem dX8_textAt_5 : decode cX8_textAt 5 = .ok (.bipush 8, 2) := by decide +kernel
theorem dX8_textAt_7 : decode cX8_textAt 7 = .ok (.if_icmp .lt 7, 3) := by decide +kernel
theorem dX8_textAt_10 : decode cX8_textAt 10 = .ok (.aconst_null, 1) := by decide +kernel
theorem dX8_textAt_11 : decode cX8_textAt 11 = .ok (.goto 9, 3) := by decide +kernel
theorem dX8_textAt_14 : decode cX8_textAt 14 = .ok (.aload_n 0, 1) := by decide +kernel
theorem dX8_textAt_15 : decode cX8_textAt 15 = .ok (.getfield 16, 3) := by decide +kernel
theorem dX8_textAt_18 : decode cX8_textAt 18 = .ok (.iload_n 1, 1) := by decide +kernel
theorem dX8_textAt_19 : decode cX8_textAt 19 = .ok (.aaload, 1) := by decide +kernel
theorem dX8_textAt_20 : decode cX8_textAt 20 = .ok (.areturn, 1) := by decide +kernel
theorem dX8_toolAt_0 : decode cX8_toolAt 0 = .ok (.iload_n 1, 1) := by decide +kernel
theorem dX8_toolAt_1 : decode cX8_toolAt 1 = .ok (.ifCond .lt 17, 3) := by decide +kernel
theorem dX8_toolAt_4 : decode cX8_toolAt 4 = .ok (.iload_n 1, 1) := by decide +kernel
theorem dX8_toolAt_5 : decode cX8_toolAt 5 = .ok (.aload_n 0, 1) := by decide +kernel
theorem dX8_toolAt_6 : decode cX8_toolAt 6 = .ok (.getfield 26, 3) := by decide +kernel
theorem dX8_toolAt_9 : decode cX8_toolAt 9 = .ok (.if_icmp .ge 9, 3) := by decide +kernel
theorem dX8_toolAt_12 : decode cX8_toolAt 12 = .ok (.iload_n 1, 1) := by decide +kernel
theorem dX8_toolAt_13 : decode cX8_toolAt 13 = .ok (.bipush 12, 2) := by decide +kernel
theorem dX8_toolAt_15 : decode cX8_toolAt 15 = .ok (.if_icmp .lt 7, 3) := by decide +kernel
theorem dX8_toolAt_18 : decode cX8_toolAt 18 = .ok (.aconst_null, 1) := by decide +kernel
theorem dX8_toolAt_19 : decode cX8_toolAt 19 = .ok (.goto 9, 3) := by decide +kernel
theorem dX8_toolAt_22 : decode cX8_toolAt 22 = .ok (.aload_n 0, 1) := by decide +kernel
theorem dX8_toolAt_23 : decode cX8_toolAt 23 = .ok (.getfield 22, 3) := by decide +kernel
theorem dX8_toolAt_26 : decode cX8_toolAt 26 = .ok (.iload_n 1, 1) := by decide +kernel
theorem dX8_toolAt_27 : decode cX8_toolAt 27 = .ok (.aaload, 1) := by decide +kernel
theorem dX8_toolAt_28 : decode cX8_toolAt 28 = .ok (.areturn, 1) := by decide +kernel
theorem dX8_hasBit_0 : decode cX8_hasBit 0 = .ok (.iload_n 0, 1) := by decide +kernel
theorem dX8_hasBit_1 : decode cX8_hasBit 1 = .ok (.iload_n 1, 1) := by decide +kernel
theorem dX8_hasBit_2 : decode cX8_hasBit 2 = .ok (.ishr, 1) := by decide +kernel
theorem dX8_hasBit_3 : decode cX8_hasBit 3 = .ok (.iconst 1, 1) := by decide +kernel
theorem dX8_hasBit_4 : decode cX8_hasBit 4 = .ok (.iand, 1) := by decide +kernel
theorem dX8_hasBit_5 : decode cX8_hasBit 5 = .ok (.iconst 1, 1) := by decide +kernel
theorem dX8_hasBit_6 : decode cX8_hasBit 6 = .ok (.if_icmp .ne 7, 3) := by decide +kernel
theorem dX8_hasBit_9 : decode cX8_hasBit 9 = .ok (.iconst 1, 1) := by decide +kernel
theorem dX8_hasBit_10 : decode cX8_hasBit 10 = .ok (.goto 4, 3) := by decide +kernel
theorem dX8_hasBit_13 : decode cX8_hasBit 13 = .ok (.iconst 0, 1) := by decide +kernel
theorem dX8_hasBit_14 : decode cX8_hasBit 14 = .ok (.ireturn, 1) := by decide +kernel
theorem dX8_make_0 : decode cX8_make 0 = .ok (.aload_n 0, 1) := by decide +kernel
theorem dX8_make_1 : decode cX8_make 1 = .ok (.iload_n 2, 1) := by decide +kernel
theorem dX8_make_2 : decode cX8_make 2 = .ok (.invokevirtual 74, 3) := by decide +kernel
theorem dX8_make_5 : decode cX8_make 5 = .ok (.astore_n 3, 1) := by decide +kernel
theorem dX8_make_6 : decode cX8_make 6 = .ok (.aload_n 3, 1) := by decide +kernel
theorem dX8_make_7 : decode cX8_make 7 = .ok (.ifnonnull 5, 3) := by decide +kernel
theorem dX8_make_10 : decode cX8_make 10 = .ok (.iconst (-1), 1) := by decide +kernel
theorem dX8_make_11 : decode cX8_make 11 = .ok (.ireturn, 1) := by decide +kernel
theorem dX8_make_12 : decode cX8_make 12 = .ok (.aload_n 0, 1) := by decide +kernel
theorem dX8_make_13 : decode cX8_make 13 = .ok (.iload_n 1, 1) := by decide +kernel
theorem dX8_make_14 : decode cX8_make 14 = .ok (.invokevirtual 228, 3) := by decide +kernel
theorem dX8_make_17 : decode cX8_make 17 = .ok (.astore 4, 2) := by decide +kernel
theorem dX8_make_19 : decode cX8_make 19 = .ok (.aload 4, 2) := by decide +kernel
theorem dX8_make_21 : decode cX8_make 21 = .ok (.aload_n 3, 1) := by decide +kernel
theorem dX8_make_22 : decode cX8_make 22 = .ok (.invokevirtual 232, 3) := by decide +kernel
theorem dX8_make_25 : decode cX8_make 25 = .ok (.istore 5, 2) := by decide +kernel
theorem dX8_make_27 : decode cX8_make 27 = .ok (.iload 5, 2) := by decide +kernel
theorem dX8_make_29 : decode cX8_make 29 = .ok (.bipush (-9), 2) := by decide +kernel
theorem dX8_make_31 : decode cX8_make 31 = .ok (.if_icmp .ne 19, 3) := by decide +kernel
theorem dX8_make_34 : decode cX8_make 34 = .ok (.aload_n 0, 1) := by decide +kernel
theorem dX8_make_35 : decode cX8_make 35 = .ok (.aload 4, 2) := by decide +kernel
theorem dX8_make_37 : decode cX8_make 37 = .ok (.getfield 238, 3) := by decide +kernel
theorem dX8_make_40 : decode cX8_make 40 = .ok (.iload_n 1, 1) := by decide +kernel
theorem dX8_make_41 : decode cX8_make 41 = .ok (.iload_n 2, 1) := by decide +kernel
theorem dX8_make_42 : decode cX8_make 42 = .ok (.bipush (-9), 2) := by decide +kernel
theorem dX8_make_44 : decode cX8_make 44 = .ok (.invokevirtual 105, 3) := by decide +kernel
theorem dX8_make_47 : decode cX8_make 47 = .ok (.goto 8, 3) := by decide +kernel
theorem dX8_make_50 : decode cX8_make 50 = .ok (.bipush (-10), 2) := by decide +kernel
theorem dX8_make_52 : decode cX8_make 52 = .ok (.iload 5, 2) := by decide +kernel
theorem dX8_make_54 : decode cX8_make 54 = .ok (.isub, 1) := by decide +kernel
theorem dX8_make_55 : decode cX8_make 55 = .ok (.ireturn, 1) := by decide +kernel
theorem dX8_makerBy_0 : decode cX8_makerBy 0 = .ok (.iload_n 1, 1) := by decide +kernel
theorem dX8_makerBy_1 : decode cX8_makerBy 1 = .ok (.ifCond .ne 10, 3) := by decide +kernel
theorem dX8_makerBy_4 : decode cX8_makerBy 4 = .ok (.aload_n 0, 1) := by decide +kernel
theorem dX8_makerBy_5 : decode cX8_makerBy 5 = .ok (.getfield 33, 3) := by decide +kernel
theorem dX8_makerBy_8 : decode cX8_makerBy 8 = .ok (.goto 7, 3) := by decide +kernel
theorem dX8_makerBy_11 : decode cX8_makerBy 11 = .ok (.aload_n 0, 1) := by decide +kernel
theorem dX8_makerBy_12 : decode cX8_makerBy 12 = .ok (.getfield 40, 3) := by decide +kernel
theorem dX8_makerBy_15 : decode cX8_makerBy 15 = .ok (.areturn, 1) := by decide +kernel
theorem dX8_keep_0 : decode cX8_keep 0 = .ok (.aload_n 0, 1) := by decide +kernel
theorem dX8_keep_1 : decode cX8_keep 1 = .ok (.getfield 26, 3) := by decide +kernel
theorem dX8_keep_4 : decode cX8_keep 4 = .ok (.ifCond .lt 12, 3) := by decide +kernel
theorem dX8_keep_7 : decode cX8_keep 7 = .ok (.aload_n 0, 1) := by decide +kernel
theorem dX8_keep_8 : decode cX8_keep 8 = .ok (.getfield 26, 3) := by decide +kernel
theorem dX8_keep_11 : decode cX8_keep 11 = .ok (.bipush 12, 2) := by decide +kernel
theorem dX8_keep_13 : decode cX8_keep 13 = .ok (.if_icmp .lt 6, 3) := by decide +kernel
theorem dX8_keep_16 : decode cX8_keep 16 = .ok (.bipush (-3), 2) := by decide +kernel
theorem dX8_keep_18 : decode cX8_keep 18 = .ok (.ireturn, 1) := by decide +kernel
theorem dX8_keep_19 : decode cX8_keep 19 = .ok (.aload_n 0, 1) := by decide +kernel
theorem dX8_keep_20 : decode cX8_keep 20 = .ok (.getfield 22, 3) := by decide +kernel
theorem dX8_keep_23 : decode cX8_keep 23 = .ok (.aload_n 0, 1) := by decide +kernel
theorem dX8_keep_24 : decode cX8_keep 24 = .ok (.getfield 26, 3) := by decide +kernel
theorem dX8_keep_27 : decode cX8_keep 27 = .ok (.new 20, 3) := by decide +kernel
theorem dX8_keep_30 : decode cX8_keep 30 = .ok (.dup, 1) := by decide +kernel
theorem dX8_keep_31 : decode cX8_keep 31 = .ok (.aload_n 1, 1) := by decide +kernel
theorem dX8_keep_32 : decode cX8_keep 32 = .ok (.invokevirtual 241, 3) := by decide +kernel
theorem dX8_keep_35 : decode cX8_keep 35 = .ok (.iload_n 2, 1) := by decide +kernel
theorem dX8_keep_36 : decode cX8_keep 36 = .ok (.iload_n 3, 1) := by decide +kernel
theorem dX8_keep_37 : decode cX8_keep 37 = .ok (.iload 4, 2) := by decide +kernel
theorem dX8_keep_39 : decode cX8_keep 39 = .ok (.invokespecial 245, 3) := by decide +kernel
theorem dX8_keep_42 : decode cX8_keep 42 = .ok (.aastore, 1) := by decide +kernel
theorem dX8_keep_43 : decode cX8_keep 43 = .ok (.aload_n 0, 1) := by decide +kernel
theorem dX8_keep_44 : decode cX8_keep 44 = .ok (.dup, 1) := by decide +kernel
theorem dX8_keep_45 : decode cX8_keep 45 = .ok (.getfield 26, 3) := by decide +kernel
theorem dX8_keep_48 : decode cX8_keep 48 = .ok (.iconst 1, 1) := by decide +kernel
theorem dX8_keep_49 : decode cX8_keep 49 = .ok (.iadd, 1) := by decide +kernel
theorem dX8_keep_50 : decode cX8_keep 50 = .ok (.putfield 26, 3) := by decide +kernel
theorem dX8_keep_53 : decode cX8_keep 53 = .ok (.aload_n 0, 1) := by decide +kernel
theorem dX8_keep_54 : decode cX8_keep 54 = .ok (.getfield 26, 3) := by decide +kernel
theorem dX8_keep_57 : decode cX8_keep 57 = .ok (.iconst 1, 1) := by decide +kernel
theorem dX8_keep_58 : decode cX8_keep 58 = .ok (.isub, 1) := by decide +kernel
theorem dX8_keep_59 : decode cX8_keep 59 = .ok (.ireturn, 1) := by decide +kernel
theorem dX8_madeAgain_0 : decode cX8_madeAgain 0 = .ok (.aload_n 0, 1) := by decide +kernel
theorem dX8_madeAgain_1 : decode cX8_madeAgain 1 = .ok (.aload_n 1, 1) := by decide +kernel
theorem dX8_madeAgain_2 : decode cX8_madeAgain 2 = .ok (.getfield 115, 3) := by decide +kernel
theorem dX8_madeAgain_5 : decode cX8_madeAgain 5 = .ok (.invokevirtual 74, 3) := by decide +kernel
theorem dX8_madeAgain_8 : decode cX8_madeAgain 8 = .ok (.astore_n 2, 1) := by decide +kernel
theorem dX8_madeAgain_9 : decode cX8_madeAgain 9 = .ok (.aload_n 2, 1) := by decide +kernel
theorem dX8_madeAgain_10 : decode cX8_madeAgain 10 = .ok (.ifnonnull 6, 3) := by decide +kernel
theorem dX8_madeAgain_13 : decode cX8_madeAgain 13 = .ok (.bipush (-20), 2) := by decide +kernel
theorem dX8_madeAgain_15 : decode cX8_madeAgain 15 = .ok (.ireturn, 1) := by decide +kernel
theorem dX8_madeAgain_16 : decode cX8_madeAgain 16 = .ok (.aload_n 1, 1) := by decide +kernel
theorem dX8_madeAgain_17 : decode cX8_madeAgain 17 = .ok (.getfield 112, 3) := by decide +kernel
theorem dX8_madeAgain_20 : decode cX8_madeAgain 20 = .ok (.iconst 2, 1) := by decide +kernel
theorem dX8_madeAgain_21 : decode cX8_madeAgain 21 = .ok (.if_icmp .ne 10, 3) := by decide +kernel
theorem dX8_madeAgain_24 : decode cX8_madeAgain 24 = .ok (.aload_n 0, 1) := by decide +kernel
theorem dX8_madeAgain_25 : decode cX8_madeAgain 25 = .ok (.aload_n 1, 1) := by decide +kernel
theorem dX8_madeAgain_26 : decode cX8_madeAgain 26 = .ok (.aload_n 2, 1) := by decide +kernel
theorem dX8_madeAgain_27 : decode cX8_madeAgain 27 = .ok (.invokevirtual 248, 3) := by decide +kernel
theorem dX8_madeAgain_30 : decode cX8_madeAgain 30 = .ok (.ireturn, 1) := by decide +kernel
theorem dX8_madeAgain_31 : decode cX8_madeAgain 31 = .ok (.aload_n 0, 1) := by decide +kernel
theorem dX8_madeAgain_32 : decode cX8_madeAgain 32 = .ok (.aload_n 1, 1) := by decide +kernel
theorem dX8_madeAgain_33 : decode cX8_madeAgain 33 = .ok (.getfield 112, 3) := by decide +kernel
theorem dX8_madeAgain_36 : decode cX8_madeAgain 36 = .ok (.invokevirtual 228, 3) := by decide +kernel
theorem dX8_madeAgain_39 : decode cX8_madeAgain 39 = .ok (.astore_n 3, 1) := by decide +kernel
theorem dX8_madeAgain_40 : decode cX8_madeAgain 40 = .ok (.aload_n 3, 1) := by decide +kernel
theorem dX8_madeAgain_41 : decode cX8_madeAgain 41 = .ok (.aload_n 2, 1) := by decide +kernel
theorem dX8_madeAgain_42 : decode cX8_madeAgain 42 = .ok (.invokevirtual 232, 3) := by decide +kernel
theorem dX8_madeAgain_45 : decode cX8_madeAgain 45 = .ok (.bipush (-9), 2) := by decide +kernel
theorem dX8_madeAgain_47 : decode cX8_madeAgain 47 = .ok (.if_icmp .ne 17, 3) := by decide +kernel
theorem dX8_madeAgain_50 : decode cX8_madeAgain 50 = .ok (.aload_n 1, 1) := by decide +kernel
theorem dX8_madeAgain_51 : decode cX8_madeAgain 51 = .ok (.getfield 94, 3) := by decide +kernel
theorem dX8_madeAgain_54 : decode cX8_madeAgain 54 = .ok (.aload_n 3, 1) := by decide +kernel
theorem dX8_madeAgain_55 : decode cX8_madeAgain 55 = .ok (.getfield 238, 3) := by decide +kernel
theorem dX8_madeAgain_58 : decode cX8_madeAgain 58 = .ok (.invokevirtual 162, 3) := by decide +kernel
theorem dX8_madeAgain_61 : decode cX8_madeAgain 61 = .ok (.goto 5, 3) := by decide +kernel
theorem dX8_madeAgain_64 : decode cX8_madeAgain 64 = .ok (.bipush (-20), 2) := by decide +kernel
theorem dX8_madeAgain_66 : decode cX8_madeAgain 66 = .ok (.ireturn, 1) := by decide +kernel
theorem dX8_builtAgain_0 : decode cX8_builtAgain 0 = .ok (.aload_n 0, 1) := by decide +kernel
theorem dX8_builtAgain_1 : decode cX8_builtAgain 1 = .ok (.aload_n 1, 1) := by decide +kernel
theorem dX8_builtAgain_2 : decode cX8_builtAgain 2 = .ok (.getfield 118, 3) := by decide +kernel
theorem dX8_builtAgain_5 : decode cX8_builtAgain 5 = .ok (.invokevirtual 90, 3) := by decide +kernel
theorem dX8_builtAgain_8 : decode cX8_builtAgain 8 = .ok (.astore_n 3, 1) := by decide +kernel
theorem dX8_builtAgain_9 : decode cX8_builtAgain 9 = .ok (.aload_n 3, 1) := by decide +kernel
theorem dX8_builtAgain_10 : decode cX8_builtAgain 10 = .ok (.ifnonnull 6, 3) := by decide +kernel
theorem dX8_builtAgain_13 : decode cX8_builtAgain 13 = .ok (.bipush (-20), 2) := by decide +kernel
theorem dX8_builtAgain_15 : decode cX8_builtAgain 15 = .ok (.ireturn, 1) := by decide +kernel
theorem dX8_builtAgain_16 : decode cX8_builtAgain 16 = .ok (.aload_n 0, 1) := by decide +kernel
theorem dX8_builtAgain_17 : decode cX8_builtAgain 17 = .ok (.getfield 50, 3) := by decide +kernel
theorem dX8_builtAgain_20 : decode cX8_builtAgain 20 = .ok (.aload_n 3, 1) := by decide +kernel
theorem dX8_builtAgain_21 : decode cX8_builtAgain 21 = .ok (.getfield 94, 3) := by decide +kernel
theorem dX8_builtAgain_24 : decode cX8_builtAgain 24 = .ok (.aload_n 2, 1) := by decide +kernel
theorem dX8_builtAgain_25 : decode cX8_builtAgain 25 = .ok (.invokevirtual 129, 3) := by decide +kernel
theorem dX8_builtAgain_28 : decode cX8_builtAgain 28 = .ok (.aload_n 0, 1) := by decide +kernel
theorem dX8_builtAgain_29 : decode cX8_builtAgain 29 = .ok (.getfield 50, 3) := by decide +kernel
theorem dX8_builtAgain_32 : decode cX8_builtAgain 32 = .ok (.getfield 133, 3) := by decide +kernel
theorem dX8_builtAgain_35 : decode cX8_builtAgain 35 = .ok (.ifCond .eq 14, 3) := by decide +kernel
theorem dX8_builtAgain_38 : decode cX8_builtAgain 38 = .ok (.bipush (-10), 2) := by decide +kernel
theorem dX8_builtAgain_40 : decode cX8_builtAgain 40 = .ok (.aload_n 0, 1) := by decide +kernel
theorem dX8_builtAgain_41 : decode cX8_builtAgain 41 = .ok (.getfield 50, 3) := by decide +kernel
theorem dX8_builtAgain_44 : decode cX8_builtAgain 44 = .ok (.getfield 133, 3) := by decide +kernel
theorem dX8_builtAgain_47 : decode cX8_builtAgain 47 = .ok (.isub, 1) := by decide +kernel
theorem dX8_builtAgain_48 : decode cX8_builtAgain 48 = .ok (.ireturn, 1) := by decide +kernel
theorem dX8_builtAgain_49 : decode cX8_builtAgain 49 = .ok (.aload_n 0, 1) := by decide +kernel
theorem dX8_builtAgain_50 : decode cX8_builtAgain 50 = .ok (.getfield 50, 3) := by decide +kernel
theorem dX8_builtAgain_53 : decode cX8_builtAgain 53 = .ok (.getfield 102, 3) := by decide +kernel
theorem dX8_builtAgain_56 : decode cX8_builtAgain 56 = .ok (.getfield 109, 3) := by decide +kernel
theorem dX8_builtAgain_59 : decode cX8_builtAgain 59 = .ok (.ifCond .ne 8, 3) := by decide +kernel
theorem dX8_builtAgain_62 : decode cX8_builtAgain 62 = .ok (.bipush (-20), 2) := by decide +kernel
theorem dX8_builtAgain_64 : decode cX8_builtAgain 64 = .ok (.goto 17, 3) := by decide +kernel
theorem dX8_builtAgain_67 : decode cX8_builtAgain 67 = .ok (.aload_n 1, 1) := by decide +kernel
theorem dX8_builtAgain_68 : decode cX8_builtAgain 68 = .ok (.getfield 94, 3) := by decide +kernel
theorem dX8_builtAgain_71 : decode cX8_builtAgain 71 = .ok (.aload_n 0, 1) := by decide +kernel
theorem dX8_builtAgain_72 : decode cX8_builtAgain 72 = .ok (.getfield 50, 3) := by decide +kernel
theorem dX8_builtAgain_75 : decode cX8_builtAgain 75 = .ok (.getfield 102, 3) := by decide +kernel
theorem dX8_builtAgain_78 : decode cX8_builtAgain 78 = .ok (.invokevirtual 162, 3) := by decide +kernel
theorem dX8_builtAgain_81 : decode cX8_builtAgain 81 = .ok (.ireturn, 1) := by decide +kernel
theorem dX8_staleBits_0 : decode cX8_staleBits 0 = .ok (.iconst 0, 1) := by decide +kernel
theorem dX8_staleBits_1 : decode cX8_staleBits 1 = .ok (.istore_n 1, 1) := by decide +kernel
theorem dX8_staleBits_2 : decode cX8_staleBits 2 = .ok (.iconst 0, 1) := by decide +kernel
theorem dX8_staleBits_3 : decode cX8_staleBits 3 = .ok (.istore_n 2, 1) := by decide +kernel
theorem dX8_staleBits_4 : decode cX8_staleBits 4 = .ok (.iload_n 2, 1) := by decide +kernel
theorem dX8_staleBits_5 : decode cX8_staleBits 5 = .ok (.aload_n 0, 1) := by decide +kernel
theorem dX8_staleBits_6 : decode cX8_staleBits 6 = .ok (.getfield 26, 3) := by decide +kernel
theorem dX8_staleBits_9 : decode cX8_staleBits 9 = .ok (.if_icmp .ge 41, 3) := by decide +kernel
theorem dX8_staleBits_12 : decode cX8_staleBits 12 = .ok (.aload_n 0, 1) := by decide +kernel
theorem dX8_staleBits_13 : decode cX8_staleBits 13 = .ok (.iload_n 2, 1) := by decide +kernel
theorem dX8_staleBits_14 : decode cX8_staleBits 14 = .ok (.invokevirtual 90, 3) := by decide +kernel
theorem dX8_staleBits_17 : decode cX8_staleBits 17 = .ok (.astore_n 3, 1) := by decide +kernel
theorem dX8_staleBits_18 : decode cX8_staleBits 18 = .ok (.aload_n 3, 1) := by decide +kernel
theorem dX8_staleBits_19 : decode cX8_staleBits 19 = .ok (.ifnull 25, 3) := by decide +kernel
theorem dX8_staleBits_22 : decode cX8_staleBits 22 = .ok (.iload_n 1, 1) := by decide +kernel
theorem dX8_staleBits_23 : decode cX8_staleBits 23 = .ok (.aload_n 3, 1) := by decide +kernel
theorem dX8_staleBits_24 : decode cX8_staleBits 24 = .ok (.invokestatic 252, 3) := by decide +kernel
theorem dX8_staleBits_27 : decode cX8_staleBits 27 = .ok (.ifCond .ne 11, 3) := by decide +kernel
theorem dX8_staleBits_30 : decode cX8_staleBits 30 = .ok (.aload_n 0, 1) := by decide +kernel
theorem dX8_staleBits_31 : decode cX8_staleBits 31 = .ok (.aload_n 3, 1) := by decide +kernel
theorem dX8_staleBits_32 : decode cX8_staleBits 32 = .ok (.invokevirtual 154, 3) := by decide +kernel
theorem dX8_staleBits_35 : decode cX8_staleBits 35 = .ok (.ifCond .eq 9, 3) := by decide +kernel
theorem dX8_staleBits_38 : decode cX8_staleBits 38 = .ok (.iload_n 1, 1) := by decide +kernel
theorem dX8_staleBits_39 : decode cX8_staleBits 39 = .ok (.iconst 1, 1) := by decide +kernel
theorem dX8_staleBits_40 : decode cX8_staleBits 40 = .ok (.iload_n 2, 1) := by decide +kernel
theorem dX8_staleBits_41 : decode cX8_staleBits 41 = .ok (.ishl, 1) := by decide +kernel
theorem dX8_staleBits_42 : decode cX8_staleBits 42 = .ok (.ior, 1) := by decide +kernel
theorem dX8_staleBits_43 : decode cX8_staleBits 43 = .ok (.istore_n 1, 1) := by decide +kernel
theorem dX8_staleBits_44 : decode cX8_staleBits 44 = .ok (.iinc 2 1, 3) := by decide +kernel
theorem dX8_staleBits_47 : decode cX8_staleBits 47 = .ok (.goto (-43), 3) := by decide +kernel
theorem dX8_staleBits_50 : decode cX8_staleBits 50 = .ok (.iload_n 1, 1) := by decide +kernel
theorem dX8_staleBits_51 : decode cX8_staleBits 51 = .ok (.ireturn, 1) := by decide +kernel
theorem dX8_isBuiltByOneOf_0 : decode cX8_isBuiltByOneOf 0 = .ok (.aload_n 1, 1) := by decide +kernel
theorem dX8_isBuiltByOneOf_1 : decode cX8_isBuiltByOneOf 1 = .ok (.getfield 112, 3) := by decide +kernel
theorem dX8_isBuiltByOneOf_4 : decode cX8_isBuiltByOneOf 4 = .ok (.iconst 2, 1) := by decide +kernel
theorem dX8_isBuiltByOneOf_5 : decode cX8_isBuiltByOneOf 5 = .ok (.if_icmp .ne 18, 3) := by decide +kernel
theorem dX8_isBuiltByOneOf_8 : decode cX8_isBuiltByOneOf 8 = .ok (.iload_n 0, 1) := by decide +kernel
theorem dX8_isBuiltByOneOf_9 : decode cX8_isBuiltByOneOf 9 = .ok (.aload_n 1, 1) := by decide +kernel
theorem dX8_isBuiltByOneOf_10 : decode cX8_isBuiltByOneOf 10 = .ok (.getfield 118, 3) := by decide +kernel
theorem dX8_isBuiltByOneOf_13 : decode cX8_isBuiltByOneOf 13 = .ok (.invokestatic 180, 3) := by decide +kernel
theorem dX8_isBuiltByOneOf_16 : decode cX8_isBuiltByOneOf 16 = .ok (.ifCond .eq 7, 3) := by decide +kernel
theorem dX8_isBuiltByOneOf_19 : decode cX8_isBuiltByOneOf 19 = .ok (.iconst 1, 1) := by decide +kernel
theorem dX8_isBuiltByOneOf_20 : decode cX8_isBuiltByOneOf 20 = .ok (.goto 4, 3) := by decide +kernel
theorem dX8_isBuiltByOneOf_23 : decode cX8_isBuiltByOneOf 23 = .ok (.iconst 0, 1) := by decide +kernel
theorem dX8_isBuiltByOneOf_24 : decode cX8_isBuiltByOneOf 24 = .ok (.ireturn, 1) := by decide +kernel
theorem dX8_goneRound_0 : decode cX8_goneRound 0 = .ok (.aload_n 0, 1) := by decide +kernel
theorem dX8_goneRound_1 : decode cX8_goneRound 1 = .ok (.getfield 50, 3) := by decide +kernel
theorem dX8_goneRound_4 : decode cX8_goneRound 4 = .ok (.aload_n 1, 1) := by decide +kernel
theorem dX8_goneRound_5 : decode cX8_goneRound 5 = .ok (.getfield 94, 3) := by decide +kernel
theorem dX8_goneRound_8 : decode cX8_goneRound 8 = .ok (.aload_n 3, 1) := by decide +kernel
theorem dX8_goneRound_9 : decode cX8_goneRound 9 = .ok (.invokevirtual 98, 3) := by decide +kernel
theorem dX8_goneRound_12 : decode cX8_goneRound 12 = .ok (.ifCond .eq 58, 3) := by decide +kernel
theorem dX8_goneRound_15 : decode cX8_goneRound 15 = .ok (.aload_n 0, 1) := by decide +kernel
theorem dX8_goneRound_16 : decode cX8_goneRound 16 = .ok (.getfield 50, 3) := by decide +kernel
theorem dX8_goneRound_19 : decode cX8_goneRound 19 = .ok (.aload_n 0, 1) := by decide +kernel
theorem dX8_goneRound_20 : decode cX8_goneRound 20 = .ok (.getfield 50, 3) := by decide +kernel
theorem dX8_goneRound_23 : decode cX8_goneRound 23 = .ok (.getfield 102, 3) := by decide +kernel
theorem dX8_goneRound_26 : decode cX8_goneRound 26 = .ok (.aload_n 3, 1) := by decide +kernel
theorem dX8_goneRound_27 : decode cX8_goneRound 27 = .ok (.invokevirtual 98, 3) := by decide +kernel
theorem dX8_goneRound_30 : decode cX8_goneRound 30 = .ok (.ifCond .eq 40, 3) := by decide +kernel
theorem dX8_goneRound_33 : decode cX8_goneRound 33 = .ok (.aload_n 0, 1) := by decide +kernel
theorem dX8_goneRound_34 : decode cX8_goneRound 34 = .ok (.getfield 53, 3) := by decide +kernel
theorem dX8_goneRound_37 : decode cX8_goneRound 37 = .ok (.aload_n 2, 1) := by decide +kernel
theorem dX8_goneRound_38 : decode cX8_goneRound 38 = .ok (.getfield 94, 3) := by decide +kernel
theorem dX8_goneRound_41 : decode cX8_goneRound 41 = .ok (.aload_n 3, 1) := by decide +kernel
theorem dX8_goneRound_42 : decode cX8_goneRound 42 = .ok (.invokevirtual 98, 3) := by decide +kernel
theorem dX8_goneRound_45 : decode cX8_goneRound 45 = .ok (.ifCond .eq 25, 3) := by decide +kernel
theorem dX8_goneRound_48 : decode cX8_goneRound 48 = .ok (.aload_n 0, 1) := by decide +kernel
theorem dX8_goneRound_49 : decode cX8_goneRound 49 = .ok (.getfield 53, 3) := by decide +kernel
theorem dX8_goneRound_52 : decode cX8_goneRound 52 = .ok (.aload_n 0, 1) := by decide +kernel
theorem dX8_goneRound_53 : decode cX8_goneRound 53 = .ok (.getfield 53, 3) := by decide +kernel
theorem dX8_goneRound_56 : decode cX8_goneRound 56 = .ok (.getfield 102, 3) := by decide +kernel
theorem dX8_goneRound_59 : decode cX8_goneRound 59 = .ok (.aload_n 3, 1) := by decide +kernel
theorem dX8_goneRound_60 : decode cX8_goneRound 60 = .ok (.invokevirtual 98, 3) := by decide +kernel
theorem dX8_goneRound_63 : decode cX8_goneRound 63 = .ok (.ifCond .eq 7, 3) := by decide +kernel
theorem dX8_goneRound_66 : decode cX8_goneRound 66 = .ok (.iconst 1, 1) := by decide +kernel
theorem dX8_goneRound_67 : decode cX8_goneRound 67 = .ok (.goto 4, 3) := by decide +kernel
theorem dX8_goneRound_70 : decode cX8_goneRound 70 = .ok (.iconst 0, 1) := by decide +kernel
theorem dX8_goneRound_71 : decode cX8_goneRound 71 = .ok (.istore 4, 2) := by decide +kernel
theorem dX8_goneRound_73 : decode cX8_goneRound 73 = .ok (.iload 4, 2) := by decide +kernel
theorem dX8_goneRound_75 : decode cX8_goneRound 75 = .ok (.ifCond .eq 23, 3) := by decide +kernel
theorem dX8_goneRound_78 : decode cX8_goneRound 78 = .ok (.aload_n 0, 1) := by decide +kernel
theorem dX8_goneRound_79 : decode cX8_goneRound 79 = .ok (.getfield 50, 3) := by decide +kernel
theorem dX8_goneRound_82 : decode cX8_goneRound 82 = .ok (.getfield 102, 3) := by decide +kernel
theorem dX8_goneRound_85 : decode cX8_goneRound 85 = .ok (.aload_n 0, 1) := by decide +kernel
theorem dX8_goneRound_86 : decode cX8_goneRound 86 = .ok (.getfield 53, 3) := by decide +kernel
theorem dX8_goneRound_89 : decode cX8_goneRound 89 = .ok (.getfield 102, 3) := by decide +kernel
theorem dX8_goneRound_92 : decode cX8_goneRound 92 = .ok (.invokevirtual 162, 3) := by decide +kernel
theorem dX8_goneRound_95 : decode cX8_goneRound 95 = .ok (.goto 5, 3) := by decide +kernel
theorem dX8_goneRound_98 : decode cX8_goneRound 98 = .ok (.bipush (-2), 2) := by decide +kernel
theorem dX8_goneRound_100 : decode cX8_goneRound 100 = .ok (.ireturn, 1) := by decide +kernel
theorem dX8_chainLength_0 : decode cX8_chainLength 0 = .ok (.iconst 0, 1) := by decide +kernel
theorem dX8_chainLength_1 : decode cX8_chainLength 1 = .ok (.istore_n 2, 1) := by decide +kernel
theorem dX8_chainLength_2 : decode cX8_chainLength 2 = .ok (.aload_n 0, 1) := by decide +kernel
theorem dX8_chainLength_3 : decode cX8_chainLength 3 = .ok (.iload_n 1, 1) := by decide +kernel
theorem dX8_chainLength_4 : decode cX8_chainLength 4 = .ok (.invokevirtual 90, 3) := by decide +kernel
theorem dX8_chainLength_7 : decode cX8_chainLength 7 = .ok (.astore_n 3, 1) := by decide +kernel
theorem dX8_chainLength_8 : decode cX8_chainLength 8 = .ok (.aload_n 3, 1) := by decide +kernel
theorem dX8_chainLength_9 : decode cX8_chainLength 9 = .ok (.ifnull 24, 3) := by decide +kernel
theorem dX8_chainLength_12 : decode cX8_chainLength 12 = .ok (.iload_n 2, 1) := by decide +kernel
theorem dX8_chainLength_13 : decode cX8_chainLength 13 = .ok (.bipush 12, 2) := by decide +kernel
theorem dX8_chainLength_15 : decode cX8_chainLength 15 = .ok (.if_icmp .ge 18, 3) := by decide +kernel
theorem dX8_chainLength_18 : decode cX8_chainLength 18 = .ok (.iinc 2 1, 3) := by decide +kernel
theorem dX8_chainLength_21 : decode cX8_chainLength 21 = .ok (.aload_n 0, 1) := by decide +kernel
theorem dX8_chainLength_22 : decode cX8_chainLength 22 = .ok (.aload_n 3, 1) := by decide +kernel
theorem dX8_chainLength_23 : decode cX8_chainLength 23 = .ok (.getfield 118, 3) := by decide +kernel
theorem dX8_chainLength_26 : decode cX8_chainLength 26 = .ok (.invokevirtual 90, 3) := by decide +kernel
theorem dX8_chainLength_29 : decode cX8_chainLength 29 = .ok (.astore_n 3, 1) := by decide +kernel
theorem dX8_chainLength_30 : decode cX8_chainLength 30 = .ok (.goto (-22), 3) := by decide +kernel
theorem dX8_chainLength_33 : decode cX8_chainLength 33 = .ok (.iload_n 2, 1) := by decide +kernel
theorem dX8_chainLength_34 : decode cX8_chainLength 34 = .ok (.ireturn, 1) := by decide +kernel
theorem dX8_chainAt_0 : decode cX8_chainAt 0 = .ok (.iload_n 1, 1) := by decide +kernel
theorem dX8_chainAt_1 : decode cX8_chainAt 1 = .ok (.istore_n 3, 1) := by decide +kernel
theorem dX8_chainAt_2 : decode cX8_chainAt 2 = .ok (.iconst 0, 1) := by decide +kernel
theorem dX8_chainAt_3 : decode cX8_chainAt 3 = .ok (.istore 4, 2) := by decide +kernel
theorem dX8_chainAt_5 : decode cX8_chainAt 5 = .ok (.iload 4, 2) := by decide +kernel
theorem dX8_chainAt_7 : decode cX8_chainAt 7 = .ok (.iload_n 2, 1) := by decide +kernel
theorem dX8_chainAt_8 : decode cX8_chainAt 8 = .ok (.if_icmp .ge 39, 3) := by decide +kernel
theorem dX8_chainAt_11 : decode cX8_chainAt 11 = .ok (.iload 4, 2) := by decide +kernel
theorem dX8_chainAt_13 : decode cX8_chainAt 13 = .ok (.bipush 12, 2) := by decide +kernel
theorem dX8_chainAt_15 : decode cX8_chainAt 15 = .ok (.if_icmp .ge 32, 3) := by decide +kernel
theorem dX8_chainAt_18 : decode cX8_chainAt 18 = .ok (.aload_n 0, 1) := by decide +kernel
theorem dX8_chainAt_19 : decode cX8_chainAt 19 = .ok (.iload_n 3, 1) := by decide +kernel
theorem dX8_chainAt_20 : decode cX8_chainAt 20 = .ok (.invokevirtual 90, 3) := by decide +kernel
theorem dX8_chainAt_23 : decode cX8_chainAt 23 = .ok (.astore 5, 2) := by decide +kernel
theorem dX8_chainAt_25 : decode cX8_chainAt 25 = .ok (.aload 5, 2) := by decide +kernel
theorem dX8_chainAt_27 : decode cX8_chainAt 27 = .ok (.ifnonnull 8, 3) := by decide +kernel
theorem dX8_chainAt_30 : decode cX8_chainAt 30 = .ok (.bipush (-9), 2) := by decide +kernel
theorem dX8_chainAt_32 : decode cX8_chainAt 32 = .ok (.goto 8, 3) := by decide +kernel
theorem dX8_chainAt_35 : decode cX8_chainAt 35 = .ok (.aload 5, 2) := by decide +kernel
theorem dX8_chainAt_37 : decode cX8_chainAt 37 = .ok (.getfield 118, 3) := by decide +kernel
theorem dX8_chainAt_40 : decode cX8_chainAt 40 = .ok (.istore_n 3, 1) := by decide +kernel
theorem dX8_chainAt_41 : decode cX8_chainAt 41 = .ok (.iinc 4 1, 3) := by decide +kernel
theorem dX8_chainAt_44 : decode cX8_chainAt 44 = .ok (.goto (-39), 3) := by decide +kernel
theorem dX8_chainAt_47 : decode cX8_chainAt 47 = .ok (.iload_n 3, 1) := by decide +kernel
theorem dX8_chainAt_48 : decode cX8_chainAt 48 = .ok (.ireturn, 1) := by decide +kernel
theorem dX8_chainEnd_0 : decode cX8_chainEnd 0 = .ok (.aload_n 0, 1) := by decide +kernel
theorem dX8_chainEnd_1 : decode cX8_chainEnd 1 = .ok (.iload_n 1, 1) := by decide +kernel
theorem dX8_chainEnd_2 : decode cX8_chainEnd 2 = .ok (.aload_n 0, 1) := by decide +kernel
theorem dX8_chainEnd_3 : decode cX8_chainEnd 3 = .ok (.iload_n 1, 1) := by decide +kernel
theorem dX8_chainEnd_4 : decode cX8_chainEnd 4 = .ok (.invokevirtual 170, 3) := by decide +kernel
theorem dX8_chainEnd_7 : decode cX8_chainEnd 7 = .ok (.iconst 1, 1) := by decide +kernel
theorem dX8_chainEnd_8 : decode cX8_chainEnd 8 = .ok (.isub, 1) := by decide +kernel
theorem dX8_chainEnd_9 : decode cX8_chainEnd 9 = .ok (.invokevirtual 173, 3) := by decide +kernel
theorem dX8_chainEnd_12 : decode cX8_chainEnd 12 = .ok (.ireturn, 1) := by decide +kernel
theorem dX8_isSealed_0 : decode cX8_isSealed 0 = .ok (.aload_n 0, 1) := by decide +kernel
theorem dX8_isSealed_1 : decode cX8_isSealed 1 = .ok (.aload_n 0, 1) := by decide +kernel
theorem dX8_isSealed_2 : decode cX8_isSealed 2 = .ok (.iload_n 1, 1) := by decide +kernel
theorem dX8_isSealed_3 : decode cX8_isSealed 3 = .ok (.invokevirtual 183, 3) := by decide +kernel
theorem dX8_isSealed_6 : decode cX8_isSealed 6 = .ok (.invokevirtual 90, 3) := by decide +kernel
theorem dX8_isSealed_9 : decode cX8_isSealed 9 = .ok (.astore_n 3, 1) := by decide +kernel
theorem dX8_isSealed_10 : decode cX8_isSealed 10 = .ok (.aload_n 3, 1) := by decide +kernel
theorem dX8_isSealed_11 : decode cX8_isSealed 11 = .ok (.ifnull 22, 3) := by decide +kernel
theorem dX8_isSealed_14 : decode cX8_isSealed 14 = .ok (.aload_n 3, 1) := by decide +kernel
theorem dX8_isSealed_15 : decode cX8_isSealed 15 = .ok (.getfield 121, 3) := by decide +kernel
theorem dX8_isSealed_18 : decode cX8_isSealed 18 = .ok (.ifCond .eq 15, 3) := by decide +kernel
theorem dX8_isSealed_21 : decode cX8_isSealed 21 = .ok (.iload_n 2, 1) := by decide +kernel
theorem dX8_isSealed_22 : decode cX8_isSealed 22 = .ok (.iload_n 1, 1) := by decide +kernel
theorem dX8_isSealed_23 : decode cX8_isSealed 23 = .ok (.invokestatic 180, 3) := by decide +kernel
theorem dX8_isSealed_26 : decode cX8_isSealed 26 = .ok (.ifCond .ne 7, 3) := by decide +kernel
theorem dX8_isSealed_29 : decode cX8_isSealed 29 = .ok (.iconst 1, 1) := by decide +kernel
theorem dX8_isSealed_30 : decode cX8_isSealed 30 = .ok (.goto 4, 3) := by decide +kernel
theorem dX8_isSealed_33 : decode cX8_isSealed 33 = .ok (.iconst 0, 1) := by decide +kernel
theorem dX8_isSealed_34 : decode cX8_isSealed 34 = .ok (.ireturn, 1) := by decide +kernel
theorem dX8_checkedTools_0 : decode cX8_checkedTools 0 = .ok (.iconst 0, 1) := by decide +kernel
theorem dX8_checkedTools_1 : decode cX8_checkedTools 1 = .ok (.istore_n 1, 1) := by decide +kernel
theorem dX8_checkedTools_2 : decode cX8_checkedTools 2 = .ok (.iconst 0, 1) := by decide +kernel
theorem dX8_checkedTools_3 : decode cX8_checkedTools 3 = .ok (.istore_n 2, 1) := by decide +kernel
theorem dX8_checkedTools_4 : decode cX8_checkedTools 4 = .ok (.iload_n 2, 1) := by decide +kernel
theorem dX8_checkedTools_5 : decode cX8_checkedTools 5 = .ok (.aload_n 0, 1) := by decide +kernel
theorem dX8_checkedTools_6 : decode cX8_checkedTools 6 = .ok (.getfield 26, 3) := by decide +kernel
theorem dX8_checkedTools_9 : decode cX8_checkedTools 9 = .ok (.if_icmp .ge 29, 3) := by decide +kernel
theorem dX8_checkedTools_12 : decode cX8_checkedTools 12 = .ok (.aload_n 0, 1) := by decide +kernel
theorem dX8_checkedTools_13 : decode cX8_checkedTools 13 = .ok (.iload_n 2, 1) := by decide +kernel
theorem dX8_checkedTools_14 : decode cX8_checkedTools 14 = .ok (.invokevirtual 90, 3) := by decide +kernel
theorem dX8_checkedTools_17 : decode cX8_checkedTools 17 = .ok (.astore_n 3, 1) := by decide +kernel
theorem dX8_checkedTools_18 : decode cX8_checkedTools 18 = .ok (.aload_n 3, 1) := by decide +kernel
theorem dX8_checkedTools_19 : decode cX8_checkedTools 19 = .ok (.ifnull 13, 3) := by decide +kernel
theorem dX8_checkedTools_22 : decode cX8_checkedTools 22 = .ok (.aload_n 3, 1) := by decide +kernel
theorem dX8_checkedTools_23 : decode cX8_checkedTools 23 = .ok (.getfield 121, 3) := by decide +kernel
theorem dX8_checkedTools_26 : decode cX8_checkedTools 26 = .ok (.ifCond .eq 6, 3) := by decide +kernel
theorem dX8_checkedTools_29 : decode cX8_checkedTools 29 = .ok (.iinc 1 1, 3) := by decide +kernel
theorem dX8_checkedTools_32 : decode cX8_checkedTools 32 = .ok (.iinc 2 1, 3) := by decide +kernel
theorem dX8_checkedTools_35 : decode cX8_checkedTools 35 = .ok (.goto (-31), 3) := by decide +kernel
theorem dX8_checkedTools_38 : decode cX8_checkedTools 38 = .ok (.iload_n 1, 1) := by decide +kernel
theorem dX8_checkedTools_39 : decode cX8_checkedTools 39 = .ok (.ireturn, 1) := by decide +kernel
theorem dX8_sealedTools_0 : decode cX8_sealedTools 0 = .ok (.iconst 0, 1) := by decide +kernel
theorem dX8_sealedTools_1 : decode cX8_sealedTools 1 = .ok (.istore_n 2, 1) := by decide +kernel
theorem dX8_sealedTools_2 : decode cX8_sealedTools 2 = .ok (.iconst 0, 1) := by decide +kernel
theorem dX8_sealedTools_3 : decode cX8_sealedTools 3 = .ok (.istore_n 3, 1) := by decide +kernel
theorem dX8_sealedTools_4 : decode cX8_sealedTools 4 = .ok (.iload_n 3, 1) := by decide +kernel
theorem dX8_sealedTools_5 : decode cX8_sealedTools 5 = .ok (.aload_n 0, 1) := by decide +kernel
theorem dX8_sealedTools_6 : decode cX8_sealedTools 6 = .ok (.getfield 26, 3) := by decide +kernel
theorem dX8_sealedTools_9 : decode cX8_sealedTools 9 = .ok (.if_icmp .ge 21, 3) := by decide +kernel
theorem dX8_sealedTools_12 : decode cX8_sealedTools 12 = .ok (.aload_n 0, 1) := by decide +kernel
theorem dX8_sealedTools_13 : decode cX8_sealedTools 13 = .ok (.iload_n 3, 1) := by decide +kernel
theorem dX8_sealedTools_14 : decode cX8_sealedTools 14 = .ok (.iload_n 1, 1) := by decide +kernel
theorem dX8_sealedTools_15 : decode cX8_sealedTools 15 = .ok (.invokevirtual 176, 3) := by decide +kernel
theorem dX8_sealedTools_18 : decode cX8_sealedTools 18 = .ok (.ifCond .eq 6, 3) := by decide +kernel
theorem dX8_sealedTools_21 : decode cX8_sealedTools 21 = .ok (.iinc 2 1, 3) := by decide +kernel
theorem dX8_sealedTools_24 : decode cX8_sealedTools 24 = .ok (.iinc 3 1, 3) := by decide +kernel
theorem dX8_sealedTools_27 : decode cX8_sealedTools 27 = .ok (.goto (-23), 3) := by decide +kernel
theorem dX8_sealedTools_30 : decode cX8_sealedTools 30 = .ok (.iload_n 2, 1) := by decide +kernel
theorem dX8_sealedTools_31 : decode cX8_sealedTools 31 = .ok (.ireturn, 1) := by decide +kernel
theorem dX8_asTool_0 : decode cX8_asTool 0 = .ok (.aload_n 0, 1) := by decide +kernel
theorem dX8_asTool_1 : decode cX8_asTool 1 = .ok (.dup, 1) := by decide +kernel
theorem dX8_asTool_2 : decode cX8_asTool 2 = .ok (.getfield 63, 3) := by decide +kernel
theorem dX8_asTool_5 : decode cX8_asTool 5 = .ok (.lconst 1, 1) := by decide +kernel
theorem dX8_asTool_6 : decode cX8_asTool 6 = .ok (.ladd, 1) := by decide +kernel
theorem dX8_asTool_7 : decode cX8_asTool 7 = .ok (.putfield 63, 3) := by decide +kernel
theorem dX8_asTool_10 : decode cX8_asTool 10 = .ok (.aload_n 1, 1) := by decide +kernel
theorem dX8_asTool_11 : decode cX8_asTool 11 = .ok (.getfield 94, 3) := by decide +kernel
theorem dX8_asTool_14 : decode cX8_asTool 14 = .ok (.getfield 109, 3) := by decide +kernel
theorem dX8_asTool_17 : decode cX8_asTool 17 = .ok (.ireturn, 1) := by decide +kernel
theorem dX8_asPaired_0 : decode cX8_asPaired 0 = .ok (.aload_n 0, 1) := by decide +kernel
theorem dX8_asPaired_1 : decode cX8_asPaired 1 = .ok (.dup, 1) := by decide +kernel
theorem dX8_asPaired_2 : decode cX8_asPaired 2 = .ok (.getfield 63, 3) := by decide +kernel
theorem dX8_asPaired_5 : decode cX8_asPaired 5 = .ok (.ldc2_w 256, 3) := by decide +kernel
theorem dX8_asPaired_8 : decode cX8_asPaired 8 = .ok (.ladd, 1) := by decide +kernel
theorem dX8_asPaired_9 : decode cX8_asPaired 9 = .ok (.putfield 63, 3) := by decide +kernel
theorem dX8_asPaired_12 : decode cX8_asPaired 12 = .ok (.aload_n 0, 1) := by decide +kernel
theorem dX8_asPaired_13 : decode cX8_asPaired 13 = .ok (.aload_n 1, 1) := by decide +kernel
theorem dX8_asPaired_14 : decode cX8_asPaired 14 = .ok (.invokevirtual 200, 3) := by decide +kernel
theorem dX8_asPaired_17 : decode cX8_asPaired 17 = .ok (.aload_n 1, 1) := by decide +kernel
theorem dX8_asPaired_18 : decode cX8_asPaired 18 = .ok (.getfield 121, 3) := by decide +kernel
theorem dX8_asPaired_21 : decode cX8_asPaired 21 = .ok (.ifCond .eq 8, 3) := by decide +kernel
theorem dX8_asPaired_24 : decode cX8_asPaired 24 = .ok (.bipush 9, 2) := by decide +kernel
theorem dX8_asPaired_26 : decode cX8_asPaired 26 = .ok (.goto 4, 3) := by decide +kernel
theorem dX8_asPaired_29 : decode cX8_asPaired 29 = .ok (.iconst 0, 1) := by decide +kernel
theorem dX8_asPaired_30 : decode cX8_asPaired 30 = .ok (.iadd, 1) := by decide +kernel
theorem dX8_asPaired_31 : decode cX8_asPaired 31 = .ok (.ireturn, 1) := by decide +kernel
theorem dX8_asNamed_0 : decode cX8_asNamed 0 = .ok (.aload_n 0, 1) := by decide +kernel
theorem dX8_asNamed_1 : decode cX8_asNamed 1 = .ok (.dup, 1) := by decide +kernel
theorem dX8_asNamed_2 : decode cX8_asNamed 2 = .ok (.getfield 63, 3) := by decide +kernel
theorem dX8_asNamed_5 : decode cX8_asNamed 5 = .ok (.ldc2_w 258, 3) := by decide +kernel
theorem dX8_asNamed_8 : decode cX8_asNamed 8 = .ok (.ladd, 1) := by decide +kernel
theorem dX8_asNamed_9 : decode cX8_asNamed 9 = .ok (.putfield 63, 3) := by decide +kernel
theorem dX8_asNamed_12 : decode cX8_asNamed 12 = .ok (.aload_n 0, 1) := by decide +kernel
theorem dX8_asNamed_13 : decode cX8_asNamed 13 = .ok (.aload_n 1, 1) := by decide +kernel
theorem dX8_asNamed_14 : decode cX8_asNamed 14 = .ok (.invokevirtual 200, 3) := by decide +kernel
theorem dX8_asNamed_17 : decode cX8_asNamed 17 = .ok (.iconst 2, 1) := by decide +kernel
theorem dX8_asNamed_18 : decode cX8_asNamed 18 = .ok (.aload_n 1, 1) := by decide +kernel
theorem dX8_asNamed_19 : decode cX8_asNamed 19 = .ok (.getfield 94, 3) := by decide +kernel
theorem dX8_asNamed_22 : decode cX8_asNamed 22 = .ok (.invokevirtual 260, 3) := by decide +kernel
theorem dX8_asNamed_25 : decode cX8_asNamed 25 = .ok (.imul, 1) := by decide +kernel
theorem dX8_asNamed_26 : decode cX8_asNamed 26 = .ok (.iadd, 1) := by decide +kernel
theorem dX8_asNamed_27 : decode cX8_asNamed 27 = .ok (.ireturn, 1) := by decide +kernel
theorem dX8_asBuilt_0 : decode cX8_asBuilt 0 = .ok (.aload_n 0, 1) := by decide +kernel
theorem dX8_asBuilt_1 : decode cX8_asBuilt 1 = .ok (.dup, 1) := by decide +kernel
theorem dX8_asBuilt_2 : decode cX8_asBuilt 2 = .ok (.getfield 63, 3) := by decide +kernel
theorem dX8_asBuilt_5 : decode cX8_asBuilt 5 = .ok (.ldc2_w 263, 3) := by decide +kernel
theorem dX8_asBuilt_8 : decode cX8_asBuilt 8 = .ok (.ladd, 1) := by decide +kernel
theorem dX8_asBuilt_9 : decode cX8_asBuilt 9 = .ok (.putfield 63, 3) := by decide +kernel
theorem dX8_asBuilt_12 : decode cX8_asBuilt 12 = .ok (.aload_n 0, 1) := by decide +kernel
theorem dX8_asBuilt_13 : decode cX8_asBuilt 13 = .ok (.aload_n 1, 1) := by decide +kernel
theorem dX8_asBuilt_14 : decode cX8_asBuilt 14 = .ok (.invokevirtual 206, 3) := by decide +kernel
theorem dX8_asBuilt_17 : decode cX8_asBuilt 17 = .ok (.aload_n 0, 1) := by decide +kernel
theorem dX8_asBuilt_18 : decode cX8_asBuilt 18 = .ok (.iload_n 2, 1) := by decide +kernel
theorem dX8_asBuilt_19 : decode cX8_asBuilt 19 = .ok (.invokevirtual 170, 3) := by decide +kernel
theorem dX8_asBuilt_22 : decode cX8_asBuilt 22 = .ok (.iadd, 1) := by decide +kernel
theorem dX8_asBuilt_23 : decode cX8_asBuilt 23 = .ok (.ireturn, 1) := by decide +kernel
theorem dX8_asSealed_0 : decode cX8_asSealed 0 = .ok (.aload_n 0, 1) := by decide +kernel
theorem dX8_asSealed_1 : decode cX8_asSealed 1 = .ok (.dup, 1) := by decide +kernel
theorem dX8_asSealed_2 : decode cX8_asSealed 2 = .ok (.getfield 63, 3) := by decide +kernel
theorem dX8_asSealed_5 : decode cX8_asSealed 5 = .ok (.ldc2_w 265, 3) := by decide +kernel
theorem dX8_asSealed_8 : decode cX8_asSealed 8 = .ok (.ladd, 1) := by decide +kernel
theorem dX8_asSealed_9 : decode cX8_asSealed 9 = .ok (.putfield 63, 3) := by decide +kernel
theorem dX8_asSealed_12 : decode cX8_asSealed 12 = .ok (.aload_n 0, 1) := by decide +kernel
theorem dX8_asSealed_13 : decode cX8_asSealed 13 = .ok (.aload_n 1, 1) := by decide +kernel
theorem dX8_asSealed_14 : decode cX8_asSealed 14 = .ok (.iload_n 2, 1) := by decide +kernel
theorem dX8_asSealed_15 : decode cX8_asSealed 15 = .ok (.invokevirtual 209, 3) := by decide +kernel
theorem dX8_asSealed_18 : decode cX8_asSealed 18 = .ok (.iconst 3, 1) := by decide +kernel
theorem dX8_asSealed_19 : decode cX8_asSealed 19 = .ok (.imul, 1) := by decide +kernel
theorem dX8_asSealed_20 : decode cX8_asSealed 20 = .ok (.sipush 251, 3) := by decide +kernel
theorem dX8_asSealed_23 : decode cX8_asSealed 23 = .ok (.irem, 1) := by decide +kernel
theorem dX8_asSealed_24 : decode cX8_asSealed 24 = .ok (.ireturn, 1) := by decide +kernel
theorem dX8_asDoubted_0 : decode cX8_asDoubted 0 = .ok (.aload_n 0, 1) := by decide +kernel
theorem dX8_asDoubted_1 : decode cX8_asDoubted 1 = .ok (.dup, 1) := by decide +kernel
theorem dX8_asDoubted_2 : decode cX8_asDoubted 2 = .ok (.getfield 63, 3) := by decide +kernel
theorem dX8_asDoubted_5 : decode cX8_asDoubted 5 = .ok (.ldc2_w 267, 3) := by decide +kernel
theorem dX8_asDoubted_8 : decode cX8_asDoubted 8 = .ok (.ladd, 1) := by decide +kernel
theorem dX8_asDoubted_9 : decode cX8_asDoubted 9 = .ok (.putfield 63, 3) := by decide +kernel
theorem dX8_asDoubted_12 : decode cX8_asDoubted 12 = .ok (.aload_n 0, 1) := by decide +kernel
theorem dX8_asDoubted_13 : decode cX8_asDoubted 13 = .ok (.aload_n 1, 1) := by decide +kernel
theorem dX8_asDoubted_14 : decode cX8_asDoubted 14 = .ok (.invokevirtual 200, 3) := by decide +kernel
theorem dX8_asDoubted_17 : decode cX8_asDoubted 17 = .ok (.iconst 3, 1) := by decide +kernel
theorem dX8_asDoubted_18 : decode cX8_asDoubted 18 = .ok (.idiv, 1) := by decide +kernel
theorem dX8_asDoubted_19 : decode cX8_asDoubted 19 = .ok (.ireturn, 1) := by decide +kernel
