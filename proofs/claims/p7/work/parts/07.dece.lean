theorem dX9_again_30 : decode cX9_again 30 = .ok (.ifCond .ne 13, 3) := by decide +kernel
theorem dX9_again_33 : decode cX9_again 33 = .ok (.aload_n 0, 1) := by decide +kernel
theorem dX9_again_34 : decode cX9_again 34 = .ok (.iload_n 1, 1) := by decide +kernel
theorem dX9_again_35 : decode cX9_again 35 = .ok (.bipush 12, 2) := by decide +kernel
theorem dX9_again_37 : decode cX9_again 37 = .ok (.invokevirtual 214, 3) := by decide +kernel
theorem dX9_again_40 : decode cX9_again 40 = .ok (.goto 17, 3) := by decide +kernel
theorem dX9_again_43 : decode cX9_again 43 = .ok (.iload_n 2, 1) := by decide +kernel
theorem dX9_again_44 : decode cX9_again 44 = .ok (.iconst 4, 1) := by decide +kernel
theorem dX9_again_45 : decode cX9_again 45 = .ok (.if_icmp .ne 8, 3) := by decide +kernel
theorem dX9_again_48 : decode cX9_again 48 = .ok (.bipush (-20), 2) := by decide +kernel
theorem dX9_again_50 : decode cX9_again 50 = .ok (.goto 7, 3) := by decide +kernel
theorem dX9_again_53 : decode cX9_again 53 = .ok (.bipush (-10), 2) := by decide +kernel
theorem dX9_again_55 : decode cX9_again 55 = .ok (.iload_n 2, 1) := by decide +kernel
theorem dX9_again_56 : decode cX9_again 56 = .ok (.isub, 1) := by decide +kernel
theorem dX9_again_57 : decode cX9_again 57 = .ok (.ireturn, 1) := by decide +kernel
theorem dX9_again_58 : decode cX9_again 58 = .ok (.aload_n 0, 1) := by decide +kernel
theorem dX9_again_59 : decode cX9_again 59 = .ok (.getfield 29, 3) := by decide +kernel
theorem dX9_again_62 : decode cX9_again 62 = .ok (.iload_n 1, 1) := by decide +kernel
theorem dX9_again_63 : decode cX9_again 63 = .ok (.iaload, 1) := by decide +kernel
theorem dX9_again_64 : decode cX9_again 64 = .ok (.ifCond .ne 18, 3) := by decide +kernel
theorem dX9_again_67 : decode cX9_again 67 = .ok (.aload_n 0, 1) := by decide +kernel
theorem dX9_again_68 : decode cX9_again 68 = .ok (.aload_n 0, 1) := by decide +kernel
theorem dX9_again_69 : decode cX9_again 69 = .ok (.getfield 32, 3) := by decide +kernel
theorem dX9_again_72 : decode cX9_again 72 = .ok (.iload_n 1, 1) := by decide +kernel
theorem dX9_again_73 : decode cX9_again 73 = .ok (.iaload, 1) := by decide +kernel
theorem dX9_again_74 : decode cX9_again 74 = .ok (.bipush 12, 2) := by decide +kernel
theorem dX9_again_76 : decode cX9_again 76 = .ok (.invokevirtual 161, 3) := by decide +kernel
theorem dX9_again_79 : decode cX9_again 79 = .ok (.goto 15, 3) := by decide +kernel
theorem dX9_again_82 : decode cX9_again 82 = .ok (.aload_n 0, 1) := by decide +kernel
theorem dX9_again_83 : decode cX9_again 83 = .ok (.aload_n 0, 1) := by decide +kernel
theorem dX9_again_84 : decode cX9_again 84 = .ok (.getfield 32, 3) := by decide +kernel
theorem dX9_again_87 : decode cX9_again 87 = .ok (.iload_n 1, 1) := by decide +kernel
theorem dX9_again_88 : decode cX9_again 88 = .ok (.iaload, 1) := by decide +kernel
theorem dX9_again_89 : decode cX9_again 89 = .ok (.bipush 12, 2) := by decide +kernel
theorem dX9_again_91 : decode cX9_again 91 = .ok (.invokevirtual 164, 3) := by decide +kernel
theorem dX9_again_94 : decode cX9_again 94 = .ok (.istore_n 2, 1) := by decide +kernel
theorem dX9_again_95 : decode cX9_again 95 = .ok (.iload_n 2, 1) := by decide +kernel
theorem dX9_again_96 : decode cX9_again 96 = .ok (.bipush (-9), 2) := by decide +kernel
theorem dX9_again_98 : decode cX9_again 98 = .ok (.if_icmp .ne 13, 3) := by decide +kernel
theorem dX9_again_101 : decode cX9_again 101 = .ok (.aload_n 0, 1) := by decide +kernel
theorem dX9_again_102 : decode cX9_again 102 = .ok (.iload_n 1, 1) := by decide +kernel
theorem dX9_again_103 : decode cX9_again 103 = .ok (.bipush 12, 2) := by decide +kernel
theorem dX9_again_105 : decode cX9_again 105 = .ok (.invokevirtual 214, 3) := by decide +kernel
theorem dX9_again_108 : decode cX9_again 108 = .ok (.goto 5, 3) := by decide +kernel
theorem dX9_again_111 : decode cX9_again 111 = .ok (.bipush (-20), 2) := by decide +kernel
theorem dX9_again_113 : decode cX9_again 113 = .ok (.ireturn, 1) := by decide +kernel
theorem dX9_rebuilt_0 : decode cX9_rebuilt 0 = .ok (.aload_n 0, 1) := by decide +kernel
theorem dX9_rebuilt_1 : decode cX9_rebuilt 1 = .ok (.iload_n 1, 1) := by decide +kernel
theorem dX9_rebuilt_2 : decode cX9_rebuilt 2 = .ok (.invokevirtual 178, 3) := by decide +kernel
theorem dX9_rebuilt_5 : decode cX9_rebuilt 5 = .ok (.ifCond .eq 11, 3) := by decide +kernel
theorem dX9_rebuilt_8 : decode cX9_rebuilt 8 = .ok (.aload_n 0, 1) := by decide +kernel
theorem dX9_rebuilt_9 : decode cX9_rebuilt 9 = .ok (.iload_n 1, 1) := by decide +kernel
theorem dX9_rebuilt_10 : decode cX9_rebuilt 10 = .ok (.invokevirtual 217, 3) := by decide +kernel
theorem dX9_rebuilt_13 : decode cX9_rebuilt 13 = .ok (.goto 4, 3) := by decide +kernel
theorem dX9_rebuilt_16 : decode cX9_rebuilt 16 = .ok (.iconst (-1), 1) := by decide +kernel
theorem dX9_rebuilt_17 : decode cX9_rebuilt 17 = .ok (.ireturn, 1) := by decide +kernel
theorem dX9_stale_0 : decode cX9_stale 0 = .ok (.iconst 0, 1) := by decide +kernel
theorem dX9_stale_1 : decode cX9_stale 1 = .ok (.istore_n 1, 1) := by decide +kernel
theorem dX9_stale_2 : decode cX9_stale 2 = .ok (.iconst 0, 1) := by decide +kernel
theorem dX9_stale_3 : decode cX9_stale 3 = .ok (.istore_n 2, 1) := by decide +kernel
theorem dX9_stale_4 : decode cX9_stale 4 = .ok (.iload_n 2, 1) := by decide +kernel
theorem dX9_stale_5 : decode cX9_stale 5 = .ok (.aload_n 0, 1) := by decide +kernel
theorem dX9_stale_6 : decode cX9_stale 6 = .ok (.getfield 85, 3) := by decide +kernel
theorem dX9_stale_9 : decode cX9_stale 9 = .ok (.if_icmp .ge 62, 3) := by decide +kernel
theorem dX9_stale_12 : decode cX9_stale 12 = .ok (.aload_n 0, 1) := by decide +kernel
theorem dX9_stale_13 : decode cX9_stale 13 = .ok (.getfield 35, 3) := by decide +kernel
theorem dX9_stale_16 : decode cX9_stale 16 = .ok (.iload_n 2, 1) := by decide +kernel
theorem dX9_stale_17 : decode cX9_stale 17 = .ok (.iaload, 1) := by decide +kernel
theorem dX9_stale_18 : decode cX9_stale 18 = .ok (.bipush (-9), 2) := by decide +kernel
theorem dX9_stale_20 : decode cX9_stale 20 = .ok (.if_icmp .eq 21, 3) := by decide +kernel
theorem dX9_stale_23 : decode cX9_stale 23 = .ok (.iload_n 1, 1) := by decide +kernel
theorem dX9_stale_24 : decode cX9_stale 24 = .ok (.aload_n 0, 1) := by decide +kernel
theorem dX9_stale_25 : decode cX9_stale 25 = .ok (.getfield 35, 3) := by decide +kernel
theorem dX9_stale_28 : decode cX9_stale 28 = .ok (.iload_n 2, 1) := by decide +kernel
theorem dX9_stale_29 : decode cX9_stale 29 = .ok (.iaload, 1) := by decide +kernel
theorem dX9_stale_30 : decode cX9_stale 30 = .ok (.ishr, 1) := by decide +kernel
theorem dX9_stale_31 : decode cX9_stale 31 = .ok (.iconst 1, 1) := by decide +kernel
theorem dX9_stale_32 : decode cX9_stale 32 = .ok (.iand, 1) := by decide +kernel
theorem dX9_stale_33 : decode cX9_stale 33 = .ok (.iconst 1, 1) := by decide +kernel
theorem dX9_stale_34 : decode cX9_stale 34 = .ok (.if_icmp .ne 7, 3) := by decide +kernel
theorem dX9_stale_37 : decode cX9_stale 37 = .ok (.iconst 1, 1) := by decide +kernel
theorem dX9_stale_38 : decode cX9_stale 38 = .ok (.goto 4, 3) := by decide +kernel
theorem dX9_stale_41 : decode cX9_stale 41 = .ok (.iconst 0, 1) := by decide +kernel
theorem dX9_stale_42 : decode cX9_stale 42 = .ok (.istore_n 3, 1) := by decide +kernel
theorem dX9_stale_43 : decode cX9_stale 43 = .ok (.iload_n 1, 1) := by decide +kernel
theorem dX9_stale_44 : decode cX9_stale 44 = .ok (.iload_n 3, 1) := by decide +kernel
theorem dX9_stale_45 : decode cX9_stale 45 = .ok (.ifCond .ne 11, 3) := by decide +kernel
theorem dX9_stale_48 : decode cX9_stale 48 = .ok (.aload_n 0, 1) := by decide +kernel
theorem dX9_stale_49 : decode cX9_stale 49 = .ok (.iload_n 2, 1) := by decide +kernel
theorem dX9_stale_50 : decode cX9_stale 50 = .ok (.invokevirtual 217, 3) := by decide +kernel
theorem dX9_stale_53 : decode cX9_stale 53 = .ok (.ifCond .eq 9, 3) := by decide +kernel
theorem dX9_stale_56 : decode cX9_stale 56 = .ok (.iconst 1, 1) := by decide +kernel
theorem dX9_stale_57 : decode cX9_stale 57 = .ok (.iload_n 2, 1) := by decide +kernel
theorem dX9_stale_58 : decode cX9_stale 58 = .ok (.ishl, 1) := by decide +kernel
theorem dX9_stale_59 : decode cX9_stale 59 = .ok (.goto 4, 3) := by decide +kernel
theorem dX9_stale_62 : decode cX9_stale 62 = .ok (.iconst 0, 1) := by decide +kernel
theorem dX9_stale_63 : decode cX9_stale 63 = .ok (.ior, 1) := by decide +kernel
theorem dX9_stale_64 : decode cX9_stale 64 = .ok (.istore_n 1, 1) := by decide +kernel
theorem dX9_stale_65 : decode cX9_stale 65 = .ok (.iinc 2 1, 3) := by decide +kernel
theorem dX9_stale_68 : decode cX9_stale 68 = .ok (.goto (-64), 3) := by decide +kernel
theorem dX9_stale_71 : decode cX9_stale 71 = .ok (.iload_n 1, 1) := by decide +kernel
theorem dX9_stale_72 : decode cX9_stale 72 = .ok (.ireturn, 1) := by decide +kernel
theorem dX9_settles_0 : decode cX9_settles 0 = .ok (.aload_n 0, 1) := by decide +kernel
theorem dX9_settles_1 : decode cX9_settles 1 = .ok (.iload_n 1, 1) := by decide +kernel
theorem dX9_settles_2 : decode cX9_settles 2 = .ok (.invokevirtual 178, 3) := by decide +kernel
theorem dX9_settles_5 : decode cX9_settles 5 = .ok (.ifCond .eq 10, 3) := by decide +kernel
theorem dX9_settles_8 : decode cX9_settles 8 = .ok (.iload_n 2, 1) := by decide +kernel
theorem dX9_settles_9 : decode cX9_settles 9 = .ok (.invokestatic 81, 3) := by decide +kernel
theorem dX9_settles_12 : decode cX9_settles 12 = .ok (.ifCond .ne 5, 3) := by decide +kernel
theorem dX9_settles_15 : decode cX9_settles 15 = .ok (.iconst (-1), 1) := by decide +kernel
theorem dX9_settles_16 : decode cX9_settles 16 = .ok (.ireturn, 1) := by decide +kernel
theorem dX9_settles_17 : decode cX9_settles 17 = .ok (.aload_n 0, 1) := by decide +kernel
theorem dX9_settles_18 : decode cX9_settles 18 = .ok (.iload_n 1, 1) := by decide +kernel
theorem dX9_settles_19 : decode cX9_settles 19 = .ok (.bipush 13, 2) := by decide +kernel
theorem dX9_settles_21 : decode cX9_settles 21 = .ok (.invokevirtual 167, 3) := by decide +kernel
theorem dX9_settles_24 : decode cX9_settles 24 = .ok (.iconst 1, 1) := by decide +kernel
theorem dX9_settles_25 : decode cX9_settles 25 = .ok (.istore_n 3, 1) := by decide +kernel
theorem dX9_settles_26 : decode cX9_settles 26 = .ok (.iload_n 3, 1) := by decide +kernel
theorem dX9_settles_27 : decode cX9_settles 27 = .ok (.bipush 6, 2) := by decide +kernel
theorem dX9_settles_29 : decode cX9_settles 29 = .ok (.if_icmp .gt 45, 3) := by decide +kernel
theorem dX9_settles_32 : decode cX9_settles 32 = .ok (.aload_n 0, 1) := by decide +kernel
theorem dX9_settles_33 : decode cX9_settles 33 = .ok (.bipush 13, 2) := by decide +kernel
theorem dX9_settles_35 : decode cX9_settles 35 = .ok (.iload_n 2, 1) := by decide +kernel
theorem dX9_settles_36 : decode cX9_settles 36 = .ok (.bipush 14, 2) := by decide +kernel
theorem dX9_settles_38 : decode cX9_settles 38 = .ok (.invokevirtual 211, 3) := by decide +kernel
theorem dX9_settles_41 : decode cX9_settles 41 = .ok (.ifCond .eq 6, 3) := by decide +kernel
theorem dX9_settles_44 : decode cX9_settles 44 = .ok (.bipush (-9), 2) := by decide +kernel
theorem dX9_settles_46 : decode cX9_settles 46 = .ok (.ireturn, 1) := by decide +kernel
theorem dX9_settles_47 : decode cX9_settles 47 = .ok (.aload_n 0, 1) := by decide +kernel
theorem dX9_settles_48 : decode cX9_settles 48 = .ok (.bipush 13, 2) := by decide +kernel
theorem dX9_settles_50 : decode cX9_settles 50 = .ok (.bipush 14, 2) := by decide +kernel
theorem dX9_settles_52 : decode cX9_settles 52 = .ok (.invokevirtual 214, 3) := by decide +kernel
theorem dX9_settles_55 : decode cX9_settles 55 = .ok (.ifCond .ne 5, 3) := by decide +kernel
theorem dX9_settles_58 : decode cX9_settles 58 = .ok (.iload_n 3, 1) := by decide +kernel
theorem dX9_settles_59 : decode cX9_settles 59 = .ok (.ireturn, 1) := by decide +kernel
theorem dX9_settles_60 : decode cX9_settles 60 = .ok (.aload_n 0, 1) := by decide +kernel
theorem dX9_settles_61 : decode cX9_settles 61 = .ok (.bipush 14, 2) := by decide +kernel
theorem dX9_settles_63 : decode cX9_settles 63 = .ok (.bipush 13, 2) := by decide +kernel
theorem dX9_settles_65 : decode cX9_settles 65 = .ok (.invokevirtual 167, 3) := by decide +kernel
theorem dX9_settles_68 : decode cX9_settles 68 = .ok (.iinc 3 1, 3) := by decide +kernel
theorem dX9_settles_71 : decode cX9_settles 71 = .ok (.goto (-45), 3) := by decide +kernel
theorem dX9_settles_74 : decode cX9_settles 74 = .ok (.bipush (-9), 2) := by decide +kernel
theorem dX9_settles_76 : decode cX9_settles 76 = .ok (.ireturn, 1) := by decide +kernel
theorem dX9_goRound_0 : decode cX9_goRound 0 = .ok (.aload_n 0, 1) := by decide +kernel
theorem dX9_goRound_1 : decode cX9_goRound 1 = .ok (.iload_n 1, 1) := by decide +kernel
theorem dX9_goRound_2 : decode cX9_goRound 2 = .ok (.iload_n 3, 1) := by decide +kernel
theorem dX9_goRound_3 : decode cX9_goRound 3 = .ok (.bipush 12, 2) := by decide +kernel
theorem dX9_goRound_5 : decode cX9_goRound 5 = .ok (.invokevirtual 211, 3) := by decide +kernel
theorem dX9_goRound_8 : decode cX9_goRound 8 = .ok (.ifCond .ne 42, 3) := by decide +kernel
theorem dX9_goRound_11 : decode cX9_goRound 11 = .ok (.aload_n 0, 1) := by decide +kernel
theorem dX9_goRound_12 : decode cX9_goRound 12 = .ok (.bipush 12, 2) := by decide +kernel
theorem dX9_goRound_14 : decode cX9_goRound 14 = .ok (.iload_n 3, 1) := by decide +kernel
theorem dX9_goRound_15 : decode cX9_goRound 15 = .ok (.bipush 13, 2) := by decide +kernel
theorem dX9_goRound_17 : decode cX9_goRound 17 = .ok (.invokevirtual 211, 3) := by decide +kernel
theorem dX9_goRound_20 : decode cX9_goRound 20 = .ok (.ifCond .ne 30, 3) := by decide +kernel
theorem dX9_goRound_23 : decode cX9_goRound 23 = .ok (.aload_n 0, 1) := by decide +kernel
theorem dX9_goRound_24 : decode cX9_goRound 24 = .ok (.iload_n 2, 1) := by decide +kernel
theorem dX9_goRound_25 : decode cX9_goRound 25 = .ok (.iload_n 3, 1) := by decide +kernel
theorem dX9_goRound_26 : decode cX9_goRound 26 = .ok (.bipush 14, 2) := by decide +kernel
theorem dX9_goRound_28 : decode cX9_goRound 28 = .ok (.invokevirtual 211, 3) := by decide +kernel
theorem dX9_goRound_31 : decode cX9_goRound 31 = .ok (.ifCond .ne 19, 3) := by decide +kernel
theorem dX9_goRound_34 : decode cX9_goRound 34 = .ok (.aload_n 0, 1) := by decide +kernel
theorem dX9_goRound_35 : decode cX9_goRound 35 = .ok (.bipush 14, 2) := by decide +kernel
theorem dX9_goRound_37 : decode cX9_goRound 37 = .ok (.iload_n 3, 1) := by decide +kernel
theorem dX9_goRound_38 : decode cX9_goRound 38 = .ok (.bipush 15, 2) := by decide +kernel
theorem dX9_goRound_40 : decode cX9_goRound 40 = .ok (.invokevirtual 211, 3) := by decide +kernel
theorem dX9_goRound_43 : decode cX9_goRound 43 = .ok (.ifCond .ne 7, 3) := by decide +kernel
theorem dX9_goRound_46 : decode cX9_goRound 46 = .ok (.iconst 1, 1) := by decide +kernel
theorem dX9_goRound_47 : decode cX9_goRound 47 = .ok (.goto 4, 3) := by decide +kernel
theorem dX9_goRound_50 : decode cX9_goRound 50 = .ok (.iconst 0, 1) := by decide +kernel
theorem dX9_goRound_51 : decode cX9_goRound 51 = .ok (.istore 4, 2) := by decide +kernel
theorem dX9_goRound_53 : decode cX9_goRound 53 = .ok (.iload 4, 2) := by decide +kernel
theorem dX9_goRound_55 : decode cX9_goRound 55 = .ok (.ifCond .eq 14, 3) := by decide +kernel
theorem dX9_goRound_58 : decode cX9_goRound 58 = .ok (.aload_n 0, 1) := by decide +kernel
theorem dX9_goRound_59 : decode cX9_goRound 59 = .ok (.bipush 13, 2) := by decide +kernel
theorem dX9_goRound_61 : decode cX9_goRound 61 = .ok (.bipush 15, 2) := by decide +kernel
theorem dX9_goRound_63 : decode cX9_goRound 63 = .ok (.invokevirtual 214, 3) := by decide +kernel
theorem dX9_goRound_66 : decode cX9_goRound 66 = .ok (.goto 5, 3) := by decide +kernel
theorem dX9_goRound_69 : decode cX9_goRound 69 = .ok (.bipush (-2), 2) := by decide +kernel
theorem dX9_goRound_71 : decode cX9_goRound 71 = .ok (.ireturn, 1) := by decide +kernel
theorem dX9_round_0 : decode cX9_round 0 = .ok (.aload_n 0, 1) := by decide +kernel
theorem dX9_round_1 : decode cX9_round 1 = .ok (.iload_n 1, 1) := by decide +kernel
theorem dX9_round_2 : decode cX9_round 2 = .ok (.invokevirtual 178, 3) := by decide +kernel
theorem dX9_round_5 : decode cX9_round 5 = .ok (.ifCond .eq 28, 3) := by decide +kernel
theorem dX9_round_8 : decode cX9_round 8 = .ok (.aload_n 0, 1) := by decide +kernel
theorem dX9_round_9 : decode cX9_round 9 = .ok (.iload_n 2, 1) := by decide +kernel
theorem dX9_round_10 : decode cX9_round 10 = .ok (.invokevirtual 178, 3) := by decide +kernel
theorem dX9_round_13 : decode cX9_round 13 = .ok (.ifCond .eq 20, 3) := by decide +kernel
theorem dX9_round_16 : decode cX9_round 16 = .ok (.iload_n 3, 1) := by decide +kernel
theorem dX9_round_17 : decode cX9_round 17 = .ok (.invokestatic 81, 3) := by decide +kernel
theorem dX9_round_20 : decode cX9_round 20 = .ok (.ifCond .eq 13, 3) := by decide +kernel
theorem dX9_round_23 : decode cX9_round 23 = .ok (.aload_n 0, 1) := by decide +kernel
theorem dX9_round_24 : decode cX9_round 24 = .ok (.iload_n 1, 1) := by decide +kernel
theorem dX9_round_25 : decode cX9_round 25 = .ok (.iload_n 2, 1) := by decide +kernel
theorem dX9_round_26 : decode cX9_round 26 = .ok (.iload_n 3, 1) := by decide +kernel
theorem dX9_round_27 : decode cX9_round 27 = .ok (.invokevirtual 220, 3) := by decide +kernel
theorem dX9_round_30 : decode cX9_round 30 = .ok (.goto 4, 3) := by decide +kernel
theorem dX9_round_33 : decode cX9_round 33 = .ok (.iconst (-1), 1) := by decide +kernel
theorem dX9_round_34 : decode cX9_round 34 = .ok (.ireturn, 1) := by decide +kernel
theorem dX9_hides_0 : decode cX9_hides 0 = .ok (.aload_n 0, 1) := by decide +kernel
theorem dX9_hides_1 : decode cX9_hides 1 = .ok (.iload_n 1, 1) := by decide +kernel
theorem dX9_hides_2 : decode cX9_hides 2 = .ok (.invokevirtual 178, 3) := by decide +kernel
theorem dX9_hides_5 : decode cX9_hides 5 = .ok (.ifCond .eq 18, 3) := by decide +kernel
theorem dX9_hides_8 : decode cX9_hides 8 = .ok (.aload_n 0, 1) := by decide +kernel
theorem dX9_hides_9 : decode cX9_hides 9 = .ok (.iload_n 2, 1) := by decide +kernel
theorem dX9_hides_10 : decode cX9_hides 10 = .ok (.invokevirtual 178, 3) := by decide +kernel
theorem dX9_hides_13 : decode cX9_hides 13 = .ok (.ifCond .eq 10, 3) := by decide +kernel
theorem dX9_hides_16 : decode cX9_hides 16 = .ok (.iload_n 3, 1) := by decide +kernel
theorem dX9_hides_17 : decode cX9_hides 17 = .ok (.invokestatic 81, 3) := by decide +kernel
theorem dX9_hides_20 : decode cX9_hides 20 = .ok (.ifCond .ne 5, 3) := by decide +kernel
theorem dX9_hides_23 : decode cX9_hides 23 = .ok (.iconst (-1), 1) := by decide +kernel
theorem dX9_hides_24 : decode cX9_hides 24 = .ok (.ireturn, 1) := by decide +kernel
theorem dX9_hides_25 : decode cX9_hides 25 = .ok (.aload_n 0, 1) := by decide +kernel
theorem dX9_hides_26 : decode cX9_hides 26 = .ok (.iload_n 1, 1) := by decide +kernel
theorem dX9_hides_27 : decode cX9_hides 27 = .ok (.iload_n 2, 1) := by decide +kernel
theorem dX9_hides_28 : decode cX9_hides 28 = .ok (.iload_n 3, 1) := by decide +kernel
theorem dX9_hides_29 : decode cX9_hides 29 = .ok (.invokevirtual 220, 3) := by decide +kernel
theorem dX9_hides_32 : decode cX9_hides 32 = .ok (.istore 4, 2) := by decide +kernel
theorem dX9_hides_34 : decode cX9_hides 34 = .ok (.iload 4, 2) := by decide +kernel
theorem dX9_hides_36 : decode cX9_hides 36 = .ok (.ifCond .ge 8, 3) := by decide +kernel
theorem dX9_hides_39 : decode cX9_hides 39 = .ok (.bipush (-2), 2) := by decide +kernel
theorem dX9_hides_41 : decode cX9_hides 41 = .ok (.goto 23, 3) := by decide +kernel
theorem dX9_hides_44 : decode cX9_hides 44 = .ok (.iload 4, 2) := by decide +kernel
theorem dX9_hides_46 : decode cX9_hides 46 = .ok (.ifCond .le 17, 3) := by decide +kernel
theorem dX9_hides_49 : decode cX9_hides 49 = .ok (.aload_n 0, 1) := by decide +kernel
theorem dX9_hides_50 : decode cX9_hides 50 = .ok (.iload_n 1, 1) := by decide +kernel
theorem dX9_hides_51 : decode cX9_hides 51 = .ok (.bipush 12, 2) := by decide +kernel
theorem dX9_hides_53 : decode cX9_hides 53 = .ok (.invokevirtual 214, 3) := by decide +kernel
theorem dX9_hides_56 : decode cX9_hides 56 = .ok (.ifCond .ne 7, 3) := by decide +kernel
theorem dX9_hides_59 : decode cX9_hides 59 = .ok (.iconst 1, 1) := by decide +kernel
theorem dX9_hides_60 : decode cX9_hides 60 = .ok (.goto 4, 3) := by decide +kernel
theorem dX9_hides_63 : decode cX9_hides 63 = .ok (.iconst 0, 1) := by decide +kernel
theorem dX9_hides_64 : decode cX9_hides 64 = .ok (.ireturn, 1) := by decide +kernel
theorem dX9_check_0 : decode cX9_check 0 = .ok (.aload_n 0, 1) := by decide +kernel
theorem dX9_check_1 : decode cX9_check 1 = .ok (.iload_n 1, 1) := by decide +kernel
theorem dX9_check_2 : decode cX9_check 2 = .ok (.invokevirtual 178, 3) := by decide +kernel
theorem dX9_check_5 : decode cX9_check 5 = .ok (.ifCond .eq 12, 3) := by decide +kernel
theorem dX9_check_8 : decode cX9_check 8 = .ok (.iload_n 2, 1) := by decide +kernel
theorem dX9_check_9 : decode cX9_check 9 = .ok (.iconst 0, 1) := by decide +kernel
theorem dX9_check_10 : decode cX9_check 10 = .ok (.iconst 1, 1) := by decide +kernel
theorem dX9_check_11 : decode cX9_check 11 = .ok (.invokestatic 75, 3) := by decide +kernel
theorem dX9_check_14 : decode cX9_check 14 = .ok (.ifCond .ne 5, 3) := by decide +kernel
theorem dX9_check_17 : decode cX9_check 17 = .ok (.iconst (-1), 1) := by decide +kernel
theorem dX9_check_18 : decode cX9_check 18 = .ok (.ireturn, 1) := by decide +kernel
theorem dX9_check_19 : decode cX9_check 19 = .ok (.aload_n 0, 1) := by decide +kernel
theorem dX9_check_20 : decode cX9_check 20 = .ok (.getfield 29, 3) := by decide +kernel
theorem dX9_check_23 : decode cX9_check 23 = .ok (.iload_n 1, 1) := by decide +kernel
theorem dX9_check_24 : decode cX9_check 24 = .ok (.iaload, 1) := by decide +kernel
theorem dX9_check_25 : decode cX9_check 25 = .ok (.ifCond .eq 6, 3) := by decide +kernel
theorem dX9_check_28 : decode cX9_check 28 = .ok (.bipush (-2), 2) := by decide +kernel
theorem dX9_check_30 : decode cX9_check 30 = .ok (.ireturn, 1) := by decide +kernel
theorem dX9_check_31 : decode cX9_check 31 = .ok (.aload_n 0, 1) := by decide +kernel
theorem dX9_check_32 : decode cX9_check 32 = .ok (.getfield 38, 3) := by decide +kernel
theorem dX9_check_35 : decode cX9_check 35 = .ok (.iload_n 1, 1) := by decide +kernel
theorem dX9_check_36 : decode cX9_check 36 = .ok (.iaload, 1) := by decide +kernel
theorem dX9_check_37 : decode cX9_check 37 = .ok (.istore_n 3, 1) := by decide +kernel
theorem dX9_check_38 : decode cX9_check 38 = .ok (.aload_n 0, 1) := by decide +kernel
theorem dX9_check_39 : decode cX9_check 39 = .ok (.getfield 38, 3) := by decide +kernel
theorem dX9_check_42 : decode cX9_check 42 = .ok (.iload_n 1, 1) := by decide +kernel
theorem dX9_check_43 : decode cX9_check 43 = .ok (.iload_n 2, 1) := by decide +kernel
theorem dX9_check_44 : decode cX9_check 44 = .ok (.iastore, 1) := by decide +kernel
theorem dX9_check_45 : decode cX9_check 45 = .ok (.iload_n 3, 1) := by decide +kernel
theorem dX9_check_46 : decode cX9_check 46 = .ok (.ireturn, 1) := by decide +kernel
theorem dX9_lengthOf_0 : decode cX9_lengthOf 0 = .ok (.iconst 0, 1) := by decide +kernel
theorem dX9_lengthOf_1 : decode cX9_lengthOf 1 = .ok (.istore_n 2, 1) := by decide +kernel
theorem dX9_lengthOf_2 : decode cX9_lengthOf 2 = .ok (.iload_n 1, 1) := by decide +kernel
theorem dX9_lengthOf_3 : decode cX9_lengthOf 3 = .ok (.istore_n 3, 1) := by decide +kernel
theorem dX9_lengthOf_4 : decode cX9_lengthOf 4 = .ok (.iload_n 3, 1) := by decide +kernel
theorem dX9_lengthOf_5 : decode cX9_lengthOf 5 = .ok (.bipush (-9), 2) := by decide +kernel
theorem dX9_lengthOf_7 : decode cX9_lengthOf 7 = .ok (.if_icmp .eq 16, 3) := by decide +kernel
theorem dX9_lengthOf_10 : decode cX9_lengthOf 10 = .ok (.iinc 2 1, 3) := by decide +kernel
theorem dX9_lengthOf_13 : decode cX9_lengthOf 13 = .ok (.aload_n 0, 1) := by decide +kernel
theorem dX9_lengthOf_14 : decode cX9_lengthOf 14 = .ok (.getfield 35, 3) := by decide +kernel
theorem dX9_lengthOf_17 : decode cX9_lengthOf 17 = .ok (.iload_n 3, 1) := by decide +kernel
theorem dX9_lengthOf_18 : decode cX9_lengthOf 18 = .ok (.iaload, 1) := by decide +kernel
theorem dX9_lengthOf_19 : decode cX9_lengthOf 19 = .ok (.istore_n 3, 1) := by decide +kernel
theorem dX9_lengthOf_20 : decode cX9_lengthOf 20 = .ok (.goto (-16), 3) := by decide +kernel
theorem dX9_lengthOf_23 : decode cX9_lengthOf 23 = .ok (.iload_n 2, 1) := by decide +kernel
theorem dX9_lengthOf_24 : decode cX9_lengthOf 24 = .ok (.ireturn, 1) := by decide +kernel
theorem dX9_last_0 : decode cX9_last 0 = .ok (.iload_n 1, 1) := by decide +kernel
theorem dX9_last_1 : decode cX9_last 1 = .ok (.istore_n 2, 1) := by decide +kernel
theorem dX9_last_2 : decode cX9_last 2 = .ok (.aload_n 0, 1) := by decide +kernel
theorem dX9_last_3 : decode cX9_last 3 = .ok (.getfield 35, 3) := by decide +kernel
theorem dX9_last_6 : decode cX9_last 6 = .ok (.iload_n 2, 1) := by decide +kernel
theorem dX9_last_7 : decode cX9_last 7 = .ok (.iaload, 1) := by decide +kernel
theorem dX9_last_8 : decode cX9_last 8 = .ok (.bipush (-9), 2) := by decide +kernel
theorem dX9_last_10 : decode cX9_last 10 = .ok (.if_icmp .eq 13, 3) := by decide +kernel
theorem dX9_last_13 : decode cX9_last 13 = .ok (.aload_n 0, 1) := by decide +kernel
theorem dX9_last_14 : decode cX9_last 14 = .ok (.getfield 35, 3) := by decide +kernel
theorem dX9_last_17 : decode cX9_last 17 = .ok (.iload_n 2, 1) := by decide +kernel
theorem dX9_last_18 : decode cX9_last 18 = .ok (.iaload, 1) := by decide +kernel
theorem dX9_last_19 : decode cX9_last 19 = .ok (.istore_n 2, 1) := by decide +kernel
theorem dX9_last_20 : decode cX9_last 20 = .ok (.goto (-18), 3) := by decide +kernel
theorem dX9_last_23 : decode cX9_last 23 = .ok (.iload_n 2, 1) := by decide +kernel
theorem dX9_last_24 : decode cX9_last 24 = .ok (.ireturn, 1) := by decide +kernel
theorem dX9_chain_0 : decode cX9_chain 0 = .ok (.aload_n 0, 1) := by decide +kernel
theorem dX9_chain_1 : decode cX9_chain 1 = .ok (.iload_n 1, 1) := by decide +kernel
theorem dX9_chain_2 : decode cX9_chain 2 = .ok (.invokevirtual 178, 3) := by decide +kernel
theorem dX9_chain_5 : decode cX9_chain 5 = .ok (.ifCond .eq 18, 3) := by decide +kernel
theorem dX9_chain_8 : decode cX9_chain 8 = .ok (.iload_n 2, 1) := by decide +kernel
theorem dX9_chain_9 : decode cX9_chain 9 = .ok (.iconst (-1), 1) := by decide +kernel
theorem dX9_chain_10 : decode cX9_chain 10 = .ok (.aload_n 0, 1) := by decide +kernel
theorem dX9_chain_11 : decode cX9_chain 11 = .ok (.iload_n 1, 1) := by decide +kernel
theorem dX9_chain_12 : decode cX9_chain 12 = .ok (.invokevirtual 223, 3) := by decide +kernel
theorem dX9_chain_15 : decode cX9_chain 15 = .ok (.iconst 1, 1) := by decide +kernel
theorem dX9_chain_16 : decode cX9_chain 16 = .ok (.isub, 1) := by decide +kernel
theorem dX9_chain_17 : decode cX9_chain 17 = .ok (.invokestatic 75, 3) := by decide +kernel
theorem dX9_chain_20 : decode cX9_chain 20 = .ok (.ifCond .ne 5, 3) := by decide +kernel
theorem dX9_chain_23 : decode cX9_chain 23 = .ok (.iconst (-1), 1) := by decide +kernel
theorem dX9_chain_24 : decode cX9_chain 24 = .ok (.ireturn, 1) := by decide +kernel
theorem dX9_chain_25 : decode cX9_chain 25 = .ok (.iload_n 1, 1) := by decide +kernel
theorem dX9_chain_26 : decode cX9_chain 26 = .ok (.istore_n 3, 1) := by decide +kernel
theorem dX9_chain_27 : decode cX9_chain 27 = .ok (.iconst 0, 1) := by decide +kernel
theorem dX9_chain_28 : decode cX9_chain 28 = .ok (.istore 4, 2) := by decide +kernel
theorem dX9_chain_30 : decode cX9_chain 30 = .ok (.iload 4, 2) := by decide +kernel
theorem dX9_chain_32 : decode cX9_chain 32 = .ok (.iload_n 2, 1) := by decide +kernel
theorem dX9_chain_33 : decode cX9_chain 33 = .ok (.if_icmp .ge 16, 3) := by decide +kernel
theorem dX9_chain_36 : decode cX9_chain 36 = .ok (.aload_n 0, 1) := by decide +kernel
theorem dX9_chain_37 : decode cX9_chain 37 = .ok (.getfield 35, 3) := by decide +kernel
theorem dX9_chain_40 : decode cX9_chain 40 = .ok (.iload_n 3, 1) := by decide +kernel
theorem dX9_chain_41 : decode cX9_chain 41 = .ok (.iaload, 1) := by decide +kernel
theorem dX9_chain_42 : decode cX9_chain 42 = .ok (.istore_n 3, 1) := by decide +kernel
theorem dX9_chain_43 : decode cX9_chain 43 = .ok (.iinc 4 1, 3) := by decide +kernel
theorem dX9_chain_46 : decode cX9_chain 46 = .ok (.goto (-16), 3) := by decide +kernel
theorem dX9_chain_49 : decode cX9_chain 49 = .ok (.iload_n 2, 1) := by decide +kernel
theorem dX9_chain_50 : decode cX9_chain 50 = .ok (.ifCond .ge 11, 3) := by decide +kernel
theorem dX9_chain_53 : decode cX9_chain 53 = .ok (.aload_n 0, 1) := by decide +kernel
theorem dX9_chain_54 : decode cX9_chain 54 = .ok (.iload_n 1, 1) := by decide +kernel
theorem dX9_chain_55 : decode cX9_chain 55 = .ok (.invokevirtual 223, 3) := by decide +kernel
theorem dX9_chain_58 : decode cX9_chain 58 = .ok (.goto 4, 3) := by decide +kernel
theorem dX9_chain_61 : decode cX9_chain 61 = .ok (.iload_n 3, 1) := by decide +kernel
theorem dX9_chain_62 : decode cX9_chain 62 = .ok (.ireturn, 1) := by decide +kernel
theorem dX9_sealedOnes_0 : decode cX9_sealedOnes 0 = .ok (.aload_n 0, 1) := by decide +kernel
theorem dX9_sealedOnes_1 : decode cX9_sealedOnes 1 = .ok (.invokevirtual 226, 3) := by decide +kernel
theorem dX9_sealedOnes_4 : decode cX9_sealedOnes 4 = .ok (.istore_n 1, 1) := by decide +kernel
theorem dX9_sealedOnes_5 : decode cX9_sealedOnes 5 = .ok (.iconst 0, 1) := by decide +kernel
theorem dX9_sealedOnes_6 : decode cX9_sealedOnes 6 = .ok (.istore_n 2, 1) := by decide +kernel
theorem dX9_sealedOnes_7 : decode cX9_sealedOnes 7 = .ok (.iconst 0, 1) := by decide +kernel
theorem dX9_sealedOnes_8 : decode cX9_sealedOnes 8 = .ok (.istore_n 3, 1) := by decide +kernel
theorem dX9_sealedOnes_9 : decode cX9_sealedOnes 9 = .ok (.iload_n 3, 1) := by decide +kernel
theorem dX9_sealedOnes_10 : decode cX9_sealedOnes 10 = .ok (.aload_n 0, 1) := by decide +kernel
theorem dX9_sealedOnes_11 : decode cX9_sealedOnes 11 = .ok (.getfield 85, 3) := by decide +kernel
theorem dX9_sealedOnes_14 : decode cX9_sealedOnes 14 = .ok (.if_icmp .ge 41, 3) := by decide +kernel
theorem dX9_sealedOnes_17 : decode cX9_sealedOnes 17 = .ok (.iload_n 2, 1) := by decide +kernel
theorem dX9_sealedOnes_18 : decode cX9_sealedOnes 18 = .ok (.iload_n 1, 1) := by decide +kernel
theorem dX9_sealedOnes_19 : decode cX9_sealedOnes 19 = .ok (.iload_n 3, 1) := by decide +kernel
theorem dX9_sealedOnes_20 : decode cX9_sealedOnes 20 = .ok (.ishr, 1) := by decide +kernel
theorem dX9_sealedOnes_21 : decode cX9_sealedOnes 21 = .ok (.iconst 1, 1) := by decide +kernel
theorem dX9_sealedOnes_22 : decode cX9_sealedOnes 22 = .ok (.iand, 1) := by decide +kernel
theorem dX9_sealedOnes_23 : decode cX9_sealedOnes 23 = .ok (.ifCond .ne 23, 3) := by decide +kernel
theorem dX9_sealedOnes_26 : decode cX9_sealedOnes 26 = .ok (.aload_n 0, 1) := by decide +kernel
theorem dX9_sealedOnes_27 : decode cX9_sealedOnes 27 = .ok (.getfield 38, 3) := by decide +kernel
theorem dX9_sealedOnes_30 : decode cX9_sealedOnes 30 = .ok (.aload_n 0, 1) := by decide +kernel
theorem dX9_sealedOnes_31 : decode cX9_sealedOnes 31 = .ok (.iload_n 3, 1) := by decide +kernel
theorem dX9_sealedOnes_32 : decode cX9_sealedOnes 32 = .ok (.invokevirtual 229, 3) := by decide +kernel
theorem dX9_sealedOnes_35 : decode cX9_sealedOnes 35 = .ok (.iaload, 1) := by decide +kernel
theorem dX9_sealedOnes_36 : decode cX9_sealedOnes 36 = .ok (.iconst 1, 1) := by decide +kernel
theorem dX9_sealedOnes_37 : decode cX9_sealedOnes 37 = .ok (.if_icmp .ne 9, 3) := by decide +kernel
theorem dX9_sealedOnes_40 : decode cX9_sealedOnes 40 = .ok (.iconst 1, 1) := by decide +kernel
theorem dX9_sealedOnes_41 : decode cX9_sealedOnes 41 = .ok (.iload_n 3, 1) := by decide +kernel
theorem dX9_sealedOnes_42 : decode cX9_sealedOnes 42 = .ok (.ishl, 1) := by decide +kernel
theorem dX9_sealedOnes_43 : decode cX9_sealedOnes 43 = .ok (.goto 4, 3) := by decide +kernel
theorem dX9_sealedOnes_46 : decode cX9_sealedOnes 46 = .ok (.iconst 0, 1) := by decide +kernel
theorem dX9_sealedOnes_47 : decode cX9_sealedOnes 47 = .ok (.ior, 1) := by decide +kernel
theorem dX9_sealedOnes_48 : decode cX9_sealedOnes 48 = .ok (.istore_n 2, 1) := by decide +kernel
theorem dX9_sealedOnes_49 : decode cX9_sealedOnes 49 = .ok (.iinc 3 1, 3) := by decide +kernel
theorem dX9_sealedOnes_52 : decode cX9_sealedOnes 52 = .ok (.goto (-43), 3) := by decide +kernel
theorem dX9_sealedOnes_55 : decode cX9_sealedOnes 55 = .ok (.iload_n 2, 1) := by decide +kernel
theorem dX9_sealedOnes_56 : decode cX9_sealedOnes 56 = .ok (.ireturn, 1) := by decide +kernel
theorem dX9_sealed_0 : decode cX9_sealed 0 = .ok (.aload_n 0, 1) := by decide +kernel
theorem dX9_sealed_1 : decode cX9_sealed 1 = .ok (.iload_n 1, 1) := by decide +kernel
theorem dX9_sealed_2 : decode cX9_sealed 2 = .ok (.invokevirtual 178, 3) := by decide +kernel
theorem dX9_sealed_5 : decode cX9_sealed 5 = .ok (.ifCond .eq 14, 3) := by decide +kernel
theorem dX9_sealed_8 : decode cX9_sealed 8 = .ok (.aload_n 0, 1) := by decide +kernel
theorem dX9_sealed_9 : decode cX9_sealed 9 = .ok (.invokevirtual 232, 3) := by decide +kernel
theorem dX9_sealed_12 : decode cX9_sealed 12 = .ok (.iload_n 1, 1) := by decide +kernel
theorem dX9_sealed_13 : decode cX9_sealed 13 = .ok (.ishr, 1) := by decide +kernel
theorem dX9_sealed_14 : decode cX9_sealed 14 = .ok (.iconst 1, 1) := by decide +kernel
theorem dX9_sealed_15 : decode cX9_sealed 15 = .ok (.iand, 1) := by decide +kernel
theorem dX9_sealed_16 : decode cX9_sealed 16 = .ok (.goto 4, 3) := by decide +kernel
theorem dX9_sealed_19 : decode cX9_sealed 19 = .ok (.iconst (-1), 1) := by decide +kernel
theorem dX9_sealed_20 : decode cX9_sealed 20 = .ok (.ireturn, 1) := by decide +kernel
theorem dX9_least_0 : decode cX9_least 0 = .ok (.iload_n 1, 1) := by decide +kernel
theorem dX9_least_1 : decode cX9_least 1 = .ok (.iconst 0, 1) := by decide +kernel
theorem dX9_least_2 : decode cX9_least 2 = .ok (.iconst 1, 1) := by decide +kernel
theorem dX9_least_3 : decode cX9_least 3 = .ok (.aload_n 0, 1) := by decide +kernel
theorem dX9_least_4 : decode cX9_least 4 = .ok (.getfield 85, 3) := by decide +kernel
theorem dX9_least_7 : decode cX9_least 7 = .ok (.ishl, 1) := by decide +kernel
theorem dX9_least_8 : decode cX9_least 8 = .ok (.iconst 1, 1) := by decide +kernel
theorem dX9_least_9 : decode cX9_least 9 = .ok (.isub, 1) := by decide +kernel
theorem dX9_least_10 : decode cX9_least 10 = .ok (.invokestatic 75, 3) := by decide +kernel
theorem dX9_least_13 : decode cX9_least 13 = .ok (.ifCond .ne 5, 3) := by decide +kernel
theorem dX9_least_16 : decode cX9_least 16 = .ok (.iconst (-1), 1) := by decide +kernel
theorem dX9_least_17 : decode cX9_least 17 = .ok (.ireturn, 1) := by decide +kernel
theorem dX9_least_18 : decode cX9_least 18 = .ok (.aload_n 0, 1) := by decide +kernel
theorem dX9_least_19 : decode cX9_least 19 = .ok (.invokevirtual 226, 3) := by decide +kernel
theorem dX9_least_22 : decode cX9_least 22 = .ok (.istore_n 2, 1) := by decide +kernel
theorem dX9_least_23 : decode cX9_least 23 = .ok (.iconst 0, 1) := by decide +kernel
theorem dX9_least_24 : decode cX9_least 24 = .ok (.istore_n 3, 1) := by decide +kernel
theorem dX9_least_25 : decode cX9_least 25 = .ok (.iconst 0, 1) := by decide +kernel
theorem dX9_least_26 : decode cX9_least 26 = .ok (.istore 4, 2) := by decide +kernel
theorem dX9_least_28 : decode cX9_least 28 = .ok (.iload 4, 2) := by decide +kernel
theorem dX9_least_30 : decode cX9_least 30 = .ok (.aload_n 0, 1) := by decide +kernel
theorem dX9_least_31 : decode cX9_least 31 = .ok (.getfield 85, 3) := by decide +kernel
theorem dX9_least_34 : decode cX9_least 34 = .ok (.if_icmp .ge 78, 3) := by decide +kernel
theorem dX9_least_37 : decode cX9_least 37 = .ok (.iload_n 1, 1) := by decide +kernel
theorem dX9_least_38 : decode cX9_least 38 = .ok (.iload_n 2, 1) := by decide +kernel
theorem dX9_least_39 : decode cX9_least 39 = .ok (.iconst (-1), 1) := by decide +kernel
theorem dX9_least_40 : decode cX9_least 40 = .ok (.ixor, 1) := by decide +kernel
theorem dX9_least_41 : decode cX9_least 41 = .ok (.iand, 1) := by decide +kernel
theorem dX9_least_42 : decode cX9_least 42 = .ok (.iload 4, 2) := by decide +kernel
theorem dX9_least_44 : decode cX9_least 44 = .ok (.ishr, 1) := by decide +kernel
theorem dX9_least_45 : decode cX9_least 45 = .ok (.iconst 1, 1) := by decide +kernel
theorem dX9_least_46 : decode cX9_least 46 = .ok (.iand, 1) := by decide +kernel
theorem dX9_least_47 : decode cX9_least 47 = .ok (.iconst 1, 1) := by decide +kernel
theorem dX9_least_48 : decode cX9_least 48 = .ok (.if_icmp .ne 7, 3) := by decide +kernel
theorem dX9_least_51 : decode cX9_least 51 = .ok (.iconst 1, 1) := by decide +kernel
theorem dX9_least_52 : decode cX9_least 52 = .ok (.goto 4, 3) := by decide +kernel
theorem dX9_least_55 : decode cX9_least 55 = .ok (.iconst 0, 1) := by decide +kernel
theorem dX9_least_56 : decode cX9_least 56 = .ok (.istore 5, 2) := by decide +kernel
theorem dX9_least_58 : decode cX9_least 58 = .ok (.iload_n 3, 1) := by decide +kernel
theorem dX9_least_59 : decode cX9_least 59 = .ok (.iload 5, 2) := by decide +kernel
theorem dX9_least_61 : decode cX9_least 61 = .ok (.ifCond .eq 42, 3) := by decide +kernel
theorem dX9_least_64 : decode cX9_least 64 = .ok (.aload_n 0, 1) := by decide +kernel
theorem dX9_least_65 : decode cX9_least 65 = .ok (.getfield 29, 3) := by decide +kernel
theorem dX9_least_68 : decode cX9_least 68 = .ok (.aload_n 0, 1) := by decide +kernel
theorem dX9_least_69 : decode cX9_least 69 = .ok (.iload 4, 2) := by decide +kernel
theorem dX9_least_71 : decode cX9_least 71 = .ok (.invokevirtual 229, 3) := by decide +kernel
theorem dX9_least_74 : decode cX9_least 74 = .ok (.iaload, 1) := by decide +kernel
theorem dX9_least_75 : decode cX9_least 75 = .ok (.ifCond .ne 28, 3) := by decide +kernel
theorem dX9_least_78 : decode cX9_least 78 = .ok (.aload_n 0, 1) := by decide +kernel
theorem dX9_least_79 : decode cX9_least 79 = .ok (.getfield 38, 3) := by decide +kernel
theorem dX9_least_82 : decode cX9_least 82 = .ok (.aload_n 0, 1) := by decide +kernel
theorem dX9_least_83 : decode cX9_least 83 = .ok (.iload 4, 2) := by decide +kernel
theorem dX9_least_85 : decode cX9_least 85 = .ok (.invokevirtual 229, 3) := by decide +kernel
theorem dX9_least_88 : decode cX9_least 88 = .ok (.iaload, 1) := by decide +kernel
theorem dX9_least_89 : decode cX9_least 89 = .ok (.ifCond .ne 14, 3) := by decide +kernel
theorem dX9_least_92 : decode cX9_least 92 = .ok (.iconst 1, 1) := by decide +kernel
theorem dX9_least_93 : decode cX9_least 93 = .ok (.aload_n 0, 1) := by decide +kernel
theorem dX9_least_94 : decode cX9_least 94 = .ok (.iload 4, 2) := by decide +kernel
theorem dX9_least_96 : decode cX9_least 96 = .ok (.invokevirtual 229, 3) := by decide +kernel
theorem dX9_least_99 : decode cX9_least 99 = .ok (.ishl, 1) := by decide +kernel
theorem dX9_least_100 : decode cX9_least 100 = .ok (.goto 4, 3) := by decide +kernel
theorem dX9_least_103 : decode cX9_least 103 = .ok (.iconst 0, 1) := by decide +kernel
theorem dX9_least_104 : decode cX9_least 104 = .ok (.ior, 1) := by decide +kernel
theorem dX9_least_105 : decode cX9_least 105 = .ok (.istore_n 3, 1) := by decide +kernel
theorem dX9_least_106 : decode cX9_least 106 = .ok (.iinc 4 1, 3) := by decide +kernel
theorem dX9_least_109 : decode cX9_least 109 = .ok (.goto (-81), 3) := by decide +kernel
theorem dX9_least_112 : decode cX9_least 112 = .ok (.iload_n 3, 1) := by decide +kernel
theorem dX9_least_113 : decode cX9_least 113 = .ok (.ireturn, 1) := by decide +kernel
theorem dX9_same_0 : decode cX9_same 0 = .ok (.aload_n 0, 1) := by decide +kernel
theorem dX9_same_1 : decode cX9_same 1 = .ok (.iload_n 1, 1) := by decide +kernel
theorem dX9_same_2 : decode cX9_same 2 = .ok (.invokevirtual 178, 3) := by decide +kernel
theorem dX9_same_5 : decode cX9_same 5 = .ok (.ifCond .eq 20, 3) := by decide +kernel
theorem dX9_same_8 : decode cX9_same 8 = .ok (.aload_n 0, 1) := by decide +kernel
theorem dX9_same_9 : decode cX9_same 9 = .ok (.iload_n 2, 1) := by decide +kernel
theorem dX9_same_10 : decode cX9_same 10 = .ok (.invokevirtual 178, 3) := by decide +kernel
theorem dX9_same_13 : decode cX9_same 13 = .ok (.ifCond .eq 12, 3) := by decide +kernel
theorem dX9_same_16 : decode cX9_same 16 = .ok (.aload_n 0, 1) := by decide +kernel
theorem dX9_same_17 : decode cX9_same 17 = .ok (.iload_n 1, 1) := by decide +kernel
theorem dX9_same_18 : decode cX9_same 18 = .ok (.iload_n 2, 1) := by decide +kernel
theorem dX9_same_19 : decode cX9_same 19 = .ok (.invokevirtual 214, 3) := by decide +kernel
theorem dX9_same_22 : decode cX9_same 22 = .ok (.goto 4, 3) := by decide +kernel
theorem dX9_same_25 : decode cX9_same 25 = .ok (.iconst (-1), 1) := by decide +kernel
theorem dX9_same_26 : decode cX9_same 26 = .ok (.ireturn, 1) := by decide +kernel
theorem dX9_edition_0 : decode cX9_edition 0 = .ok (.iload_n 1, 1) := by decide +kernel
theorem dX9_edition_1 : decode cX9_edition 1 = .ok (.iconst 0, 1) := by decide +kernel
theorem dX9_edition_2 : decode cX9_edition 2 = .ok (.ldc 235, 2) := by decide +kernel
theorem dX9_edition_4 : decode cX9_edition 4 = .ok (.invokestatic 75, 3) := by decide +kernel
theorem dX9_edition_7 : decode cX9_edition 7 = .ok (.ifCond .eq 13, 3) := by decide +kernel
theorem dX9_edition_10 : decode cX9_edition 10 = .ok (.iload_n 2, 1) := by decide +kernel
theorem dX9_edition_11 : decode cX9_edition 11 = .ok (.iconst 0, 1) := by decide +kernel
theorem dX9_edition_12 : decode cX9_edition 12 = .ok (.ldc 235, 2) := by decide +kernel
theorem dX9_edition_14 : decode cX9_edition 14 = .ok (.invokestatic 75, 3) := by decide +kernel
theorem dX9_edition_17 : decode cX9_edition 17 = .ok (.ifCond .ne 5, 3) := by decide +kernel
theorem dX9_edition_20 : decode cX9_edition 20 = .ok (.iconst (-1), 1) := by decide +kernel
theorem dX9_edition_21 : decode cX9_edition 21 = .ok (.ireturn, 1) := by decide +kernel
theorem dX9_edition_22 : decode cX9_edition 22 = .ok (.aload_n 0, 1) := by decide +kernel
theorem dX9_edition_23 : decode cX9_edition 23 = .ok (.getfield 236, 3) := by decide +kernel
theorem dX9_edition_26 : decode cX9_edition 26 = .ok (.bipush 12, 2) := by decide +kernel
theorem dX9_edition_28 : decode cX9_edition 28 = .ok (.if_icmp .ne 6, 3) := by decide +kernel
theorem dX9_edition_31 : decode cX9_edition 31 = .ok (.bipush (-3), 2) := by decide +kernel
theorem dX9_edition_33 : decode cX9_edition 33 = .ok (.ireturn, 1) := by decide +kernel
theorem dX9_edition_34 : decode cX9_edition 34 = .ok (.aload_n 0, 1) := by decide +kernel
theorem dX9_edition_35 : decode cX9_edition 35 = .ok (.getfield 62, 3) := by decide +kernel
theorem dX9_edition_38 : decode cX9_edition 38 = .ok (.aload_n 0, 1) := by decide +kernel
theorem dX9_edition_39 : decode cX9_edition 39 = .ok (.getfield 236, 3) := by decide +kernel
theorem dX9_edition_42 : decode cX9_edition 42 = .ok (.iload_n 1, 1) := by decide +kernel
theorem dX9_edition_43 : decode cX9_edition 43 = .ok (.iastore, 1) := by decide +kernel
theorem dX9_edition_44 : decode cX9_edition 44 = .ok (.aload_n 0, 1) := by decide +kernel
theorem dX9_edition_45 : decode cX9_edition 45 = .ok (.getfield 65, 3) := by decide +kernel
theorem dX9_edition_48 : decode cX9_edition 48 = .ok (.aload_n 0, 1) := by decide +kernel
theorem dX9_edition_49 : decode cX9_edition 49 = .ok (.getfield 236, 3) := by decide +kernel
theorem dX9_edition_52 : decode cX9_edition 52 = .ok (.iload_n 2, 1) := by decide +kernel
theorem dX9_edition_53 : decode cX9_edition 53 = .ok (.iastore, 1) := by decide +kernel
theorem dX9_edition_54 : decode cX9_edition 54 = .ok (.aload_n 0, 1) := by decide +kernel
theorem dX9_edition_55 : decode cX9_edition 55 = .ok (.dup, 1) := by decide +kernel
theorem dX9_edition_56 : decode cX9_edition 56 = .ok (.getfield 236, 3) := by decide +kernel
theorem dX9_edition_59 : decode cX9_edition 59 = .ok (.iconst 1, 1) := by decide +kernel
theorem dX9_edition_60 : decode cX9_edition 60 = .ok (.iadd, 1) := by decide +kernel
theorem dX9_edition_61 : decode cX9_edition 61 = .ok (.putfield 236, 3) := by decide +kernel
theorem dX9_edition_64 : decode cX9_edition 64 = .ok (.aload_n 0, 1) := by decide +kernel
theorem dX9_edition_65 : decode cX9_edition 65 = .ok (.getfield 236, 3) := by decide +kernel
theorem dX9_edition_68 : decode cX9_edition 68 = .ok (.iconst 1, 1) := by decide +kernel
theorem dX9_edition_69 : decode cX9_edition 69 = .ok (.isub, 1) := by decide +kernel
theorem dX9_edition_70 : decode cX9_edition 70 = .ok (.ireturn, 1) := by decide +kernel
theorem dX9_isEdition_0 : decode cX9_isEdition 0 = .ok (.iload_n 1, 1) := by decide +kernel
theorem dX9_isEdition_1 : decode cX9_isEdition 1 = .ok (.iconst 0, 1) := by decide +kernel
theorem dX9_isEdition_2 : decode cX9_isEdition 2 = .ok (.aload_n 0, 1) := by decide +kernel
theorem dX9_isEdition_3 : decode cX9_isEdition 3 = .ok (.getfield 236, 3) := by decide +kernel
theorem dX9_isEdition_6 : decode cX9_isEdition 6 = .ok (.iconst 1, 1) := by decide +kernel
theorem dX9_isEdition_7 : decode cX9_isEdition 7 = .ok (.isub, 1) := by decide +kernel
theorem dX9_isEdition_8 : decode cX9_isEdition 8 = .ok (.invokestatic 75, 3) := by decide +kernel
theorem dX9_isEdition_11 : decode cX9_isEdition 11 = .ok (.ireturn, 1) := by decide +kernel
theorem dX9_climb_0 : decode cX9_climb 0 = .ok (.iconst 0, 1) := by decide +kernel
theorem dX9_climb_1 : decode cX9_climb 1 = .ok (.istore 4, 2) := by decide +kernel
theorem dX9_climb_3 : decode cX9_climb 3 = .ok (.iload 4, 2) := by decide +kernel
theorem dX9_climb_5 : decode cX9_climb 5 = .ok (.aload_n 0, 1) := by decide +kernel
theorem dX9_climb_6 : decode cX9_climb 6 = .ok (.getfield 236, 3) := by decide +kernel
theorem dX9_climb_9 : decode cX9_climb 9 = .ok (.if_icmp .ge 28, 3) := by decide +kernel
theorem dX9_climb_12 : decode cX9_climb 12 = .ok (.aload_n 0, 1) := by decide +kernel
theorem dX9_climb_13 : decode cX9_climb 13 = .ok (.getfield 68, 3) := by decide +kernel
theorem dX9_climb_16 : decode cX9_climb 16 = .ok (.iload 4, 2) := by decide +kernel
theorem dX9_climb_18 : decode cX9_climb 18 = .ok (.iload 4, 2) := by decide +kernel
theorem dX9_climb_20 : decode cX9_climb 20 = .ok (.iload_n 2, 1) := by decide +kernel
theorem dX9_climb_21 : decode cX9_climb 21 = .ok (.if_icmp .ne 7, 3) := by decide +kernel
theorem dX9_climb_24 : decode cX9_climb 24 = .ok (.iconst 0, 1) := by decide +kernel
theorem dX9_climb_25 : decode cX9_climb 25 = .ok (.goto 5, 3) := by decide +kernel
theorem dX9_climb_28 : decode cX9_climb 28 = .ok (.bipush (-9), 2) := by decide +kernel
theorem dX9_climb_30 : decode cX9_climb 30 = .ok (.iastore, 1) := by decide +kernel
theorem dX9_climb_31 : decode cX9_climb 31 = .ok (.iinc 4 1, 3) := by decide +kernel
theorem dX9_climb_34 : decode cX9_climb 34 = .ok (.goto (-31), 3) := by decide +kernel
theorem dX9_climb_37 : decode cX9_climb 37 = .ok (.iconst 1, 1) := by decide +kernel
theorem dX9_climb_38 : decode cX9_climb 38 = .ok (.istore 4, 2) := by decide +kernel
theorem dX9_climb_40 : decode cX9_climb 40 = .ok (.iload 4, 2) := by decide +kernel
theorem dX9_climb_42 : decode cX9_climb 42 = .ok (.aload_n 0, 1) := by decide +kernel
theorem dX9_climb_43 : decode cX9_climb 43 = .ok (.getfield 236, 3) := by decide +kernel
theorem dX9_climb_46 : decode cX9_climb 46 = .ok (.if_icmp .ge 146, 3) := by decide +kernel
theorem dX9_climb_49 : decode cX9_climb 49 = .ok (.iconst 0, 1) := by decide +kernel
theorem dX9_climb_50 : decode cX9_climb 50 = .ok (.istore 5, 2) := by decide +kernel
theorem dX9_climb_52 : decode cX9_climb 52 = .ok (.iload 5, 2) := by decide +kernel
theorem dX9_climb_54 : decode cX9_climb 54 = .ok (.aload_n 0, 1) := by decide +kernel
theorem dX9_climb_55 : decode cX9_climb 55 = .ok (.getfield 236, 3) := by decide +kernel
theorem dX9_climb_58 : decode cX9_climb 58 = .ok (.if_icmp .ge 128, 3) := by decide +kernel
theorem dX9_climb_61 : decode cX9_climb 61 = .ok (.iconst 0, 1) := by decide +kernel
theorem dX9_climb_62 : decode cX9_climb 62 = .ok (.istore 6, 2) := by decide +kernel
theorem dX9_climb_64 : decode cX9_climb 64 = .ok (.iconst 0, 1) := by decide +kernel
theorem dX9_climb_65 : decode cX9_climb 65 = .ok (.istore 7, 2) := by decide +kernel
theorem dX9_climb_67 : decode cX9_climb 67 = .ok (.iload 7, 2) := by decide +kernel
theorem dX9_climb_69 : decode cX9_climb 69 = .ok (.aload_n 0, 1) := by decide +kernel
theorem dX9_climb_70 : decode cX9_climb 70 = .ok (.getfield 236, 3) := by decide +kernel
theorem dX9_climb_73 : decode cX9_climb 73 = .ok (.if_icmp .ge 71, 3) := by decide +kernel
theorem dX9_climb_76 : decode cX9_climb 76 = .ok (.aload_n 0, 1) := by decide +kernel
theorem dX9_climb_77 : decode cX9_climb 77 = .ok (.getfield 65, 3) := by decide +kernel
theorem dX9_climb_80 : decode cX9_climb 80 = .ok (.iload 5, 2) := by decide +kernel
theorem dX9_climb_82 : decode cX9_climb 82 = .ok (.iaload, 1) := by decide +kernel
theorem dX9_climb_83 : decode cX9_climb 83 = .ok (.iload 5, 2) := by decide +kernel
theorem dX9_climb_85 : decode cX9_climb 85 = .ok (.iload_n 1, 1) := by decide +kernel
theorem dX9_climb_86 : decode cX9_climb 86 = .ok (.if_icmp .ne 7, 3) := by decide +kernel
theorem dX9_climb_89 : decode cX9_climb 89 = .ok (.iload_n 3, 1) := by decide +kernel
theorem dX9_climb_90 : decode cX9_climb 90 = .ok (.goto 4, 3) := by decide +kernel
theorem dX9_climb_93 : decode cX9_climb 93 = .ok (.iconst 0, 1) := by decide +kernel
theorem dX9_climb_94 : decode cX9_climb 94 = .ok (.ior, 1) := by decide +kernel
theorem dX9_climb_95 : decode cX9_climb 95 = .ok (.istore 8, 2) := by decide +kernel
theorem dX9_climb_97 : decode cX9_climb 97 = .ok (.iload 6, 2) := by decide +kernel
theorem dX9_climb_99 : decode cX9_climb 99 = .ok (.ifCond .ne 32, 3) := by decide +kernel
theorem dX9_climb_102 : decode cX9_climb 102 = .ok (.aload_n 0, 1) := by decide +kernel
theorem dX9_climb_103 : decode cX9_climb 103 = .ok (.getfield 68, 3) := by decide +kernel
theorem dX9_climb_106 : decode cX9_climb 106 = .ok (.iload 7, 2) := by decide +kernel
theorem dX9_climb_108 : decode cX9_climb 108 = .ok (.iaload, 1) := by decide +kernel
theorem dX9_climb_109 : decode cX9_climb 109 = .ok (.iload 4, 2) := by decide +kernel
theorem dX9_climb_111 : decode cX9_climb 111 = .ok (.iconst 1, 1) := by decide +kernel
theorem dX9_climb_112 : decode cX9_climb 112 = .ok (.isub, 1) := by decide +kernel
theorem dX9_climb_113 : decode cX9_climb 113 = .ok (.if_icmp .ne 22, 3) := by decide +kernel
theorem dX9_climb_116 : decode cX9_climb 116 = .ok (.aload_n 0, 1) := by decide +kernel
theorem dX9_climb_117 : decode cX9_climb 117 = .ok (.getfield 62, 3) := by decide +kernel
theorem dX9_climb_120 : decode cX9_climb 120 = .ok (.iload 7, 2) := by decide +kernel
theorem dX9_climb_122 : decode cX9_climb 122 = .ok (.iaload, 1) := by decide +kernel
theorem dX9_climb_123 : decode cX9_climb 123 = .ok (.iload 8, 2) := by decide +kernel
theorem dX9_climb_125 : decode cX9_climb 125 = .ok (.iconst (-1), 1) := by decide +kernel
theorem dX9_climb_126 : decode cX9_climb 126 = .ok (.ixor, 1) := by decide +kernel
theorem dX9_climb_127 : decode cX9_climb 127 = .ok (.iand, 1) := by decide +kernel
theorem dX9_climb_128 : decode cX9_climb 128 = .ok (.ifCond .ne 7, 3) := by decide +kernel
theorem dX9_climb_131 : decode cX9_climb 131 = .ok (.iconst 1, 1) := by decide +kernel
theorem dX9_climb_132 : decode cX9_climb 132 = .ok (.goto 4, 3) := by decide +kernel
theorem dX9_climb_135 : decode cX9_climb 135 = .ok (.iconst 0, 1) := by decide +kernel
theorem dX9_climb_136 : decode cX9_climb 136 = .ok (.istore 6, 2) := by decide +kernel
theorem dX9_climb_138 : decode cX9_climb 138 = .ok (.iinc 7 1, 3) := by decide +kernel
theorem dX9_climb_141 : decode cX9_climb 141 = .ok (.goto (-74), 3) := by decide +kernel
theorem dX9_climb_144 : decode cX9_climb 144 = .ok (.aload_n 0, 1) := by decide +kernel
theorem dX9_climb_145 : decode cX9_climb 145 = .ok (.getfield 68, 3) := by decide +kernel
theorem dX9_climb_148 : decode cX9_climb 148 = .ok (.iload 5, 2) := by decide +kernel
theorem dX9_climb_150 : decode cX9_climb 150 = .ok (.aload_n 0, 1) := by decide +kernel
theorem dX9_climb_151 : decode cX9_climb 151 = .ok (.getfield 68, 3) := by decide +kernel
theorem dX9_climb_154 : decode cX9_climb 154 = .ok (.iload 5, 2) := by decide +kernel
theorem dX9_climb_156 : decode cX9_climb 156 = .ok (.iaload, 1) := by decide +kernel
theorem dX9_climb_157 : decode cX9_climb 157 = .ok (.bipush (-9), 2) := by decide +kernel
theorem dX9_climb_159 : decode cX9_climb 159 = .ok (.if_icmp .ne 13, 3) := by decide +kernel
theorem dX9_climb_162 : decode cX9_climb 162 = .ok (.iload 6, 2) := by decide +kernel
theorem dX9_climb_164 : decode cX9_climb 164 = .ok (.ifCond .eq 8, 3) := by decide +kernel
theorem dX9_climb_167 : decode cX9_climb 167 = .ok (.iload 4, 2) := by decide +kernel
theorem dX9_climb_169 : decode cX9_climb 169 = .ok (.goto 10, 3) := by decide +kernel
theorem dX9_climb_172 : decode cX9_climb 172 = .ok (.aload_n 0, 1) := by decide +kernel
theorem dX9_climb_173 : decode cX9_climb 173 = .ok (.getfield 68, 3) := by decide +kernel
theorem dX9_climb_176 : decode cX9_climb 176 = .ok (.iload 5, 2) := by decide +kernel
theorem dX9_climb_178 : decode cX9_climb 178 = .ok (.iaload, 1) := by decide +kernel
theorem dX9_climb_179 : decode cX9_climb 179 = .ok (.iastore, 1) := by decide +kernel
theorem dX9_climb_180 : decode cX9_climb 180 = .ok (.iinc 5 1, 3) := by decide +kernel
theorem dX9_climb_183 : decode cX9_climb 183 = .ok (.goto (-131), 3) := by decide +kernel
theorem dX9_climb_186 : decode cX9_climb 186 = .ok (.iinc 4 1, 3) := by decide +kernel
theorem dX9_climb_189 : decode cX9_climb 189 = .ok (.goto (-149), 3) := by decide +kernel
theorem dX9_climb_192 : decode cX9_climb 192 = .ok (.aload_n 0, 1) := by decide +kernel
theorem dX9_climb_193 : decode cX9_climb 193 = .ok (.getfield 68, 3) := by decide +kernel
theorem dX9_climb_196 : decode cX9_climb 196 = .ok (.iload_n 1, 1) := by decide +kernel
theorem dX9_climb_197 : decode cX9_climb 197 = .ok (.iaload, 1) := by decide +kernel
theorem dX9_climb_198 : decode cX9_climb 198 = .ok (.ireturn, 1) := by decide +kernel
theorem dX9_ladder_0 : decode cX9_ladder 0 = .ok (.aload_n 0, 1) := by decide +kernel
theorem dX9_ladder_1 : decode cX9_ladder 1 = .ok (.iload_n 1, 1) := by decide +kernel
theorem dX9_ladder_2 : decode cX9_ladder 2 = .ok (.invokevirtual 239, 3) := by decide +kernel
theorem dX9_ladder_5 : decode cX9_ladder 5 = .ok (.ifCond .eq 16, 3) := by decide +kernel
theorem dX9_ladder_8 : decode cX9_ladder 8 = .ok (.aload_n 0, 1) := by decide +kernel
theorem dX9_ladder_9 : decode cX9_ladder 9 = .ok (.iload_n 2, 1) := by decide +kernel
theorem dX9_ladder_10 : decode cX9_ladder 10 = .ok (.invokevirtual 239, 3) := by decide +kernel
theorem dX9_ladder_13 : decode cX9_ladder 13 = .ok (.ifCond .eq 8, 3) := by decide +kernel
theorem dX9_ladder_16 : decode cX9_ladder 16 = .ok (.iload_n 3, 1) := by decide +kernel
theorem dX9_ladder_17 : decode cX9_ladder 17 = .ok (.iconst (-1), 1) := by decide +kernel
theorem dX9_ladder_18 : decode cX9_ladder 18 = .ok (.if_icmp .ge 5, 3) := by decide +kernel
theorem dX9_ladder_21 : decode cX9_ladder 21 = .ok (.iconst (-1), 1) := by decide +kernel
theorem dX9_ladder_22 : decode cX9_ladder 22 = .ok (.ireturn, 1) := by decide +kernel
theorem dX9_ladder_23 : decode cX9_ladder 23 = .ok (.aload_n 0, 1) := by decide +kernel
theorem dX9_ladder_24 : decode cX9_ladder 24 = .ok (.iload_n 1, 1) := by decide +kernel
theorem dX9_ladder_25 : decode cX9_ladder 25 = .ok (.iload_n 2, 1) := by decide +kernel
theorem dX9_ladder_26 : decode cX9_ladder 26 = .ok (.iconst 0, 1) := by decide +kernel
theorem dX9_ladder_27 : decode cX9_ladder 27 = .ok (.invokevirtual 242, 3) := by decide +kernel
theorem dX9_ladder_30 : decode cX9_ladder 30 = .ok (.istore 4, 2) := by decide +kernel
theorem dX9_ladder_32 : decode cX9_ladder 32 = .ok (.iload 4, 2) := by decide +kernel
theorem dX9_ladder_34 : decode cX9_ladder 34 = .ok (.bipush (-9), 2) := by decide +kernel
theorem dX9_ladder_36 : decode cX9_ladder 36 = .ok (.if_icmp .eq 7, 3) := by decide +kernel
theorem dX9_ladder_39 : decode cX9_ladder 39 = .ok (.iload_n 3, 1) := by decide +kernel
theorem dX9_ladder_40 : decode cX9_ladder 40 = .ok (.ifCond .ge 6, 3) := by decide +kernel
theorem dX9_ladder_43 : decode cX9_ladder 43 = .ok (.iload 4, 2) := by decide +kernel
theorem dX9_ladder_45 : decode cX9_ladder 45 = .ok (.ireturn, 1) := by decide +kernel
theorem dX9_ladder_46 : decode cX9_ladder 46 = .ok (.iload_n 3, 1) := by decide +kernel
theorem dX9_ladder_47 : decode cX9_ladder 47 = .ok (.iload 4, 2) := by decide +kernel
theorem dX9_ladder_49 : decode cX9_ladder 49 = .ok (.if_icmp .le 6, 3) := by decide +kernel
theorem dX9_ladder_52 : decode cX9_ladder 52 = .ok (.bipush (-9), 2) := by decide +kernel
theorem dX9_ladder_54 : decode cX9_ladder 54 = .ok (.ireturn, 1) := by decide +kernel
theorem dX9_ladder_55 : decode cX9_ladder 55 = .ok (.iload_n 1, 1) := by decide +kernel
theorem dX9_ladder_56 : decode cX9_ladder 56 = .ok (.istore 5, 2) := by decide +kernel
theorem dX9_ladder_58 : decode cX9_ladder 58 = .ok (.iconst 0, 1) := by decide +kernel
theorem dX9_ladder_59 : decode cX9_ladder 59 = .ok (.istore 6, 2) := by decide +kernel
theorem dX9_ladder_61 : decode cX9_ladder 61 = .ok (.iload 6, 2) := by decide +kernel
theorem dX9_ladder_63 : decode cX9_ladder 63 = .ok (.iload_n 3, 1) := by decide +kernel
theorem dX9_ladder_64 : decode cX9_ladder 64 = .ok (.if_icmp .ge 90, 3) := by decide +kernel
theorem dX9_ladder_67 : decode cX9_ladder 67 = .ok (.bipush (-9), 2) := by decide +kernel
theorem dX9_ladder_69 : decode cX9_ladder 69 = .ok (.istore 7, 2) := by decide +kernel
theorem dX9_ladder_71 : decode cX9_ladder 71 = .ok (.iconst 0, 1) := by decide +kernel
theorem dX9_ladder_72 : decode cX9_ladder 72 = .ok (.istore 8, 2) := by decide +kernel
theorem dX9_ladder_74 : decode cX9_ladder 74 = .ok (.iload 8, 2) := by decide +kernel
theorem dX9_ladder_76 : decode cX9_ladder 76 = .ok (.aload_n 0, 1) := by decide +kernel
theorem dX9_ladder_77 : decode cX9_ladder 77 = .ok (.getfield 236, 3) := by decide +kernel
theorem dX9_ladder_80 : decode cX9_ladder 80 = .ok (.if_icmp .ge 64, 3) := by decide +kernel
theorem dX9_ladder_83 : decode cX9_ladder 83 = .ok (.iload 7, 2) := by decide +kernel
theorem dX9_ladder_85 : decode cX9_ladder 85 = .ok (.bipush (-9), 2) := by decide +kernel
theorem dX9_ladder_87 : decode cX9_ladder 87 = .ok (.if_icmp .ne 47, 3) := by decide +kernel
theorem dX9_ladder_90 : decode cX9_ladder 90 = .ok (.aload_n 0, 1) := by decide +kernel
theorem dX9_ladder_91 : decode cX9_ladder 91 = .ok (.getfield 68, 3) := by decide +kernel
theorem dX9_ladder_94 : decode cX9_ladder 94 = .ok (.iload 8, 2) := by decide +kernel
theorem dX9_ladder_96 : decode cX9_ladder 96 = .ok (.iaload, 1) := by decide +kernel
theorem dX9_ladder_97 : decode cX9_ladder 97 = .ok (.aload_n 0, 1) := by decide +kernel
theorem dX9_ladder_98 : decode cX9_ladder 98 = .ok (.getfield 68, 3) := by decide +kernel
theorem dX9_ladder_101 : decode cX9_ladder 101 = .ok (.iload 5, 2) := by decide +kernel
theorem dX9_ladder_103 : decode cX9_ladder 103 = .ok (.iaload, 1) := by decide +kernel
theorem dX9_ladder_104 : decode cX9_ladder 104 = .ok (.iconst 1, 1) := by decide +kernel
theorem dX9_ladder_105 : decode cX9_ladder 105 = .ok (.isub, 1) := by decide +kernel
theorem dX9_ladder_106 : decode cX9_ladder 106 = .ok (.if_icmp .ne 28, 3) := by decide +kernel
theorem dX9_ladder_109 : decode cX9_ladder 109 = .ok (.aload_n 0, 1) := by decide +kernel
theorem dX9_ladder_110 : decode cX9_ladder 110 = .ok (.getfield 62, 3) := by decide +kernel
theorem dX9_ladder_113 : decode cX9_ladder 113 = .ok (.iload 8, 2) := by decide +kernel
theorem dX9_ladder_115 : decode cX9_ladder 115 = .ok (.iaload, 1) := by decide +kernel
theorem dX9_ladder_116 : decode cX9_ladder 116 = .ok (.aload_n 0, 1) := by decide +kernel
theorem dX9_ladder_117 : decode cX9_ladder 117 = .ok (.getfield 65, 3) := by decide +kernel
theorem dX9_ladder_120 : decode cX9_ladder 120 = .ok (.iload 5, 2) := by decide +kernel
theorem dX9_ladder_122 : decode cX9_ladder 122 = .ok (.iaload, 1) := by decide +kernel
theorem dX9_ladder_123 : decode cX9_ladder 123 = .ok (.iconst (-1), 1) := by decide +kernel
theorem dX9_ladder_124 : decode cX9_ladder 124 = .ok (.ixor, 1) := by decide +kernel
theorem dX9_ladder_125 : decode cX9_ladder 125 = .ok (.iand, 1) := by decide +kernel
theorem dX9_ladder_126 : decode cX9_ladder 126 = .ok (.ifCond .ne 8, 3) := by decide +kernel
theorem dX9_ladder_129 : decode cX9_ladder 129 = .ok (.iload 8, 2) := by decide +kernel
theorem dX9_ladder_131 : decode cX9_ladder 131 = .ok (.goto 5, 3) := by decide +kernel
theorem dX9_ladder_134 : decode cX9_ladder 134 = .ok (.iload 7, 2) := by decide +kernel
theorem dX9_ladder_136 : decode cX9_ladder 136 = .ok (.istore 7, 2) := by decide +kernel
theorem dX9_ladder_138 : decode cX9_ladder 138 = .ok (.iinc 8 1, 3) := by decide +kernel
theorem dX9_ladder_141 : decode cX9_ladder 141 = .ok (.goto (-67), 3) := by decide +kernel
theorem dX9_ladder_144 : decode cX9_ladder 144 = .ok (.iload 7, 2) := by decide +kernel
theorem dX9_ladder_146 : decode cX9_ladder 146 = .ok (.istore 5, 2) := by decide +kernel
theorem dX9_ladder_148 : decode cX9_ladder 148 = .ok (.iinc 6 1, 3) := by decide +kernel
theorem dX9_ladder_151 : decode cX9_ladder 151 = .ok (.goto (-90), 3) := by decide +kernel
theorem dX9_ladder_154 : decode cX9_ladder 154 = .ok (.iload 5, 2) := by decide +kernel
theorem dX9_ladder_156 : decode cX9_ladder 156 = .ok (.ireturn, 1) := by decide +kernel
theorem dX9_needed_0 : decode cX9_needed 0 = .ok (.aload_n 0, 1) := by decide +kernel
theorem dX9_needed_1 : decode cX9_needed 1 = .ok (.iload_n 1, 1) := by decide +kernel
theorem dX9_needed_2 : decode cX9_needed 2 = .ok (.invokevirtual 239, 3) := by decide +kernel
theorem dX9_needed_5 : decode cX9_needed 5 = .ok (.ifCond .eq 20, 3) := by decide +kernel
theorem dX9_needed_8 : decode cX9_needed 8 = .ok (.aload_n 0, 1) := by decide +kernel
theorem dX9_needed_9 : decode cX9_needed 9 = .ok (.iload_n 2, 1) := by decide +kernel
theorem dX9_needed_10 : decode cX9_needed 10 = .ok (.invokevirtual 239, 3) := by decide +kernel
theorem dX9_needed_13 : decode cX9_needed 13 = .ok (.ifCond .eq 12, 3) := by decide +kernel
theorem dX9_needed_16 : decode cX9_needed 16 = .ok (.iload_n 3, 1) := by decide +kernel
theorem dX9_needed_17 : decode cX9_needed 17 = .ok (.iconst 0, 1) := by decide +kernel
theorem dX9_needed_18 : decode cX9_needed 18 = .ok (.iconst 1, 1) := by decide +kernel
theorem dX9_needed_19 : decode cX9_needed 19 = .ok (.invokestatic 75, 3) := by decide +kernel
theorem dX9_needed_22 : decode cX9_needed 22 = .ok (.ifCond .ne 5, 3) := by decide +kernel
theorem dX9_needed_25 : decode cX9_needed 25 = .ok (.iconst (-1), 1) := by decide +kernel
theorem dX9_needed_26 : decode cX9_needed 26 = .ok (.ireturn, 1) := by decide +kernel
theorem dX9_needed_27 : decode cX9_needed 27 = .ok (.bipush (-9), 2) := by decide +kernel
theorem dX9_needed_29 : decode cX9_needed 29 = .ok (.istore 4, 2) := by decide +kernel
theorem dX9_needed_31 : decode cX9_needed 31 = .ok (.aload_n 0, 1) := by decide +kernel
theorem dX9_needed_32 : decode cX9_needed 32 = .ok (.iload_n 1, 1) := by decide +kernel
theorem dX9_needed_33 : decode cX9_needed 33 = .ok (.iload_n 2, 1) := by decide +kernel
theorem dX9_needed_34 : decode cX9_needed 34 = .ok (.iconst 0, 1) := by decide +kernel
theorem dX9_needed_35 : decode cX9_needed 35 = .ok (.invokevirtual 242, 3) := by decide +kernel
theorem dX9_needed_38 : decode cX9_needed 38 = .ok (.istore 5, 2) := by decide +kernel
theorem dX9_needed_40 : decode cX9_needed 40 = .ok (.iconst 0, 1) := by decide +kernel
theorem dX9_needed_41 : decode cX9_needed 41 = .ok (.istore 6, 2) := by decide +kernel
theorem dX9_needed_43 : decode cX9_needed 43 = .ok (.iload 6, 2) := by decide +kernel
theorem dX9_needed_45 : decode cX9_needed 45 = .ok (.bipush 16, 2) := by decide +kernel
theorem dX9_needed_47 : decode cX9_needed 47 = .ok (.if_icmp .ge 77, 3) := by decide +kernel
theorem dX9_needed_50 : decode cX9_needed 50 = .ok (.aload_n 0, 1) := by decide +kernel
theorem dX9_needed_51 : decode cX9_needed 51 = .ok (.iload_n 1, 1) := by decide +kernel
theorem dX9_needed_52 : decode cX9_needed 52 = .ok (.iload_n 2, 1) := by decide +kernel
theorem dX9_needed_53 : decode cX9_needed 53 = .ok (.iconst 1, 1) := by decide +kernel
theorem dX9_needed_54 : decode cX9_needed 54 = .ok (.iload 6, 2) := by decide +kernel
theorem dX9_needed_56 : decode cX9_needed 56 = .ok (.ishl, 1) := by decide +kernel
theorem dX9_needed_57 : decode cX9_needed 57 = .ok (.invokevirtual 242, 3) := by decide +kernel
theorem dX9_needed_60 : decode cX9_needed 60 = .ok (.istore 7, 2) := by decide +kernel
theorem dX9_needed_62 : decode cX9_needed 62 = .ok (.iload 7, 2) := by decide +kernel
theorem dX9_needed_64 : decode cX9_needed 64 = .ok (.bipush (-9), 2) := by decide +kernel
theorem dX9_needed_66 : decode cX9_needed 66 = .ok (.if_icmp .eq 21, 3) := by decide +kernel
theorem dX9_needed_69 : decode cX9_needed 69 = .ok (.iload 5, 2) := by decide +kernel
theorem dX9_needed_71 : decode cX9_needed 71 = .ok (.bipush (-9), 2) := by decide +kernel
theorem dX9_needed_73 : decode cX9_needed 73 = .ok (.if_icmp .eq 10, 3) := by decide +kernel
theorem dX9_needed_76 : decode cX9_needed 76 = .ok (.iload 7, 2) := by decide +kernel
theorem dX9_needed_78 : decode cX9_needed 78 = .ok (.iload 5, 2) := by decide +kernel
theorem dX9_needed_80 : decode cX9_needed 80 = .ok (.if_icmp .ge 7, 3) := by decide +kernel
theorem dX9_needed_83 : decode cX9_needed 83 = .ok (.iconst 1, 1) := by decide +kernel
theorem dX9_needed_84 : decode cX9_needed 84 = .ok (.goto 4, 3) := by decide +kernel
theorem dX9_needed_87 : decode cX9_needed 87 = .ok (.iconst 0, 1) := by decide +kernel
theorem dX9_needed_88 : decode cX9_needed 88 = .ok (.istore 8, 2) := by decide +kernel
theorem dX9_needed_90 : decode cX9_needed 90 = .ok (.iload 8, 2) := by decide +kernel
theorem dX9_needed_92 : decode cX9_needed 92 = .ok (.ifCond .eq 8, 3) := by decide +kernel
theorem dX9_needed_95 : decode cX9_needed 95 = .ok (.iload 6, 2) := by decide +kernel
theorem dX9_needed_97 : decode cX9_needed 97 = .ok (.goto 5, 3) := by decide +kernel
theorem dX9_needed_100 : decode cX9_needed 100 = .ok (.iload 4, 2) := by decide +kernel
theorem dX9_needed_102 : decode cX9_needed 102 = .ok (.istore 4, 2) := by decide +kernel
theorem dX9_needed_104 : decode cX9_needed 104 = .ok (.iload 8, 2) := by decide +kernel
theorem dX9_needed_106 : decode cX9_needed 106 = .ok (.ifCond .eq 8, 3) := by decide +kernel
theorem dX9_needed_109 : decode cX9_needed 109 = .ok (.iload 7, 2) := by decide +kernel
theorem dX9_needed_111 : decode cX9_needed 111 = .ok (.goto 5, 3) := by decide +kernel
theorem dX9_needed_114 : decode cX9_needed 114 = .ok (.iload 5, 2) := by decide +kernel
theorem dX9_needed_116 : decode cX9_needed 116 = .ok (.istore 5, 2) := by decide +kernel
theorem dX9_needed_118 : decode cX9_needed 118 = .ok (.iinc 6 1, 3) := by decide +kernel
theorem dX9_needed_121 : decode cX9_needed 121 = .ok (.goto (-78), 3) := by decide +kernel
theorem dX9_needed_124 : decode cX9_needed 124 = .ok (.iload 4, 2) := by decide +kernel
theorem dX9_needed_126 : decode cX9_needed 126 = .ok (.bipush (-9), 2) := by decide +kernel
theorem dX9_needed_128 : decode cX9_needed 128 = .ok (.if_icmp .eq 7, 3) := by decide +kernel
theorem dX9_needed_131 : decode cX9_needed 131 = .ok (.iload_n 3, 1) := by decide +kernel
theorem dX9_needed_132 : decode cX9_needed 132 = .ok (.ifCond .ne 8, 3) := by decide +kernel
theorem dX9_needed_135 : decode cX9_needed 135 = .ok (.iload 4, 2) := by decide +kernel
theorem dX9_needed_137 : decode cX9_needed 137 = .ok (.goto 5, 3) := by decide +kernel
theorem dX9_needed_140 : decode cX9_needed 140 = .ok (.iload 5, 2) := by decide +kernel
theorem dX9_needed_142 : decode cX9_needed 142 = .ok (.ireturn, 1) := by decide +kernel
theorem dX9_weight_0 : decode cX9_weight 0 = .ok (.iload_n 1, 1) := by decide +kernel
theorem dX9_weight_1 : decode cX9_weight 1 = .ok (.iconst 0, 1) := by decide +kernel
theorem dX9_weight_2 : decode cX9_weight 2 = .ok (.iconst 5, 1) := by decide +kernel
theorem dX9_weight_3 : decode cX9_weight 3 = .ok (.invokestatic 75, 3) := by decide +kernel
theorem dX9_weight_6 : decode cX9_weight 6 = .ok (.ifCond .eq 11, 3) := by decide +kernel
theorem dX9_weight_9 : decode cX9_weight 9 = .ok (.aload_n 0, 1) := by decide +kernel
theorem dX9_weight_10 : decode cX9_weight 10 = .ok (.iload_n 2, 1) := by decide +kernel
theorem dX9_weight_11 : decode cX9_weight 11 = .ok (.invokevirtual 178, 3) := by decide +kernel
theorem dX9_weight_14 : decode cX9_weight 14 = .ok (.ifCond .ne 5, 3) := by decide +kernel
theorem dX9_weight_17 : decode cX9_weight 17 = .ok (.iconst (-1), 1) := by decide +kernel
theorem dX9_weight_18 : decode cX9_weight 18 = .ok (.ireturn, 1) := by decide +kernel
theorem dX9_weight_19 : decode cX9_weight 19 = .ok (.iconst 0, 1) := by decide +kernel
theorem dX9_weight_20 : decode cX9_weight 20 = .ok (.istore_n 3, 1) := by decide +kernel
theorem dX9_weight_21 : decode cX9_weight 21 = .ok (.iconst 0, 1) := by decide +kernel
theorem dX9_weight_22 : decode cX9_weight 22 = .ok (.istore 4, 2) := by decide +kernel
theorem dX9_weight_24 : decode cX9_weight 24 = .ok (.iload 4, 2) := by decide +kernel
theorem dX9_weight_26 : decode cX9_weight 26 = .ok (.aload_n 0, 1) := by decide +kernel
theorem dX9_weight_27 : decode cX9_weight 27 = .ok (.getfield 26, 3) := by decide +kernel
theorem dX9_weight_30 : decode cX9_weight 30 = .ok (.iload_n 2, 1) := by decide +kernel
theorem dX9_weight_31 : decode cX9_weight 31 = .ok (.iaload, 1) := by decide +kernel
theorem dX9_weight_32 : decode cX9_weight 32 = .ok (.if_icmp .ge 35, 3) := by decide +kernel
theorem dX9_weight_35 : decode cX9_weight 35 = .ok (.iload_n 3, 1) := by decide +kernel
theorem dX9_weight_36 : decode cX9_weight 36 = .ok (.aload_n 0, 1) := by decide +kernel
theorem dX9_weight_37 : decode cX9_weight 37 = .ok (.getfield 20, 3) := by decide +kernel
theorem dX9_weight_40 : decode cX9_weight 40 = .ok (.sipush 256, 3) := by decide +kernel
theorem dX9_weight_43 : decode cX9_weight 43 = .ok (.iload_n 2, 1) := by decide +kernel
theorem dX9_weight_44 : decode cX9_weight 44 = .ok (.imul, 1) := by decide +kernel
theorem dX9_weight_45 : decode cX9_weight 45 = .ok (.iload 4, 2) := by decide +kernel
theorem dX9_weight_47 : decode cX9_weight 47 = .ok (.iadd, 1) := by decide +kernel
theorem dX9_weight_48 : decode cX9_weight 48 = .ok (.iaload, 1) := by decide +kernel
theorem dX9_weight_49 : decode cX9_weight 49 = .ok (.bipush 15, 2) := by decide +kernel
theorem dX9_weight_51 : decode cX9_weight 51 = .ok (.if_icmp .le 7, 3) := by decide +kernel
theorem dX9_weight_54 : decode cX9_weight 54 = .ok (.iconst 1, 1) := by decide +kernel
theorem dX9_weight_55 : decode cX9_weight 55 = .ok (.goto 4, 3) := by decide +kernel
theorem dX9_weight_58 : decode cX9_weight 58 = .ok (.iconst 0, 1) := by decide +kernel
theorem dX9_weight_59 : decode cX9_weight 59 = .ok (.iadd, 1) := by decide +kernel
theorem dX9_weight_60 : decode cX9_weight 60 = .ok (.istore_n 3, 1) := by decide +kernel
theorem dX9_weight_61 : decode cX9_weight 61 = .ok (.iinc 4 1, 3) := by decide +kernel
theorem dX9_weight_64 : decode cX9_weight 64 = .ok (.goto (-40), 3) := by decide +kernel
theorem dX9_weight_67 : decode cX9_weight 67 = .ok (.aload_n 0, 1) := by decide +kernel
theorem dX9_weight_68 : decode cX9_weight 68 = .ok (.getfield 26, 3) := by decide +kernel
theorem dX9_weight_71 : decode cX9_weight 71 = .ok (.iload_n 2, 1) := by decide +kernel
theorem dX9_weight_72 : decode cX9_weight 72 = .ok (.iaload, 1) := by decide +kernel
theorem dX9_weight_73 : decode cX9_weight 73 = .ok (.iconst 2, 1) := by decide +kernel
theorem dX9_weight_74 : decode cX9_weight 74 = .ok (.iload_n 3, 1) := by decide +kernel
theorem dX9_weight_75 : decode cX9_weight 75 = .ok (.imul, 1) := by decide +kernel
theorem dX9_weight_76 : decode cX9_weight 76 = .ok (.iadd, 1) := by decide +kernel
theorem dX9_weight_77 : decode cX9_weight 77 = .ok (.istore 4, 2) := by decide +kernel
theorem dX9_weight_79 : decode cX9_weight 79 = .ok (.iload 4, 2) := by decide +kernel
theorem dX9_weight_81 : decode cX9_weight 81 = .ok (.aload_n 0, 1) := by decide +kernel
theorem dX9_weight_82 : decode cX9_weight 82 = .ok (.iload_n 2, 1) := by decide +kernel
theorem dX9_weight_83 : decode cX9_weight 83 = .ok (.invokevirtual 223, 3) := by decide +kernel
theorem dX9_weight_86 : decode cX9_weight 86 = .ok (.iadd, 1) := by decide +kernel
theorem dX9_weight_87 : decode cX9_weight 87 = .ok (.istore 5, 2) := by decide +kernel
theorem dX9_weight_89 : decode cX9_weight 89 = .ok (.aload_n 0, 1) := by decide +kernel
theorem dX9_weight_90 : decode cX9_weight 90 = .ok (.dup, 1) := by decide +kernel
theorem dX9_weight_91 : decode cX9_weight 91 = .ok (.getfield 245, 3) := by decide +kernel
theorem dX9_weight_94 : decode cX9_weight 94 = .ok (.iload_n 1, 1) := by decide +kernel
theorem dX9_weight_95 : decode cX9_weight 95 = .ok (.ifCond .ne 7, 3) := by decide +kernel
theorem dX9_weight_98 : decode cX9_weight 98 = .ok (.lconst 1, 1) := by decide +kernel
theorem dX9_weight_99 : decode cX9_weight 99 = .ok (.goto 50, 3) := by decide +kernel
theorem dX9_weight_102 : decode cX9_weight 102 = .ok (.iload_n 1, 1) := by decide +kernel
theorem dX9_weight_103 : decode cX9_weight 103 = .ok (.iconst 1, 1) := by decide +kernel
theorem dX9_weight_104 : decode cX9_weight 104 = .ok (.if_icmp .ne 9, 3) := by decide +kernel
theorem dX9_weight_107 : decode cX9_weight 107 = .ok (.ldc2_w 249, 3) := by decide +kernel
theorem dX9_weight_110 : decode cX9_weight 110 = .ok (.goto 39, 3) := by decide +kernel
theorem dX9_weight_113 : decode cX9_weight 113 = .ok (.iload_n 1, 1) := by decide +kernel
theorem dX9_weight_114 : decode cX9_weight 114 = .ok (.iconst 2, 1) := by decide +kernel
theorem dX9_weight_115 : decode cX9_weight 115 = .ok (.if_icmp .ne 9, 3) := by decide +kernel
theorem dX9_weight_118 : decode cX9_weight 118 = .ok (.ldc2_w 251, 3) := by decide +kernel
theorem dX9_weight_121 : decode cX9_weight 121 = .ok (.goto 28, 3) := by decide +kernel
theorem dX9_weight_124 : decode cX9_weight 124 = .ok (.iload_n 1, 1) := by decide +kernel
theorem dX9_weight_125 : decode cX9_weight 125 = .ok (.iconst 3, 1) := by decide +kernel
theorem dX9_weight_126 : decode cX9_weight 126 = .ok (.if_icmp .ne 9, 3) := by decide +kernel
theorem dX9_weight_129 : decode cX9_weight 129 = .ok (.ldc2_w 253, 3) := by decide +kernel
theorem dX9_weight_132 : decode cX9_weight 132 = .ok (.goto 17, 3) := by decide +kernel
theorem dX9_weight_135 : decode cX9_weight 135 = .ok (.iload_n 1, 1) := by decide +kernel
theorem dX9_weight_136 : decode cX9_weight 136 = .ok (.iconst 4, 1) := by decide +kernel
theorem dX9_weight_137 : decode cX9_weight 137 = .ok (.if_icmp .ne 9, 3) := by decide +kernel
theorem dX9_weight_140 : decode cX9_weight 140 = .ok (.ldc2_w 255, 3) := by decide +kernel
theorem dX9_weight_143 : decode cX9_weight 143 = .ok (.goto 6, 3) := by decide +kernel
theorem dX9_weight_146 : decode cX9_weight 146 = .ok (.ldc2_w 257, 3) := by decide +kernel
theorem dX9_weight_149 : decode cX9_weight 149 = .ok (.ladd, 1) := by decide +kernel
theorem dX9_weight_150 : decode cX9_weight 150 = .ok (.putfield 245, 3) := by decide +kernel
theorem dX9_weight_153 : decode cX9_weight 153 = .ok (.iload_n 1, 1) := by decide +kernel
theorem dX9_weight_154 : decode cX9_weight 154 = .ok (.ifCond .ne 12, 3) := by decide +kernel
theorem dX9_weight_157 : decode cX9_weight 157 = .ok (.aload_n 0, 1) := by decide +kernel
theorem dX9_weight_158 : decode cX9_weight 158 = .ok (.getfield 26, 3) := by decide +kernel
theorem dX9_weight_161 : decode cX9_weight 161 = .ok (.iload_n 2, 1) := by decide +kernel
theorem dX9_weight_162 : decode cX9_weight 162 = .ok (.iaload, 1) := by decide +kernel
theorem dX9_weight_163 : decode cX9_weight 163 = .ok (.goto 71, 3) := by decide +kernel
theorem dX9_weight_166 : decode cX9_weight 166 = .ok (.iload_n 1, 1) := by decide +kernel
theorem dX9_weight_167 : decode cX9_weight 167 = .ok (.iconst 1, 1) := by decide +kernel
theorem dX9_weight_168 : decode cX9_weight 168 = .ok (.if_icmp .ne 22, 3) := by decide +kernel
theorem dX9_weight_171 : decode cX9_weight 171 = .ok (.aload_n 0, 1) := by decide +kernel
theorem dX9_weight_172 : decode cX9_weight 172 = .ok (.getfield 26, 3) := by decide +kernel
theorem dX9_weight_175 : decode cX9_weight 175 = .ok (.iload_n 2, 1) := by decide +kernel
theorem dX9_weight_176 : decode cX9_weight 176 = .ok (.iaload, 1) := by decide +kernel
theorem dX9_weight_177 : decode cX9_weight 177 = .ok (.bipush 9, 2) := by decide +kernel
theorem dX9_weight_179 : decode cX9_weight 179 = .ok (.aload_n 0, 1) := by decide +kernel
theorem dX9_weight_180 : decode cX9_weight 180 = .ok (.getfield 38, 3) := by decide +kernel
theorem dX9_weight_183 : decode cX9_weight 183 = .ok (.iload_n 2, 1) := by decide +kernel
theorem dX9_weight_184 : decode cX9_weight 184 = .ok (.iaload, 1) := by decide +kernel
theorem dX9_weight_185 : decode cX9_weight 185 = .ok (.imul, 1) := by decide +kernel
theorem dX9_weight_186 : decode cX9_weight 186 = .ok (.iadd, 1) := by decide +kernel
theorem dX9_weight_187 : decode cX9_weight 187 = .ok (.goto 47, 3) := by decide +kernel
theorem dX9_weight_190 : decode cX9_weight 190 = .ok (.iload_n 1, 1) := by decide +kernel
theorem dX9_weight_191 : decode cX9_weight 191 = .ok (.iconst 2, 1) := by decide +kernel
theorem dX9_weight_192 : decode cX9_weight 192 = .ok (.if_icmp .ne 8, 3) := by decide +kernel
theorem dX9_weight_195 : decode cX9_weight 195 = .ok (.iload 4, 2) := by decide +kernel
theorem dX9_weight_197 : decode cX9_weight 197 = .ok (.goto 37, 3) := by decide +kernel
theorem dX9_weight_200 : decode cX9_weight 200 = .ok (.iload_n 1, 1) := by decide +kernel
theorem dX9_weight_201 : decode cX9_weight 201 = .ok (.iconst 3, 1) := by decide +kernel
theorem dX9_weight_202 : decode cX9_weight 202 = .ok (.if_icmp .ne 8, 3) := by decide +kernel
theorem dX9_weight_205 : decode cX9_weight 205 = .ok (.iload 5, 2) := by decide +kernel
theorem dX9_weight_207 : decode cX9_weight 207 = .ok (.goto 27, 3) := by decide +kernel
theorem dX9_weight_210 : decode cX9_weight 210 = .ok (.iload_n 1, 1) := by decide +kernel
theorem dX9_weight_211 : decode cX9_weight 211 = .ok (.iconst 4, 1) := by decide +kernel
theorem dX9_weight_212 : decode cX9_weight 212 = .ok (.if_icmp .ne 14, 3) := by decide +kernel
theorem dX9_weight_215 : decode cX9_weight 215 = .ok (.iconst 3, 1) := by decide +kernel
theorem dX9_weight_216 : decode cX9_weight 216 = .ok (.iload 5, 2) := by decide +kernel
theorem dX9_weight_218 : decode cX9_weight 218 = .ok (.imul, 1) := by decide +kernel
theorem dX9_weight_219 : decode cX9_weight 219 = .ok (.sipush 251, 3) := by decide +kernel
theorem dX9_weight_222 : decode cX9_weight 222 = .ok (.irem, 1) := by decide +kernel
theorem dX9_weight_223 : decode cX9_weight 223 = .ok (.goto 11, 3) := by decide +kernel
theorem dX9_weight_226 : decode cX9_weight 226 = .ok (.aload_n 0, 1) := by decide +kernel
theorem dX9_weight_227 : decode cX9_weight 227 = .ok (.getfield 26, 3) := by decide +kernel
theorem dX9_weight_230 : decode cX9_weight 230 = .ok (.iload_n 2, 1) := by decide +kernel
theorem dX9_weight_231 : decode cX9_weight 231 = .ok (.iaload, 1) := by decide +kernel
theorem dX9_weight_232 : decode cX9_weight 232 = .ok (.iconst 3, 1) := by decide +kernel
theorem dX9_weight_233 : decode cX9_weight 233 = .ok (.idiv, 1) := by decide +kernel
theorem dX9_weight_234 : decode cX9_weight 234 = .ok (.ireturn, 1) := by decide +kernel
theorem dX9_count_0 : decode cX9_count 0 = .ok (.iconst 0, 1) := by decide +kernel
theorem dX9_count_1 : decode cX9_count 1 = .ok (.istore_n 2, 1) := by decide +kernel
theorem dX9_count_2 : decode cX9_count 2 = .ok (.iload_n 1, 1) := by decide +kernel
theorem dX9_count_3 : decode cX9_count 3 = .ok (.iconst 4, 1) := by decide +kernel
theorem dX9_count_4 : decode cX9_count 4 = .ok (.if_icmp .ne 10, 3) := by decide +kernel
theorem dX9_count_7 : decode cX9_count 7 = .ok (.aload_n 0, 1) := by decide +kernel
theorem dX9_count_8 : decode cX9_count 8 = .ok (.invokevirtual 232, 3) := by decide +kernel
theorem dX9_count_11 : decode cX9_count 11 = .ok (.goto 4, 3) := by decide +kernel
theorem dX9_count_14 : decode cX9_count 14 = .ok (.iconst 0, 1) := by decide +kernel
theorem dX9_count_15 : decode cX9_count 15 = .ok (.istore_n 3, 1) := by decide +kernel
theorem dX9_count_16 : decode cX9_count 16 = .ok (.iload_n 1, 1) := by decide +kernel
theorem dX9_count_17 : decode cX9_count 17 = .ok (.tableswitch 109 0 4 #[35, 40, 45, 50, 80], 35) := by decide +kernel
theorem dX9_count_52 : decode cX9_count 52 = .ok (.aload_n 0, 1) := by decide +kernel
theorem dX9_count_53 : decode cX9_count 53 = .ok (.getfield 85, 3) := by decide +kernel
theorem dX9_count_56 : decode cX9_count 56 = .ok (.ireturn, 1) := by decide +kernel
theorem dX9_count_57 : decode cX9_count 57 = .ok (.aload_n 0, 1) := by decide +kernel
theorem dX9_count_58 : decode cX9_count 58 = .ok (.getfield 236, 3) := by decide +kernel
theorem dX9_count_61 : decode cX9_count 61 = .ok (.ireturn, 1) := by decide +kernel
theorem dX9_count_62 : decode cX9_count 62 = .ok (.aload_n 0, 1) := by decide +kernel
theorem dX9_count_63 : decode cX9_count 63 = .ok (.getfield 71, 3) := by decide +kernel
theorem dX9_count_66 : decode cX9_count 66 = .ok (.ireturn, 1) := by decide +kernel
theorem dX9_count_67 : decode cX9_count 67 = .ok (.iconst 0, 1) := by decide +kernel
theorem dX9_count_68 : decode cX9_count 68 = .ok (.istore 4, 2) := by decide +kernel
theorem dX9_count_70 : decode cX9_count 70 = .ok (.iload 4, 2) := by decide +kernel
theorem dX9_count_72 : decode cX9_count 72 = .ok (.aload_n 0, 1) := by decide +kernel
theorem dX9_count_73 : decode cX9_count 73 = .ok (.getfield 85, 3) := by decide +kernel
theorem dX9_count_76 : decode cX9_count 76 = .ok (.if_icmp .ge 19, 3) := by decide +kernel
theorem dX9_count_79 : decode cX9_count 79 = .ok (.iload_n 2, 1) := by decide +kernel
theorem dX9_count_80 : decode cX9_count 80 = .ok (.aload_n 0, 1) := by decide +kernel
theorem dX9_count_81 : decode cX9_count 81 = .ok (.getfield 38, 3) := by decide +kernel
theorem dX9_count_84 : decode cX9_count 84 = .ok (.iload 4, 2) := by decide +kernel
theorem dX9_count_86 : decode cX9_count 86 = .ok (.iaload, 1) := by decide +kernel
theorem dX9_count_87 : decode cX9_count 87 = .ok (.iadd, 1) := by decide +kernel
theorem dX9_count_88 : decode cX9_count 88 = .ok (.istore_n 2, 1) := by decide +kernel
theorem dX9_count_89 : decode cX9_count 89 = .ok (.iinc 4 1, 3) := by decide +kernel
theorem dX9_count_92 : decode cX9_count 92 = .ok (.goto (-22), 3) := by decide +kernel
theorem dX9_count_95 : decode cX9_count 95 = .ok (.iload_n 2, 1) := by decide +kernel
theorem dX9_count_96 : decode cX9_count 96 = .ok (.ireturn, 1) := by decide +kernel
theorem dX9_count_97 : decode cX9_count 97 = .ok (.iconst 0, 1) := by decide +kernel
theorem dX9_count_98 : decode cX9_count 98 = .ok (.istore 4, 2) := by decide +kernel
theorem dX9_count_100 : decode cX9_count 100 = .ok (.iload 4, 2) := by decide +kernel
theorem dX9_count_102 : decode cX9_count 102 = .ok (.aload_n 0, 1) := by decide +kernel
theorem dX9_count_103 : decode cX9_count 103 = .ok (.getfield 85, 3) := by decide +kernel
theorem dX9_count_106 : decode cX9_count 106 = .ok (.if_icmp .ge 18, 3) := by decide +kernel
theorem dX9_count_109 : decode cX9_count 109 = .ok (.iload_n 2, 1) := by decide +kernel
theorem dX9_count_110 : decode cX9_count 110 = .ok (.iload_n 3, 1) := by decide +kernel
theorem dX9_count_111 : decode cX9_count 111 = .ok (.iload 4, 2) := by decide +kernel
theorem dX9_count_113 : decode cX9_count 113 = .ok (.ishr, 1) := by decide +kernel
theorem dX9_count_114 : decode cX9_count 114 = .ok (.iconst 1, 1) := by decide +kernel
theorem dX9_count_115 : decode cX9_count 115 = .ok (.iand, 1) := by decide +kernel
theorem dX9_count_116 : decode cX9_count 116 = .ok (.iadd, 1) := by decide +kernel
theorem dX9_count_117 : decode cX9_count 117 = .ok (.istore_n 2, 1) := by decide +kernel
theorem dX9_count_118 : decode cX9_count 118 = .ok (.iinc 4 1, 3) := by decide +kernel
theorem dX9_count_121 : decode cX9_count 121 = .ok (.goto (-21), 3) := by decide +kernel
theorem dX9_count_124 : decode cX9_count 124 = .ok (.iload_n 2, 1) := by decide +kernel
theorem dX9_count_125 : decode cX9_count 125 = .ok (.ireturn, 1) := by decide +kernel
theorem dX9_count_126 : decode cX9_count 126 = .ok (.iconst (-1), 1) := by decide +kernel
theorem dX9_count_127 : decode cX9_count 127 = .ok (.ireturn, 1) := by decide +kernel
theorem dX9_trace_0 : decode cX9_trace 0 = .ok (.aload_n 0, 1) := by decide +kernel
theorem dX9_trace_1 : decode cX9_trace 1 = .ok (.getfield 245, 3) := by decide +kernel
theorem dX9_trace_4 : decode cX9_trace 4 = .ok (.lreturn, 1) := by decide +kernel
