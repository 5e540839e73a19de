theorem d_MM_isRoll_0 : decode c_MM_isRoll 0 = .ok (.iload_n 1, 1) := by decide +kernel
theorem d_MM_isRoll_1 : decode c_MM_isRoll 1 = .ok (.iconst 0, 1) := by decide +kernel
theorem d_MM_isRoll_2 : decode c_MM_isRoll 2 = .ok (.aload_n 0, 1) := by decide +kernel
theorem d_MM_isRoll_3 : decode c_MM_isRoll 3 = .ok (.getfield 85, 3) := by decide +kernel
theorem d_MM_isRoll_6 : decode c_MM_isRoll 6 = .ok (.iconst 1, 1) := by decide +kernel
theorem d_MM_isRoll_7 : decode c_MM_isRoll 7 = .ok (.isub, 1) := by decide +kernel
theorem d_MM_isRoll_8 : decode c_MM_isRoll 8 = .ok (.invokestatic 81, 3) := by decide +kernel
theorem d_MM_isRoll_11 : decode c_MM_isRoll 11 = .ok (.ireturn, 1) := by decide +kernel
theorem d_MM_seen_0 : decode c_MM_seen 0 = .ok (.aload_n 0, 1) := by decide +kernel
theorem d_MM_seen_1 : decode c_MM_seen 1 = .ok (.iload_n 1, 1) := by decide +kernel
theorem d_MM_seen_2 : decode c_MM_seen 2 = .ok (.invokevirtual 123, 3) := by decide +kernel
theorem d_MM_seen_5 : decode c_MM_seen 5 = .ok (.istore_n 3, 1) := by decide +kernel
theorem d_MM_seen_6 : decode c_MM_seen 6 = .ok (.aload_n 0, 1) := by decide +kernel
theorem d_MM_seen_7 : decode c_MM_seen 7 = .ok (.bipush 15, 2) := by decide +kernel
theorem d_MM_seen_9 : decode c_MM_seen 9 = .ok (.iload_n 3, 1) := by decide +kernel
theorem d_MM_seen_10 : decode c_MM_seen 10 = .ok (.iload_n 2, 1) := by decide +kernel
theorem d_MM_seen_11 : decode c_MM_seen 11 = .ok (.iconst 0, 1) := by decide +kernel
theorem d_MM_seen_12 : decode c_MM_seen 12 = .ok (.sipush 999, 3) := by decide +kernel
theorem d_MM_seen_15 : decode c_MM_seen 15 = .ok (.invokestatic 81, 3) := by decide +kernel
theorem d_MM_seen_18 : decode c_MM_seen 18 = .ok (.iload_n 3, 1) := by decide +kernel
theorem d_MM_seen_19 : decode c_MM_seen 19 = .ok (.ifCond .eq 17, 3) := by decide +kernel
theorem d_MM_seen_22 : decode c_MM_seen 22 = .ok (.aload_n 0, 1) := by decide +kernel
theorem d_MM_seen_23 : decode c_MM_seen 23 = .ok (.getfield 25, 3) := by decide +kernel
theorem d_MM_seen_26 : decode c_MM_seen 26 = .ok (.iload_n 1, 1) := by decide +kernel
theorem d_MM_seen_27 : decode c_MM_seen 27 = .ok (.iaload, 1) := by decide +kernel
theorem d_MM_seen_28 : decode c_MM_seen 28 = .ok (.iconst 3, 1) := by decide +kernel
theorem d_MM_seen_29 : decode c_MM_seen 29 = .ok (.if_icmp .ge 7, 3) := by decide +kernel
theorem d_MM_seen_32 : decode c_MM_seen 32 = .ok (.iconst 1, 1) := by decide +kernel
theorem d_MM_seen_33 : decode c_MM_seen 33 = .ok (.goto 4, 3) := by decide +kernel
theorem d_MM_seen_36 : decode c_MM_seen 36 = .ok (.iconst 0, 1) := by decide +kernel
theorem d_MM_seen_37 : decode c_MM_seen 37 = .ok (.iload_n 3, 1) := by decide +kernel
theorem d_MM_seen_38 : decode c_MM_seen 38 = .ok (.ifCond .eq 21, 3) := by decide +kernel
theorem d_MM_seen_41 : decode c_MM_seen 41 = .ok (.aload_n 0, 1) := by decide +kernel
theorem d_MM_seen_42 : decode c_MM_seen 42 = .ok (.getfield 34, 3) := by decide +kernel
theorem d_MM_seen_45 : decode c_MM_seen 45 = .ok (.iload_n 1, 1) := by decide +kernel
theorem d_MM_seen_46 : decode c_MM_seen 46 = .ok (.iaload, 1) := by decide +kernel
theorem d_MM_seen_47 : decode c_MM_seen 47 = .ok (.iload_n 2, 1) := by decide +kernel
theorem d_MM_seen_48 : decode c_MM_seen 48 = .ok (.iadd, 1) := by decide +kernel
theorem d_MM_seen_49 : decode c_MM_seen 49 = .ok (.sipush 9999, 3) := by decide +kernel
theorem d_MM_seen_52 : decode c_MM_seen 52 = .ok (.if_icmp .gt 7, 3) := by decide +kernel
theorem d_MM_seen_55 : decode c_MM_seen 55 = .ok (.iconst 1, 1) := by decide +kernel
theorem d_MM_seen_56 : decode c_MM_seen 56 = .ok (.goto 4, 3) := by decide +kernel
theorem d_MM_seen_59 : decode c_MM_seen 59 = .ok (.iconst 0, 1) := by decide +kernel
theorem d_MM_seen_60 : decode c_MM_seen 60 = .ok (.invokevirtual 98, 3) := by decide +kernel
theorem d_MM_seen_63 : decode c_MM_seen 63 = .ok (.ifCond .ne 5, 3) := by decide +kernel
theorem d_MM_seen_66 : decode c_MM_seen 66 = .ok (.iconst 0, 1) := by decide +kernel
theorem d_MM_seen_67 : decode c_MM_seen 67 = .ok (.ireturn, 1) := by decide +kernel
theorem d_MM_seen_68 : decode c_MM_seen 68 = .ok (.aload_n 0, 1) := by decide +kernel
theorem d_MM_seen_69 : decode c_MM_seen 69 = .ok (.getfield 34, 3) := by decide +kernel
theorem d_MM_seen_72 : decode c_MM_seen 72 = .ok (.iload_n 1, 1) := by decide +kernel
theorem d_MM_seen_73 : decode c_MM_seen 73 = .ok (.aload_n 0, 1) := by decide +kernel
theorem d_MM_seen_74 : decode c_MM_seen 74 = .ok (.getfield 34, 3) := by decide +kernel
theorem d_MM_seen_77 : decode c_MM_seen 77 = .ok (.iload_n 1, 1) := by decide +kernel
theorem d_MM_seen_78 : decode c_MM_seen 78 = .ok (.iaload, 1) := by decide +kernel
theorem d_MM_seen_79 : decode c_MM_seen 79 = .ok (.iload_n 2, 1) := by decide +kernel
theorem d_MM_seen_80 : decode c_MM_seen 80 = .ok (.iadd, 1) := by decide +kernel
theorem d_MM_seen_81 : decode c_MM_seen 81 = .ok (.iastore, 1) := by decide +kernel
theorem d_MM_seen_82 : decode c_MM_seen 82 = .ok (.aload_n 0, 1) := by decide +kernel
theorem d_MM_seen_83 : decode c_MM_seen 83 = .ok (.getfield 34, 3) := by decide +kernel
theorem d_MM_seen_86 : decode c_MM_seen 86 = .ok (.iload_n 1, 1) := by decide +kernel
theorem d_MM_seen_87 : decode c_MM_seen 87 = .ok (.iaload, 1) := by decide +kernel
theorem d_MM_seen_88 : decode c_MM_seen 88 = .ok (.ireturn, 1) := by decide +kernel
theorem d_MM_round_0 : decode c_MM_round 0 = .ok (.aload_n 0, 1) := by decide +kernel
theorem d_MM_round_1 : decode c_MM_round 1 = .ok (.iload_n 1, 1) := by decide +kernel
theorem d_MM_round_2 : decode c_MM_round 2 = .ok (.invokevirtual 123, 3) := by decide +kernel
theorem d_MM_round_5 : decode c_MM_round 5 = .ok (.istore_n 2, 1) := by decide +kernel
theorem d_MM_round_6 : decode c_MM_round 6 = .ok (.aload_n 0, 1) := by decide +kernel
theorem d_MM_round_7 : decode c_MM_round 7 = .ok (.iconst 5, 1) := by decide +kernel
theorem d_MM_round_8 : decode c_MM_round 8 = .ok (.iload_n 2, 1) := by decide +kernel
theorem d_MM_round_9 : decode c_MM_round 9 = .ok (.iconst 1, 1) := by decide +kernel
theorem d_MM_round_10 : decode c_MM_round 10 = .ok (.iload_n 2, 1) := by decide +kernel
theorem d_MM_round_11 : decode c_MM_round 11 = .ok (.ifCond .eq 24, 3) := by decide +kernel
theorem d_MM_round_14 : decode c_MM_round 14 = .ok (.aload_n 0, 1) := by decide +kernel
theorem d_MM_round_15 : decode c_MM_round 15 = .ok (.getfield 25, 3) := by decide +kernel
theorem d_MM_round_18 : decode c_MM_round 18 = .ok (.iload_n 1, 1) := by decide +kernel
theorem d_MM_round_19 : decode c_MM_round 19 = .ok (.iaload, 1) := by decide +kernel
theorem d_MM_round_20 : decode c_MM_round 20 = .ok (.iconst 3, 1) := by decide +kernel
theorem d_MM_round_21 : decode c_MM_round 21 = .ok (.if_icmp .ge 14, 3) := by decide +kernel
theorem d_MM_round_24 : decode c_MM_round 24 = .ok (.aload_n 0, 1) := by decide +kernel
theorem d_MM_round_25 : decode c_MM_round 25 = .ok (.invokevirtual 119, 3) := by decide +kernel
theorem d_MM_round_28 : decode c_MM_round 28 = .ok (.ifCond .ne 7, 3) := by decide +kernel
theorem d_MM_round_31 : decode c_MM_round 31 = .ok (.iconst 1, 1) := by decide +kernel
theorem d_MM_round_32 : decode c_MM_round 32 = .ok (.goto 4, 3) := by decide +kernel
theorem d_MM_round_35 : decode c_MM_round 35 = .ok (.iconst 0, 1) := by decide +kernel
theorem d_MM_round_36 : decode c_MM_round 36 = .ok (.iconst 1, 1) := by decide +kernel
theorem d_MM_round_37 : decode c_MM_round 37 = .ok (.invokevirtual 98, 3) := by decide +kernel
theorem d_MM_round_40 : decode c_MM_round 40 = .ok (.ifCond .ne 5, 3) := by decide +kernel
theorem d_MM_round_43 : decode c_MM_round 43 = .ok (.iconst 0, 1) := by decide +kernel
theorem d_MM_round_44 : decode c_MM_round 44 = .ok (.ireturn, 1) := by decide +kernel
theorem d_MM_round_45 : decode c_MM_round 45 = .ok (.aload_n 0, 1) := by decide +kernel
theorem d_MM_round_46 : decode c_MM_round 46 = .ok (.iload_n 1, 1) := by decide +kernel
theorem d_MM_round_47 : decode c_MM_round 47 = .ok (.invokevirtual 136, 3) := by decide +kernel
theorem d_MM_round_50 : decode c_MM_round 50 = .ok (.istore_n 3, 1) := by decide +kernel
theorem d_MM_round_51 : decode c_MM_round 51 = .ok (.aload_n 0, 1) := by decide +kernel
theorem d_MM_round_52 : decode c_MM_round 52 = .ok (.getfield 25, 3) := by decide +kernel
theorem d_MM_round_55 : decode c_MM_round 55 = .ok (.iload_n 1, 1) := by decide +kernel
theorem d_MM_round_56 : decode c_MM_round 56 = .ok (.dup2, 1) := by decide +kernel
theorem d_MM_round_57 : decode c_MM_round 57 = .ok (.iaload, 1) := by decide +kernel
theorem d_MM_round_58 : decode c_MM_round 58 = .ok (.iconst 1, 1) := by decide +kernel
theorem d_MM_round_59 : decode c_MM_round 59 = .ok (.iadd, 1) := by decide +kernel
theorem d_MM_round_60 : decode c_MM_round 60 = .ok (.iastore, 1) := by decide +kernel
theorem d_MM_round_61 : decode c_MM_round 61 = .ok (.aload_n 0, 1) := by decide +kernel
theorem d_MM_round_62 : decode c_MM_round 62 = .ok (.getfield 25, 3) := by decide +kernel
theorem d_MM_round_65 : decode c_MM_round 65 = .ok (.iload_n 1, 1) := by decide +kernel
theorem d_MM_round_66 : decode c_MM_round 66 = .ok (.iaload, 1) := by decide +kernel
theorem d_MM_round_67 : decode c_MM_round 67 = .ok (.iconst 3, 1) := by decide +kernel
theorem d_MM_round_68 : decode c_MM_round 68 = .ok (.if_icmp .ge 5, 3) := by decide +kernel
theorem d_MM_round_71 : decode c_MM_round 71 = .ok (.iload_n 3, 1) := by decide +kernel
theorem d_MM_round_72 : decode c_MM_round 72 = .ok (.ireturn, 1) := by decide +kernel
theorem d_MM_round_73 : decode c_MM_round 73 = .ok (.iconst 0, 1) := by decide +kernel
theorem d_MM_round_74 : decode c_MM_round 74 = .ok (.istore 4, 2) := by decide +kernel
theorem d_MM_round_76 : decode c_MM_round 76 = .ok (.iload 4, 2) := by decide +kernel
theorem d_MM_round_78 : decode c_MM_round 78 = .ok (.aload_n 0, 1) := by decide +kernel
theorem d_MM_round_79 : decode c_MM_round 79 = .ok (.getfield 78, 3) := by decide +kernel
theorem d_MM_round_82 : decode c_MM_round 82 = .ok (.if_icmp .ge 28, 3) := by decide +kernel
theorem d_MM_round_85 : decode c_MM_round 85 = .ok (.aload_n 0, 1) := by decide +kernel
theorem d_MM_round_86 : decode c_MM_round 86 = .ok (.getfield 47, 3) := by decide +kernel
theorem d_MM_round_89 : decode c_MM_round 89 = .ok (.iload_n 1, 1) := by decide +kernel
theorem d_MM_round_90 : decode c_MM_round 90 = .ok (.bipush 60, 2) := by decide +kernel
theorem d_MM_round_92 : decode c_MM_round 92 = .ok (.imul, 1) := by decide +kernel
theorem d_MM_round_93 : decode c_MM_round 93 = .ok (.iload 4, 2) := by decide +kernel
theorem d_MM_round_95 : decode c_MM_round 95 = .ok (.iadd, 1) := by decide +kernel
theorem d_MM_round_96 : decode c_MM_round 96 = .ok (.aload_n 0, 1) := by decide +kernel
theorem d_MM_round_97 : decode c_MM_round 97 = .ok (.iload_n 1, 1) := by decide +kernel
theorem d_MM_round_98 : decode c_MM_round 98 = .ok (.iload 4, 2) := by decide +kernel
theorem d_MM_round_100 : decode c_MM_round 100 = .ok (.invokevirtual 133, 3) := by decide +kernel
theorem d_MM_round_103 : decode c_MM_round 103 = .ok (.bastore, 1) := by decide +kernel
theorem d_MM_round_104 : decode c_MM_round 104 = .ok (.iinc 4 1, 3) := by decide +kernel
theorem d_MM_round_107 : decode c_MM_round 107 = .ok (.goto (-31), 3) := by decide +kernel
theorem d_MM_round_110 : decode c_MM_round 110 = .ok (.aload_n 0, 1) := by decide +kernel
theorem d_MM_round_111 : decode c_MM_round 111 = .ok (.getfield 28, 3) := by decide +kernel
theorem d_MM_round_114 : decode c_MM_round 114 = .ok (.iload_n 1, 1) := by decide +kernel
theorem d_MM_round_115 : decode c_MM_round 115 = .ok (.aload_n 0, 1) := by decide +kernel
theorem d_MM_round_116 : decode c_MM_round 116 = .ok (.getfield 88, 3) := by decide +kernel
theorem d_MM_round_119 : decode c_MM_round 119 = .ok (.iastore, 1) := by decide +kernel
theorem d_MM_round_120 : decode c_MM_round 120 = .ok (.iload_n 3, 1) := by decide +kernel
theorem d_MM_round_121 : decode c_MM_round 121 = .ok (.ireturn, 1) := by decide +kernel
theorem d_MM_open_0 : decode c_MM_open 0 = .ok (.iconst 0, 1) := by decide +kernel
theorem d_MM_open_1 : decode c_MM_open 1 = .ok (.istore_n 2, 1) := by decide +kernel
theorem d_MM_open_2 : decode c_MM_open 2 = .ok (.iconst 0, 1) := by decide +kernel
theorem d_MM_open_3 : decode c_MM_open 3 = .ok (.istore_n 3, 1) := by decide +kernel
theorem d_MM_open_4 : decode c_MM_open 4 = .ok (.iload_n 3, 1) := by decide +kernel
theorem d_MM_open_5 : decode c_MM_open 5 = .ok (.aload_n 0, 1) := by decide +kernel
theorem d_MM_open_6 : decode c_MM_open 6 = .ok (.getfield 78, 3) := by decide +kernel
theorem d_MM_open_9 : decode c_MM_open 9 = .ok (.if_icmp .ge 48, 3) := by decide +kernel
theorem d_MM_open_12 : decode c_MM_open 12 = .ok (.aload_n 0, 1) := by decide +kernel
theorem d_MM_open_13 : decode c_MM_open 13 = .ok (.getfield 25, 3) := by decide +kernel
theorem d_MM_open_16 : decode c_MM_open 16 = .ok (.iload_n 1, 1) := by decide +kernel
theorem d_MM_open_17 : decode c_MM_open 17 = .ok (.iaload, 1) := by decide +kernel
theorem d_MM_open_18 : decode c_MM_open 18 = .ok (.iconst 3, 1) := by decide +kernel
theorem d_MM_open_19 : decode c_MM_open 19 = .ok (.if_icmp .ge 15, 3) := by decide +kernel
theorem d_MM_open_22 : decode c_MM_open 22 = .ok (.aload_n 0, 1) := by decide +kernel
theorem d_MM_open_23 : decode c_MM_open 23 = .ok (.iload_n 1, 1) := by decide +kernel
theorem d_MM_open_24 : decode c_MM_open 24 = .ok (.iload_n 3, 1) := by decide +kernel
theorem d_MM_open_25 : decode c_MM_open 25 = .ok (.invokevirtual 133, 3) := by decide +kernel
theorem d_MM_open_28 : decode c_MM_open 28 = .ok (.ifCond .eq 23, 3) := by decide +kernel
theorem d_MM_open_31 : decode c_MM_open 31 = .ok (.goto 17, 3) := by decide +kernel
theorem d_MM_open_34 : decode c_MM_open 34 = .ok (.aload_n 0, 1) := by decide +kernel
theorem d_MM_open_35 : decode c_MM_open 35 = .ok (.getfield 47, 3) := by decide +kernel
theorem d_MM_open_38 : decode c_MM_open 38 = .ok (.iload_n 1, 1) := by decide +kernel
theorem d_MM_open_39 : decode c_MM_open 39 = .ok (.bipush 60, 2) := by decide +kernel
theorem d_MM_open_41 : decode c_MM_open 41 = .ok (.imul, 1) := by decide +kernel
theorem d_MM_open_42 : decode c_MM_open 42 = .ok (.iload_n 3, 1) := by decide +kernel
theorem d_MM_open_43 : decode c_MM_open 43 = .ok (.iadd, 1) := by decide +kernel
theorem d_MM_open_44 : decode c_MM_open 44 = .ok (.baload, 1) := by decide +kernel
theorem d_MM_open_45 : decode c_MM_open 45 = .ok (.ifCond .eq 6, 3) := by decide +kernel
theorem d_MM_open_48 : decode c_MM_open 48 = .ok (.iinc 2 1, 3) := by decide +kernel
theorem d_MM_open_51 : decode c_MM_open 51 = .ok (.iinc 3 1, 3) := by decide +kernel
theorem d_MM_open_54 : decode c_MM_open 54 = .ok (.goto (-50), 3) := by decide +kernel
theorem d_MM_open_57 : decode c_MM_open 57 = .ok (.iload_n 2, 1) := by decide +kernel
theorem d_MM_open_58 : decode c_MM_open 58 = .ok (.ireturn, 1) := by decide +kernel
theorem d_MM_isStill_0 : decode c_MM_isStill 0 = .ok (.aload_n 0, 1) := by decide +kernel
theorem d_MM_isStill_1 : decode c_MM_isStill 1 = .ok (.getfield 40, 3) := by decide +kernel
theorem d_MM_isStill_4 : decode c_MM_isStill 4 = .ok (.iload_n 1, 1) := by decide +kernel
theorem d_MM_isStill_5 : decode c_MM_isStill 5 = .ok (.bipush 60, 2) := by decide +kernel
theorem d_MM_isStill_7 : decode c_MM_isStill 7 = .ok (.imul, 1) := by decide +kernel
theorem d_MM_isStill_8 : decode c_MM_isStill 8 = .ok (.iload_n 2, 1) := by decide +kernel
theorem d_MM_isStill_9 : decode c_MM_isStill 9 = .ok (.iadd, 1) := by decide +kernel
theorem d_MM_isStill_10 : decode c_MM_isStill 10 = .ok (.baload, 1) := by decide +kernel
theorem d_MM_isStill_11 : decode c_MM_isStill 11 = .ok (.ifCond .eq 35, 3) := by decide +kernel
theorem d_MM_isStill_14 : decode c_MM_isStill 14 = .ok (.aload_n 0, 1) := by decide +kernel
theorem d_MM_isStill_15 : decode c_MM_isStill 15 = .ok (.getfield 44, 3) := by decide +kernel
theorem d_MM_isStill_18 : decode c_MM_isStill 18 = .ok (.iload_n 1, 1) := by decide +kernel
theorem d_MM_isStill_19 : decode c_MM_isStill 19 = .ok (.bipush 60, 2) := by decide +kernel
theorem d_MM_isStill_21 : decode c_MM_isStill 21 = .ok (.imul, 1) := by decide +kernel
theorem d_MM_isStill_22 : decode c_MM_isStill 22 = .ok (.iload_n 2, 1) := by decide +kernel
theorem d_MM_isStill_23 : decode c_MM_isStill 23 = .ok (.iadd, 1) := by decide +kernel
theorem d_MM_isStill_24 : decode c_MM_isStill 24 = .ok (.iaload, 1) := by decide +kernel
theorem d_MM_isStill_25 : decode c_MM_isStill 25 = .ok (.ifCond .ge 21, 3) := by decide +kernel
theorem d_MM_isStill_28 : decode c_MM_isStill 28 = .ok (.aload_n 0, 1) := by decide +kernel
theorem d_MM_isStill_29 : decode c_MM_isStill 29 = .ok (.iload_n 2, 1) := by decide +kernel
theorem d_MM_isStill_30 : decode c_MM_isStill 30 = .ok (.aload_n 0, 1) := by decide +kernel
theorem d_MM_isStill_31 : decode c_MM_isStill 31 = .ok (.getfield 28, 3) := by decide +kernel
theorem d_MM_isStill_34 : decode c_MM_isStill 34 = .ok (.iload_n 1, 1) := by decide +kernel
theorem d_MM_isStill_35 : decode c_MM_isStill 35 = .ok (.iaload, 1) := by decide +kernel
theorem d_MM_isStill_36 : decode c_MM_isStill 36 = .ok (.invokevirtual 129, 3) := by decide +kernel
theorem d_MM_isStill_39 : decode c_MM_isStill 39 = .ok (.ifCond .ne 7, 3) := by decide +kernel
theorem d_MM_isStill_42 : decode c_MM_isStill 42 = .ok (.iconst 1, 1) := by decide +kernel
theorem d_MM_isStill_43 : decode c_MM_isStill 43 = .ok (.goto 4, 3) := by decide +kernel
theorem d_MM_isStill_46 : decode c_MM_isStill 46 = .ok (.iconst 0, 1) := by decide +kernel
theorem d_MM_isStill_47 : decode c_MM_isStill 47 = .ok (.ireturn, 1) := by decide +kernel
theorem d_MM_cameOut_0 : decode c_MM_cameOut 0 = .ok (.iload_n 2, 1) := by decide +kernel
theorem d_MM_cameOut_1 : decode c_MM_cameOut 1 = .ok (.istore_n 3, 1) := by decide +kernel
theorem d_MM_cameOut_2 : decode c_MM_cameOut 2 = .ok (.iload_n 3, 1) := by decide +kernel
theorem d_MM_cameOut_3 : decode c_MM_cameOut 3 = .ok (.aload_n 0, 1) := by decide +kernel
theorem d_MM_cameOut_4 : decode c_MM_cameOut 4 = .ok (.getfield 88, 3) := by decide +kernel
theorem d_MM_cameOut_7 : decode c_MM_cameOut 7 = .ok (.if_icmp .ge 30, 3) := by decide +kernel
theorem d_MM_cameOut_10 : decode c_MM_cameOut 10 = .ok (.aload_n 0, 1) := by decide +kernel
theorem d_MM_cameOut_11 : decode c_MM_cameOut 11 = .ok (.getfield 13, 3) := by decide +kernel
theorem d_MM_cameOut_14 : decode c_MM_cameOut 14 = .ok (.iload_n 3, 1) := by decide +kernel
theorem d_MM_cameOut_15 : decode c_MM_cameOut 15 = .ok (.iaload, 1) := by decide +kernel
theorem d_MM_cameOut_16 : decode c_MM_cameOut 16 = .ok (.iload_n 1, 1) := by decide +kernel
theorem d_MM_cameOut_17 : decode c_MM_cameOut 17 = .ok (.if_icmp .ne 14, 3) := by decide +kernel
theorem d_MM_cameOut_20 : decode c_MM_cameOut 20 = .ok (.aload_n 0, 1) := by decide +kernel
theorem d_MM_cameOut_21 : decode c_MM_cameOut 21 = .ok (.getfield 16, 3) := by decide +kernel
theorem d_MM_cameOut_24 : decode c_MM_cameOut 24 = .ok (.iload_n 3, 1) := by decide +kernel
theorem d_MM_cameOut_25 : decode c_MM_cameOut 25 = .ok (.iaload, 1) := by decide +kernel
theorem d_MM_cameOut_26 : decode c_MM_cameOut 26 = .ok (.ifCond .ge 5, 3) := by decide +kernel
theorem d_MM_cameOut_29 : decode c_MM_cameOut 29 = .ok (.iconst 1, 1) := by decide +kernel
theorem d_MM_cameOut_30 : decode c_MM_cameOut 30 = .ok (.ireturn, 1) := by decide +kernel
theorem d_MM_cameOut_31 : decode c_MM_cameOut 31 = .ok (.iinc 3 1, 3) := by decide +kernel
theorem d_MM_cameOut_34 : decode c_MM_cameOut 34 = .ok (.goto (-32), 3) := by decide +kernel
theorem d_MM_cameOut_37 : decode c_MM_cameOut 37 = .ok (.iconst 0, 1) := by decide +kernel
theorem d_MM_cameOut_38 : decode c_MM_cameOut 38 = .ok (.ireturn, 1) := by decide +kernel
theorem d_MM_rollAt_0 : decode c_MM_rollAt 0 = .ok (.aload_n 0, 1) := by decide +kernel
theorem d_MM_rollAt_1 : decode c_MM_rollAt 1 = .ok (.iconst 1, 1) := by decide +kernel
theorem d_MM_rollAt_2 : decode c_MM_rollAt 2 = .ok (.aload_n 0, 1) := by decide +kernel
theorem d_MM_rollAt_3 : decode c_MM_rollAt 3 = .ok (.iload_n 1, 1) := by decide +kernel
theorem d_MM_rollAt_4 : decode c_MM_rollAt 4 = .ok (.invokevirtual 123, 3) := by decide +kernel
theorem d_MM_rollAt_7 : decode c_MM_rollAt 7 = .ok (.ifCond .eq 17, 3) := by decide +kernel
theorem d_MM_rollAt_10 : decode c_MM_rollAt 10 = .ok (.iload_n 2, 1) := by decide +kernel
theorem d_MM_rollAt_11 : decode c_MM_rollAt 11 = .ok (.iconst 0, 1) := by decide +kernel
theorem d_MM_rollAt_12 : decode c_MM_rollAt 12 = .ok (.bipush 6, 2) := by decide +kernel
theorem d_MM_rollAt_14 : decode c_MM_rollAt 14 = .ok (.invokestatic 81, 3) := by decide +kernel
theorem d_MM_rollAt_17 : decode c_MM_rollAt 17 = .ok (.ifCond .eq 7, 3) := by decide +kernel
theorem d_MM_rollAt_20 : decode c_MM_rollAt 20 = .ok (.iconst 1, 1) := by decide +kernel
theorem d_MM_rollAt_21 : decode c_MM_rollAt 21 = .ok (.goto 4, 3) := by decide +kernel
theorem d_MM_rollAt_24 : decode c_MM_rollAt 24 = .ok (.iconst 0, 1) := by decide +kernel
theorem d_MM_rollAt_25 : decode c_MM_rollAt 25 = .ok (.iconst 1, 1) := by decide +kernel
theorem d_MM_rollAt_26 : decode c_MM_rollAt 26 = .ok (.iconst 1, 1) := by decide +kernel
theorem d_MM_rollAt_27 : decode c_MM_rollAt 27 = .ok (.iconst 1, 1) := by decide +kernel
theorem d_MM_rollAt_28 : decode c_MM_rollAt 28 = .ok (.invokevirtual 98, 3) := by decide +kernel
theorem d_MM_rollAt_31 : decode c_MM_rollAt 31 = .ok (.ifCond .ne 5, 3) := by decide +kernel
theorem d_MM_rollAt_34 : decode c_MM_rollAt 34 = .ok (.iconst 0, 1) := by decide +kernel
theorem d_MM_rollAt_35 : decode c_MM_rollAt 35 = .ok (.ireturn, 1) := by decide +kernel
theorem d_MM_rollAt_36 : decode c_MM_rollAt 36 = .ok (.iconst 0, 1) := by decide +kernel
theorem d_MM_rollAt_37 : decode c_MM_rollAt 37 = .ok (.istore_n 3, 1) := by decide +kernel
theorem d_MM_rollAt_38 : decode c_MM_rollAt 38 = .ok (.iconst 0, 1) := by decide +kernel
theorem d_MM_rollAt_39 : decode c_MM_rollAt 39 = .ok (.istore 4, 2) := by decide +kernel
theorem d_MM_rollAt_41 : decode c_MM_rollAt 41 = .ok (.iconst 0, 1) := by decide +kernel
theorem d_MM_rollAt_42 : decode c_MM_rollAt 42 = .ok (.istore 5, 2) := by decide +kernel
theorem d_MM_rollAt_44 : decode c_MM_rollAt 44 = .ok (.iload 5, 2) := by decide +kernel
theorem d_MM_rollAt_46 : decode c_MM_rollAt 46 = .ok (.bipush 60, 2) := by decide +kernel
theorem d_MM_rollAt_48 : decode c_MM_rollAt 48 = .ok (.if_icmp .ge 48, 3) := by decide +kernel
theorem d_MM_rollAt_51 : decode c_MM_rollAt 51 = .ok (.aload_n 0, 1) := by decide +kernel
theorem d_MM_rollAt_52 : decode c_MM_rollAt 52 = .ok (.getfield 40, 3) := by decide +kernel
theorem d_MM_rollAt_55 : decode c_MM_rollAt 55 = .ok (.iload_n 1, 1) := by decide +kernel
theorem d_MM_rollAt_56 : decode c_MM_rollAt 56 = .ok (.bipush 60, 2) := by decide +kernel
theorem d_MM_rollAt_58 : decode c_MM_rollAt 58 = .ok (.imul, 1) := by decide +kernel
theorem d_MM_rollAt_59 : decode c_MM_rollAt 59 = .ok (.iload 5, 2) := by decide +kernel
theorem d_MM_rollAt_61 : decode c_MM_rollAt 61 = .ok (.iadd, 1) := by decide +kernel
theorem d_MM_rollAt_62 : decode c_MM_rollAt 62 = .ok (.baload, 1) := by decide +kernel
theorem d_MM_rollAt_63 : decode c_MM_rollAt 63 = .ok (.ifCond .ne 6, 3) := by decide +kernel
theorem d_MM_rollAt_66 : decode c_MM_rollAt 66 = .ok (.goto 24, 3) := by decide +kernel
theorem d_MM_rollAt_69 : decode c_MM_rollAt 69 = .ok (.iinc 3 1, 3) := by decide +kernel
theorem d_MM_rollAt_72 : decode c_MM_rollAt 72 = .ok (.aload_n 0, 1) := by decide +kernel
theorem d_MM_rollAt_73 : decode c_MM_rollAt 73 = .ok (.getfield 44, 3) := by decide +kernel
theorem d_MM_rollAt_76 : decode c_MM_rollAt 76 = .ok (.iload_n 1, 1) := by decide +kernel
theorem d_MM_rollAt_77 : decode c_MM_rollAt 77 = .ok (.bipush 60, 2) := by decide +kernel
theorem d_MM_rollAt_79 : decode c_MM_rollAt 79 = .ok (.imul, 1) := by decide +kernel
theorem d_MM_rollAt_80 : decode c_MM_rollAt 80 = .ok (.iload 5, 2) := by decide +kernel
theorem d_MM_rollAt_82 : decode c_MM_rollAt 82 = .ok (.iadd, 1) := by decide +kernel
theorem d_MM_rollAt_83 : decode c_MM_rollAt 83 = .ok (.iaload, 1) := by decide +kernel
theorem d_MM_rollAt_84 : decode c_MM_rollAt 84 = .ok (.ifCond .lt 6, 3) := by decide +kernel
theorem d_MM_rollAt_87 : decode c_MM_rollAt 87 = .ok (.iinc 4 1, 3) := by decide +kernel
theorem d_MM_rollAt_90 : decode c_MM_rollAt 90 = .ok (.iinc 5 1, 3) := by decide +kernel
theorem d_MM_rollAt_93 : decode c_MM_rollAt 93 = .ok (.goto (-49), 3) := by decide +kernel
theorem d_MM_rollAt_96 : decode c_MM_rollAt 96 = .ok (.aload_n 0, 1) := by decide +kernel
theorem d_MM_rollAt_97 : decode c_MM_rollAt 97 = .ok (.getfield 31, 3) := by decide +kernel
theorem d_MM_rollAt_100 : decode c_MM_rollAt 100 = .ok (.iload_n 1, 1) := by decide +kernel
theorem d_MM_rollAt_101 : decode c_MM_rollAt 101 = .ok (.iaload, 1) := by decide +kernel
theorem d_MM_rollAt_102 : decode c_MM_rollAt 102 = .ok (.aload_n 0, 1) := by decide +kernel
theorem d_MM_rollAt_103 : decode c_MM_rollAt 103 = .ok (.getfield 34, 3) := by decide +kernel
theorem d_MM_rollAt_106 : decode c_MM_rollAt 106 = .ok (.iload_n 1, 1) := by decide +kernel
theorem d_MM_rollAt_107 : decode c_MM_rollAt 107 = .ok (.iaload, 1) := by decide +kernel
theorem d_MM_rollAt_108 : decode c_MM_rollAt 108 = .ok (.isub, 1) := by decide +kernel
theorem d_MM_rollAt_109 : decode c_MM_rollAt 109 = .ok (.istore 5, 2) := by decide +kernel
theorem d_MM_rollAt_111 : decode c_MM_rollAt 111 = .ok (.iload_n 2, 1) := by decide +kernel
theorem d_MM_rollAt_112 : decode c_MM_rollAt 112 = .ok (.ifCond .ne 12, 3) := by decide +kernel
theorem d_MM_rollAt_115 : decode c_MM_rollAt 115 = .ok (.aload_n 0, 1) := by decide +kernel
theorem d_MM_rollAt_116 : decode c_MM_rollAt 116 = .ok (.getfield 25, 3) := by decide +kernel
theorem d_MM_rollAt_119 : decode c_MM_rollAt 119 = .ok (.iload_n 1, 1) := by decide +kernel
theorem d_MM_rollAt_120 : decode c_MM_rollAt 120 = .ok (.iaload, 1) := by decide +kernel
theorem d_MM_rollAt_121 : decode c_MM_rollAt 121 = .ok (.goto 74, 3) := by decide +kernel
theorem d_MM_rollAt_124 : decode c_MM_rollAt 124 = .ok (.iload_n 2, 1) := by decide +kernel
theorem d_MM_rollAt_125 : decode c_MM_rollAt 125 = .ok (.iconst 1, 1) := by decide +kernel
theorem d_MM_rollAt_126 : decode c_MM_rollAt 126 = .ok (.if_icmp .ne 7, 3) := by decide +kernel
theorem d_MM_rollAt_129 : decode c_MM_rollAt 129 = .ok (.iload_n 3, 1) := by decide +kernel
theorem d_MM_rollAt_130 : decode c_MM_rollAt 130 = .ok (.goto 65, 3) := by decide +kernel
theorem d_MM_rollAt_133 : decode c_MM_rollAt 133 = .ok (.iload_n 2, 1) := by decide +kernel
theorem d_MM_rollAt_134 : decode c_MM_rollAt 134 = .ok (.iconst 2, 1) := by decide +kernel
theorem d_MM_rollAt_135 : decode c_MM_rollAt 135 = .ok (.if_icmp .ne 8, 3) := by decide +kernel
theorem d_MM_rollAt_138 : decode c_MM_rollAt 138 = .ok (.iload 4, 2) := by decide +kernel
theorem d_MM_rollAt_140 : decode c_MM_rollAt 140 = .ok (.goto 55, 3) := by decide +kernel
theorem d_MM_rollAt_143 : decode c_MM_rollAt 143 = .ok (.iload_n 2, 1) := by decide +kernel
theorem d_MM_rollAt_144 : decode c_MM_rollAt 144 = .ok (.iconst 3, 1) := by decide +kernel
theorem d_MM_rollAt_145 : decode c_MM_rollAt 145 = .ok (.if_icmp .ne 11, 3) := by decide +kernel
theorem d_MM_rollAt_148 : decode c_MM_rollAt 148 = .ok (.aload_n 0, 1) := by decide +kernel
theorem d_MM_rollAt_149 : decode c_MM_rollAt 149 = .ok (.iload_n 1, 1) := by decide +kernel
theorem d_MM_rollAt_150 : decode c_MM_rollAt 150 = .ok (.invokevirtual 136, 3) := by decide +kernel
theorem d_MM_rollAt_153 : decode c_MM_rollAt 153 = .ok (.goto 42, 3) := by decide +kernel
theorem d_MM_rollAt_156 : decode c_MM_rollAt 156 = .ok (.iload_n 2, 1) := by decide +kernel
theorem d_MM_rollAt_157 : decode c_MM_rollAt 157 = .ok (.iconst 4, 1) := by decide +kernel
theorem d_MM_rollAt_158 : decode c_MM_rollAt 158 = .ok (.if_icmp .ne 12, 3) := by decide +kernel
theorem d_MM_rollAt_161 : decode c_MM_rollAt 161 = .ok (.aload_n 0, 1) := by decide +kernel
theorem d_MM_rollAt_162 : decode c_MM_rollAt 162 = .ok (.getfield 31, 3) := by decide +kernel
theorem d_MM_rollAt_165 : decode c_MM_rollAt 165 = .ok (.iload_n 1, 1) := by decide +kernel
theorem d_MM_rollAt_166 : decode c_MM_rollAt 166 = .ok (.iaload, 1) := by decide +kernel
theorem d_MM_rollAt_167 : decode c_MM_rollAt 167 = .ok (.goto 28, 3) := by decide +kernel
theorem d_MM_rollAt_170 : decode c_MM_rollAt 170 = .ok (.iload_n 2, 1) := by decide +kernel
theorem d_MM_rollAt_171 : decode c_MM_rollAt 171 = .ok (.iconst 5, 1) := by decide +kernel
theorem d_MM_rollAt_172 : decode c_MM_rollAt 172 = .ok (.if_icmp .ne 17, 3) := by decide +kernel
theorem d_MM_rollAt_175 : decode c_MM_rollAt 175 = .ok (.iload 5, 2) := by decide +kernel
theorem d_MM_rollAt_177 : decode c_MM_rollAt 177 = .ok (.ifCond .le 8, 3) := by decide +kernel
theorem d_MM_rollAt_180 : decode c_MM_rollAt 180 = .ok (.iload 5, 2) := by decide +kernel
theorem d_MM_rollAt_182 : decode c_MM_rollAt 182 = .ok (.goto 13, 3) := by decide +kernel
theorem d_MM_rollAt_185 : decode c_MM_rollAt 185 = .ok (.iconst 0, 1) := by decide +kernel
theorem d_MM_rollAt_186 : decode c_MM_rollAt 186 = .ok (.goto 9, 3) := by decide +kernel
theorem d_MM_rollAt_189 : decode c_MM_rollAt 189 = .ok (.aload_n 0, 1) := by decide +kernel
theorem d_MM_rollAt_190 : decode c_MM_rollAt 190 = .ok (.getfield 37, 3) := by decide +kernel
theorem d_MM_rollAt_193 : decode c_MM_rollAt 193 = .ok (.iload_n 1, 1) := by decide +kernel
theorem d_MM_rollAt_194 : decode c_MM_rollAt 194 = .ok (.iaload, 1) := by decide +kernel
theorem d_MM_rollAt_195 : decode c_MM_rollAt 195 = .ok (.ireturn, 1) := by decide +kernel
theorem d_MM_missing_0 : decode c_MM_missing 0 = .ok (.aload_n 0, 1) := by decide +kernel
theorem d_MM_missing_1 : decode c_MM_missing 1 = .ok (.iload_n 1, 1) := by decide +kernel
theorem d_MM_missing_2 : decode c_MM_missing 2 = .ok (.invokevirtual 123, 3) := by decide +kernel
theorem d_MM_missing_5 : decode c_MM_missing 5 = .ok (.istore_n 3, 1) := by decide +kernel
theorem d_MM_missing_6 : decode c_MM_missing 6 = .ok (.aload_n 0, 1) := by decide +kernel
theorem d_MM_missing_7 : decode c_MM_missing 7 = .ok (.bipush 7, 2) := by decide +kernel
theorem d_MM_missing_9 : decode c_MM_missing 9 = .ok (.iload_n 3, 1) := by decide +kernel
theorem d_MM_missing_10 : decode c_MM_missing 10 = .ok (.iload_n 2, 1) := by decide +kernel
theorem d_MM_missing_11 : decode c_MM_missing 11 = .ok (.ifCond .lt 7, 3) := by decide +kernel
theorem d_MM_missing_14 : decode c_MM_missing 14 = .ok (.iconst 1, 1) := by decide +kernel
theorem d_MM_missing_15 : decode c_MM_missing 15 = .ok (.goto 4, 3) := by decide +kernel
theorem d_MM_missing_18 : decode c_MM_missing 18 = .ok (.iconst 0, 1) := by decide +kernel
theorem d_MM_missing_19 : decode c_MM_missing 19 = .ok (.iload_n 3, 1) := by decide +kernel
theorem d_MM_missing_20 : decode c_MM_missing 20 = .ok (.ifCond .eq 17, 3) := by decide +kernel
theorem d_MM_missing_23 : decode c_MM_missing 23 = .ok (.aload_n 0, 1) := by decide +kernel
theorem d_MM_missing_24 : decode c_MM_missing 24 = .ok (.getfield 25, 3) := by decide +kernel
theorem d_MM_missing_27 : decode c_MM_missing 27 = .ok (.iload_n 1, 1) := by decide +kernel
theorem d_MM_missing_28 : decode c_MM_missing 28 = .ok (.iaload, 1) := by decide +kernel
theorem d_MM_missing_29 : decode c_MM_missing 29 = .ok (.iconst 3, 1) := by decide +kernel
theorem d_MM_missing_30 : decode c_MM_missing 30 = .ok (.if_icmp .ne 7, 3) := by decide +kernel
theorem d_MM_missing_33 : decode c_MM_missing 33 = .ok (.iconst 1, 1) := by decide +kernel
theorem d_MM_missing_34 : decode c_MM_missing 34 = .ok (.goto 4, 3) := by decide +kernel
theorem d_MM_missing_37 : decode c_MM_missing 37 = .ok (.iconst 0, 1) := by decide +kernel
theorem d_MM_missing_38 : decode c_MM_missing 38 = .ok (.iconst 1, 1) := by decide +kernel
theorem d_MM_missing_39 : decode c_MM_missing 39 = .ok (.invokevirtual 98, 3) := by decide +kernel
theorem d_MM_missing_42 : decode c_MM_missing 42 = .ok (.ifCond .ne 5, 3) := by decide +kernel
theorem d_MM_missing_45 : decode c_MM_missing 45 = .ok (.iconst 0, 1) := by decide +kernel
theorem d_MM_missing_46 : decode c_MM_missing 46 = .ok (.ireturn, 1) := by decide +kernel
theorem d_MM_missing_47 : decode c_MM_missing 47 = .ok (.iload_n 2, 1) := by decide +kernel
theorem d_MM_missing_48 : decode c_MM_missing 48 = .ok (.istore 4, 2) := by decide +kernel
theorem d_MM_missing_50 : decode c_MM_missing 50 = .ok (.iconst 0, 1) := by decide +kernel
theorem d_MM_missing_51 : decode c_MM_missing 51 = .ok (.istore 5, 2) := by decide +kernel
theorem d_MM_missing_53 : decode c_MM_missing 53 = .ok (.iload 5, 2) := by decide +kernel
theorem d_MM_missing_55 : decode c_MM_missing 55 = .ok (.aload_n 0, 1) := by decide +kernel
theorem d_MM_missing_56 : decode c_MM_missing 56 = .ok (.getfield 78, 3) := by decide +kernel
theorem d_MM_missing_59 : decode c_MM_missing 59 = .ok (.if_icmp .ge 48, 3) := by decide +kernel
theorem d_MM_missing_62 : decode c_MM_missing 62 = .ok (.aload_n 0, 1) := by decide +kernel
theorem d_MM_missing_63 : decode c_MM_missing 63 = .ok (.getfield 47, 3) := by decide +kernel
theorem d_MM_missing_66 : decode c_MM_missing 66 = .ok (.iload_n 1, 1) := by decide +kernel
theorem d_MM_missing_67 : decode c_MM_missing 67 = .ok (.bipush 60, 2) := by decide +kernel
theorem d_MM_missing_69 : decode c_MM_missing 69 = .ok (.imul, 1) := by decide +kernel
theorem d_MM_missing_70 : decode c_MM_missing 70 = .ok (.iload 5, 2) := by decide +kernel
theorem d_MM_missing_72 : decode c_MM_missing 72 = .ok (.iadd, 1) := by decide +kernel
theorem d_MM_missing_73 : decode c_MM_missing 73 = .ok (.baload, 1) := by decide +kernel
theorem d_MM_missing_74 : decode c_MM_missing 74 = .ok (.ifCond .eq 27, 3) := by decide +kernel
theorem d_MM_missing_77 : decode c_MM_missing 77 = .ok (.aload_n 0, 1) := by decide +kernel
theorem d_MM_missing_78 : decode c_MM_missing 78 = .ok (.iload_n 1, 1) := by decide +kernel
theorem d_MM_missing_79 : decode c_MM_missing 79 = .ok (.iload 5, 2) := by decide +kernel
theorem d_MM_missing_81 : decode c_MM_missing 81 = .ok (.invokevirtual 139, 3) := by decide +kernel
theorem d_MM_missing_84 : decode c_MM_missing 84 = .ok (.ifCond .eq 6, 3) := by decide +kernel
theorem d_MM_missing_87 : decode c_MM_missing 87 = .ok (.goto 14, 3) := by decide +kernel
theorem d_MM_missing_90 : decode c_MM_missing 90 = .ok (.iload 4, 2) := by decide +kernel
theorem d_MM_missing_92 : decode c_MM_missing 92 = .ok (.ifCond .ne 6, 3) := by decide +kernel
theorem d_MM_missing_95 : decode c_MM_missing 95 = .ok (.iload 5, 2) := by decide +kernel
theorem d_MM_missing_97 : decode c_MM_missing 97 = .ok (.ireturn, 1) := by decide +kernel
theorem d_MM_missing_98 : decode c_MM_missing 98 = .ok (.iinc 4 (-1), 3) := by decide +kernel
theorem d_MM_missing_101 : decode c_MM_missing 101 = .ok (.iinc 5 1, 3) := by decide +kernel
theorem d_MM_missing_104 : decode c_MM_missing 104 = .ok (.goto (-51), 3) := by decide +kernel
theorem d_MM_missing_107 : decode c_MM_missing 107 = .ok (.iconst (-1), 1) := by decide +kernel
theorem d_MM_missing_108 : decode c_MM_missing 108 = .ok (.ireturn, 1) := by decide +kernel
theorem d_MM_isFound_0 : decode c_MM_isFound 0 = .ok (.iload_n 1, 1) := by decide +kernel
theorem d_MM_isFound_1 : decode c_MM_isFound 1 = .ok (.iconst 1, 1) := by decide +kernel
theorem d_MM_isFound_2 : decode c_MM_isFound 2 = .ok (.iadd, 1) := by decide +kernel
theorem d_MM_isFound_3 : decode c_MM_isFound 3 = .ok (.istore_n 3, 1) := by decide +kernel
theorem d_MM_isFound_4 : decode c_MM_isFound 4 = .ok (.iload_n 3, 1) := by decide +kernel
theorem d_MM_isFound_5 : decode c_MM_isFound 5 = .ok (.aload_n 0, 1) := by decide +kernel
theorem d_MM_isFound_6 : decode c_MM_isFound 6 = .ok (.getfield 85, 3) := by decide +kernel
theorem d_MM_isFound_9 : decode c_MM_isFound 9 = .ok (.if_icmp .ge 25, 3) := by decide +kernel
theorem d_MM_isFound_12 : decode c_MM_isFound 12 = .ok (.aload_n 0, 1) := by decide +kernel
theorem d_MM_isFound_13 : decode c_MM_isFound 13 = .ok (.getfield 44, 3) := by decide +kernel
theorem d_MM_isFound_16 : decode c_MM_isFound 16 = .ok (.iload_n 3, 1) := by decide +kernel
theorem d_MM_isFound_17 : decode c_MM_isFound 17 = .ok (.bipush 60, 2) := by decide +kernel
theorem d_MM_isFound_19 : decode c_MM_isFound 19 = .ok (.imul, 1) := by decide +kernel
theorem d_MM_isFound_20 : decode c_MM_isFound 20 = .ok (.iload_n 2, 1) := by decide +kernel
theorem d_MM_isFound_21 : decode c_MM_isFound 21 = .ok (.iadd, 1) := by decide +kernel
theorem d_MM_isFound_22 : decode c_MM_isFound 22 = .ok (.iaload, 1) := by decide +kernel
theorem d_MM_isFound_23 : decode c_MM_isFound 23 = .ok (.ifCond .lt 5, 3) := by decide +kernel
theorem d_MM_isFound_26 : decode c_MM_isFound 26 = .ok (.iconst 1, 1) := by decide +kernel
theorem d_MM_isFound_27 : decode c_MM_isFound 27 = .ok (.ireturn, 1) := by decide +kernel
theorem d_MM_isFound_28 : decode c_MM_isFound 28 = .ok (.iinc 3 1, 3) := by decide +kernel
theorem d_MM_isFound_31 : decode c_MM_isFound 31 = .ok (.goto (-27), 3) := by decide +kernel
theorem d_MM_isFound_34 : decode c_MM_isFound 34 = .ok (.aload_n 0, 1) := by decide +kernel
theorem d_MM_isFound_35 : decode c_MM_isFound 35 = .ok (.iload_n 2, 1) := by decide +kernel
theorem d_MM_isFound_36 : decode c_MM_isFound 36 = .ok (.aload_n 0, 1) := by decide +kernel
theorem d_MM_isFound_37 : decode c_MM_isFound 37 = .ok (.getfield 28, 3) := by decide +kernel
theorem d_MM_isFound_40 : decode c_MM_isFound 40 = .ok (.iload_n 1, 1) := by decide +kernel
theorem d_MM_isFound_41 : decode c_MM_isFound 41 = .ok (.iaload, 1) := by decide +kernel
theorem d_MM_isFound_42 : decode c_MM_isFound 42 = .ok (.invokevirtual 129, 3) := by decide +kernel
theorem d_MM_isFound_45 : decode c_MM_isFound 45 = .ok (.ireturn, 1) := by decide +kernel
theorem d_MM_twice_0 : decode c_MM_twice 0 = .ok (.aload_n 0, 1) := by decide +kernel
theorem d_MM_twice_1 : decode c_MM_twice 1 = .ok (.iconst 1, 1) := by decide +kernel
theorem d_MM_twice_2 : decode c_MM_twice 2 = .ok (.iload_n 1, 1) := by decide +kernel
theorem d_MM_twice_3 : decode c_MM_twice 3 = .ok (.iconst 0, 1) := by decide +kernel
theorem d_MM_twice_4 : decode c_MM_twice 4 = .ok (.aload_n 0, 1) := by decide +kernel
theorem d_MM_twice_5 : decode c_MM_twice 5 = .ok (.getfield 126, 3) := by decide +kernel
theorem d_MM_twice_8 : decode c_MM_twice 8 = .ok (.iconst 1, 1) := by decide +kernel
theorem d_MM_twice_9 : decode c_MM_twice 9 = .ok (.isub, 1) := by decide +kernel
theorem d_MM_twice_10 : decode c_MM_twice 10 = .ok (.invokestatic 81, 3) := by decide +kernel
theorem d_MM_twice_13 : decode c_MM_twice 13 = .ok (.ifCond .eq 16, 3) := by decide +kernel
theorem d_MM_twice_16 : decode c_MM_twice 16 = .ok (.iload_n 2, 1) := by decide +kernel
theorem d_MM_twice_17 : decode c_MM_twice 17 = .ok (.iconst 0, 1) := by decide +kernel
theorem d_MM_twice_18 : decode c_MM_twice 18 = .ok (.iconst 3, 1) := by decide +kernel
theorem d_MM_twice_19 : decode c_MM_twice 19 = .ok (.invokestatic 81, 3) := by decide +kernel
theorem d_MM_twice_22 : decode c_MM_twice 22 = .ok (.ifCond .eq 7, 3) := by decide +kernel
theorem d_MM_twice_25 : decode c_MM_twice 25 = .ok (.iconst 1, 1) := by decide +kernel
theorem d_MM_twice_26 : decode c_MM_twice 26 = .ok (.goto 4, 3) := by decide +kernel
theorem d_MM_twice_29 : decode c_MM_twice 29 = .ok (.iconst 0, 1) := by decide +kernel
theorem d_MM_twice_30 : decode c_MM_twice 30 = .ok (.iconst 1, 1) := by decide +kernel
theorem d_MM_twice_31 : decode c_MM_twice 31 = .ok (.iconst 1, 1) := by decide +kernel
theorem d_MM_twice_32 : decode c_MM_twice 32 = .ok (.iconst 1, 1) := by decide +kernel
theorem d_MM_twice_33 : decode c_MM_twice 33 = .ok (.invokevirtual 98, 3) := by decide +kernel
theorem d_MM_twice_36 : decode c_MM_twice 36 = .ok (.ifCond .ne 5, 3) := by decide +kernel
theorem d_MM_twice_39 : decode c_MM_twice 39 = .ok (.iconst 0, 1) := by decide +kernel
theorem d_MM_twice_40 : decode c_MM_twice 40 = .ok (.ireturn, 1) := by decide +kernel
theorem d_MM_twice_41 : decode c_MM_twice 41 = .ok (.aload_n 0, 1) := by decide +kernel
theorem d_MM_twice_42 : decode c_MM_twice 42 = .ok (.getfield 50, 3) := by decide +kernel
theorem d_MM_twice_45 : decode c_MM_twice 45 = .ok (.iconst 4, 1) := by decide +kernel
theorem d_MM_twice_46 : decode c_MM_twice 46 = .ok (.iload_n 1, 1) := by decide +kernel
theorem d_MM_twice_47 : decode c_MM_twice 47 = .ok (.imul, 1) := by decide +kernel
theorem d_MM_twice_48 : decode c_MM_twice 48 = .ok (.iload_n 2, 1) := by decide +kernel
theorem d_MM_twice_49 : decode c_MM_twice 49 = .ok (.iadd, 1) := by decide +kernel
theorem d_MM_twice_50 : decode c_MM_twice 50 = .ok (.iaload, 1) := by decide +kernel
theorem d_MM_twice_51 : decode c_MM_twice 51 = .ok (.ireturn, 1) := by decide +kernel
theorem d_MM_mayday_0 : decode c_MM_mayday 0 = .ok (.aload_n 0, 1) := by decide +kernel
theorem d_MM_mayday_1 : decode c_MM_mayday 1 = .ok (.iload_n 1, 1) := by decide +kernel
theorem d_MM_mayday_2 : decode c_MM_mayday 2 = .ok (.invokevirtual 102, 3) := by decide +kernel
theorem d_MM_mayday_5 : decode c_MM_mayday 5 = .ok (.ifCond .eq 15, 3) := by decide +kernel
theorem d_MM_mayday_8 : decode c_MM_mayday 8 = .ok (.aload_n 0, 1) := by decide +kernel
theorem d_MM_mayday_9 : decode c_MM_mayday 9 = .ok (.iload_n 1, 1) := by decide +kernel
theorem d_MM_mayday_10 : decode c_MM_mayday 10 = .ok (.invokevirtual 109, 3) := by decide +kernel
theorem d_MM_mayday_13 : decode c_MM_mayday 13 = .ok (.ifCond .lt 7, 3) := by decide +kernel
theorem d_MM_mayday_16 : decode c_MM_mayday 16 = .ok (.iconst 1, 1) := by decide +kernel
theorem d_MM_mayday_17 : decode c_MM_mayday 17 = .ok (.goto 4, 3) := by decide +kernel
theorem d_MM_mayday_20 : decode c_MM_mayday 20 = .ok (.iconst 0, 1) := by decide +kernel
theorem d_MM_mayday_21 : decode c_MM_mayday 21 = .ok (.istore_n 3, 1) := by decide +kernel
theorem d_MM_mayday_22 : decode c_MM_mayday 22 = .ok (.iconst 0, 1) := by decide +kernel
theorem d_MM_mayday_23 : decode c_MM_mayday 23 = .ok (.istore 4, 2) := by decide +kernel
theorem d_MM_mayday_25 : decode c_MM_mayday 25 = .ok (.iload 4, 2) := by decide +kernel
theorem d_MM_mayday_27 : decode c_MM_mayday 27 = .ok (.aload_n 0, 1) := by decide +kernel
theorem d_MM_mayday_28 : decode c_MM_mayday 28 = .ok (.getfield 116, 3) := by decide +kernel
theorem d_MM_mayday_31 : decode c_MM_mayday 31 = .ok (.if_icmp .ge 32, 3) := by decide +kernel
theorem d_MM_mayday_34 : decode c_MM_mayday 34 = .ok (.aload_n 0, 1) := by decide +kernel
theorem d_MM_mayday_35 : decode c_MM_mayday 35 = .ok (.getfield 53, 3) := by decide +kernel
theorem d_MM_mayday_38 : decode c_MM_mayday 38 = .ok (.iload 4, 2) := by decide +kernel
theorem d_MM_mayday_40 : decode c_MM_mayday 40 = .ok (.baload, 1) := by decide +kernel
theorem d_MM_mayday_41 : decode c_MM_mayday 41 = .ok (.ifCond .eq 16, 3) := by decide +kernel
theorem d_MM_mayday_44 : decode c_MM_mayday 44 = .ok (.aload_n 0, 1) := by decide +kernel
theorem d_MM_mayday_45 : decode c_MM_mayday 45 = .ok (.getfield 59, 3) := by decide +kernel
theorem d_MM_mayday_48 : decode c_MM_mayday 48 = .ok (.iload 4, 2) := by decide +kernel
theorem d_MM_mayday_50 : decode c_MM_mayday 50 = .ok (.iaload, 1) := by decide +kernel
theorem d_MM_mayday_51 : decode c_MM_mayday 51 = .ok (.iload_n 1, 1) := by decide +kernel
theorem d_MM_mayday_52 : decode c_MM_mayday 52 = .ok (.if_icmp .ne 5, 3) := by decide +kernel
theorem d_MM_mayday_55 : decode c_MM_mayday 55 = .ok (.iconst 0, 1) := by decide +kernel
theorem d_MM_mayday_56 : decode c_MM_mayday 56 = .ok (.istore_n 3, 1) := by decide +kernel
theorem d_MM_mayday_57 : decode c_MM_mayday 57 = .ok (.iinc 4 1, 3) := by decide +kernel
theorem d_MM_mayday_60 : decode c_MM_mayday 60 = .ok (.goto (-35), 3) := by decide +kernel
theorem d_MM_mayday_63 : decode c_MM_mayday 63 = .ok (.aload_n 0, 1) := by decide +kernel
theorem d_MM_mayday_64 : decode c_MM_mayday 64 = .ok (.bipush 15, 2) := by decide +kernel
theorem d_MM_mayday_66 : decode c_MM_mayday 66 = .ok (.aload_n 0, 1) := by decide +kernel
theorem d_MM_mayday_67 : decode c_MM_mayday 67 = .ok (.iload_n 1, 1) := by decide +kernel
theorem d_MM_mayday_68 : decode c_MM_mayday 68 = .ok (.invokevirtual 102, 3) := by decide +kernel
theorem d_MM_mayday_71 : decode c_MM_mayday 71 = .ok (.iload_n 2, 1) := by decide +kernel
theorem d_MM_mayday_72 : decode c_MM_mayday 72 = .ok (.iconst 0, 1) := by decide +kernel
theorem d_MM_mayday_73 : decode c_MM_mayday 73 = .ok (.sipush 999, 3) := by decide +kernel
theorem d_MM_mayday_76 : decode c_MM_mayday 76 = .ok (.invokestatic 81, 3) := by decide +kernel
theorem d_MM_mayday_79 : decode c_MM_mayday 79 = .ok (.iload_n 3, 1) := by decide +kernel
theorem d_MM_mayday_80 : decode c_MM_mayday 80 = .ok (.aload_n 0, 1) := by decide +kernel
theorem d_MM_mayday_81 : decode c_MM_mayday 81 = .ok (.getfield 116, 3) := by decide +kernel
theorem d_MM_mayday_84 : decode c_MM_mayday 84 = .ok (.bipush 30, 2) := by decide +kernel
theorem d_MM_mayday_86 : decode c_MM_mayday 86 = .ok (.if_icmp .ge 7, 3) := by decide +kernel
theorem d_MM_mayday_89 : decode c_MM_mayday 89 = .ok (.iconst 1, 1) := by decide +kernel
theorem d_MM_mayday_90 : decode c_MM_mayday 90 = .ok (.goto 4, 3) := by decide +kernel
theorem d_MM_mayday_93 : decode c_MM_mayday 93 = .ok (.iconst 0, 1) := by decide +kernel
theorem d_MM_mayday_94 : decode c_MM_mayday 94 = .ok (.invokevirtual 98, 3) := by decide +kernel
theorem d_MM_mayday_97 : decode c_MM_mayday 97 = .ok (.ifCond .ne 5, 3) := by decide +kernel
theorem d_MM_mayday_100 : decode c_MM_mayday 100 = .ok (.iconst 0, 1) := by decide +kernel
theorem d_MM_mayday_101 : decode c_MM_mayday 101 = .ok (.ireturn, 1) := by decide +kernel
theorem d_MM_mayday_102 : decode c_MM_mayday 102 = .ok (.aload_n 0, 1) := by decide +kernel
theorem d_MM_mayday_103 : decode c_MM_mayday 103 = .ok (.getfield 53, 3) := by decide +kernel
theorem d_MM_mayday_106 : decode c_MM_mayday 106 = .ok (.aload_n 0, 1) := by decide +kernel
theorem d_MM_mayday_107 : decode c_MM_mayday 107 = .ok (.getfield 116, 3) := by decide +kernel
theorem d_MM_mayday_110 : decode c_MM_mayday 110 = .ok (.iconst 1, 1) := by decide +kernel
theorem d_MM_mayday_111 : decode c_MM_mayday 111 = .ok (.bastore, 1) := by decide +kernel
theorem d_MM_mayday_112 : decode c_MM_mayday 112 = .ok (.aload_n 0, 1) := by decide +kernel
theorem d_MM_mayday_113 : decode c_MM_mayday 113 = .ok (.getfield 56, 3) := by decide +kernel
theorem d_MM_mayday_116 : decode c_MM_mayday 116 = .ok (.aload_n 0, 1) := by decide +kernel
theorem d_MM_mayday_117 : decode c_MM_mayday 117 = .ok (.getfield 116, 3) := by decide +kernel
theorem d_MM_mayday_120 : decode c_MM_mayday 120 = .ok (.iconst (-1), 1) := by decide +kernel
theorem d_MM_mayday_121 : decode c_MM_mayday 121 = .ok (.iastore, 1) := by decide +kernel
theorem d_MM_mayday_122 : decode c_MM_mayday 122 = .ok (.aload_n 0, 1) := by decide +kernel
theorem d_MM_mayday_123 : decode c_MM_mayday 123 = .ok (.getfield 59, 3) := by decide +kernel
theorem d_MM_mayday_126 : decode c_MM_mayday 126 = .ok (.aload_n 0, 1) := by decide +kernel
theorem d_MM_mayday_127 : decode c_MM_mayday 127 = .ok (.getfield 116, 3) := by decide +kernel
theorem d_MM_mayday_130 : decode c_MM_mayday 130 = .ok (.iload_n 1, 1) := by decide +kernel
theorem d_MM_mayday_131 : decode c_MM_mayday 131 = .ok (.iastore, 1) := by decide +kernel
theorem d_MM_mayday_132 : decode c_MM_mayday 132 = .ok (.aload_n 0, 1) := by decide +kernel
theorem d_MM_mayday_133 : decode c_MM_mayday 133 = .ok (.getfield 62, 3) := by decide +kernel
theorem d_MM_mayday_136 : decode c_MM_mayday 136 = .ok (.aload_n 0, 1) := by decide +kernel
theorem d_MM_mayday_137 : decode c_MM_mayday 137 = .ok (.getfield 116, 3) := by decide +kernel
theorem d_MM_mayday_140 : decode c_MM_mayday 140 = .ok (.iload_n 2, 1) := by decide +kernel
theorem d_MM_mayday_141 : decode c_MM_mayday 141 = .ok (.iastore, 1) := by decide +kernel
theorem d_MM_mayday_142 : decode c_MM_mayday 142 = .ok (.aload_n 0, 1) := by decide +kernel
theorem d_MM_mayday_143 : decode c_MM_mayday 143 = .ok (.getfield 65, 3) := by decide +kernel
theorem d_MM_mayday_146 : decode c_MM_mayday 146 = .ok (.aload_n 0, 1) := by decide +kernel
theorem d_MM_mayday_147 : decode c_MM_mayday 147 = .ok (.getfield 116, 3) := by decide +kernel
theorem d_MM_mayday_150 : decode c_MM_mayday 150 = .ok (.aload_n 0, 1) := by decide +kernel
theorem d_MM_mayday_151 : decode c_MM_mayday 151 = .ok (.getfield 91, 3) := by decide +kernel
theorem d_MM_mayday_154 : decode c_MM_mayday 154 = .ok (.iastore, 1) := by decide +kernel
theorem d_MM_mayday_155 : decode c_MM_mayday 155 = .ok (.aload_n 0, 1) := by decide +kernel
theorem d_MM_mayday_156 : decode c_MM_mayday 156 = .ok (.dup, 1) := by decide +kernel
theorem d_MM_mayday_157 : decode c_MM_mayday 157 = .ok (.getfield 116, 3) := by decide +kernel
theorem d_MM_mayday_160 : decode c_MM_mayday 160 = .ok (.iconst 1, 1) := by decide +kernel
theorem d_MM_mayday_161 : decode c_MM_mayday 161 = .ok (.iadd, 1) := by decide +kernel
theorem d_MM_mayday_162 : decode c_MM_mayday 162 = .ok (.putfield 116, 3) := by decide +kernel
theorem d_MM_mayday_165 : decode c_MM_mayday 165 = .ok (.aload_n 0, 1) := by decide +kernel
theorem d_MM_mayday_166 : decode c_MM_mayday 166 = .ok (.invokevirtual 142, 3) := by decide +kernel
theorem d_MM_mayday_169 : decode c_MM_mayday 169 = .ok (.aload_n 0, 1) := by decide +kernel
theorem d_MM_mayday_170 : decode c_MM_mayday 170 = .ok (.getfield 116, 3) := by decide +kernel
theorem d_MM_mayday_173 : decode c_MM_mayday 173 = .ok (.iconst 1, 1) := by decide +kernel
theorem d_MM_mayday_174 : decode c_MM_mayday 174 = .ok (.isub, 1) := by decide +kernel
theorem d_MM_mayday_175 : decode c_MM_mayday 175 = .ok (.ireturn, 1) := by decide +kernel
