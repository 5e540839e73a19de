theorem d_LW_rollAt_0 : decode c_LW_rollAt 0 = .ok (.aload_n 3, 1) := by decide +kernel
theorem d_LW_rollAt_1 : decode c_LW_rollAt 1 = .ok (.iconst 0, 1) := by decide +kernel
theorem d_LW_rollAt_2 : decode c_LW_rollAt 2 = .ok (.aload_n 0, 1) := by decide +kernel
theorem d_LW_rollAt_3 : decode c_LW_rollAt 3 = .ok (.iload_n 1, 1) := by decide +kernel
theorem d_LW_rollAt_4 : decode c_LW_rollAt 4 = .ok (.iload_n 2, 1) := by decide +kernel
theorem d_LW_rollAt_5 : decode c_LW_rollAt 5 = .ok (.invokevirtual 47, 3) := by decide +kernel
theorem d_LW_rollAt_8 : decode c_LW_rollAt 8 = .ok (.i2l, 1) := by decide +kernel
theorem d_LW_rollAt_9 : decode c_LW_rollAt 9 = .ok (.lastore, 1) := by decide +kernel
theorem d_LW_rollAt_10 : decode c_LW_rollAt 10 = .ok (.goto 7, 3) := by decide +kernel
theorem d_LW_rollAt_13 : decode c_LW_rollAt 13 = .ok (.astore 4, 2) := by decide +kernel
theorem d_LW_rollAt_15 : decode c_LW_rollAt 15 = .ok (.iconst 1, 1) := by decide +kernel
theorem d_LW_rollAt_16 : decode c_LW_rollAt 16 = .ok (.ireturn, 1) := by decide +kernel
theorem d_LW_rollAt_17 : decode c_LW_rollAt 17 = .ok (.iconst 0, 1) := by decide +kernel
theorem d_LW_rollAt_18 : decode c_LW_rollAt 18 = .ok (.ireturn, 1) := by decide +kernel
theorem d_RC_rollAt_0 : decode c_RC_rollAt 0 = .ok (.aload_n 0, 1) := by decide +kernel
theorem d_RC_rollAt_1 : decode c_RC_rollAt 1 = .ok (.iload_n 1, 1) := by decide +kernel
theorem d_RC_rollAt_2 : decode c_RC_rollAt 2 = .ok (.invokevirtual 136, 3) := by decide +kernel
theorem d_RC_rollAt_5 : decode c_RC_rollAt 5 = .ok (.astore_n 3, 1) := by decide +kernel
theorem d_RC_rollAt_6 : decode c_RC_rollAt 6 = .ok (.iload_n 2, 1) := by decide +kernel
theorem d_RC_rollAt_7 : decode c_RC_rollAt 7 = .ok (.tableswitch 100 0 6 #[41, 46, 51, 56, 76, 81, 95], 41) := by decide +kernel
theorem d_RC_rollAt_48 : decode c_RC_rollAt 48 = .ok (.aload_n 3, 1) := by decide +kernel
theorem d_RC_rollAt_49 : decode c_RC_rollAt 49 = .ok (.getfield 184, 3) := by decide +kernel
theorem d_RC_rollAt_52 : decode c_RC_rollAt 52 = .ok (.ireturn, 1) := by decide +kernel
theorem d_RC_rollAt_53 : decode c_RC_rollAt 53 = .ok (.aload_n 3, 1) := by decide +kernel
theorem d_RC_rollAt_54 : decode c_RC_rollAt 54 = .ok (.getfield 194, 3) := by decide +kernel
theorem d_RC_rollAt_57 : decode c_RC_rollAt 57 = .ok (.ireturn, 1) := by decide +kernel
theorem d_RC_rollAt_58 : decode c_RC_rollAt 58 = .ok (.aload_n 3, 1) := by decide +kernel
theorem d_RC_rollAt_59 : decode c_RC_rollAt 59 = .ok (.getfield 197, 3) := by decide +kernel
theorem d_RC_rollAt_62 : decode c_RC_rollAt 62 = .ok (.ireturn, 1) := by decide +kernel
theorem d_RC_rollAt_63 : decode c_RC_rollAt 63 = .ok (.aload_n 3, 1) := by decide +kernel
theorem d_RC_rollAt_64 : decode c_RC_rollAt 64 = .ok (.invokevirtual 187, 3) := by decide +kernel
theorem d_RC_rollAt_67 : decode c_RC_rollAt 67 = .ok (.ifCond .eq 10, 3) := by decide +kernel
theorem d_RC_rollAt_70 : decode c_RC_rollAt 70 = .ok (.aload_n 3, 1) := by decide +kernel
theorem d_RC_rollAt_71 : decode c_RC_rollAt 71 = .ok (.getfield 191, 3) := by decide +kernel
theorem d_RC_rollAt_74 : decode c_RC_rollAt 74 = .ok (.goto 8, 3) := by decide +kernel
theorem d_RC_rollAt_77 : decode c_RC_rollAt 77 = .ok (.aload_n 0, 1) := by decide +kernel
theorem d_RC_rollAt_78 : decode c_RC_rollAt 78 = .ok (.aload_n 3, 1) := by decide +kernel
theorem d_RC_rollAt_79 : decode c_RC_rollAt 79 = .ok (.invokevirtual 180, 3) := by decide +kernel
theorem d_RC_rollAt_82 : decode c_RC_rollAt 82 = .ok (.ireturn, 1) := by decide +kernel
theorem d_RC_rollAt_83 : decode c_RC_rollAt 83 = .ok (.aload_n 3, 1) := by decide +kernel
theorem d_RC_rollAt_84 : decode c_RC_rollAt 84 = .ok (.getfield 200, 3) := by decide +kernel
theorem d_RC_rollAt_87 : decode c_RC_rollAt 87 = .ok (.ireturn, 1) := by decide +kernel
theorem d_RC_rollAt_88 : decode c_RC_rollAt 88 = .ok (.iconst 0, 1) := by decide +kernel
theorem d_RC_rollAt_89 : decode c_RC_rollAt 89 = .ok (.aload_n 3, 1) := by decide +kernel
theorem d_RC_rollAt_90 : decode c_RC_rollAt 90 = .ok (.getfield 200, 3) := by decide +kernel
theorem d_RC_rollAt_93 : decode c_RC_rollAt 93 = .ok (.aload_n 3, 1) := by decide +kernel
theorem d_RC_rollAt_94 : decode c_RC_rollAt 94 = .ok (.getfield 173, 3) := by decide +kernel
theorem d_RC_rollAt_97 : decode c_RC_rollAt 97 = .ok (.isub, 1) := by decide +kernel
theorem d_RC_rollAt_98 : decode c_RC_rollAt 98 = .ok (.invokestatic 156, 3) := by decide +kernel
theorem d_RC_rollAt_101 : decode c_RC_rollAt 101 = .ok (.ireturn, 1) := by decide +kernel
theorem d_RC_rollAt_102 : decode c_RC_rollAt 102 = .ok (.aload_n 3, 1) := by decide +kernel
theorem d_RC_rollAt_103 : decode c_RC_rollAt 103 = .ok (.getfield 147, 3) := by decide +kernel
theorem d_RC_rollAt_106 : decode c_RC_rollAt 106 = .ok (.ireturn, 1) := by decide +kernel
theorem d_RC_rollAt_107 : decode c_RC_rollAt 107 = .ok (.new 100, 3) := by decide +kernel
theorem d_RC_rollAt_110 : decode c_RC_rollAt 110 = .ok (.dup, 1) := by decide +kernel
theorem d_RC_rollAt_111 : decode c_RC_rollAt 111 = .ok (.ldc 203, 2) := by decide +kernel
theorem d_RC_rollAt_113 : decode c_RC_rollAt 113 = .ok (.invokespecial 104, 3) := by decide +kernel
theorem d_RC_rollAt_116 : decode c_RC_rollAt 116 = .ok (.athrow, 1) := by decide +kernel
theorem d_LW_missing_0 : decode c_LW_missing 0 = .ok (.aload_n 3, 1) := by decide +kernel
theorem d_LW_missing_1 : decode c_LW_missing 1 = .ok (.iconst 0, 1) := by decide +kernel
theorem d_LW_missing_2 : decode c_LW_missing 2 = .ok (.aload_n 0, 1) := by decide +kernel
theorem d_LW_missing_3 : decode c_LW_missing 3 = .ok (.iload_n 1, 1) := by decide +kernel
theorem d_LW_missing_4 : decode c_LW_missing 4 = .ok (.iload_n 2, 1) := by decide +kernel
theorem d_LW_missing_5 : decode c_LW_missing 5 = .ok (.invokevirtual 50, 3) := by decide +kernel
theorem d_LW_missing_8 : decode c_LW_missing 8 = .ok (.i2l, 1) := by decide +kernel
theorem d_LW_missing_9 : decode c_LW_missing 9 = .ok (.lastore, 1) := by decide +kernel
theorem d_LW_missing_10 : decode c_LW_missing 10 = .ok (.goto 15, 3) := by decide +kernel
theorem d_LW_missing_13 : decode c_LW_missing 13 = .ok (.astore 4, 2) := by decide +kernel
theorem d_LW_missing_15 : decode c_LW_missing 15 = .ok (.iconst 1, 1) := by decide +kernel
theorem d_LW_missing_16 : decode c_LW_missing 16 = .ok (.ireturn, 1) := by decide +kernel
theorem d_LW_missing_17 : decode c_LW_missing 17 = .ok (.astore 4, 2) := by decide +kernel
theorem d_LW_missing_19 : decode c_LW_missing 19 = .ok (.iconst 2, 1) := by decide +kernel
theorem d_LW_missing_20 : decode c_LW_missing 20 = .ok (.ireturn, 1) := by decide +kernel
theorem d_LW_missing_21 : decode c_LW_missing 21 = .ok (.astore 4, 2) := by decide +kernel
theorem d_LW_missing_23 : decode c_LW_missing 23 = .ok (.iconst 3, 1) := by decide +kernel
theorem d_LW_missing_24 : decode c_LW_missing 24 = .ok (.ireturn, 1) := by decide +kernel
theorem d_LW_missing_25 : decode c_LW_missing 25 = .ok (.iconst 0, 1) := by decide +kernel
theorem d_LW_missing_26 : decode c_LW_missing 26 = .ok (.ireturn, 1) := by decide +kernel
theorem d_RC_missing_0 : decode c_RC_missing 0 = .ok (.aload_n 0, 1) := by decide +kernel
theorem d_RC_missing_1 : decode c_RC_missing 1 = .ok (.iload_n 1, 1) := by decide +kernel
theorem d_RC_missing_2 : decode c_RC_missing 2 = .ok (.invokevirtual 136, 3) := by decide +kernel
theorem d_RC_missing_5 : decode c_RC_missing 5 = .ok (.astore_n 3, 1) := by decide +kernel
theorem d_RC_missing_6 : decode c_RC_missing 6 = .ok (.iload_n 2, 1) := by decide +kernel
theorem d_RC_missing_7 : decode c_RC_missing 7 = .ok (.ifCond .ge 13, 3) := by decide +kernel
theorem d_RC_missing_10 : decode c_RC_missing 10 = .ok (.new 82, 3) := by decide +kernel
theorem d_RC_missing_13 : decode c_RC_missing 13 = .ok (.dup, 1) := by decide +kernel
theorem d_RC_missing_14 : decode c_RC_missing 14 = .ok (.ldc 205, 2) := by decide +kernel
theorem d_RC_missing_16 : decode c_RC_missing 16 = .ok (.invokespecial 86, 3) := by decide +kernel
theorem d_RC_missing_19 : decode c_RC_missing 19 = .ok (.athrow, 1) := by decide +kernel
theorem d_RC_missing_20 : decode c_RC_missing 20 = .ok (.aload_n 3, 1) := by decide +kernel
theorem d_RC_missing_21 : decode c_RC_missing 21 = .ok (.invokevirtual 187, 3) := by decide +kernel
theorem d_RC_missing_24 : decode c_RC_missing 24 = .ok (.ifCond .ne 13, 3) := by decide +kernel
theorem d_RC_missing_27 : decode c_RC_missing 27 = .ok (.new 68, 3) := by decide +kernel
theorem d_RC_missing_30 : decode c_RC_missing 30 = .ok (.dup, 1) := by decide +kernel
theorem d_RC_missing_31 : decode c_RC_missing 31 = .ok (.ldc 207, 2) := by decide +kernel
theorem d_RC_missing_33 : decode c_RC_missing 33 = .ok (.invokespecial 72, 3) := by decide +kernel
theorem d_RC_missing_36 : decode c_RC_missing 36 = .ok (.athrow, 1) := by decide +kernel
theorem d_RC_missing_37 : decode c_RC_missing 37 = .ok (.iconst 0, 1) := by decide +kernel
theorem d_RC_missing_38 : decode c_RC_missing 38 = .ok (.istore 4, 2) := by decide +kernel
theorem d_RC_missing_40 : decode c_RC_missing 40 = .ok (.iconst 0, 1) := by decide +kernel
theorem d_RC_missing_41 : decode c_RC_missing 41 = .ok (.istore 5, 2) := by decide +kernel
theorem d_RC_missing_43 : decode c_RC_missing 43 = .ok (.iload 5, 2) := by decide +kernel
theorem d_RC_missing_45 : decode c_RC_missing 45 = .ok (.aload_n 0, 1) := by decide +kernel
theorem d_RC_missing_46 : decode c_RC_missing 46 = .ok (.getfield 16, 3) := by decide +kernel
theorem d_RC_missing_49 : decode c_RC_missing 49 = .ok (.invokevirtual 39, 3) := by decide +kernel
theorem d_RC_missing_52 : decode c_RC_missing 52 = .ok (.if_icmp .ge 31, 3) := by decide +kernel
theorem d_RC_missing_55 : decode c_RC_missing 55 = .ok (.aload_n 0, 1) := by decide +kernel
theorem d_RC_missing_56 : decode c_RC_missing 56 = .ok (.aload_n 3, 1) := by decide +kernel
theorem d_RC_missing_57 : decode c_RC_missing 57 = .ok (.iload 5, 2) := by decide +kernel
theorem d_RC_missing_59 : decode c_RC_missing 59 = .ok (.invokevirtual 209, 3) := by decide +kernel
theorem d_RC_missing_62 : decode c_RC_missing 62 = .ok (.ifCond .eq 15, 3) := by decide +kernel
theorem d_RC_missing_65 : decode c_RC_missing 65 = .ok (.iload 4, 2) := by decide +kernel
theorem d_RC_missing_67 : decode c_RC_missing 67 = .ok (.iload_n 2, 1) := by decide +kernel
theorem d_RC_missing_68 : decode c_RC_missing 68 = .ok (.if_icmp .ne 6, 3) := by decide +kernel
theorem d_RC_missing_71 : decode c_RC_missing 71 = .ok (.iload 5, 2) := by decide +kernel
theorem d_RC_missing_73 : decode c_RC_missing 73 = .ok (.ireturn, 1) := by decide +kernel
theorem d_RC_missing_74 : decode c_RC_missing 74 = .ok (.iinc 4 1, 3) := by decide +kernel
theorem d_RC_missing_77 : decode c_RC_missing 77 = .ok (.iinc 5 1, 3) := by decide +kernel
theorem d_RC_missing_80 : decode c_RC_missing 80 = .ok (.goto (-37), 3) := by decide +kernel
theorem d_RC_missing_83 : decode c_RC_missing 83 = .ok (.iconst (-1), 1) := by decide +kernel
theorem d_RC_missing_84 : decode c_RC_missing 84 = .ok (.ireturn, 1) := by decide +kernel
theorem d_RC_isMissingStill_0 : decode c_RC_isMissingStill 0 = .ok (.aload_n 0, 1) := by decide +kernel
theorem d_RC_isMissingStill_1 : decode c_RC_isMissingStill 1 = .ok (.aload_n 1, 1) := by decide +kernel
theorem d_RC_isMissingStill_2 : decode c_RC_isMissingStill 2 = .ok (.iload_n 2, 1) := by decide +kernel
theorem d_RC_isMissingStill_3 : decode c_RC_isMissingStill 3 = .ok (.invokevirtual 237, 3) := by decide +kernel
theorem d_RC_isMissingStill_6 : decode c_RC_isMissingStill 6 = .ok (.ifCond .eq 22, 3) := by decide +kernel
theorem d_RC_isMissingStill_9 : decode c_RC_isMissingStill 9 = .ok (.aload_n 0, 1) := by decide +kernel
theorem d_RC_isMissingStill_10 : decode c_RC_isMissingStill 10 = .ok (.iload_n 2, 1) := by decide +kernel
theorem d_RC_isMissingStill_11 : decode c_RC_isMissingStill 11 = .ok (.invokevirtual 57, 3) := by decide +kernel
theorem d_RC_isMissingStill_14 : decode c_RC_isMissingStill 14 = .ok (.getfield 153, 3) := by decide +kernel
theorem d_RC_isMissingStill_17 : decode c_RC_isMissingStill 17 = .ok (.aload_n 1, 1) := by decide +kernel
theorem d_RC_isMissingStill_18 : decode c_RC_isMissingStill 18 = .ok (.getfield 133, 3) := by decide +kernel
theorem d_RC_isMissingStill_21 : decode c_RC_isMissingStill 21 = .ok (.if_icmp .gt 7, 3) := by decide +kernel
theorem d_RC_isMissingStill_24 : decode c_RC_isMissingStill 24 = .ok (.iconst 1, 1) := by decide +kernel
theorem d_RC_isMissingStill_25 : decode c_RC_isMissingStill 25 = .ok (.goto 4, 3) := by decide +kernel
theorem d_RC_isMissingStill_28 : decode c_RC_isMissingStill 28 = .ok (.iconst 0, 1) := by decide +kernel
theorem d_RC_isMissingStill_29 : decode c_RC_isMissingStill 29 = .ok (.ireturn, 1) := by decide +kernel
theorem d_LW_twice_0 : decode c_LW_twice 0 = .ok (.aload_n 3, 1) := by decide +kernel
theorem d_LW_twice_1 : decode c_LW_twice 1 = .ok (.iconst 0, 1) := by decide +kernel
theorem d_LW_twice_2 : decode c_LW_twice 2 = .ok (.aload_n 0, 1) := by decide +kernel
theorem d_LW_twice_3 : decode c_LW_twice 3 = .ok (.iload_n 1, 1) := by decide +kernel
theorem d_LW_twice_4 : decode c_LW_twice 4 = .ok (.iload_n 2, 1) := by decide +kernel
theorem d_LW_twice_5 : decode c_LW_twice 5 = .ok (.invokevirtual 53, 3) := by decide +kernel
theorem d_LW_twice_8 : decode c_LW_twice 8 = .ok (.i2l, 1) := by decide +kernel
theorem d_LW_twice_9 : decode c_LW_twice 9 = .ok (.lastore, 1) := by decide +kernel
theorem d_LW_twice_10 : decode c_LW_twice 10 = .ok (.goto 7, 3) := by decide +kernel
theorem d_LW_twice_13 : decode c_LW_twice 13 = .ok (.astore 4, 2) := by decide +kernel
theorem d_LW_twice_15 : decode c_LW_twice 15 = .ok (.iconst 1, 1) := by decide +kernel
theorem d_LW_twice_16 : decode c_LW_twice 16 = .ok (.ireturn, 1) := by decide +kernel
theorem d_LW_twice_17 : decode c_LW_twice 17 = .ok (.iconst 0, 1) := by decide +kernel
theorem d_LW_twice_18 : decode c_LW_twice 18 = .ok (.ireturn, 1) := by decide +kernel
theorem d_RC_twice_0 : decode c_RC_twice 0 = .ok (.iload_n 1, 1) := by decide +kernel
theorem d_RC_twice_1 : decode c_RC_twice 1 = .ok (.ifCond .lt 14, 3) := by decide +kernel
theorem d_RC_twice_4 : decode c_RC_twice 4 = .ok (.iload_n 1, 1) := by decide +kernel
theorem d_RC_twice_5 : decode c_RC_twice 5 = .ok (.aload_n 0, 1) := by decide +kernel
theorem d_RC_twice_6 : decode c_RC_twice 6 = .ok (.getfield 26, 3) := by decide +kernel
theorem d_RC_twice_9 : decode c_RC_twice 9 = .ok (.invokevirtual 39, 3) := by decide +kernel
theorem d_RC_twice_12 : decode c_RC_twice 12 = .ok (.if_icmp .lt 13, 3) := by decide +kernel
theorem d_RC_twice_15 : decode c_RC_twice 15 = .ok (.new 100, 3) := by decide +kernel
theorem d_RC_twice_18 : decode c_RC_twice 18 = .ok (.dup, 1) := by decide +kernel
theorem d_RC_twice_19 : decode c_RC_twice 19 = .ok (.ldc 213, 2) := by decide +kernel
theorem d_RC_twice_21 : decode c_RC_twice 21 = .ok (.invokespecial 104, 3) := by decide +kernel
theorem d_RC_twice_24 : decode c_RC_twice 24 = .ok (.athrow, 1) := by decide +kernel
theorem d_RC_twice_25 : decode c_RC_twice 25 = .ok (.aload_n 0, 1) := by decide +kernel
theorem d_RC_twice_26 : decode c_RC_twice 26 = .ok (.getfield 26, 3) := by decide +kernel
theorem d_RC_twice_29 : decode c_RC_twice 29 = .ok (.iload_n 1, 1) := by decide +kernel
theorem d_RC_twice_30 : decode c_RC_twice 30 = .ok (.invokevirtual 89, 3) := by decide +kernel
theorem d_RC_twice_33 : decode c_RC_twice 33 = .ok (.checkcast 162, 3) := by decide +kernel
theorem d_RC_twice_36 : decode c_RC_twice 36 = .ok (.astore_n 3, 1) := by decide +kernel
theorem d_RC_twice_37 : decode c_RC_twice 37 = .ok (.iload_n 2, 1) := by decide +kernel
theorem d_RC_twice_38 : decode c_RC_twice 38 = .ok (.tableswitch 50 0 3 #[30, 35, 40, 45], 30) := by decide +kernel
theorem d_RC_twice_68 : decode c_RC_twice 68 = .ok (.aload_n 3, 1) := by decide +kernel
theorem d_RC_twice_69 : decode c_RC_twice 69 = .ok (.getfield 215, 3) := by decide +kernel
theorem d_RC_twice_72 : decode c_RC_twice 72 = .ok (.ireturn, 1) := by decide +kernel
theorem d_RC_twice_73 : decode c_RC_twice 73 = .ok (.aload_n 3, 1) := by decide +kernel
theorem d_RC_twice_74 : decode c_RC_twice 74 = .ok (.getfield 216, 3) := by decide +kernel
theorem d_RC_twice_77 : decode c_RC_twice 77 = .ok (.ireturn, 1) := by decide +kernel
theorem d_RC_twice_78 : decode c_RC_twice 78 = .ok (.aload_n 3, 1) := by decide +kernel
theorem d_RC_twice_79 : decode c_RC_twice 79 = .ok (.getfield 219, 3) := by decide +kernel
theorem d_RC_twice_82 : decode c_RC_twice 82 = .ok (.ireturn, 1) := by decide +kernel
theorem d_RC_twice_83 : decode c_RC_twice 83 = .ok (.aload_n 3, 1) := by decide +kernel
theorem d_RC_twice_84 : decode c_RC_twice 84 = .ok (.getfield 222, 3) := by decide +kernel
theorem d_RC_twice_87 : decode c_RC_twice 87 = .ok (.ireturn, 1) := by decide +kernel
theorem d_RC_twice_88 : decode c_RC_twice 88 = .ok (.new 100, 3) := by decide +kernel
theorem d_RC_twice_91 : decode c_RC_twice 91 = .ok (.dup, 1) := by decide +kernel
theorem d_RC_twice_92 : decode c_RC_twice 92 = .ok (.ldc 203, 2) := by decide +kernel
theorem d_RC_twice_94 : decode c_RC_twice 94 = .ok (.invokespecial 104, 3) := by decide +kernel
theorem d_RC_twice_97 : decode c_RC_twice 97 = .ok (.athrow, 1) := by decide +kernel
theorem d_LW_mayday_0 : decode c_LW_mayday 0 = .ok (.aload_n 3, 1) := by decide +kernel
theorem d_LW_mayday_1 : decode c_LW_mayday 1 = .ok (.iconst 0, 1) := by decide +kernel
theorem d_LW_mayday_2 : decode c_LW_mayday 2 = .ok (.aload_n 0, 1) := by decide +kernel
theorem d_LW_mayday_3 : decode c_LW_mayday 3 = .ok (.iload_n 1, 1) := by decide +kernel
theorem d_LW_mayday_4 : decode c_LW_mayday 4 = .ok (.iload_n 2, 1) := by decide +kernel
theorem d_LW_mayday_5 : decode c_LW_mayday 5 = .ok (.invokevirtual 56, 3) := by decide +kernel
theorem d_LW_mayday_8 : decode c_LW_mayday 8 = .ok (.i2l, 1) := by decide +kernel
theorem d_LW_mayday_9 : decode c_LW_mayday 9 = .ok (.lastore, 1) := by decide +kernel
theorem d_LW_mayday_10 : decode c_LW_mayday 10 = .ok (.goto 19, 3) := by decide +kernel
theorem d_LW_mayday_13 : decode c_LW_mayday 13 = .ok (.astore 4, 2) := by decide +kernel
theorem d_LW_mayday_15 : decode c_LW_mayday 15 = .ok (.iconst 1, 1) := by decide +kernel
theorem d_LW_mayday_16 : decode c_LW_mayday 16 = .ok (.ireturn, 1) := by decide +kernel
theorem d_LW_mayday_17 : decode c_LW_mayday 17 = .ok (.astore 4, 2) := by decide +kernel
theorem d_LW_mayday_19 : decode c_LW_mayday 19 = .ok (.iconst 2, 1) := by decide +kernel
theorem d_LW_mayday_20 : decode c_LW_mayday 20 = .ok (.ireturn, 1) := by decide +kernel
theorem d_LW_mayday_21 : decode c_LW_mayday 21 = .ok (.astore 4, 2) := by decide +kernel
theorem d_LW_mayday_23 : decode c_LW_mayday 23 = .ok (.iconst 3, 1) := by decide +kernel
theorem d_LW_mayday_24 : decode c_LW_mayday 24 = .ok (.ireturn, 1) := by decide +kernel
theorem d_LW_mayday_25 : decode c_LW_mayday 25 = .ok (.astore 4, 2) := by decide +kernel
theorem d_LW_mayday_27 : decode c_LW_mayday 27 = .ok (.iconst 4, 1) := by decide +kernel
theorem d_LW_mayday_28 : decode c_LW_mayday 28 = .ok (.ireturn, 1) := by decide +kernel
theorem d_LW_mayday_29 : decode c_LW_mayday 29 = .ok (.iconst 0, 1) := by decide +kernel
theorem d_LW_mayday_30 : decode c_LW_mayday 30 = .ok (.ireturn, 1) := by decide +kernel
theorem d_RC_mayday_0 : decode c_RC_mayday 0 = .ok (.aload_n 0, 1) := by decide +kernel
theorem d_RC_mayday_1 : decode c_RC_mayday 1 = .ok (.iload_n 1, 1) := by decide +kernel
theorem d_RC_mayday_2 : decode c_RC_mayday 2 = .ok (.invokevirtual 57, 3) := by decide +kernel
theorem d_RC_mayday_5 : decode c_RC_mayday 5 = .ok (.astore_n 3, 1) := by decide +kernel
theorem d_RC_mayday_6 : decode c_RC_mayday 6 = .ok (.iload_n 2, 1) := by decide +kernel
theorem d_RC_mayday_7 : decode c_RC_mayday 7 = .ok (.ifCond .lt 10, 3) := by decide +kernel
theorem d_RC_mayday_10 : decode c_RC_mayday 10 = .ok (.iload_n 2, 1) := by decide +kernel
theorem d_RC_mayday_11 : decode c_RC_mayday 11 = .ok (.sipush 999, 3) := by decide +kernel
theorem d_RC_mayday_14 : decode c_RC_mayday 14 = .ok (.if_icmp .le 13, 3) := by decide +kernel
theorem d_RC_mayday_17 : decode c_RC_mayday 17 = .ok (.new 82, 3) := by decide +kernel
theorem d_RC_mayday_20 : decode c_RC_mayday 20 = .ok (.dup, 1) := by decide +kernel
theorem d_RC_mayday_21 : decode c_RC_mayday 21 = .ok (.ldc 243, 2) := by decide +kernel
theorem d_RC_mayday_23 : decode c_RC_mayday 23 = .ok (.invokespecial 86, 3) := by decide +kernel
theorem d_RC_mayday_26 : decode c_RC_mayday 26 = .ok (.athrow, 1) := by decide +kernel
theorem d_RC_mayday_27 : decode c_RC_mayday 27 = .ok (.aload_n 3, 1) := by decide +kernel
theorem d_RC_mayday_28 : decode c_RC_mayday 28 = .ok (.getfield 65, 3) := by decide +kernel
theorem d_RC_mayday_31 : decode c_RC_mayday 31 = .ok (.iconst (-1), 1) := by decide +kernel
theorem d_RC_mayday_32 : decode c_RC_mayday 32 = .ok (.if_icmp .eq 11, 3) := by decide +kernel
theorem d_RC_mayday_35 : decode c_RC_mayday 35 = .ok (.aload_n 0, 1) := by decide +kernel
theorem d_RC_mayday_36 : decode c_RC_mayday 36 = .ok (.iload_n 1, 1) := by decide +kernel
theorem d_RC_mayday_37 : decode c_RC_mayday 37 = .ok (.invokevirtual 245, 3) := by decide +kernel
theorem d_RC_mayday_40 : decode c_RC_mayday 40 = .ok (.ifCond .eq 13, 3) := by decide +kernel
theorem d_RC_mayday_43 : decode c_RC_mayday 43 = .ok (.new 68, 3) := by decide +kernel
theorem d_RC_mayday_46 : decode c_RC_mayday 46 = .ok (.dup, 1) := by decide +kernel
theorem d_RC_mayday_47 : decode c_RC_mayday 47 = .ok (.ldc 248, 2) := by decide +kernel
theorem d_RC_mayday_49 : decode c_RC_mayday 49 = .ok (.invokespecial 72, 3) := by decide +kernel
theorem d_RC_mayday_52 : decode c_RC_mayday 52 = .ok (.athrow, 1) := by decide +kernel
theorem d_RC_mayday_53 : decode c_RC_mayday 53 = .ok (.aload_n 0, 1) := by decide +kernel
theorem d_RC_mayday_54 : decode c_RC_mayday 54 = .ok (.getfield 29, 3) := by decide +kernel
theorem d_RC_mayday_57 : decode c_RC_mayday 57 = .ok (.invokevirtual 39, 3) := by decide +kernel
theorem d_RC_mayday_60 : decode c_RC_mayday 60 = .ok (.bipush 30, 2) := by decide +kernel
theorem d_RC_mayday_62 : decode c_RC_mayday 62 = .ok (.if_icmp .lt 13, 3) := by decide +kernel
theorem d_RC_mayday_65 : decode c_RC_mayday 65 = .ok (.new 43, 3) := by decide +kernel
theorem d_RC_mayday_68 : decode c_RC_mayday 68 = .ok (.dup, 1) := by decide +kernel
theorem d_RC_mayday_69 : decode c_RC_mayday 69 = .ok (.ldc 250, 2) := by decide +kernel
theorem d_RC_mayday_71 : decode c_RC_mayday 71 = .ok (.invokespecial 47, 3) := by decide +kernel
theorem d_RC_mayday_74 : decode c_RC_mayday 74 = .ok (.athrow, 1) := by decide +kernel
theorem d_RC_mayday_75 : decode c_RC_mayday 75 = .ok (.aload_n 0, 1) := by decide +kernel
theorem d_RC_mayday_76 : decode c_RC_mayday 76 = .ok (.getfield 29, 3) := by decide +kernel
theorem d_RC_mayday_79 : decode c_RC_mayday 79 = .ok (.new 252, 3) := by decide +kernel
theorem d_RC_mayday_82 : decode c_RC_mayday 82 = .ok (.dup, 1) := by decide +kernel
theorem d_RC_mayday_83 : decode c_RC_mayday 83 = .ok (.iload_n 1, 1) := by decide +kernel
theorem d_RC_mayday_84 : decode c_RC_mayday 84 = .ok (.iload_n 2, 1) := by decide +kernel
theorem d_RC_mayday_85 : decode c_RC_mayday 85 = .ok (.aload_n 0, 1) := by decide +kernel
theorem d_RC_mayday_86 : decode c_RC_mayday 86 = .ok (.getfield 35, 3) := by decide +kernel
theorem d_RC_mayday_89 : decode c_RC_mayday 89 = .ok (.aload_n 0, 1) := by decide +kernel
theorem d_RC_mayday_90 : decode c_RC_mayday 90 = .ok (.invokevirtual 254, 3) := by decide +kernel
theorem d_RC_mayday_93 : decode c_RC_mayday 93 = .ok (.invokespecial 257, 3) := by decide +kernel
theorem d_RC_mayday_96 : decode c_RC_mayday 96 = .ok (.invokevirtual 53, 3) := by decide +kernel
theorem d_RC_mayday_99 : decode c_RC_mayday 99 = .ok (.pop, 1) := by decide +kernel
theorem d_RC_mayday_100 : decode c_RC_mayday 100 = .ok (.aload_n 0, 1) := by decide +kernel
theorem d_RC_mayday_101 : decode c_RC_mayday 101 = .ok (.getfield 29, 3) := by decide +kernel
theorem d_RC_mayday_104 : decode c_RC_mayday 104 = .ok (.invokevirtual 39, 3) := by decide +kernel
theorem d_RC_mayday_107 : decode c_RC_mayday 107 = .ok (.iconst 1, 1) := by decide +kernel
theorem d_RC_mayday_108 : decode c_RC_mayday 108 = .ok (.isub, 1) := by decide +kernel
theorem d_RC_mayday_109 : decode c_RC_mayday 109 = .ok (.ireturn, 1) := by decide +kernel
theorem d_RC_hasOpenMayday_0 : decode c_RC_hasOpenMayday 0 = .ok (.iconst 0, 1) := by decide +kernel
theorem d_RC_hasOpenMayday_1 : decode c_RC_hasOpenMayday 1 = .ok (.istore_n 2, 1) := by decide +kernel
theorem d_RC_hasOpenMayday_2 : decode c_RC_hasOpenMayday 2 = .ok (.iload_n 2, 1) := by decide +kernel
theorem d_RC_hasOpenMayday_3 : decode c_RC_hasOpenMayday 3 = .ok (.aload_n 0, 1) := by decide +kernel
theorem d_RC_hasOpenMayday_4 : decode c_RC_hasOpenMayday 4 = .ok (.getfield 29, 3) := by decide +kernel
theorem d_RC_hasOpenMayday_7 : decode c_RC_hasOpenMayday 7 = .ok (.invokevirtual 39, 3) := by decide +kernel
theorem d_RC_hasOpenMayday_10 : decode c_RC_hasOpenMayday 10 = .ok (.if_icmp .ge 38, 3) := by decide +kernel
theorem d_RC_hasOpenMayday_13 : decode c_RC_hasOpenMayday 13 = .ok (.aload_n 0, 1) := by decide +kernel
theorem d_RC_hasOpenMayday_14 : decode c_RC_hasOpenMayday 14 = .ok (.getfield 29, 3) := by decide +kernel
theorem d_RC_hasOpenMayday_17 : decode c_RC_hasOpenMayday 17 = .ok (.iload_n 2, 1) := by decide +kernel
theorem d_RC_hasOpenMayday_18 : decode c_RC_hasOpenMayday 18 = .ok (.invokevirtual 89, 3) := by decide +kernel
theorem d_RC_hasOpenMayday_21 : decode c_RC_hasOpenMayday 21 = .ok (.checkcast 252, 3) := by decide +kernel
theorem d_RC_hasOpenMayday_24 : decode c_RC_hasOpenMayday 24 = .ok (.astore_n 3, 1) := by decide +kernel
theorem d_RC_hasOpenMayday_25 : decode c_RC_hasOpenMayday 25 = .ok (.aload_n 3, 1) := by decide +kernel
theorem d_RC_hasOpenMayday_26 : decode c_RC_hasOpenMayday 26 = .ok (.getfield 262, 3) := by decide +kernel
theorem d_RC_hasOpenMayday_29 : decode c_RC_hasOpenMayday 29 = .ok (.ifCond .eq 13, 3) := by decide +kernel
theorem d_RC_hasOpenMayday_32 : decode c_RC_hasOpenMayday 32 = .ok (.aload_n 3, 1) := by decide +kernel
theorem d_RC_hasOpenMayday_33 : decode c_RC_hasOpenMayday 33 = .ok (.getfield 274, 3) := by decide +kernel
theorem d_RC_hasOpenMayday_36 : decode c_RC_hasOpenMayday 36 = .ok (.iload_n 1, 1) := by decide +kernel
theorem d_RC_hasOpenMayday_37 : decode c_RC_hasOpenMayday 37 = .ok (.if_icmp .ne 5, 3) := by decide +kernel
theorem d_RC_hasOpenMayday_40 : decode c_RC_hasOpenMayday 40 = .ok (.iconst 1, 1) := by decide +kernel
theorem d_RC_hasOpenMayday_41 : decode c_RC_hasOpenMayday 41 = .ok (.ireturn, 1) := by decide +kernel
theorem d_RC_hasOpenMayday_42 : decode c_RC_hasOpenMayday 42 = .ok (.iinc 2 1, 3) := by decide +kernel
theorem d_RC_hasOpenMayday_45 : decode c_RC_hasOpenMayday 45 = .ok (.goto (-43), 3) := by decide +kernel
theorem d_RC_hasOpenMayday_48 : decode c_RC_hasOpenMayday 48 = .ok (.iconst 0, 1) := by decide +kernel
theorem d_RC_hasOpenMayday_49 : decode c_RC_hasOpenMayday 49 = .ok (.ireturn, 1) := by decide +kernel
theorem d_RC_lowestFreeTeam_0 : decode c_RC_lowestFreeTeam 0 = .ok (.iconst 0, 1) := by decide +kernel
theorem d_RC_lowestFreeTeam_1 : decode c_RC_lowestFreeTeam 1 = .ok (.istore_n 1, 1) := by decide +kernel
theorem d_RC_lowestFreeTeam_2 : decode c_RC_lowestFreeTeam 2 = .ok (.iload_n 1, 1) := by decide +kernel
theorem d_RC_lowestFreeTeam_3 : decode c_RC_lowestFreeTeam 3 = .ok (.iconst 4, 1) := by decide +kernel
theorem d_RC_lowestFreeTeam_4 : decode c_RC_lowestFreeTeam 4 = .ok (.if_icmp .ge 19, 3) := by decide +kernel
theorem d_RC_lowestFreeTeam_7 : decode c_RC_lowestFreeTeam 7 = .ok (.aload_n 0, 1) := by decide +kernel
theorem d_RC_lowestFreeTeam_8 : decode c_RC_lowestFreeTeam 8 = .ok (.iload_n 1, 1) := by decide +kernel
theorem d_RC_lowestFreeTeam_9 : decode c_RC_lowestFreeTeam 9 = .ok (.invokevirtual 281, 3) := by decide +kernel
theorem d_RC_lowestFreeTeam_12 : decode c_RC_lowestFreeTeam 12 = .ok (.ifCond .ne 5, 3) := by decide +kernel
theorem d_RC_lowestFreeTeam_15 : decode c_RC_lowestFreeTeam 15 = .ok (.iload_n 1, 1) := by decide +kernel
theorem d_RC_lowestFreeTeam_16 : decode c_RC_lowestFreeTeam 16 = .ok (.ireturn, 1) := by decide +kernel
theorem d_RC_lowestFreeTeam_17 : decode c_RC_lowestFreeTeam 17 = .ok (.iinc 1 1, 3) := by decide +kernel
theorem d_RC_lowestFreeTeam_20 : decode c_RC_lowestFreeTeam 20 = .ok (.goto (-18), 3) := by decide +kernel
theorem d_RC_lowestFreeTeam_23 : decode c_RC_lowestFreeTeam 23 = .ok (.iconst (-1), 1) := by decide +kernel
theorem d_RC_lowestFreeTeam_24 : decode c_RC_lowestFreeTeam 24 = .ok (.ireturn, 1) := by decide +kernel
theorem d_RC_isSent_0 : decode c_RC_isSent 0 = .ok (.iconst 0, 1) := by decide +kernel
theorem d_RC_isSent_1 : decode c_RC_isSent 1 = .ok (.istore_n 2, 1) := by decide +kernel
theorem d_RC_isSent_2 : decode c_RC_isSent 2 = .ok (.iload_n 2, 1) := by decide +kernel
theorem d_RC_isSent_3 : decode c_RC_isSent 3 = .ok (.aload_n 0, 1) := by decide +kernel
theorem d_RC_isSent_4 : decode c_RC_isSent 4 = .ok (.getfield 29, 3) := by decide +kernel
theorem d_RC_isSent_7 : decode c_RC_isSent 7 = .ok (.invokevirtual 39, 3) := by decide +kernel
theorem d_RC_isSent_10 : decode c_RC_isSent 10 = .ok (.if_icmp .ge 29, 3) := by decide +kernel
theorem d_RC_isSent_13 : decode c_RC_isSent 13 = .ok (.aload_n 0, 1) := by decide +kernel
theorem d_RC_isSent_14 : decode c_RC_isSent 14 = .ok (.getfield 29, 3) := by decide +kernel
theorem d_RC_isSent_17 : decode c_RC_isSent 17 = .ok (.iload_n 2, 1) := by decide +kernel
theorem d_RC_isSent_18 : decode c_RC_isSent 18 = .ok (.invokevirtual 89, 3) := by decide +kernel
theorem d_RC_isSent_21 : decode c_RC_isSent 21 = .ok (.checkcast 252, 3) := by decide +kernel
theorem d_RC_isSent_24 : decode c_RC_isSent 24 = .ok (.getfield 268, 3) := by decide +kernel
theorem d_RC_isSent_27 : decode c_RC_isSent 27 = .ok (.iload_n 1, 1) := by decide +kernel
theorem d_RC_isSent_28 : decode c_RC_isSent 28 = .ok (.if_icmp .ne 5, 3) := by decide +kernel
theorem d_RC_isSent_31 : decode c_RC_isSent 31 = .ok (.iconst 1, 1) := by decide +kernel
theorem d_RC_isSent_32 : decode c_RC_isSent 32 = .ok (.ireturn, 1) := by decide +kernel
theorem d_RC_isSent_33 : decode c_RC_isSent 33 = .ok (.iinc 2 1, 3) := by decide +kernel
theorem d_RC_isSent_36 : decode c_RC_isSent 36 = .ok (.goto (-34), 3) := by decide +kernel
theorem d_RC_isSent_39 : decode c_RC_isSent 39 = .ok (.iconst 0, 1) := by decide +kernel
theorem d_RC_isSent_40 : decode c_RC_isSent 40 = .ok (.ireturn, 1) := by decide +kernel
theorem d_MD_init_0 : decode c_MD_init 0 = .ok (.aload_n 0, 1) := by decide +kernel
theorem d_MD_init_1 : decode c_MD_init 1 = .ok (.invokespecial 1, 3) := by decide +kernel
theorem d_MD_init_4 : decode c_MD_init 4 = .ok (.aload_n 0, 1) := by decide +kernel
theorem d_MD_init_5 : decode c_MD_init 5 = .ok (.iload_n 1, 1) := by decide +kernel
theorem d_MD_init_6 : decode c_MD_init 6 = .ok (.putfield 7, 3) := by decide +kernel
theorem d_MD_init_9 : decode c_MD_init 9 = .ok (.aload_n 0, 1) := by decide +kernel
theorem d_MD_init_10 : decode c_MD_init 10 = .ok (.iload_n 2, 1) := by decide +kernel
theorem d_MD_init_11 : decode c_MD_init 11 = .ok (.putfield 13, 3) := by decide +kernel
theorem d_MD_init_14 : decode c_MD_init 14 = .ok (.aload_n 0, 1) := by decide +kernel
theorem d_MD_init_15 : decode c_MD_init 15 = .ok (.iload_n 3, 1) := by decide +kernel
theorem d_MD_init_16 : decode c_MD_init 16 = .ok (.putfield 16, 3) := by decide +kernel
theorem d_MD_init_19 : decode c_MD_init 19 = .ok (.aload_n 0, 1) := by decide +kernel
theorem d_MD_init_20 : decode c_MD_init 20 = .ok (.iload 4, 2) := by decide +kernel
theorem d_MD_init_22 : decode c_MD_init 22 = .ok (.putfield 19, 3) := by decide +kernel
theorem d_MD_init_25 : decode c_MD_init 25 = .ok (.aload_n 0, 1) := by decide +kernel
theorem d_MD_init_26 : decode c_MD_init 26 = .ok (.iconst 1, 1) := by decide +kernel
theorem d_MD_init_27 : decode c_MD_init 27 = .ok (.putfield 22, 3) := by decide +kernel
theorem d_MD_init_30 : decode c_MD_init 30 = .ok (.return_, 1) := by decide +kernel
theorem d_LW_answered_0 : decode c_LW_answered 0 = .ok (.aload_n 0, 1) := by decide +kernel
theorem d_LW_answered_1 : decode c_LW_answered 1 = .ok (.iload_n 1, 1) := by decide +kernel
theorem d_LW_answered_2 : decode c_LW_answered 2 = .ok (.invokevirtual 59, 3) := by decide +kernel
theorem d_LW_answered_5 : decode c_LW_answered 5 = .ok (.goto 9, 3) := by decide +kernel
theorem d_LW_answered_8 : decode c_LW_answered 8 = .ok (.astore_n 2, 1) := by decide +kernel
theorem d_LW_answered_9 : decode c_LW_answered 9 = .ok (.iconst 1, 1) := by decide +kernel
theorem d_LW_answered_10 : decode c_LW_answered 10 = .ok (.ireturn, 1) := by decide +kernel
theorem d_LW_answered_11 : decode c_LW_answered 11 = .ok (.astore_n 2, 1) := by decide +kernel
theorem d_LW_answered_12 : decode c_LW_answered 12 = .ok (.iconst 2, 1) := by decide +kernel
theorem d_LW_answered_13 : decode c_LW_answered 13 = .ok (.ireturn, 1) := by decide +kernel
theorem d_LW_answered_14 : decode c_LW_answered 14 = .ok (.iconst 0, 1) := by decide +kernel
theorem d_LW_answered_15 : decode c_LW_answered 15 = .ok (.ireturn, 1) := by decide +kernel
theorem d_RC_answered_0 : decode c_RC_answered 0 = .ok (.aload_n 0, 1) := by decide +kernel
theorem d_RC_answered_1 : decode c_RC_answered 1 = .ok (.iload_n 1, 1) := by decide +kernel
theorem d_RC_answered_2 : decode c_RC_answered 2 = .ok (.invokevirtual 258, 3) := by decide +kernel
theorem d_RC_answered_5 : decode c_RC_answered 5 = .ok (.astore_n 2, 1) := by decide +kernel
theorem d_RC_answered_6 : decode c_RC_answered 6 = .ok (.aload_n 2, 1) := by decide +kernel
theorem d_RC_answered_7 : decode c_RC_answered 7 = .ok (.getfield 262, 3) := by decide +kernel
theorem d_RC_answered_10 : decode c_RC_answered 10 = .ok (.ifCond .ne 14, 3) := by decide +kernel
theorem d_RC_answered_13 : decode c_RC_answered 13 = .ok (.new 68, 3) := by decide +kernel
theorem d_RC_answered_16 : decode c_RC_answered 16 = .ok (.dup, 1) := by decide +kernel
theorem d_RC_answered_17 : decode c_RC_answered 17 = .ok (.ldc_w 266, 3) := by decide +kernel
theorem d_RC_answered_20 : decode c_RC_answered 20 = .ok (.invokespecial 72, 3) := by decide +kernel
theorem d_RC_answered_23 : decode c_RC_answered 23 = .ok (.athrow, 1) := by decide +kernel
theorem d_RC_answered_24 : decode c_RC_answered 24 = .ok (.aload_n 2, 1) := by decide +kernel
theorem d_RC_answered_25 : decode c_RC_answered 25 = .ok (.getfield 268, 3) := by decide +kernel
theorem d_RC_answered_28 : decode c_RC_answered 28 = .ok (.istore_n 3, 1) := by decide +kernel
theorem d_RC_answered_29 : decode c_RC_answered 29 = .ok (.aload_n 2, 1) := by decide +kernel
theorem d_RC_answered_30 : decode c_RC_answered 30 = .ok (.iconst 0, 1) := by decide +kernel
theorem d_RC_answered_31 : decode c_RC_answered 31 = .ok (.putfield 262, 3) := by decide +kernel
theorem d_RC_answered_34 : decode c_RC_answered 34 = .ok (.aload_n 2, 1) := by decide +kernel
theorem d_RC_answered_35 : decode c_RC_answered 35 = .ok (.iconst (-1), 1) := by decide +kernel
theorem d_RC_answered_36 : decode c_RC_answered 36 = .ok (.putfield 268, 3) := by decide +kernel
theorem d_RC_answered_39 : decode c_RC_answered 39 = .ok (.iload_n 3, 1) := by decide +kernel
theorem d_RC_answered_40 : decode c_RC_answered 40 = .ok (.iconst (-1), 1) := by decide +kernel
theorem d_RC_answered_41 : decode c_RC_answered 41 = .ok (.if_icmp .eq 8, 3) := by decide +kernel
theorem d_RC_answered_44 : decode c_RC_answered 44 = .ok (.aload_n 0, 1) := by decide +kernel
theorem d_RC_answered_45 : decode c_RC_answered 45 = .ok (.iload_n 3, 1) := by decide +kernel
theorem d_RC_answered_46 : decode c_RC_answered 46 = .ok (.invokevirtual 271, 3) := by decide +kernel
theorem d_RC_answered_49 : decode c_RC_answered 49 = .ok (.return_, 1) := by decide +kernel
theorem d_RC_knownMayday_0 : decode c_RC_knownMayday 0 = .ok (.iload_n 1, 1) := by decide +kernel
theorem d_RC_knownMayday_1 : decode c_RC_knownMayday 1 = .ok (.ifCond .lt 14, 3) := by decide +kernel
theorem d_RC_knownMayday_4 : decode c_RC_knownMayday 4 = .ok (.iload_n 1, 1) := by decide +kernel
theorem d_RC_knownMayday_5 : decode c_RC_knownMayday 5 = .ok (.aload_n 0, 1) := by decide +kernel
theorem d_RC_knownMayday_6 : decode c_RC_knownMayday 6 = .ok (.getfield 29, 3) := by decide +kernel
theorem d_RC_knownMayday_9 : decode c_RC_knownMayday 9 = .ok (.invokevirtual 39, 3) := by decide +kernel
theorem d_RC_knownMayday_12 : decode c_RC_knownMayday 12 = .ok (.if_icmp .lt 14, 3) := by decide +kernel
theorem d_RC_knownMayday_15 : decode c_RC_knownMayday 15 = .ok (.new 100, 3) := by decide +kernel
theorem d_RC_knownMayday_18 : decode c_RC_knownMayday 18 = .ok (.dup, 1) := by decide +kernel
theorem d_RC_knownMayday_19 : decode c_RC_knownMayday 19 = .ok (.ldc_w 279, 3) := by decide +kernel
theorem d_RC_knownMayday_22 : decode c_RC_knownMayday 22 = .ok (.invokespecial 104, 3) := by decide +kernel
theorem d_RC_knownMayday_25 : decode c_RC_knownMayday 25 = .ok (.athrow, 1) := by decide +kernel
theorem d_RC_knownMayday_26 : decode c_RC_knownMayday 26 = .ok (.aload_n 0, 1) := by decide +kernel
theorem d_RC_knownMayday_27 : decode c_RC_knownMayday 27 = .ok (.getfield 29, 3) := by decide +kernel
theorem d_RC_knownMayday_30 : decode c_RC_knownMayday 30 = .ok (.iload_n 1, 1) := by decide +kernel
theorem d_RC_knownMayday_31 : decode c_RC_knownMayday 31 = .ok (.invokevirtual 89, 3) := by decide +kernel
theorem d_RC_knownMayday_34 : decode c_RC_knownMayday 34 = .ok (.checkcast 252, 3) := by decide +kernel
theorem d_RC_knownMayday_37 : decode c_RC_knownMayday 37 = .ok (.areturn, 1) := by decide +kernel
theorem d_RC_sendToLowestWaiting_0 : decode c_RC_sendToLowestWaiting 0 = .ok (.iconst 0, 1) := by decide +kernel
theorem d_RC_sendToLowestWaiting_1 : decode c_RC_sendToLowestWaiting 1 = .ok (.istore_n 2, 1) := by decide +kernel
theorem d_RC_sendToLowestWaiting_2 : decode c_RC_sendToLowestWaiting 2 = .ok (.iload_n 2, 1) := by decide +kernel
theorem d_RC_sendToLowestWaiting_3 : decode c_RC_sendToLowestWaiting 3 = .ok (.aload_n 0, 1) := by decide +kernel
theorem d_RC_sendToLowestWaiting_4 : decode c_RC_sendToLowestWaiting 4 = .ok (.getfield 29, 3) := by decide +kernel
theorem d_RC_sendToLowestWaiting_7 : decode c_RC_sendToLowestWaiting 7 = .ok (.invokevirtual 39, 3) := by decide +kernel
theorem d_RC_sendToLowestWaiting_10 : decode c_RC_sendToLowestWaiting 10 = .ok (.if_icmp .ge 42, 3) := by decide +kernel
theorem d_RC_sendToLowestWaiting_13 : decode c_RC_sendToLowestWaiting 13 = .ok (.aload_n 0, 1) := by decide +kernel
theorem d_RC_sendToLowestWaiting_14 : decode c_RC_sendToLowestWaiting 14 = .ok (.getfield 29, 3) := by decide +kernel
theorem d_RC_sendToLowestWaiting_17 : decode c_RC_sendToLowestWaiting 17 = .ok (.iload_n 2, 1) := by decide +kernel
theorem d_RC_sendToLowestWaiting_18 : decode c_RC_sendToLowestWaiting 18 = .ok (.invokevirtual 89, 3) := by decide +kernel
theorem d_RC_sendToLowestWaiting_21 : decode c_RC_sendToLowestWaiting 21 = .ok (.checkcast 252, 3) := by decide +kernel
theorem d_RC_sendToLowestWaiting_24 : decode c_RC_sendToLowestWaiting 24 = .ok (.astore_n 3, 1) := by decide +kernel
theorem d_RC_sendToLowestWaiting_25 : decode c_RC_sendToLowestWaiting 25 = .ok (.aload_n 3, 1) := by decide +kernel
theorem d_RC_sendToLowestWaiting_26 : decode c_RC_sendToLowestWaiting 26 = .ok (.getfield 262, 3) := by decide +kernel
theorem d_RC_sendToLowestWaiting_29 : decode c_RC_sendToLowestWaiting 29 = .ok (.ifCond .eq 17, 3) := by decide +kernel
theorem d_RC_sendToLowestWaiting_32 : decode c_RC_sendToLowestWaiting 32 = .ok (.aload_n 3, 1) := by decide +kernel
theorem d_RC_sendToLowestWaiting_33 : decode c_RC_sendToLowestWaiting 33 = .ok (.getfield 268, 3) := by decide +kernel
theorem d_RC_sendToLowestWaiting_36 : decode c_RC_sendToLowestWaiting 36 = .ok (.iconst (-1), 1) := by decide +kernel
theorem d_RC_sendToLowestWaiting_37 : decode c_RC_sendToLowestWaiting 37 = .ok (.if_icmp .ne 9, 3) := by decide +kernel
theorem d_RC_sendToLowestWaiting_40 : decode c_RC_sendToLowestWaiting 40 = .ok (.aload_n 3, 1) := by decide +kernel
theorem d_RC_sendToLowestWaiting_41 : decode c_RC_sendToLowestWaiting 41 = .ok (.iload_n 1, 1) := by decide +kernel
theorem d_RC_sendToLowestWaiting_42 : decode c_RC_sendToLowestWaiting 42 = .ok (.putfield 268, 3) := by decide +kernel
theorem d_RC_sendToLowestWaiting_45 : decode c_RC_sendToLowestWaiting 45 = .ok (.return_, 1) := by decide +kernel
theorem d_RC_sendToLowestWaiting_46 : decode c_RC_sendToLowestWaiting 46 = .ok (.iinc 2 1, 3) := by decide +kernel
theorem d_RC_sendToLowestWaiting_49 : decode c_RC_sendToLowestWaiting 49 = .ok (.goto (-47), 3) := by decide +kernel
theorem d_RC_sendToLowestWaiting_52 : decode c_RC_sendToLowestWaiting 52 = .ok (.return_, 1) := by decide +kernel
theorem d_LW_maydayAt_0 : decode c_LW_maydayAt 0 = .ok (.aload_n 3, 1) := by decide +kernel
theorem d_LW_maydayAt_1 : decode c_LW_maydayAt 1 = .ok (.iconst 0, 1) := by decide +kernel
theorem d_LW_maydayAt_2 : decode c_LW_maydayAt 2 = .ok (.aload_n 0, 1) := by decide +kernel
theorem d_LW_maydayAt_3 : decode c_LW_maydayAt 3 = .ok (.iload_n 1, 1) := by decide +kernel
theorem d_LW_maydayAt_4 : decode c_LW_maydayAt 4 = .ok (.iload_n 2, 1) := by decide +kernel
theorem d_LW_maydayAt_5 : decode c_LW_maydayAt 5 = .ok (.invokevirtual 62, 3) := by decide +kernel
theorem d_LW_maydayAt_8 : decode c_LW_maydayAt 8 = .ok (.i2l, 1) := by decide +kernel
theorem d_LW_maydayAt_9 : decode c_LW_maydayAt 9 = .ok (.lastore, 1) := by decide +kernel
theorem d_LW_maydayAt_10 : decode c_LW_maydayAt 10 = .ok (.goto 7, 3) := by decide +kernel
theorem d_LW_maydayAt_13 : decode c_LW_maydayAt 13 = .ok (.astore 4, 2) := by decide +kernel
theorem d_LW_maydayAt_15 : decode c_LW_maydayAt 15 = .ok (.iconst 1, 1) := by decide +kernel
theorem d_LW_maydayAt_16 : decode c_LW_maydayAt 16 = .ok (.ireturn, 1) := by decide +kernel
theorem d_LW_maydayAt_17 : decode c_LW_maydayAt 17 = .ok (.iconst 0, 1) := by decide +kernel
theorem d_LW_maydayAt_18 : decode c_LW_maydayAt 18 = .ok (.ireturn, 1) := by decide +kernel
theorem d_RC_maydayAt_0 : decode c_RC_maydayAt 0 = .ok (.aload_n 0, 1) := by decide +kernel
theorem d_RC_maydayAt_1 : decode c_RC_maydayAt 1 = .ok (.iload_n 1, 1) := by decide +kernel
theorem d_RC_maydayAt_2 : decode c_RC_maydayAt 2 = .ok (.invokevirtual 258, 3) := by decide +kernel
theorem d_RC_maydayAt_5 : decode c_RC_maydayAt 5 = .ok (.astore_n 3, 1) := by decide +kernel
theorem d_RC_maydayAt_6 : decode c_RC_maydayAt 6 = .ok (.iload_n 2, 1) := by decide +kernel
theorem d_RC_maydayAt_7 : decode c_RC_maydayAt 7 = .ok (.tableswitch 66 0 4 #[33, 46, 51, 56, 61], 33) := by decide +kernel
theorem d_RC_maydayAt_40 : decode c_RC_maydayAt 40 = .ok (.aload_n 3, 1) := by decide +kernel
theorem d_RC_maydayAt_41 : decode c_RC_maydayAt 41 = .ok (.getfield 262, 3) := by decide +kernel
theorem d_RC_maydayAt_44 : decode c_RC_maydayAt 44 = .ok (.ifCond .eq 7, 3) := by decide +kernel
theorem d_RC_maydayAt_47 : decode c_RC_maydayAt 47 = .ok (.iconst 1, 1) := by decide +kernel
theorem d_RC_maydayAt_48 : decode c_RC_maydayAt 48 = .ok (.goto 4, 3) := by decide +kernel
theorem d_RC_maydayAt_51 : decode c_RC_maydayAt 51 = .ok (.iconst 0, 1) := by decide +kernel
theorem d_RC_maydayAt_52 : decode c_RC_maydayAt 52 = .ok (.ireturn, 1) := by decide +kernel
theorem d_RC_maydayAt_53 : decode c_RC_maydayAt 53 = .ok (.aload_n 3, 1) := by decide +kernel
theorem d_RC_maydayAt_54 : decode c_RC_maydayAt 54 = .ok (.getfield 268, 3) := by decide +kernel
theorem d_RC_maydayAt_57 : decode c_RC_maydayAt 57 = .ok (.ireturn, 1) := by decide +kernel
theorem d_RC_maydayAt_58 : decode c_RC_maydayAt 58 = .ok (.aload_n 3, 1) := by decide +kernel
theorem d_RC_maydayAt_59 : decode c_RC_maydayAt 59 = .ok (.getfield 274, 3) := by decide +kernel
theorem d_RC_maydayAt_62 : decode c_RC_maydayAt 62 = .ok (.ireturn, 1) := by decide +kernel
theorem d_RC_maydayAt_63 : decode c_RC_maydayAt 63 = .ok (.aload_n 3, 1) := by decide +kernel
theorem d_RC_maydayAt_64 : decode c_RC_maydayAt 64 = .ok (.getfield 275, 3) := by decide +kernel
theorem d_RC_maydayAt_67 : decode c_RC_maydayAt 67 = .ok (.ireturn, 1) := by decide +kernel
theorem d_RC_maydayAt_68 : decode c_RC_maydayAt 68 = .ok (.aload_n 3, 1) := by decide +kernel
theorem d_RC_maydayAt_69 : decode c_RC_maydayAt 69 = .ok (.getfield 278, 3) := by decide +kernel
theorem d_RC_maydayAt_72 : decode c_RC_maydayAt 72 = .ok (.ireturn, 1) := by decide +kernel
theorem d_RC_maydayAt_73 : decode c_RC_maydayAt 73 = .ok (.new 100, 3) := by decide +kernel
theorem d_RC_maydayAt_76 : decode c_RC_maydayAt 76 = .ok (.dup, 1) := by decide +kernel
theorem d_RC_maydayAt_77 : decode c_RC_maydayAt 77 = .ok (.ldc 203, 2) := by decide +kernel
theorem d_RC_maydayAt_79 : decode c_RC_maydayAt 79 = .ok (.invokespecial 104, 3) := by decide +kernel
theorem d_RC_maydayAt_82 : decode c_RC_maydayAt 82 = .ok (.athrow, 1) := by decide +kernel
theorem d_LW_evacuate_0 : decode c_LW_evacuate 0 = .ok (.aload_n 2, 1) := by decide +kernel
theorem d_LW_evacuate_1 : decode c_LW_evacuate 1 = .ok (.iconst 0, 1) := by decide +kernel
theorem d_LW_evacuate_2 : decode c_LW_evacuate 2 = .ok (.aload_n 0, 1) := by decide +kernel
theorem d_LW_evacuate_3 : decode c_LW_evacuate 3 = .ok (.iload_n 1, 1) := by decide +kernel
theorem d_LW_evacuate_4 : decode c_LW_evacuate 4 = .ok (.invokevirtual 65, 3) := by decide +kernel
theorem d_LW_evacuate_7 : decode c_LW_evacuate 7 = .ok (.i2l, 1) := by decide +kernel
theorem d_LW_evacuate_8 : decode c_LW_evacuate 8 = .ok (.lastore, 1) := by decide +kernel
theorem d_LW_evacuate_9 : decode c_LW_evacuate 9 = .ok (.goto 12, 3) := by decide +kernel
theorem d_LW_evacuate_12 : decode c_LW_evacuate 12 = .ok (.astore_n 3, 1) := by decide +kernel
theorem d_LW_evacuate_13 : decode c_LW_evacuate 13 = .ok (.iconst 1, 1) := by decide +kernel
theorem d_LW_evacuate_14 : decode c_LW_evacuate 14 = .ok (.ireturn, 1) := by decide +kernel
theorem d_LW_evacuate_15 : decode c_LW_evacuate 15 = .ok (.astore_n 3, 1) := by decide +kernel
theorem d_LW_evacuate_16 : decode c_LW_evacuate 16 = .ok (.iconst 2, 1) := by decide +kernel
theorem d_LW_evacuate_17 : decode c_LW_evacuate 17 = .ok (.ireturn, 1) := by decide +kernel
theorem d_LW_evacuate_18 : decode c_LW_evacuate 18 = .ok (.astore_n 3, 1) := by decide +kernel
theorem d_LW_evacuate_19 : decode c_LW_evacuate 19 = .ok (.iconst 3, 1) := by decide +kernel
theorem d_LW_evacuate_20 : decode c_LW_evacuate 20 = .ok (.ireturn, 1) := by decide +kernel
theorem d_LW_evacuate_21 : decode c_LW_evacuate 21 = .ok (.iconst 0, 1) := by decide +kernel
theorem d_LW_evacuate_22 : decode c_LW_evacuate 22 = .ok (.ireturn, 1) := by decide +kernel
theorem d_RC_evacuate_0 : decode c_RC_evacuate 0 = .ok (.iload_n 1, 1) := by decide +kernel
theorem d_RC_evacuate_1 : decode c_RC_evacuate 1 = .ok (.iconst 1, 1) := by decide +kernel
theorem d_RC_evacuate_2 : decode c_RC_evacuate 2 = .ok (.if_icmp .lt 10, 3) := by decide +kernel
theorem d_RC_evacuate_5 : decode c_RC_evacuate 5 = .ok (.iload_n 1, 1) := by decide +kernel
theorem d_RC_evacuate_6 : decode c_RC_evacuate 6 = .ok (.sipush 10000, 3) := by decide +kernel
theorem d_RC_evacuate_9 : decode c_RC_evacuate 9 = .ok (.if_icmp .le 14, 3) := by decide +kernel
theorem d_RC_evacuate_12 : decode c_RC_evacuate 12 = .ok (.new 82, 3) := by decide +kernel
theorem d_RC_evacuate_15 : decode c_RC_evacuate 15 = .ok (.dup, 1) := by decide +kernel
theorem d_RC_evacuate_16 : decode c_RC_evacuate 16 = .ok (.ldc_w 284, 3) := by decide +kernel
theorem d_RC_evacuate_19 : decode c_RC_evacuate 19 = .ok (.invokespecial 86, 3) := by decide +kernel
theorem d_RC_evacuate_22 : decode c_RC_evacuate 22 = .ok (.athrow, 1) := by decide +kernel
theorem d_RC_evacuate_23 : decode c_RC_evacuate 23 = .ok (.aload_n 0, 1) := by decide +kernel
theorem d_RC_evacuate_24 : decode c_RC_evacuate 24 = .ok (.invokevirtual 286, 3) := by decide +kernel
theorem d_RC_evacuate_27 : decode c_RC_evacuate 27 = .ok (.ifCond .eq 14, 3) := by decide +kernel
theorem d_RC_evacuate_30 : decode c_RC_evacuate 30 = .ok (.new 68, 3) := by decide +kernel
theorem d_RC_evacuate_33 : decode c_RC_evacuate 33 = .ok (.dup, 1) := by decide +kernel
theorem d_RC_evacuate_34 : decode c_RC_evacuate 34 = .ok (.ldc_w 289, 3) := by decide +kernel
theorem d_RC_evacuate_37 : decode c_RC_evacuate 37 = .ok (.invokespecial 72, 3) := by decide +kernel
theorem d_RC_evacuate_40 : decode c_RC_evacuate 40 = .ok (.athrow, 1) := by decide +kernel
theorem d_RC_evacuate_41 : decode c_RC_evacuate 41 = .ok (.new 291, 3) := by decide +kernel
theorem d_RC_evacuate_44 : decode c_RC_evacuate 44 = .ok (.dup, 1) := by decide +kernel
theorem d_RC_evacuate_45 : decode c_RC_evacuate 45 = .ok (.aload_n 0, 1) := by decide +kernel
theorem d_RC_evacuate_46 : decode c_RC_evacuate 46 = .ok (.getfield 35, 3) := by decide +kernel
theorem d_RC_evacuate_49 : decode c_RC_evacuate 49 = .ok (.iload_n 1, 1) := by decide +kernel
theorem d_RC_evacuate_50 : decode c_RC_evacuate 50 = .ok (.iadd, 1) := by decide +kernel
theorem d_RC_evacuate_51 : decode c_RC_evacuate 51 = .ok (.invokespecial 293, 3) := by decide +kernel
theorem d_RC_evacuate_54 : decode c_RC_evacuate 54 = .ok (.astore_n 2, 1) := by decide +kernel
theorem d_RC_evacuate_55 : decode c_RC_evacuate 55 = .ok (.aload_n 0, 1) := by decide +kernel
theorem d_RC_evacuate_56 : decode c_RC_evacuate 56 = .ok (.aload_n 2, 1) := by decide +kernel
theorem d_RC_evacuate_57 : decode c_RC_evacuate 57 = .ok (.invokevirtual 295, 3) := by decide +kernel
theorem d_RC_evacuate_60 : decode c_RC_evacuate 60 = .ok (.aload_n 2, 1) := by decide +kernel
theorem d_RC_evacuate_61 : decode c_RC_evacuate 61 = .ok (.getfield 299, 3) := by decide +kernel
theorem d_RC_evacuate_64 : decode c_RC_evacuate 64 = .ok (.ifCond .ne 14, 3) := by decide +kernel
theorem d_RC_evacuate_67 : decode c_RC_evacuate 67 = .ok (.new 68, 3) := by decide +kernel
theorem d_RC_evacuate_70 : decode c_RC_evacuate 70 = .ok (.dup, 1) := by decide +kernel
theorem d_RC_evacuate_71 : decode c_RC_evacuate 71 = .ok (.ldc_w 302, 3) := by decide +kernel
theorem d_RC_evacuate_74 : decode c_RC_evacuate 74 = .ok (.invokespecial 72, 3) := by decide +kernel
theorem d_RC_evacuate_77 : decode c_RC_evacuate 77 = .ok (.athrow, 1) := by decide +kernel
theorem d_RC_evacuate_78 : decode c_RC_evacuate 78 = .ok (.aload_n 0, 1) := by decide +kernel
theorem d_RC_evacuate_79 : decode c_RC_evacuate 79 = .ok (.getfield 32, 3) := by decide +kernel
theorem d_RC_evacuate_82 : decode c_RC_evacuate 82 = .ok (.invokevirtual 39, 3) := by decide +kernel
theorem d_RC_evacuate_85 : decode c_RC_evacuate 85 = .ok (.bipush 20, 2) := by decide +kernel
theorem d_RC_evacuate_87 : decode c_RC_evacuate 87 = .ok (.if_icmp .lt 14, 3) := by decide +kernel
theorem d_RC_evacuate_90 : decode c_RC_evacuate 90 = .ok (.new 43, 3) := by decide +kernel
theorem d_RC_evacuate_93 : decode c_RC_evacuate 93 = .ok (.dup, 1) := by decide +kernel
theorem d_RC_evacuate_94 : decode c_RC_evacuate 94 = .ok (.ldc_w 304, 3) := by decide +kernel
theorem d_RC_evacuate_97 : decode c_RC_evacuate 97 = .ok (.invokespecial 47, 3) := by decide +kernel
theorem d_RC_evacuate_100 : decode c_RC_evacuate 100 = .ok (.athrow, 1) := by decide +kernel
theorem d_RC_evacuate_101 : decode c_RC_evacuate 101 = .ok (.aload_n 0, 1) := by decide +kernel
theorem d_RC_evacuate_102 : decode c_RC_evacuate 102 = .ok (.getfield 32, 3) := by decide +kernel
theorem d_RC_evacuate_105 : decode c_RC_evacuate 105 = .ok (.aload_n 2, 1) := by decide +kernel
theorem d_RC_evacuate_106 : decode c_RC_evacuate 106 = .ok (.invokevirtual 53, 3) := by decide +kernel
theorem d_RC_evacuate_109 : decode c_RC_evacuate 109 = .ok (.pop, 1) := by decide +kernel
theorem d_RC_evacuate_110 : decode c_RC_evacuate 110 = .ok (.aload_n 0, 1) := by decide +kernel
theorem d_RC_evacuate_111 : decode c_RC_evacuate 111 = .ok (.getfield 32, 3) := by decide +kernel
theorem d_RC_evacuate_114 : decode c_RC_evacuate 114 = .ok (.invokevirtual 39, 3) := by decide +kernel
theorem d_RC_evacuate_117 : decode c_RC_evacuate 117 = .ok (.iconst 1, 1) := by decide +kernel
theorem d_RC_evacuate_118 : decode c_RC_evacuate 118 = .ok (.isub, 1) := by decide +kernel
theorem d_RC_evacuate_119 : decode c_RC_evacuate 119 = .ok (.ireturn, 1) := by decide +kernel
