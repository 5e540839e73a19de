theorem d_MM_serve_0 : decode c_MM_serve 0 = .ok (.iconst 0, 1) := by decide +kernel
theorem d_MM_serve_1 : decode c_MM_serve 1 = .ok (.istore_n 1, 1) := by decide +kernel
theorem d_MM_serve_2 : decode c_MM_serve 2 = .ok (.iload_n 1, 1) := by decide +kernel
theorem d_MM_serve_3 : decode c_MM_serve 3 = .ok (.aload_n 0, 1) := by decide +kernel
theorem d_MM_serve_4 : decode c_MM_serve 4 = .ok (.getfield 116, 3) := by decide +kernel
theorem d_MM_serve_7 : decode c_MM_serve 7 = .ok (.if_icmp .ge 94, 3) := by decide +kernel
theorem d_MM_serve_10 : decode c_MM_serve 10 = .ok (.iconst 0, 1) := by decide +kernel
theorem d_MM_serve_11 : decode c_MM_serve 11 = .ok (.istore_n 2, 1) := by decide +kernel
theorem d_MM_serve_12 : decode c_MM_serve 12 = .ok (.iload_n 2, 1) := by decide +kernel
theorem d_MM_serve_13 : decode c_MM_serve 13 = .ok (.iconst 4, 1) := by decide +kernel
theorem d_MM_serve_14 : decode c_MM_serve 14 = .ok (.if_icmp .ge 81, 3) := by decide +kernel
theorem d_MM_serve_17 : decode c_MM_serve 17 = .ok (.aload_n 0, 1) := by decide +kernel
theorem d_MM_serve_18 : decode c_MM_serve 18 = .ok (.getfield 53, 3) := by decide +kernel
theorem d_MM_serve_21 : decode c_MM_serve 21 = .ok (.iload_n 1, 1) := by decide +kernel
theorem d_MM_serve_22 : decode c_MM_serve 22 = .ok (.baload, 1) := by decide +kernel
theorem d_MM_serve_23 : decode c_MM_serve 23 = .ok (.ifCond .eq 72, 3) := by decide +kernel
theorem d_MM_serve_26 : decode c_MM_serve 26 = .ok (.aload_n 0, 1) := by decide +kernel
theorem d_MM_serve_27 : decode c_MM_serve 27 = .ok (.getfield 56, 3) := by decide +kernel
theorem d_MM_serve_30 : decode c_MM_serve 30 = .ok (.iload_n 1, 1) := by decide +kernel
theorem d_MM_serve_31 : decode c_MM_serve 31 = .ok (.iaload, 1) := by decide +kernel
theorem d_MM_serve_32 : decode c_MM_serve 32 = .ok (.ifCond .ge 63, 3) := by decide +kernel
theorem d_MM_serve_35 : decode c_MM_serve 35 = .ok (.iconst 1, 1) := by decide +kernel
theorem d_MM_serve_36 : decode c_MM_serve 36 = .ok (.istore_n 3, 1) := by decide +kernel
theorem d_MM_serve_37 : decode c_MM_serve 37 = .ok (.iconst 0, 1) := by decide +kernel
theorem d_MM_serve_38 : decode c_MM_serve 38 = .ok (.istore 4, 2) := by decide +kernel
theorem d_MM_serve_40 : decode c_MM_serve 40 = .ok (.iload 4, 2) := by decide +kernel
theorem d_MM_serve_42 : decode c_MM_serve 42 = .ok (.aload_n 0, 1) := by decide +kernel
theorem d_MM_serve_43 : decode c_MM_serve 43 = .ok (.getfield 116, 3) := by decide +kernel
theorem d_MM_serve_46 : decode c_MM_serve 46 = .ok (.if_icmp .ge 32, 3) := by decide +kernel
theorem d_MM_serve_49 : decode c_MM_serve 49 = .ok (.aload_n 0, 1) := by decide +kernel
theorem d_MM_serve_50 : decode c_MM_serve 50 = .ok (.getfield 53, 3) := by decide +kernel
theorem d_MM_serve_53 : decode c_MM_serve 53 = .ok (.iload 4, 2) := by decide +kernel
theorem d_MM_serve_55 : decode c_MM_serve 55 = .ok (.baload, 1) := by decide +kernel
theorem d_MM_serve_56 : decode c_MM_serve 56 = .ok (.ifCond .eq 16, 3) := by decide +kernel
theorem d_MM_serve_59 : decode c_MM_serve 59 = .ok (.aload_n 0, 1) := by decide +kernel
theorem d_MM_serve_60 : decode c_MM_serve 60 = .ok (.getfield 56, 3) := by decide +kernel
theorem d_MM_serve_63 : decode c_MM_serve 63 = .ok (.iload 4, 2) := by decide +kernel
theorem d_MM_serve_65 : decode c_MM_serve 65 = .ok (.iaload, 1) := by decide +kernel
theorem d_MM_serve_66 : decode c_MM_serve 66 = .ok (.iload_n 2, 1) := by decide +kernel
theorem d_MM_serve_67 : decode c_MM_serve 67 = .ok (.if_icmp .ne 5, 3) := by decide +kernel
theorem d_MM_serve_70 : decode c_MM_serve 70 = .ok (.iconst 0, 1) := by decide +kernel
theorem d_MM_serve_71 : decode c_MM_serve 71 = .ok (.istore_n 3, 1) := by decide +kernel
theorem d_MM_serve_72 : decode c_MM_serve 72 = .ok (.iinc 4 1, 3) := by decide +kernel
theorem d_MM_serve_75 : decode c_MM_serve 75 = .ok (.goto (-35), 3) := by decide +kernel
theorem d_MM_serve_78 : decode c_MM_serve 78 = .ok (.iload_n 3, 1) := by decide +kernel
theorem d_MM_serve_79 : decode c_MM_serve 79 = .ok (.ifCond .eq 10, 3) := by decide +kernel
theorem d_MM_serve_82 : decode c_MM_serve 82 = .ok (.aload_n 0, 1) := by decide +kernel
theorem d_MM_serve_83 : decode c_MM_serve 83 = .ok (.getfield 56, 3) := by decide +kernel
theorem d_MM_serve_86 : decode c_MM_serve 86 = .ok (.iload_n 1, 1) := by decide +kernel
theorem d_MM_serve_87 : decode c_MM_serve 87 = .ok (.iload_n 2, 1) := by decide +kernel
theorem d_MM_serve_88 : decode c_MM_serve 88 = .ok (.iastore, 1) := by decide +kernel
theorem d_MM_serve_89 : decode c_MM_serve 89 = .ok (.iinc 2 1, 3) := by decide +kernel
theorem d_MM_serve_92 : decode c_MM_serve 92 = .ok (.goto (-80), 3) := by decide +kernel
theorem d_MM_serve_95 : decode c_MM_serve 95 = .ok (.iinc 1 1, 3) := by decide +kernel
theorem d_MM_serve_98 : decode c_MM_serve 98 = .ok (.goto (-96), 3) := by decide +kernel
theorem d_MM_serve_101 : decode c_MM_serve 101 = .ok (.return_, 1) := by decide +kernel
theorem d_MM_answered_0 : decode c_MM_answered 0 = .ok (.iload_n 1, 1) := by decide +kernel
theorem d_MM_answered_1 : decode c_MM_answered 1 = .ok (.iconst 0, 1) := by decide +kernel
theorem d_MM_answered_2 : decode c_MM_answered 2 = .ok (.aload_n 0, 1) := by decide +kernel
theorem d_MM_answered_3 : decode c_MM_answered 3 = .ok (.getfield 116, 3) := by decide +kernel
theorem d_MM_answered_6 : decode c_MM_answered 6 = .ok (.iconst 1, 1) := by decide +kernel
theorem d_MM_answered_7 : decode c_MM_answered 7 = .ok (.isub, 1) := by decide +kernel
theorem d_MM_answered_8 : decode c_MM_answered 8 = .ok (.invokestatic 81, 3) := by decide +kernel
theorem d_MM_answered_11 : decode c_MM_answered 11 = .ok (.istore_n 2, 1) := by decide +kernel
theorem d_MM_answered_12 : decode c_MM_answered 12 = .ok (.aload_n 0, 1) := by decide +kernel
theorem d_MM_answered_13 : decode c_MM_answered 13 = .ok (.iconst 5, 1) := by decide +kernel
theorem d_MM_answered_14 : decode c_MM_answered 14 = .ok (.iload_n 2, 1) := by decide +kernel
theorem d_MM_answered_15 : decode c_MM_answered 15 = .ok (.iconst 1, 1) := by decide +kernel
theorem d_MM_answered_16 : decode c_MM_answered 16 = .ok (.iload_n 2, 1) := by decide +kernel
theorem d_MM_answered_17 : decode c_MM_answered 17 = .ok (.ifCond .eq 16, 3) := by decide +kernel
theorem d_MM_answered_20 : decode c_MM_answered 20 = .ok (.aload_n 0, 1) := by decide +kernel
theorem d_MM_answered_21 : decode c_MM_answered 21 = .ok (.getfield 53, 3) := by decide +kernel
theorem d_MM_answered_24 : decode c_MM_answered 24 = .ok (.iload_n 1, 1) := by decide +kernel
theorem d_MM_answered_25 : decode c_MM_answered 25 = .ok (.baload, 1) := by decide +kernel
theorem d_MM_answered_26 : decode c_MM_answered 26 = .ok (.ifCond .eq 7, 3) := by decide +kernel
theorem d_MM_answered_29 : decode c_MM_answered 29 = .ok (.iconst 1, 1) := by decide +kernel
theorem d_MM_answered_30 : decode c_MM_answered 30 = .ok (.goto 4, 3) := by decide +kernel
theorem d_MM_answered_33 : decode c_MM_answered 33 = .ok (.iconst 0, 1) := by decide +kernel
theorem d_MM_answered_34 : decode c_MM_answered 34 = .ok (.iconst 1, 1) := by decide +kernel
theorem d_MM_answered_35 : decode c_MM_answered 35 = .ok (.invokevirtual 98, 3) := by decide +kernel
theorem d_MM_answered_38 : decode c_MM_answered 38 = .ok (.ifCond .ne 4, 3) := by decide +kernel
theorem d_MM_answered_41 : decode c_MM_answered 41 = .ok (.return_, 1) := by decide +kernel
theorem d_MM_answered_42 : decode c_MM_answered 42 = .ok (.aload_n 0, 1) := by decide +kernel
theorem d_MM_answered_43 : decode c_MM_answered 43 = .ok (.getfield 53, 3) := by decide +kernel
theorem d_MM_answered_46 : decode c_MM_answered 46 = .ok (.iload_n 1, 1) := by decide +kernel
theorem d_MM_answered_47 : decode c_MM_answered 47 = .ok (.iconst 0, 1) := by decide +kernel
theorem d_MM_answered_48 : decode c_MM_answered 48 = .ok (.bastore, 1) := by decide +kernel
theorem d_MM_answered_49 : decode c_MM_answered 49 = .ok (.aload_n 0, 1) := by decide +kernel
theorem d_MM_answered_50 : decode c_MM_answered 50 = .ok (.getfield 56, 3) := by decide +kernel
theorem d_MM_answered_53 : decode c_MM_answered 53 = .ok (.iload_n 1, 1) := by decide +kernel
theorem d_MM_answered_54 : decode c_MM_answered 54 = .ok (.iconst (-1), 1) := by decide +kernel
theorem d_MM_answered_55 : decode c_MM_answered 55 = .ok (.iastore, 1) := by decide +kernel
theorem d_MM_answered_56 : decode c_MM_answered 56 = .ok (.aload_n 0, 1) := by decide +kernel
theorem d_MM_answered_57 : decode c_MM_answered 57 = .ok (.invokevirtual 142, 3) := by decide +kernel
theorem d_MM_answered_60 : decode c_MM_answered 60 = .ok (.return_, 1) := by decide +kernel
theorem d_MM_maydayAt_0 : decode c_MM_maydayAt 0 = .ok (.aload_n 0, 1) := by decide +kernel
theorem d_MM_maydayAt_1 : decode c_MM_maydayAt 1 = .ok (.iconst 1, 1) := by decide +kernel
theorem d_MM_maydayAt_2 : decode c_MM_maydayAt 2 = .ok (.iload_n 1, 1) := by decide +kernel
theorem d_MM_maydayAt_3 : decode c_MM_maydayAt 3 = .ok (.iconst 0, 1) := by decide +kernel
theorem d_MM_maydayAt_4 : decode c_MM_maydayAt 4 = .ok (.aload_n 0, 1) := by decide +kernel
theorem d_MM_maydayAt_5 : decode c_MM_maydayAt 5 = .ok (.getfield 116, 3) := by decide +kernel
theorem d_MM_maydayAt_8 : decode c_MM_maydayAt 8 = .ok (.iconst 1, 1) := by decide +kernel
theorem d_MM_maydayAt_9 : decode c_MM_maydayAt 9 = .ok (.isub, 1) := by decide +kernel
theorem d_MM_maydayAt_10 : decode c_MM_maydayAt 10 = .ok (.invokestatic 81, 3) := by decide +kernel
theorem d_MM_maydayAt_13 : decode c_MM_maydayAt 13 = .ok (.ifCond .eq 16, 3) := by decide +kernel
theorem d_MM_maydayAt_16 : decode c_MM_maydayAt 16 = .ok (.iload_n 2, 1) := by decide +kernel
theorem d_MM_maydayAt_17 : decode c_MM_maydayAt 17 = .ok (.iconst 0, 1) := by decide +kernel
theorem d_MM_maydayAt_18 : decode c_MM_maydayAt 18 = .ok (.iconst 4, 1) := by decide +kernel
theorem d_MM_maydayAt_19 : decode c_MM_maydayAt 19 = .ok (.invokestatic 81, 3) := by decide +kernel
theorem d_MM_maydayAt_22 : decode c_MM_maydayAt 22 = .ok (.ifCond .eq 7, 3) := by decide +kernel
theorem d_MM_maydayAt_25 : decode c_MM_maydayAt 25 = .ok (.iconst 1, 1) := by decide +kernel
theorem d_MM_maydayAt_26 : decode c_MM_maydayAt 26 = .ok (.goto 4, 3) := by decide +kernel
theorem d_MM_maydayAt_29 : decode c_MM_maydayAt 29 = .ok (.iconst 0, 1) := by decide +kernel
theorem d_MM_maydayAt_30 : decode c_MM_maydayAt 30 = .ok (.iconst 1, 1) := by decide +kernel
theorem d_MM_maydayAt_31 : decode c_MM_maydayAt 31 = .ok (.iconst 1, 1) := by decide +kernel
theorem d_MM_maydayAt_32 : decode c_MM_maydayAt 32 = .ok (.iconst 1, 1) := by decide +kernel
theorem d_MM_maydayAt_33 : decode c_MM_maydayAt 33 = .ok (.invokevirtual 98, 3) := by decide +kernel
theorem d_MM_maydayAt_36 : decode c_MM_maydayAt 36 = .ok (.ifCond .ne 5, 3) := by decide +kernel
theorem d_MM_maydayAt_39 : decode c_MM_maydayAt 39 = .ok (.iconst 0, 1) := by decide +kernel
theorem d_MM_maydayAt_40 : decode c_MM_maydayAt 40 = .ok (.ireturn, 1) := by decide +kernel
theorem d_MM_maydayAt_41 : decode c_MM_maydayAt 41 = .ok (.iload_n 2, 1) := by decide +kernel
theorem d_MM_maydayAt_42 : decode c_MM_maydayAt 42 = .ok (.ifCond .ne 20, 3) := by decide +kernel
theorem d_MM_maydayAt_45 : decode c_MM_maydayAt 45 = .ok (.aload_n 0, 1) := by decide +kernel
theorem d_MM_maydayAt_46 : decode c_MM_maydayAt 46 = .ok (.getfield 53, 3) := by decide +kernel
theorem d_MM_maydayAt_49 : decode c_MM_maydayAt 49 = .ok (.iload_n 1, 1) := by decide +kernel
theorem d_MM_maydayAt_50 : decode c_MM_maydayAt 50 = .ok (.baload, 1) := by decide +kernel
theorem d_MM_maydayAt_51 : decode c_MM_maydayAt 51 = .ok (.ifCond .eq 7, 3) := by decide +kernel
theorem d_MM_maydayAt_54 : decode c_MM_maydayAt 54 = .ok (.iconst 1, 1) := by decide +kernel
theorem d_MM_maydayAt_55 : decode c_MM_maydayAt 55 = .ok (.goto 55, 3) := by decide +kernel
theorem d_MM_maydayAt_58 : decode c_MM_maydayAt 58 = .ok (.iconst 0, 1) := by decide +kernel
theorem d_MM_maydayAt_59 : decode c_MM_maydayAt 59 = .ok (.goto 51, 3) := by decide +kernel
theorem d_MM_maydayAt_62 : decode c_MM_maydayAt 62 = .ok (.iload_n 2, 1) := by decide +kernel
theorem d_MM_maydayAt_63 : decode c_MM_maydayAt 63 = .ok (.iconst 1, 1) := by decide +kernel
theorem d_MM_maydayAt_64 : decode c_MM_maydayAt 64 = .ok (.if_icmp .ne 12, 3) := by decide +kernel
theorem d_MM_maydayAt_67 : decode c_MM_maydayAt 67 = .ok (.aload_n 0, 1) := by decide +kernel
theorem d_MM_maydayAt_68 : decode c_MM_maydayAt 68 = .ok (.getfield 56, 3) := by decide +kernel
theorem d_MM_maydayAt_71 : decode c_MM_maydayAt 71 = .ok (.iload_n 1, 1) := by decide +kernel
theorem d_MM_maydayAt_72 : decode c_MM_maydayAt 72 = .ok (.iaload, 1) := by decide +kernel
theorem d_MM_maydayAt_73 : decode c_MM_maydayAt 73 = .ok (.goto 37, 3) := by decide +kernel
theorem d_MM_maydayAt_76 : decode c_MM_maydayAt 76 = .ok (.iload_n 2, 1) := by decide +kernel
theorem d_MM_maydayAt_77 : decode c_MM_maydayAt 77 = .ok (.iconst 2, 1) := by decide +kernel
theorem d_MM_maydayAt_78 : decode c_MM_maydayAt 78 = .ok (.if_icmp .ne 12, 3) := by decide +kernel
theorem d_MM_maydayAt_81 : decode c_MM_maydayAt 81 = .ok (.aload_n 0, 1) := by decide +kernel
theorem d_MM_maydayAt_82 : decode c_MM_maydayAt 82 = .ok (.getfield 59, 3) := by decide +kernel
theorem d_MM_maydayAt_85 : decode c_MM_maydayAt 85 = .ok (.iload_n 1, 1) := by decide +kernel
theorem d_MM_maydayAt_86 : decode c_MM_maydayAt 86 = .ok (.iaload, 1) := by decide +kernel
theorem d_MM_maydayAt_87 : decode c_MM_maydayAt 87 = .ok (.goto 23, 3) := by decide +kernel
theorem d_MM_maydayAt_90 : decode c_MM_maydayAt 90 = .ok (.iload_n 2, 1) := by decide +kernel
theorem d_MM_maydayAt_91 : decode c_MM_maydayAt 91 = .ok (.iconst 3, 1) := by decide +kernel
theorem d_MM_maydayAt_92 : decode c_MM_maydayAt 92 = .ok (.if_icmp .ne 12, 3) := by decide +kernel
theorem d_MM_maydayAt_95 : decode c_MM_maydayAt 95 = .ok (.aload_n 0, 1) := by decide +kernel
theorem d_MM_maydayAt_96 : decode c_MM_maydayAt 96 = .ok (.getfield 62, 3) := by decide +kernel
theorem d_MM_maydayAt_99 : decode c_MM_maydayAt 99 = .ok (.iload_n 1, 1) := by decide +kernel
theorem d_MM_maydayAt_100 : decode c_MM_maydayAt 100 = .ok (.iaload, 1) := by decide +kernel
theorem d_MM_maydayAt_101 : decode c_MM_maydayAt 101 = .ok (.goto 9, 3) := by decide +kernel
theorem d_MM_maydayAt_104 : decode c_MM_maydayAt 104 = .ok (.aload_n 0, 1) := by decide +kernel
theorem d_MM_maydayAt_105 : decode c_MM_maydayAt 105 = .ok (.getfield 65, 3) := by decide +kernel
theorem d_MM_maydayAt_108 : decode c_MM_maydayAt 108 = .ok (.iload_n 1, 1) := by decide +kernel
theorem d_MM_maydayAt_109 : decode c_MM_maydayAt 109 = .ok (.iaload, 1) := by decide +kernel
theorem d_MM_maydayAt_110 : decode c_MM_maydayAt 110 = .ok (.ireturn, 1) := by decide +kernel
theorem d_MM_evacuate_0 : decode c_MM_evacuate 0 = .ok (.iconst 0, 1) := by decide +kernel
theorem d_MM_evacuate_1 : decode c_MM_evacuate 1 = .ok (.istore_n 2, 1) := by decide +kernel
theorem d_MM_evacuate_2 : decode c_MM_evacuate 2 = .ok (.iconst 0, 1) := by decide +kernel
theorem d_MM_evacuate_3 : decode c_MM_evacuate 3 = .ok (.istore_n 3, 1) := by decide +kernel
theorem d_MM_evacuate_4 : decode c_MM_evacuate 4 = .ok (.iload_n 3, 1) := by decide +kernel
theorem d_MM_evacuate_5 : decode c_MM_evacuate 5 = .ok (.bipush 10, 2) := by decide +kernel
theorem d_MM_evacuate_7 : decode c_MM_evacuate 7 = .ok (.if_icmp .ge 27, 3) := by decide +kernel
theorem d_MM_evacuate_10 : decode c_MM_evacuate 10 = .ok (.iload_n 2, 1) := by decide +kernel
theorem d_MM_evacuate_11 : decode c_MM_evacuate 11 = .ok (.ifCond .ne 11, 3) := by decide +kernel
theorem d_MM_evacuate_14 : decode c_MM_evacuate 14 = .ok (.aload_n 0, 1) := by decide +kernel
theorem d_MM_evacuate_15 : decode c_MM_evacuate 15 = .ok (.iload_n 3, 1) := by decide +kernel
theorem d_MM_evacuate_16 : decode c_MM_evacuate 16 = .ok (.invokevirtual 151, 3) := by decide +kernel
theorem d_MM_evacuate_19 : decode c_MM_evacuate 19 = .ok (.ifCond .eq 7, 3) := by decide +kernel
theorem d_MM_evacuate_22 : decode c_MM_evacuate 22 = .ok (.iconst 1, 1) := by decide +kernel
theorem d_MM_evacuate_23 : decode c_MM_evacuate 23 = .ok (.goto 4, 3) := by decide +kernel
theorem d_MM_evacuate_26 : decode c_MM_evacuate 26 = .ok (.iconst 0, 1) := by decide +kernel
theorem d_MM_evacuate_27 : decode c_MM_evacuate 27 = .ok (.istore_n 2, 1) := by decide +kernel
theorem d_MM_evacuate_28 : decode c_MM_evacuate 28 = .ok (.iinc 3 1, 3) := by decide +kernel
theorem d_MM_evacuate_31 : decode c_MM_evacuate 31 = .ok (.goto (-27), 3) := by decide +kernel
theorem d_MM_evacuate_34 : decode c_MM_evacuate 34 = .ok (.aload_n 0, 1) := by decide +kernel
theorem d_MM_evacuate_35 : decode c_MM_evacuate 35 = .ok (.bipush 14, 2) := by decide +kernel
theorem d_MM_evacuate_37 : decode c_MM_evacuate 37 = .ok (.iconst 1, 1) := by decide +kernel
theorem d_MM_evacuate_38 : decode c_MM_evacuate 38 = .ok (.iload_n 1, 1) := by decide +kernel
theorem d_MM_evacuate_39 : decode c_MM_evacuate 39 = .ok (.iconst 1, 1) := by decide +kernel
theorem d_MM_evacuate_40 : decode c_MM_evacuate 40 = .ok (.sipush 10000, 3) := by decide +kernel
theorem d_MM_evacuate_43 : decode c_MM_evacuate 43 = .ok (.invokestatic 81, 3) := by decide +kernel
theorem d_MM_evacuate_46 : decode c_MM_evacuate 46 = .ok (.iload_n 2, 1) := by decide +kernel
theorem d_MM_evacuate_47 : decode c_MM_evacuate 47 = .ok (.ifCond .eq 14, 3) := by decide +kernel
theorem d_MM_evacuate_50 : decode c_MM_evacuate 50 = .ok (.aload_n 0, 1) := by decide +kernel
theorem d_MM_evacuate_51 : decode c_MM_evacuate 51 = .ok (.invokevirtual 154, 3) := by decide +kernel
theorem d_MM_evacuate_54 : decode c_MM_evacuate 54 = .ok (.ifCond .ne 7, 3) := by decide +kernel
theorem d_MM_evacuate_57 : decode c_MM_evacuate 57 = .ok (.iconst 1, 1) := by decide +kernel
theorem d_MM_evacuate_58 : decode c_MM_evacuate 58 = .ok (.goto 4, 3) := by decide +kernel
theorem d_MM_evacuate_61 : decode c_MM_evacuate 61 = .ok (.iconst 0, 1) := by decide +kernel
theorem d_MM_evacuate_62 : decode c_MM_evacuate 62 = .ok (.aload_n 0, 1) := by decide +kernel
theorem d_MM_evacuate_63 : decode c_MM_evacuate 63 = .ok (.getfield 145, 3) := by decide +kernel
theorem d_MM_evacuate_66 : decode c_MM_evacuate 66 = .ok (.bipush 20, 2) := by decide +kernel
theorem d_MM_evacuate_68 : decode c_MM_evacuate 68 = .ok (.if_icmp .ge 7, 3) := by decide +kernel
theorem d_MM_evacuate_71 : decode c_MM_evacuate 71 = .ok (.iconst 1, 1) := by decide +kernel
theorem d_MM_evacuate_72 : decode c_MM_evacuate 72 = .ok (.goto 4, 3) := by decide +kernel
theorem d_MM_evacuate_75 : decode c_MM_evacuate 75 = .ok (.iconst 0, 1) := by decide +kernel
theorem d_MM_evacuate_76 : decode c_MM_evacuate 76 = .ok (.invokevirtual 98, 3) := by decide +kernel
theorem d_MM_evacuate_79 : decode c_MM_evacuate 79 = .ok (.ifCond .ne 5, 3) := by decide +kernel
theorem d_MM_evacuate_82 : decode c_MM_evacuate 82 = .ok (.iconst 0, 1) := by decide +kernel
theorem d_MM_evacuate_83 : decode c_MM_evacuate 83 = .ok (.ireturn, 1) := by decide +kernel
theorem d_MM_evacuate_84 : decode c_MM_evacuate 84 = .ok (.aload_n 0, 1) := by decide +kernel
theorem d_MM_evacuate_85 : decode c_MM_evacuate 85 = .ok (.getfield 68, 3) := by decide +kernel
theorem d_MM_evacuate_88 : decode c_MM_evacuate 88 = .ok (.aload_n 0, 1) := by decide +kernel
theorem d_MM_evacuate_89 : decode c_MM_evacuate 89 = .ok (.getfield 145, 3) := by decide +kernel
theorem d_MM_evacuate_92 : decode c_MM_evacuate 92 = .ok (.aload_n 0, 1) := by decide +kernel
theorem d_MM_evacuate_93 : decode c_MM_evacuate 93 = .ok (.getfield 91, 3) := by decide +kernel
theorem d_MM_evacuate_96 : decode c_MM_evacuate 96 = .ok (.iload_n 1, 1) := by decide +kernel
theorem d_MM_evacuate_97 : decode c_MM_evacuate 97 = .ok (.iadd, 1) := by decide +kernel
theorem d_MM_evacuate_98 : decode c_MM_evacuate 98 = .ok (.iastore, 1) := by decide +kernel
theorem d_MM_evacuate_99 : decode c_MM_evacuate 99 = .ok (.iconst 0, 1) := by decide +kernel
theorem d_MM_evacuate_100 : decode c_MM_evacuate 100 = .ok (.istore_n 3, 1) := by decide +kernel
theorem d_MM_evacuate_101 : decode c_MM_evacuate 101 = .ok (.iload_n 3, 1) := by decide +kernel
theorem d_MM_evacuate_102 : decode c_MM_evacuate 102 = .ok (.bipush 10, 2) := by decide +kernel
theorem d_MM_evacuate_104 : decode c_MM_evacuate 104 = .ok (.if_icmp .ge 37, 3) := by decide +kernel
theorem d_MM_evacuate_107 : decode c_MM_evacuate 107 = .ok (.aload_n 0, 1) := by decide +kernel
theorem d_MM_evacuate_108 : decode c_MM_evacuate 108 = .ok (.getfield 71, 3) := by decide +kernel
theorem d_MM_evacuate_111 : decode c_MM_evacuate 111 = .ok (.aload_n 0, 1) := by decide +kernel
theorem d_MM_evacuate_112 : decode c_MM_evacuate 112 = .ok (.getfield 145, 3) := by decide +kernel
theorem d_MM_evacuate_115 : decode c_MM_evacuate 115 = .ok (.bipush 10, 2) := by decide +kernel
theorem d_MM_evacuate_117 : decode c_MM_evacuate 117 = .ok (.imul, 1) := by decide +kernel
theorem d_MM_evacuate_118 : decode c_MM_evacuate 118 = .ok (.iload_n 3, 1) := by decide +kernel
theorem d_MM_evacuate_119 : decode c_MM_evacuate 119 = .ok (.iadd, 1) := by decide +kernel
theorem d_MM_evacuate_120 : decode c_MM_evacuate 120 = .ok (.aload_n 0, 1) := by decide +kernel
theorem d_MM_evacuate_121 : decode c_MM_evacuate 121 = .ok (.iload_n 3, 1) := by decide +kernel
theorem d_MM_evacuate_122 : decode c_MM_evacuate 122 = .ok (.invokevirtual 151, 3) := by decide +kernel
theorem d_MM_evacuate_125 : decode c_MM_evacuate 125 = .ok (.ifCond .eq 7, 3) := by decide +kernel
theorem d_MM_evacuate_128 : decode c_MM_evacuate 128 = .ok (.iconst (-1), 1) := by decide +kernel
theorem d_MM_evacuate_129 : decode c_MM_evacuate 129 = .ok (.goto 5, 3) := by decide +kernel
theorem d_MM_evacuate_132 : decode c_MM_evacuate 132 = .ok (.bipush (-2), 2) := by decide +kernel
theorem d_MM_evacuate_134 : decode c_MM_evacuate 134 = .ok (.iastore, 1) := by decide +kernel
theorem d_MM_evacuate_135 : decode c_MM_evacuate 135 = .ok (.iinc 3 1, 3) := by decide +kernel
theorem d_MM_evacuate_138 : decode c_MM_evacuate 138 = .ok (.goto (-37), 3) := by decide +kernel
theorem d_MM_evacuate_141 : decode c_MM_evacuate 141 = .ok (.aload_n 0, 1) := by decide +kernel
theorem d_MM_evacuate_142 : decode c_MM_evacuate 142 = .ok (.dup, 1) := by decide +kernel
theorem d_MM_evacuate_143 : decode c_MM_evacuate 143 = .ok (.getfield 145, 3) := by decide +kernel
theorem d_MM_evacuate_146 : decode c_MM_evacuate 146 = .ok (.iconst 1, 1) := by decide +kernel
theorem d_MM_evacuate_147 : decode c_MM_evacuate 147 = .ok (.iadd, 1) := by decide +kernel
theorem d_MM_evacuate_148 : decode c_MM_evacuate 148 = .ok (.putfield 145, 3) := by decide +kernel
theorem d_MM_evacuate_151 : decode c_MM_evacuate 151 = .ok (.aload_n 0, 1) := by decide +kernel
theorem d_MM_evacuate_152 : decode c_MM_evacuate 152 = .ok (.getfield 145, 3) := by decide +kernel
theorem d_MM_evacuate_155 : decode c_MM_evacuate 155 = .ok (.iconst 1, 1) := by decide +kernel
theorem d_MM_evacuate_156 : decode c_MM_evacuate 156 = .ok (.isub, 1) := by decide +kernel
theorem d_MM_evacuate_157 : decode c_MM_evacuate 157 = .ok (.ireturn, 1) := by decide +kernel
theorem d_MM_isFull_0 : decode c_MM_isFull 0 = .ok (.iconst 0, 1) := by decide +kernel
theorem d_MM_isFull_1 : decode c_MM_isFull 1 = .ok (.istore_n 2, 1) := by decide +kernel
theorem d_MM_isFull_2 : decode c_MM_isFull 2 = .ok (.iload_n 2, 1) := by decide +kernel
theorem d_MM_isFull_3 : decode c_MM_isFull 3 = .ok (.aload_n 0, 1) := by decide +kernel
theorem d_MM_isFull_4 : decode c_MM_isFull 4 = .ok (.getfield 78, 3) := by decide +kernel
theorem d_MM_isFull_7 : decode c_MM_isFull 7 = .ok (.if_icmp .ge 20, 3) := by decide +kernel
theorem d_MM_isFull_10 : decode c_MM_isFull 10 = .ok (.aload_n 0, 1) := by decide +kernel
theorem d_MM_isFull_11 : decode c_MM_isFull 11 = .ok (.iload_n 2, 1) := by decide +kernel
theorem d_MM_isFull_12 : decode c_MM_isFull 12 = .ok (.invokevirtual 109, 3) := by decide +kernel
theorem d_MM_isFull_15 : decode c_MM_isFull 15 = .ok (.iload_n 1, 1) := by decide +kernel
theorem d_MM_isFull_16 : decode c_MM_isFull 16 = .ok (.if_icmp .ne 5, 3) := by decide +kernel
theorem d_MM_isFull_19 : decode c_MM_isFull 19 = .ok (.iconst 1, 1) := by decide +kernel
theorem d_MM_isFull_20 : decode c_MM_isFull 20 = .ok (.ireturn, 1) := by decide +kernel
theorem d_MM_isFull_21 : decode c_MM_isFull 21 = .ok (.iinc 2 1, 3) := by decide +kernel
theorem d_MM_isFull_24 : decode c_MM_isFull 24 = .ok (.goto (-22), 3) := by decide +kernel
theorem d_MM_isFull_27 : decode c_MM_isFull 27 = .ok (.aload_n 0, 1) := by decide +kernel
theorem d_MM_isFull_28 : decode c_MM_isFull 28 = .ok (.getfield 7, 3) := by decide +kernel
theorem d_MM_isFull_31 : decode c_MM_isFull 31 = .ok (.iload_n 1, 1) := by decide +kernel
theorem d_MM_isFull_32 : decode c_MM_isFull 32 = .ok (.iaload, 1) := by decide +kernel
theorem d_MM_isFull_33 : decode c_MM_isFull 33 = .ok (.ifCond .le 7, 3) := by decide +kernel
theorem d_MM_isFull_36 : decode c_MM_isFull 36 = .ok (.iconst 1, 1) := by decide +kernel
theorem d_MM_isFull_37 : decode c_MM_isFull 37 = .ok (.goto 4, 3) := by decide +kernel
theorem d_MM_isFull_40 : decode c_MM_isFull 40 = .ok (.iconst 0, 1) := by decide +kernel
theorem d_MM_isFull_41 : decode c_MM_isFull 41 = .ok (.ireturn, 1) := by decide +kernel
theorem d_MM_isOn_0 : decode c_MM_isOn 0 = .ok (.aload_n 0, 1) := by decide +kernel
theorem d_MM_isOn_1 : decode c_MM_isOn 1 = .ok (.getfield 145, 3) := by decide +kernel
theorem d_MM_isOn_4 : decode c_MM_isOn 4 = .ok (.ifCond .le 20, 3) := by decide +kernel
theorem d_MM_isOn_7 : decode c_MM_isOn 7 = .ok (.aload_n 0, 1) := by decide +kernel
theorem d_MM_isOn_8 : decode c_MM_isOn 8 = .ok (.aload_n 0, 1) := by decide +kernel
theorem d_MM_isOn_9 : decode c_MM_isOn 9 = .ok (.getfield 145, 3) := by decide +kernel
theorem d_MM_isOn_12 : decode c_MM_isOn 12 = .ok (.iconst 1, 1) := by decide +kernel
theorem d_MM_isOn_13 : decode c_MM_isOn 13 = .ok (.isub, 1) := by decide +kernel
theorem d_MM_isOn_14 : decode c_MM_isOn 14 = .ok (.invokevirtual 148, 3) := by decide +kernel
theorem d_MM_isOn_17 : decode c_MM_isOn 17 = .ok (.ifCond .le 7, 3) := by decide +kernel
theorem d_MM_isOn_20 : decode c_MM_isOn 20 = .ok (.iconst 1, 1) := by decide +kernel
theorem d_MM_isOn_21 : decode c_MM_isOn 21 = .ok (.goto 4, 3) := by decide +kernel
theorem d_MM_isOn_24 : decode c_MM_isOn 24 = .ok (.iconst 0, 1) := by decide +kernel
theorem d_MM_isOn_25 : decode c_MM_isOn 25 = .ok (.ireturn, 1) := by decide +kernel
theorem d_MM_left_0 : decode c_MM_left 0 = .ok (.iconst 0, 1) := by decide +kernel
theorem d_MM_left_1 : decode c_MM_left 1 = .ok (.istore_n 2, 1) := by decide +kernel
theorem d_MM_left_2 : decode c_MM_left 2 = .ok (.iconst 0, 1) := by decide +kernel
theorem d_MM_left_3 : decode c_MM_left 3 = .ok (.istore_n 3, 1) := by decide +kernel
theorem d_MM_left_4 : decode c_MM_left 4 = .ok (.iload_n 3, 1) := by decide +kernel
theorem d_MM_left_5 : decode c_MM_left 5 = .ok (.bipush 10, 2) := by decide +kernel
theorem d_MM_left_7 : decode c_MM_left 7 = .ok (.if_icmp .ge 27, 3) := by decide +kernel
theorem d_MM_left_10 : decode c_MM_left 10 = .ok (.aload_n 0, 1) := by decide +kernel
theorem d_MM_left_11 : decode c_MM_left 11 = .ok (.getfield 71, 3) := by decide +kernel
theorem d_MM_left_14 : decode c_MM_left 14 = .ok (.iload_n 1, 1) := by decide +kernel
theorem d_MM_left_15 : decode c_MM_left 15 = .ok (.bipush 10, 2) := by decide +kernel
theorem d_MM_left_17 : decode c_MM_left 17 = .ok (.imul, 1) := by decide +kernel
theorem d_MM_left_18 : decode c_MM_left 18 = .ok (.iload_n 3, 1) := by decide +kernel
theorem d_MM_left_19 : decode c_MM_left 19 = .ok (.iadd, 1) := by decide +kernel
theorem d_MM_left_20 : decode c_MM_left 20 = .ok (.iaload, 1) := by decide +kernel
theorem d_MM_left_21 : decode c_MM_left 21 = .ok (.iconst (-1), 1) := by decide +kernel
theorem d_MM_left_22 : decode c_MM_left 22 = .ok (.if_icmp .ne 6, 3) := by decide +kernel
theorem d_MM_left_25 : decode c_MM_left 25 = .ok (.iinc 2 1, 3) := by decide +kernel
theorem d_MM_left_28 : decode c_MM_left 28 = .ok (.iinc 3 1, 3) := by decide +kernel
theorem d_MM_left_31 : decode c_MM_left 31 = .ok (.goto (-27), 3) := by decide +kernel
theorem d_MM_left_34 : decode c_MM_left 34 = .ok (.iload_n 2, 1) := by decide +kernel
theorem d_MM_left_35 : decode c_MM_left 35 = .ok (.ireturn, 1) := by decide +kernel
theorem d_MM_confirm_0 : decode c_MM_confirm 0 = .ok (.iload_n 1, 1) := by decide +kernel
theorem d_MM_confirm_1 : decode c_MM_confirm 1 = .ok (.invokestatic 106, 3) := by decide +kernel
theorem d_MM_confirm_4 : decode c_MM_confirm 4 = .ok (.ifCond .eq 56, 3) := by decide +kernel
theorem d_MM_confirm_7 : decode c_MM_confirm 7 = .ok (.aload_n 0, 1) := by decide +kernel
theorem d_MM_confirm_8 : decode c_MM_confirm 8 = .ok (.invokevirtual 154, 3) := by decide +kernel
theorem d_MM_confirm_11 : decode c_MM_confirm 11 = .ok (.ifCond .eq 49, 3) := by decide +kernel
theorem d_MM_confirm_14 : decode c_MM_confirm 14 = .ok (.aload_n 0, 1) := by decide +kernel
theorem d_MM_confirm_15 : decode c_MM_confirm 15 = .ok (.getfield 71, 3) := by decide +kernel
theorem d_MM_confirm_18 : decode c_MM_confirm 18 = .ok (.aload_n 0, 1) := by decide +kernel
theorem d_MM_confirm_19 : decode c_MM_confirm 19 = .ok (.getfield 145, 3) := by decide +kernel
theorem d_MM_confirm_22 : decode c_MM_confirm 22 = .ok (.ifCond .le 12, 3) := by decide +kernel
theorem d_MM_confirm_25 : decode c_MM_confirm 25 = .ok (.aload_n 0, 1) := by decide +kernel
theorem d_MM_confirm_26 : decode c_MM_confirm 26 = .ok (.getfield 145, 3) := by decide +kernel
theorem d_MM_confirm_29 : decode c_MM_confirm 29 = .ok (.iconst 1, 1) := by decide +kernel
theorem d_MM_confirm_30 : decode c_MM_confirm 30 = .ok (.isub, 1) := by decide +kernel
theorem d_MM_confirm_31 : decode c_MM_confirm 31 = .ok (.goto 4, 3) := by decide +kernel
theorem d_MM_confirm_34 : decode c_MM_confirm 34 = .ok (.iconst 0, 1) := by decide +kernel
theorem d_MM_confirm_35 : decode c_MM_confirm 35 = .ok (.bipush 10, 2) := by decide +kernel
theorem d_MM_confirm_37 : decode c_MM_confirm 37 = .ok (.imul, 1) := by decide +kernel
theorem d_MM_confirm_38 : decode c_MM_confirm 38 = .ok (.iload_n 1, 1) := by decide +kernel
theorem d_MM_confirm_39 : decode c_MM_confirm 39 = .ok (.invokestatic 106, 3) := by decide +kernel
theorem d_MM_confirm_42 : decode c_MM_confirm 42 = .ok (.ifCond .eq 7, 3) := by decide +kernel
theorem d_MM_confirm_45 : decode c_MM_confirm 45 = .ok (.iload_n 1, 1) := by decide +kernel
theorem d_MM_confirm_46 : decode c_MM_confirm 46 = .ok (.goto 4, 3) := by decide +kernel
theorem d_MM_confirm_49 : decode c_MM_confirm 49 = .ok (.iconst 0, 1) := by decide +kernel
theorem d_MM_confirm_50 : decode c_MM_confirm 50 = .ok (.iadd, 1) := by decide +kernel
theorem d_MM_confirm_51 : decode c_MM_confirm 51 = .ok (.iaload, 1) := by decide +kernel
theorem d_MM_confirm_52 : decode c_MM_confirm 52 = .ok (.iconst (-1), 1) := by decide +kernel
theorem d_MM_confirm_53 : decode c_MM_confirm 53 = .ok (.if_icmp .ne 7, 3) := by decide +kernel
theorem d_MM_confirm_56 : decode c_MM_confirm 56 = .ok (.iconst 1, 1) := by decide +kernel
theorem d_MM_confirm_57 : decode c_MM_confirm 57 = .ok (.goto 4, 3) := by decide +kernel
theorem d_MM_confirm_60 : decode c_MM_confirm 60 = .ok (.iconst 0, 1) := by decide +kernel
theorem d_MM_confirm_61 : decode c_MM_confirm 61 = .ok (.istore_n 2, 1) := by decide +kernel
theorem d_MM_confirm_62 : decode c_MM_confirm 62 = .ok (.aload_n 0, 1) := by decide +kernel
theorem d_MM_confirm_63 : decode c_MM_confirm 63 = .ok (.iconst 5, 1) := by decide +kernel
theorem d_MM_confirm_64 : decode c_MM_confirm 64 = .ok (.iload_n 1, 1) := by decide +kernel
theorem d_MM_confirm_65 : decode c_MM_confirm 65 = .ok (.invokestatic 106, 3) := by decide +kernel
theorem d_MM_confirm_68 : decode c_MM_confirm 68 = .ok (.iconst 1, 1) := by decide +kernel
theorem d_MM_confirm_69 : decode c_MM_confirm 69 = .ok (.iload_n 2, 1) := by decide +kernel
theorem d_MM_confirm_70 : decode c_MM_confirm 70 = .ok (.iconst 1, 1) := by decide +kernel
theorem d_MM_confirm_71 : decode c_MM_confirm 71 = .ok (.invokevirtual 98, 3) := by decide +kernel
theorem d_MM_confirm_74 : decode c_MM_confirm 74 = .ok (.ifCond .ne 5, 3) := by decide +kernel
theorem d_MM_confirm_77 : decode c_MM_confirm 77 = .ok (.iconst 0, 1) := by decide +kernel
theorem d_MM_confirm_78 : decode c_MM_confirm 78 = .ok (.ireturn, 1) := by decide +kernel
theorem d_MM_confirm_79 : decode c_MM_confirm 79 = .ok (.aload_n 0, 1) := by decide +kernel
theorem d_MM_confirm_80 : decode c_MM_confirm 80 = .ok (.getfield 71, 3) := by decide +kernel
theorem d_MM_confirm_83 : decode c_MM_confirm 83 = .ok (.aload_n 0, 1) := by decide +kernel
theorem d_MM_confirm_84 : decode c_MM_confirm 84 = .ok (.getfield 145, 3) := by decide +kernel
theorem d_MM_confirm_87 : decode c_MM_confirm 87 = .ok (.iconst 1, 1) := by decide +kernel
theorem d_MM_confirm_88 : decode c_MM_confirm 88 = .ok (.isub, 1) := by decide +kernel
theorem d_MM_confirm_89 : decode c_MM_confirm 89 = .ok (.bipush 10, 2) := by decide +kernel
theorem d_MM_confirm_91 : decode c_MM_confirm 91 = .ok (.imul, 1) := by decide +kernel
theorem d_MM_confirm_92 : decode c_MM_confirm 92 = .ok (.iload_n 1, 1) := by decide +kernel
theorem d_MM_confirm_93 : decode c_MM_confirm 93 = .ok (.iadd, 1) := by decide +kernel
theorem d_MM_confirm_94 : decode c_MM_confirm 94 = .ok (.aload_n 0, 1) := by decide +kernel
theorem d_MM_confirm_95 : decode c_MM_confirm 95 = .ok (.getfield 91, 3) := by decide +kernel
theorem d_MM_confirm_98 : decode c_MM_confirm 98 = .ok (.iastore, 1) := by decide +kernel
theorem d_MM_confirm_99 : decode c_MM_confirm 99 = .ok (.aload_n 0, 1) := by decide +kernel
theorem d_MM_confirm_100 : decode c_MM_confirm 100 = .ok (.aload_n 0, 1) := by decide +kernel
theorem d_MM_confirm_101 : decode c_MM_confirm 101 = .ok (.getfield 145, 3) := by decide +kernel
theorem d_MM_confirm_104 : decode c_MM_confirm 104 = .ok (.iconst 1, 1) := by decide +kernel
theorem d_MM_confirm_105 : decode c_MM_confirm 105 = .ok (.isub, 1) := by decide +kernel
theorem d_MM_confirm_106 : decode c_MM_confirm 106 = .ok (.invokevirtual 148, 3) := by decide +kernel
theorem d_MM_confirm_109 : decode c_MM_confirm 109 = .ok (.ireturn, 1) := by decide +kernel
theorem d_MM_late_0 : decode c_MM_late 0 = .ok (.aload_n 0, 1) := by decide +kernel
theorem d_MM_late_1 : decode c_MM_late 1 = .ok (.iconst 3, 1) := by decide +kernel
theorem d_MM_late_2 : decode c_MM_late 2 = .ok (.iload_n 1, 1) := by decide +kernel
theorem d_MM_late_3 : decode c_MM_late 3 = .ok (.iconst 0, 1) := by decide +kernel
theorem d_MM_late_4 : decode c_MM_late 4 = .ok (.aload_n 0, 1) := by decide +kernel
theorem d_MM_late_5 : decode c_MM_late 5 = .ok (.getfield 145, 3) := by decide +kernel
theorem d_MM_late_8 : decode c_MM_late 8 = .ok (.iconst 1, 1) := by decide +kernel
theorem d_MM_late_9 : decode c_MM_late 9 = .ok (.isub, 1) := by decide +kernel
theorem d_MM_late_10 : decode c_MM_late 10 = .ok (.invokestatic 81, 3) := by decide +kernel
theorem d_MM_late_13 : decode c_MM_late 13 = .ok (.iload_n 2, 1) := by decide +kernel
theorem d_MM_late_14 : decode c_MM_late 14 = .ok (.ifCond .lt 7, 3) := by decide +kernel
theorem d_MM_late_17 : decode c_MM_late 17 = .ok (.iconst 1, 1) := by decide +kernel
theorem d_MM_late_18 : decode c_MM_late 18 = .ok (.goto 4, 3) := by decide +kernel
theorem d_MM_late_21 : decode c_MM_late 21 = .ok (.iconst 0, 1) := by decide +kernel
theorem d_MM_late_22 : decode c_MM_late 22 = .ok (.iconst 1, 1) := by decide +kernel
theorem d_MM_late_23 : decode c_MM_late 23 = .ok (.iconst 1, 1) := by decide +kernel
theorem d_MM_late_24 : decode c_MM_late 24 = .ok (.invokevirtual 98, 3) := by decide +kernel
theorem d_MM_late_27 : decode c_MM_late 27 = .ok (.ifCond .ne 5, 3) := by decide +kernel
theorem d_MM_late_30 : decode c_MM_late 30 = .ok (.iconst 0, 1) := by decide +kernel
theorem d_MM_late_31 : decode c_MM_late 31 = .ok (.ireturn, 1) := by decide +kernel
theorem d_MM_late_32 : decode c_MM_late 32 = .ok (.iload_n 2, 1) := by decide +kernel
theorem d_MM_late_33 : decode c_MM_late 33 = .ok (.istore_n 3, 1) := by decide +kernel
theorem d_MM_late_34 : decode c_MM_late 34 = .ok (.iconst 0, 1) := by decide +kernel
theorem d_MM_late_35 : decode c_MM_late 35 = .ok (.istore 4, 2) := by decide +kernel
theorem d_MM_late_37 : decode c_MM_late 37 = .ok (.iload 4, 2) := by decide +kernel
theorem d_MM_late_39 : decode c_MM_late 39 = .ok (.bipush 10, 2) := by decide +kernel
theorem d_MM_late_41 : decode c_MM_late 41 = .ok (.if_icmp .ge 32, 3) := by decide +kernel
theorem d_MM_late_44 : decode c_MM_late 44 = .ok (.aload_n 0, 1) := by decide +kernel
theorem d_MM_late_45 : decode c_MM_late 45 = .ok (.iload_n 1, 1) := by decide +kernel
theorem d_MM_late_46 : decode c_MM_late 46 = .ok (.iload 4, 2) := by decide +kernel
theorem d_MM_late_48 : decode c_MM_late 48 = .ok (.invokevirtual 158, 3) := by decide +kernel
theorem d_MM_late_51 : decode c_MM_late 51 = .ok (.ifCond .ne 6, 3) := by decide +kernel
theorem d_MM_late_54 : decode c_MM_late 54 = .ok (.goto 13, 3) := by decide +kernel
theorem d_MM_late_57 : decode c_MM_late 57 = .ok (.iload_n 3, 1) := by decide +kernel
theorem d_MM_late_58 : decode c_MM_late 58 = .ok (.ifCond .ne 6, 3) := by decide +kernel
theorem d_MM_late_61 : decode c_MM_late 61 = .ok (.iload 4, 2) := by decide +kernel
theorem d_MM_late_63 : decode c_MM_late 63 = .ok (.ireturn, 1) := by decide +kernel
theorem d_MM_late_64 : decode c_MM_late 64 = .ok (.iinc 3 (-1), 3) := by decide +kernel
theorem d_MM_late_67 : decode c_MM_late 67 = .ok (.iinc 4 1, 3) := by decide +kernel
theorem d_MM_late_70 : decode c_MM_late 70 = .ok (.goto (-33), 3) := by decide +kernel
theorem d_MM_late_73 : decode c_MM_late 73 = .ok (.iconst (-1), 1) := by decide +kernel
theorem d_MM_late_74 : decode c_MM_late 74 = .ok (.ireturn, 1) := by decide +kernel
theorem d_MM_isLate_0 : decode c_MM_isLate 0 = .ok (.aload_n 0, 1) := by decide +kernel
theorem d_MM_isLate_1 : decode c_MM_isLate 1 = .ok (.getfield 71, 3) := by decide +kernel
theorem d_MM_isLate_4 : decode c_MM_isLate 4 = .ok (.iload_n 1, 1) := by decide +kernel
theorem d_MM_isLate_5 : decode c_MM_isLate 5 = .ok (.bipush 10, 2) := by decide +kernel
theorem d_MM_isLate_7 : decode c_MM_isLate 7 = .ok (.imul, 1) := by decide +kernel
theorem d_MM_isLate_8 : decode c_MM_isLate 8 = .ok (.iload_n 2, 1) := by decide +kernel
theorem d_MM_isLate_9 : decode c_MM_isLate 9 = .ok (.iadd, 1) := by decide +kernel
theorem d_MM_isLate_10 : decode c_MM_isLate 10 = .ok (.iaload, 1) := by decide +kernel
theorem d_MM_isLate_11 : decode c_MM_isLate 11 = .ok (.istore_n 3, 1) := by decide +kernel
theorem d_MM_isLate_12 : decode c_MM_isLate 12 = .ok (.iload_n 3, 1) := by decide +kernel
theorem d_MM_isLate_13 : decode c_MM_isLate 13 = .ok (.iconst (-1), 1) := by decide +kernel
theorem d_MM_isLate_14 : decode c_MM_isLate 14 = .ok (.if_icmp .ne 24, 3) := by decide +kernel
theorem d_MM_isLate_17 : decode c_MM_isLate 17 = .ok (.aload_n 0, 1) := by decide +kernel
theorem d_MM_isLate_18 : decode c_MM_isLate 18 = .ok (.getfield 91, 3) := by decide +kernel
theorem d_MM_isLate_21 : decode c_MM_isLate 21 = .ok (.aload_n 0, 1) := by decide +kernel
theorem d_MM_isLate_22 : decode c_MM_isLate 22 = .ok (.getfield 68, 3) := by decide +kernel
theorem d_MM_isLate_25 : decode c_MM_isLate 25 = .ok (.iload_n 1, 1) := by decide +kernel
theorem d_MM_isLate_26 : decode c_MM_isLate 26 = .ok (.iaload, 1) := by decide +kernel
theorem d_MM_isLate_27 : decode c_MM_isLate 27 = .ok (.if_icmp .le 7, 3) := by decide +kernel
theorem d_MM_isLate_30 : decode c_MM_isLate 30 = .ok (.iconst 1, 1) := by decide +kernel
theorem d_MM_isLate_31 : decode c_MM_isLate 31 = .ok (.goto 22, 3) := by decide +kernel
theorem d_MM_isLate_34 : decode c_MM_isLate 34 = .ok (.iconst 0, 1) := by decide +kernel
theorem d_MM_isLate_35 : decode c_MM_isLate 35 = .ok (.goto 18, 3) := by decide +kernel
theorem d_MM_isLate_38 : decode c_MM_isLate 38 = .ok (.iload_n 3, 1) := by decide +kernel
theorem d_MM_isLate_39 : decode c_MM_isLate 39 = .ok (.aload_n 0, 1) := by decide +kernel
theorem d_MM_isLate_40 : decode c_MM_isLate 40 = .ok (.getfield 68, 3) := by decide +kernel
theorem d_MM_isLate_43 : decode c_MM_isLate 43 = .ok (.iload_n 1, 1) := by decide +kernel
theorem d_MM_isLate_44 : decode c_MM_isLate 44 = .ok (.iaload, 1) := by decide +kernel
theorem d_MM_isLate_45 : decode c_MM_isLate 45 = .ok (.if_icmp .le 7, 3) := by decide +kernel
theorem d_MM_isLate_48 : decode c_MM_isLate 48 = .ok (.iconst 1, 1) := by decide +kernel
theorem d_MM_isLate_49 : decode c_MM_isLate 49 = .ok (.goto 4, 3) := by decide +kernel
theorem d_MM_isLate_52 : decode c_MM_isLate 52 = .ok (.iconst 0, 1) := by decide +kernel
theorem d_MM_isLate_53 : decode c_MM_isLate 53 = .ok (.ireturn, 1) := by decide +kernel
theorem d_MM_tick_0 : decode c_MM_tick 0 = .ok (.aload_n 0, 1) := by decide +kernel
theorem d_MM_tick_1 : decode c_MM_tick 1 = .ok (.iconst 2, 1) := by decide +kernel
theorem d_MM_tick_2 : decode c_MM_tick 2 = .ok (.iconst 1, 1) := by decide +kernel
theorem d_MM_tick_3 : decode c_MM_tick 3 = .ok (.iload_n 1, 1) := by decide +kernel
theorem d_MM_tick_4 : decode c_MM_tick 4 = .ok (.iconst 1, 1) := by decide +kernel
theorem d_MM_tick_5 : decode c_MM_tick 5 = .ok (.sipush 5000, 3) := by decide +kernel
theorem d_MM_tick_8 : decode c_MM_tick 8 = .ok (.invokestatic 81, 3) := by decide +kernel
theorem d_MM_tick_11 : decode c_MM_tick 11 = .ok (.ifCond .eq 18, 3) := by decide +kernel
theorem d_MM_tick_14 : decode c_MM_tick 14 = .ok (.iload_n 1, 1) := by decide +kernel
theorem d_MM_tick_15 : decode c_MM_tick 15 = .ok (.ldc 161, 2) := by decide +kernel
theorem d_MM_tick_17 : decode c_MM_tick 17 = .ok (.aload_n 0, 1) := by decide +kernel
theorem d_MM_tick_18 : decode c_MM_tick 18 = .ok (.getfield 91, 3) := by decide +kernel
theorem d_MM_tick_21 : decode c_MM_tick 21 = .ok (.isub, 1) := by decide +kernel
theorem d_MM_tick_22 : decode c_MM_tick 22 = .ok (.if_icmp .gt 7, 3) := by decide +kernel
theorem d_MM_tick_25 : decode c_MM_tick 25 = .ok (.iconst 1, 1) := by decide +kernel
theorem d_MM_tick_26 : decode c_MM_tick 26 = .ok (.goto 4, 3) := by decide +kernel
theorem d_MM_tick_29 : decode c_MM_tick 29 = .ok (.iconst 0, 1) := by decide +kernel
theorem d_MM_tick_30 : decode c_MM_tick 30 = .ok (.iconst 1, 1) := by decide +kernel
theorem d_MM_tick_31 : decode c_MM_tick 31 = .ok (.iconst 1, 1) := by decide +kernel
theorem d_MM_tick_32 : decode c_MM_tick 32 = .ok (.invokevirtual 98, 3) := by decide +kernel
theorem d_MM_tick_35 : decode c_MM_tick 35 = .ok (.ifCond .ne 5, 3) := by decide +kernel
theorem d_MM_tick_38 : decode c_MM_tick 38 = .ok (.iconst 0, 1) := by decide +kernel
theorem d_MM_tick_39 : decode c_MM_tick 39 = .ok (.ireturn, 1) := by decide +kernel
theorem d_MM_tick_40 : decode c_MM_tick 40 = .ok (.aload_n 0, 1) := by decide +kernel
theorem d_MM_tick_41 : decode c_MM_tick 41 = .ok (.getfield 145, 3) := by decide +kernel
theorem d_MM_tick_44 : decode c_MM_tick 44 = .ok (.iconst 1, 1) := by decide +kernel
theorem d_MM_tick_45 : decode c_MM_tick 45 = .ok (.isub, 1) := by decide +kernel
theorem d_MM_tick_46 : decode c_MM_tick 46 = .ok (.istore_n 2, 1) := by decide +kernel
theorem d_MM_tick_47 : decode c_MM_tick 47 = .ok (.iload_n 2, 1) := by decide +kernel
theorem d_MM_tick_48 : decode c_MM_tick 48 = .ok (.ifCond .lt 20, 3) := by decide +kernel
theorem d_MM_tick_51 : decode c_MM_tick 51 = .ok (.aload_n 0, 1) := by decide +kernel
theorem d_MM_tick_52 : decode c_MM_tick 52 = .ok (.getfield 91, 3) := by decide +kernel
theorem d_MM_tick_55 : decode c_MM_tick 55 = .ok (.aload_n 0, 1) := by decide +kernel
theorem d_MM_tick_56 : decode c_MM_tick 56 = .ok (.getfield 68, 3) := by decide +kernel
theorem d_MM_tick_59 : decode c_MM_tick 59 = .ok (.iload_n 2, 1) := by decide +kernel
theorem d_MM_tick_60 : decode c_MM_tick 60 = .ok (.iaload, 1) := by decide +kernel
theorem d_MM_tick_61 : decode c_MM_tick 61 = .ok (.if_icmp .le 7, 3) := by decide +kernel
theorem d_MM_tick_64 : decode c_MM_tick 64 = .ok (.iconst 1, 1) := by decide +kernel
theorem d_MM_tick_65 : decode c_MM_tick 65 = .ok (.goto 4, 3) := by decide +kernel
theorem d_MM_tick_68 : decode c_MM_tick 68 = .ok (.iconst 0, 1) := by decide +kernel
theorem d_MM_tick_69 : decode c_MM_tick 69 = .ok (.istore_n 3, 1) := by decide +kernel
theorem d_MM_tick_70 : decode c_MM_tick 70 = .ok (.aload_n 0, 1) := by decide +kernel
theorem d_MM_tick_71 : decode c_MM_tick 71 = .ok (.aload_n 0, 1) := by decide +kernel
theorem d_MM_tick_72 : decode c_MM_tick 72 = .ok (.getfield 91, 3) := by decide +kernel
theorem d_MM_tick_75 : decode c_MM_tick 75 = .ok (.iload_n 1, 1) := by decide +kernel
theorem d_MM_tick_76 : decode c_MM_tick 76 = .ok (.iadd, 1) := by decide +kernel
theorem d_MM_tick_77 : decode c_MM_tick 77 = .ok (.putfield 91, 3) := by decide +kernel
theorem d_MM_tick_80 : decode c_MM_tick 80 = .ok (.iload_n 2, 1) := by decide +kernel
theorem d_MM_tick_81 : decode c_MM_tick 81 = .ok (.ifCond .lt 28, 3) := by decide +kernel
theorem d_MM_tick_84 : decode c_MM_tick 84 = .ok (.iload_n 3, 1) := by decide +kernel
theorem d_MM_tick_85 : decode c_MM_tick 85 = .ok (.ifCond .ne 24, 3) := by decide +kernel
theorem d_MM_tick_88 : decode c_MM_tick 88 = .ok (.aload_n 0, 1) := by decide +kernel
theorem d_MM_tick_89 : decode c_MM_tick 89 = .ok (.getfield 91, 3) := by decide +kernel
theorem d_MM_tick_92 : decode c_MM_tick 92 = .ok (.aload_n 0, 1) := by decide +kernel
theorem d_MM_tick_93 : decode c_MM_tick 93 = .ok (.getfield 68, 3) := by decide +kernel
theorem d_MM_tick_96 : decode c_MM_tick 96 = .ok (.iload_n 2, 1) := by decide +kernel
theorem d_MM_tick_97 : decode c_MM_tick 97 = .ok (.iaload, 1) := by decide +kernel
theorem d_MM_tick_98 : decode c_MM_tick 98 = .ok (.if_icmp .le 11, 3) := by decide +kernel
theorem d_MM_tick_101 : decode c_MM_tick 101 = .ok (.aload_n 0, 1) := by decide +kernel
theorem d_MM_tick_102 : decode c_MM_tick 102 = .ok (.iload_n 2, 1) := by decide +kernel
theorem d_MM_tick_103 : decode c_MM_tick 103 = .ok (.invokevirtual 148, 3) := by decide +kernel
theorem d_MM_tick_106 : decode c_MM_tick 106 = .ok (.goto 4, 3) := by decide +kernel
theorem d_MM_tick_109 : decode c_MM_tick 109 = .ok (.iconst 0, 1) := by decide +kernel
theorem d_MM_tick_110 : decode c_MM_tick 110 = .ok (.ireturn, 1) := by decide +kernel
