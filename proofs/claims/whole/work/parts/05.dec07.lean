theorem d_MM_was_0 : decode c_MM_was 0 = .ok (.aload_n 0, 1) := by decide +kernel
theorem d_MM_was_1 : decode c_MM_was 1 = .ok (.iconst 3, 1) := by decide +kernel
theorem d_MM_was_2 : decode c_MM_was 2 = .ok (.aload_n 0, 1) := by decide +kernel
theorem d_MM_was_3 : decode c_MM_was 3 = .ok (.iload_n 1, 1) := by decide +kernel
theorem d_MM_was_4 : decode c_MM_was 4 = .ok (.invokevirtual 102, 3) := by decide +kernel
theorem d_MM_was_7 : decode c_MM_was 7 = .ok (.iload_n 2, 1) := by decide +kernel
theorem d_MM_was_8 : decode c_MM_was 8 = .ok (.iconst 0, 1) := by decide +kernel
theorem d_MM_was_9 : decode c_MM_was 9 = .ok (.aload_n 0, 1) := by decide +kernel
theorem d_MM_was_10 : decode c_MM_was 10 = .ok (.getfield 91, 3) := by decide +kernel
theorem d_MM_was_13 : decode c_MM_was 13 = .ok (.invokestatic 81, 3) := by decide +kernel
theorem d_MM_was_16 : decode c_MM_was 16 = .ok (.iconst 1, 1) := by decide +kernel
theorem d_MM_was_17 : decode c_MM_was 17 = .ok (.iconst 1, 1) := by decide +kernel
theorem d_MM_was_18 : decode c_MM_was 18 = .ok (.invokevirtual 98, 3) := by decide +kernel
theorem d_MM_was_21 : decode c_MM_was 21 = .ok (.ifCond .ne 5, 3) := by decide +kernel
theorem d_MM_was_24 : decode c_MM_was 24 = .ok (.iconst 0, 1) := by decide +kernel
theorem d_MM_was_25 : decode c_MM_was 25 = .ok (.ireturn, 1) := by decide +kernel
theorem d_MM_was_26 : decode c_MM_was 26 = .ok (.aload_n 0, 1) := by decide +kernel
theorem d_MM_was_27 : decode c_MM_was 27 = .ok (.iload_n 1, 1) := by decide +kernel
theorem d_MM_was_28 : decode c_MM_was 28 = .ok (.iload_n 2, 1) := by decide +kernel
theorem d_MM_was_29 : decode c_MM_was 29 = .ok (.invokevirtual 94, 3) := by decide +kernel
theorem d_MM_was_32 : decode c_MM_was 32 = .ok (.ireturn, 1) := by decide +kernel
theorem d_MM_count_0 : decode c_MM_count 0 = .ok (.aload_n 0, 1) := by decide +kernel
theorem d_MM_count_1 : decode c_MM_count 1 = .ok (.iconst 1, 1) := by decide +kernel
theorem d_MM_count_2 : decode c_MM_count 2 = .ok (.iload_n 1, 1) := by decide +kernel
theorem d_MM_count_3 : decode c_MM_count 3 = .ok (.iconst 0, 1) := by decide +kernel
theorem d_MM_count_4 : decode c_MM_count 4 = .ok (.iconst 5, 1) := by decide +kernel
theorem d_MM_count_5 : decode c_MM_count 5 = .ok (.invokestatic 81, 3) := by decide +kernel
theorem d_MM_count_8 : decode c_MM_count 8 = .ok (.iconst 1, 1) := by decide +kernel
theorem d_MM_count_9 : decode c_MM_count 9 = .ok (.iconst 1, 1) := by decide +kernel
theorem d_MM_count_10 : decode c_MM_count 10 = .ok (.iconst 1, 1) := by decide +kernel
theorem d_MM_count_11 : decode c_MM_count 11 = .ok (.invokevirtual 98, 3) := by decide +kernel
theorem d_MM_count_14 : decode c_MM_count 14 = .ok (.ifCond .ne 5, 3) := by decide +kernel
theorem d_MM_count_17 : decode c_MM_count 17 = .ok (.iconst 0, 1) := by decide +kernel
theorem d_MM_count_18 : decode c_MM_count 18 = .ok (.ireturn, 1) := by decide +kernel
theorem d_MM_count_19 : decode c_MM_count 19 = .ok (.iconst 0, 1) := by decide +kernel
theorem d_MM_count_20 : decode c_MM_count 20 = .ok (.istore_n 2, 1) := by decide +kernel
theorem d_MM_count_21 : decode c_MM_count 21 = .ok (.iconst 0, 1) := by decide +kernel
theorem d_MM_count_22 : decode c_MM_count 22 = .ok (.istore_n 3, 1) := by decide +kernel
theorem d_MM_count_23 : decode c_MM_count 23 = .ok (.iload_n 3, 1) := by decide +kernel
theorem d_MM_count_24 : decode c_MM_count 24 = .ok (.aload_n 0, 1) := by decide +kernel
theorem d_MM_count_25 : decode c_MM_count 25 = .ok (.getfield 78, 3) := by decide +kernel
theorem d_MM_count_28 : decode c_MM_count 28 = .ok (.if_icmp .ge 20, 3) := by decide +kernel
theorem d_MM_count_31 : decode c_MM_count 31 = .ok (.aload_n 0, 1) := by decide +kernel
theorem d_MM_count_32 : decode c_MM_count 32 = .ok (.iload_n 3, 1) := by decide +kernel
theorem d_MM_count_33 : decode c_MM_count 33 = .ok (.invokevirtual 109, 3) := by decide +kernel
theorem d_MM_count_36 : decode c_MM_count 36 = .ok (.ifCond .lt 6, 3) := by decide +kernel
theorem d_MM_count_39 : decode c_MM_count 39 = .ok (.iinc 2 1, 3) := by decide +kernel
theorem d_MM_count_42 : decode c_MM_count 42 = .ok (.iinc 3 1, 3) := by decide +kernel
theorem d_MM_count_45 : decode c_MM_count 45 = .ok (.goto (-22), 3) := by decide +kernel
theorem d_MM_count_48 : decode c_MM_count 48 = .ok (.iconst 0, 1) := by decide +kernel
theorem d_MM_count_49 : decode c_MM_count 49 = .ok (.istore_n 3, 1) := by decide +kernel
theorem d_MM_count_50 : decode c_MM_count 50 = .ok (.iconst 0, 1) := by decide +kernel
theorem d_MM_count_51 : decode c_MM_count 51 = .ok (.istore 4, 2) := by decide +kernel
theorem d_MM_count_53 : decode c_MM_count 53 = .ok (.iload 4, 2) := by decide +kernel
theorem d_MM_count_55 : decode c_MM_count 55 = .ok (.aload_n 0, 1) := by decide +kernel
theorem d_MM_count_56 : decode c_MM_count 56 = .ok (.getfield 85, 3) := by decide +kernel
theorem d_MM_count_59 : decode c_MM_count 59 = .ok (.if_icmp .ge 23, 3) := by decide +kernel
theorem d_MM_count_62 : decode c_MM_count 62 = .ok (.aload_n 0, 1) := by decide +kernel
theorem d_MM_count_63 : decode c_MM_count 63 = .ok (.getfield 25, 3) := by decide +kernel
theorem d_MM_count_66 : decode c_MM_count 66 = .ok (.iload 4, 2) := by decide +kernel
theorem d_MM_count_68 : decode c_MM_count 68 = .ok (.iaload, 1) := by decide +kernel
theorem d_MM_count_69 : decode c_MM_count 69 = .ok (.iconst 3, 1) := by decide +kernel
theorem d_MM_count_70 : decode c_MM_count 70 = .ok (.if_icmp .ge 6, 3) := by decide +kernel
theorem d_MM_count_73 : decode c_MM_count 73 = .ok (.iinc 3 1, 3) := by decide +kernel
theorem d_MM_count_76 : decode c_MM_count 76 = .ok (.iinc 4 1, 3) := by decide +kernel
theorem d_MM_count_79 : decode c_MM_count 79 = .ok (.goto (-26), 3) := by decide +kernel
theorem d_MM_count_82 : decode c_MM_count 82 = .ok (.iload_n 1, 1) := by decide +kernel
theorem d_MM_count_83 : decode c_MM_count 83 = .ok (.ifCond .ne 10, 3) := by decide +kernel
theorem d_MM_count_86 : decode c_MM_count 86 = .ok (.aload_n 0, 1) := by decide +kernel
theorem d_MM_count_87 : decode c_MM_count 87 = .ok (.getfield 91, 3) := by decide +kernel
theorem d_MM_count_90 : decode c_MM_count 90 = .ok (.goto 49, 3) := by decide +kernel
theorem d_MM_count_93 : decode c_MM_count 93 = .ok (.iload_n 1, 1) := by decide +kernel
theorem d_MM_count_94 : decode c_MM_count 94 = .ok (.iconst 1, 1) := by decide +kernel
theorem d_MM_count_95 : decode c_MM_count 95 = .ok (.if_icmp .ne 7, 3) := by decide +kernel
theorem d_MM_count_98 : decode c_MM_count 98 = .ok (.iload_n 2, 1) := by decide +kernel
theorem d_MM_count_99 : decode c_MM_count 99 = .ok (.goto 40, 3) := by decide +kernel
theorem d_MM_count_102 : decode c_MM_count 102 = .ok (.iload_n 1, 1) := by decide +kernel
theorem d_MM_count_103 : decode c_MM_count 103 = .ok (.iconst 2, 1) := by decide +kernel
theorem d_MM_count_104 : decode c_MM_count 104 = .ok (.if_icmp .ne 7, 3) := by decide +kernel
theorem d_MM_count_107 : decode c_MM_count 107 = .ok (.iload_n 3, 1) := by decide +kernel
theorem d_MM_count_108 : decode c_MM_count 108 = .ok (.goto 31, 3) := by decide +kernel
theorem d_MM_count_111 : decode c_MM_count 111 = .ok (.iload_n 1, 1) := by decide +kernel
theorem d_MM_count_112 : decode c_MM_count 112 = .ok (.iconst 3, 1) := by decide +kernel
theorem d_MM_count_113 : decode c_MM_count 113 = .ok (.if_icmp .ne 10, 3) := by decide +kernel
theorem d_MM_count_116 : decode c_MM_count 116 = .ok (.aload_n 0, 1) := by decide +kernel
theorem d_MM_count_117 : decode c_MM_count 117 = .ok (.invokevirtual 119, 3) := by decide +kernel
theorem d_MM_count_120 : decode c_MM_count 120 = .ok (.goto 19, 3) := by decide +kernel
theorem d_MM_count_123 : decode c_MM_count 123 = .ok (.iload_n 1, 1) := by decide +kernel
theorem d_MM_count_124 : decode c_MM_count 124 = .ok (.iconst 4, 1) := by decide +kernel
theorem d_MM_count_125 : decode c_MM_count 125 = .ok (.if_icmp .ne 10, 3) := by decide +kernel
theorem d_MM_count_128 : decode c_MM_count 128 = .ok (.aload_n 0, 1) := by decide +kernel
theorem d_MM_count_129 : decode c_MM_count 129 = .ok (.getfield 126, 3) := by decide +kernel
theorem d_MM_count_132 : decode c_MM_count 132 = .ok (.goto 7, 3) := by decide +kernel
theorem d_MM_count_135 : decode c_MM_count 135 = .ok (.aload_n 0, 1) := by decide +kernel
theorem d_MM_count_136 : decode c_MM_count 136 = .ok (.getfield 88, 3) := by decide +kernel
theorem d_MM_count_139 : decode c_MM_count 139 = .ok (.ireturn, 1) := by decide +kernel
