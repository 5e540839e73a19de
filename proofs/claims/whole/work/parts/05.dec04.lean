theorem d_MM_thrown_0 : decode c_MM_thrown 0 = .ok (.aload_n 0, 1) := by decide +kernel
theorem d_MM_thrown_1 : decode c_MM_thrown 1 = .ok (.getfield 74, 3) := by decide +kernel
theorem d_MM_thrown_4 : decode c_MM_thrown 4 = .ok (.ireturn, 1) := by decide +kernel
theorem d_MM_person_0 : decode c_MM_person 0 = .ok (.aload_n 0, 1) := by decide +kernel
theorem d_MM_person_1 : decode c_MM_person 1 = .ok (.bipush 8, 2) := by decide +kernel
theorem d_MM_person_3 : decode c_MM_person 3 = .ok (.iconst 1, 1) := by decide +kernel
theorem d_MM_person_4 : decode c_MM_person 4 = .ok (.iconst 1, 1) := by decide +kernel
theorem d_MM_person_5 : decode c_MM_person 5 = .ok (.iconst 1, 1) := by decide +kernel
theorem d_MM_person_6 : decode c_MM_person 6 = .ok (.aload_n 0, 1) := by decide +kernel
theorem d_MM_person_7 : decode c_MM_person 7 = .ok (.getfield 78, 3) := by decide +kernel
theorem d_MM_person_10 : decode c_MM_person 10 = .ok (.bipush 60, 2) := by decide +kernel
theorem d_MM_person_12 : decode c_MM_person 12 = .ok (.if_icmp .ge 7, 3) := by decide +kernel
theorem d_MM_person_15 : decode c_MM_person 15 = .ok (.iconst 1, 1) := by decide +kernel
theorem d_MM_person_16 : decode c_MM_person 16 = .ok (.goto 4, 3) := by decide +kernel
theorem d_MM_person_19 : decode c_MM_person 19 = .ok (.iconst 0, 1) := by decide +kernel
theorem d_MM_person_20 : decode c_MM_person 20 = .ok (.invokevirtual 98, 3) := by decide +kernel
theorem d_MM_person_23 : decode c_MM_person 23 = .ok (.ifCond .ne 5, 3) := by decide +kernel
theorem d_MM_person_26 : decode c_MM_person 26 = .ok (.iconst 0, 1) := by decide +kernel
theorem d_MM_person_27 : decode c_MM_person 27 = .ok (.ireturn, 1) := by decide +kernel
theorem d_MM_person_28 : decode c_MM_person 28 = .ok (.aload_n 0, 1) := by decide +kernel
theorem d_MM_person_29 : decode c_MM_person 29 = .ok (.dup, 1) := by decide +kernel
theorem d_MM_person_30 : decode c_MM_person 30 = .ok (.getfield 78, 3) := by decide +kernel
theorem d_MM_person_33 : decode c_MM_person 33 = .ok (.iconst 1, 1) := by decide +kernel
theorem d_MM_person_34 : decode c_MM_person 34 = .ok (.iadd, 1) := by decide +kernel
theorem d_MM_person_35 : decode c_MM_person 35 = .ok (.putfield 78, 3) := by decide +kernel
theorem d_MM_person_38 : decode c_MM_person 38 = .ok (.aload_n 0, 1) := by decide +kernel
theorem d_MM_person_39 : decode c_MM_person 39 = .ok (.getfield 78, 3) := by decide +kernel
theorem d_MM_person_42 : decode c_MM_person 42 = .ok (.iconst 1, 1) := by decide +kernel
theorem d_MM_person_43 : decode c_MM_person 43 = .ok (.isub, 1) := by decide +kernel
theorem d_MM_person_44 : decode c_MM_person 44 = .ok (.ireturn, 1) := by decide +kernel
theorem d_MM_goes_0 : decode c_MM_goes 0 = .ok (.iload_n 2, 1) := by decide +kernel
theorem d_MM_goes_1 : decode c_MM_goes 1 = .ok (.ifCond .ne 7, 3) := by decide +kernel
theorem d_MM_goes_4 : decode c_MM_goes 4 = .ok (.iconst 1, 1) := by decide +kernel
theorem d_MM_goes_5 : decode c_MM_goes 5 = .ok (.goto 31, 3) := by decide +kernel
theorem d_MM_goes_8 : decode c_MM_goes 8 = .ok (.iload_n 3, 1) := by decide +kernel
theorem d_MM_goes_9 : decode c_MM_goes 9 = .ok (.ifCond .ne 7, 3) := by decide +kernel
theorem d_MM_goes_12 : decode c_MM_goes 12 = .ok (.iconst 2, 1) := by decide +kernel
theorem d_MM_goes_13 : decode c_MM_goes 13 = .ok (.goto 23, 3) := by decide +kernel
theorem d_MM_goes_16 : decode c_MM_goes 16 = .ok (.iload 4, 2) := by decide +kernel
theorem d_MM_goes_18 : decode c_MM_goes 18 = .ok (.ifCond .ne 7, 3) := by decide +kernel
theorem d_MM_goes_21 : decode c_MM_goes 21 = .ok (.iconst 4, 1) := by decide +kernel
theorem d_MM_goes_22 : decode c_MM_goes 22 = .ok (.goto 14, 3) := by decide +kernel
theorem d_MM_goes_25 : decode c_MM_goes 25 = .ok (.iload 5, 2) := by decide +kernel
theorem d_MM_goes_27 : decode c_MM_goes 27 = .ok (.ifCond .ne 8, 3) := by decide +kernel
theorem d_MM_goes_30 : decode c_MM_goes 30 = .ok (.bipush 8, 2) := by decide +kernel
theorem d_MM_goes_32 : decode c_MM_goes 32 = .ok (.goto 4, 3) := by decide +kernel
theorem d_MM_goes_35 : decode c_MM_goes 35 = .ok (.iconst 0, 1) := by decide +kernel
theorem d_MM_goes_36 : decode c_MM_goes 36 = .ok (.istore 6, 2) := by decide +kernel
theorem d_MM_goes_38 : decode c_MM_goes 38 = .ok (.aload_n 0, 1) := by decide +kernel
theorem d_MM_goes_39 : decode c_MM_goes 39 = .ok (.iconst 0, 1) := by decide +kernel
theorem d_MM_goes_40 : decode c_MM_goes 40 = .ok (.putfield 74, 3) := by decide +kernel
theorem d_MM_goes_43 : decode c_MM_goes 43 = .ok (.iconst 1, 1) := by decide +kernel
theorem d_MM_goes_44 : decode c_MM_goes 44 = .ok (.istore 7, 2) := by decide +kernel
theorem d_MM_goes_46 : decode c_MM_goes 46 = .ok (.iload 7, 2) := by decide +kernel
theorem d_MM_goes_48 : decode c_MM_goes 48 = .ok (.iload 6, 2) := by decide +kernel
theorem d_MM_goes_50 : decode c_MM_goes 50 = .ok (.if_icmp .gt 29, 3) := by decide +kernel
theorem d_MM_goes_53 : decode c_MM_goes 53 = .ok (.iload_n 1, 1) := by decide +kernel
theorem d_MM_goes_54 : decode c_MM_goes 54 = .ok (.iload 7, 2) := by decide +kernel
theorem d_MM_goes_56 : decode c_MM_goes 56 = .ok (.iand, 1) := by decide +kernel
theorem d_MM_goes_57 : decode c_MM_goes 57 = .ok (.ifCond .le 13, 3) := by decide +kernel
theorem d_MM_goes_60 : decode c_MM_goes 60 = .ok (.aload_n 0, 1) := by decide +kernel
theorem d_MM_goes_61 : decode c_MM_goes 61 = .ok (.dup, 1) := by decide +kernel
theorem d_MM_goes_62 : decode c_MM_goes 62 = .ok (.getfield 74, 3) := by decide +kernel
theorem d_MM_goes_65 : decode c_MM_goes 65 = .ok (.iconst 1, 1) := by decide +kernel
theorem d_MM_goes_66 : decode c_MM_goes 66 = .ok (.iadd, 1) := by decide +kernel
theorem d_MM_goes_67 : decode c_MM_goes 67 = .ok (.putfield 74, 3) := by decide +kernel
theorem d_MM_goes_70 : decode c_MM_goes 70 = .ok (.iconst 2, 1) := by decide +kernel
theorem d_MM_goes_71 : decode c_MM_goes 71 = .ok (.iload 7, 2) := by decide +kernel
theorem d_MM_goes_73 : decode c_MM_goes 73 = .ok (.imul, 1) := by decide +kernel
theorem d_MM_goes_74 : decode c_MM_goes 74 = .ok (.istore 7, 2) := by decide +kernel
theorem d_MM_goes_76 : decode c_MM_goes 76 = .ok (.goto (-30), 3) := by decide +kernel
theorem d_MM_goes_79 : decode c_MM_goes 79 = .ok (.iload 6, 2) := by decide +kernel
theorem d_MM_goes_81 : decode c_MM_goes 81 = .ok (.ifCond .ne 7, 3) := by decide +kernel
theorem d_MM_goes_84 : decode c_MM_goes 84 = .ok (.iconst 1, 1) := by decide +kernel
theorem d_MM_goes_85 : decode c_MM_goes 85 = .ok (.goto 4, 3) := by decide +kernel
theorem d_MM_goes_88 : decode c_MM_goes 88 = .ok (.iconst 0, 1) := by decide +kernel
theorem d_MM_goes_89 : decode c_MM_goes 89 = .ok (.ireturn, 1) := by decide +kernel
theorem d_MM_enter_0 : decode c_MM_enter 0 = .ok (.aload_n 0, 1) := by decide +kernel
theorem d_MM_enter_1 : decode c_MM_enter 1 = .ok (.iload_n 1, 1) := by decide +kernel
theorem d_MM_enter_2 : decode c_MM_enter 2 = .ok (.invokevirtual 102, 3) := by decide +kernel
theorem d_MM_enter_5 : decode c_MM_enter 5 = .ok (.ifCond .eq 14, 3) := by decide +kernel
theorem d_MM_enter_8 : decode c_MM_enter 8 = .ok (.iload_n 2, 1) := by decide +kernel
theorem d_MM_enter_9 : decode c_MM_enter 9 = .ok (.invokestatic 106, 3) := by decide +kernel
theorem d_MM_enter_12 : decode c_MM_enter 12 = .ok (.ifCond .eq 7, 3) := by decide +kernel
theorem d_MM_enter_15 : decode c_MM_enter 15 = .ok (.iconst 1, 1) := by decide +kernel
theorem d_MM_enter_16 : decode c_MM_enter 16 = .ok (.goto 4, 3) := by decide +kernel
theorem d_MM_enter_19 : decode c_MM_enter 19 = .ok (.iconst 0, 1) := by decide +kernel
theorem d_MM_enter_20 : decode c_MM_enter 20 = .ok (.istore_n 3, 1) := by decide +kernel
theorem d_MM_enter_21 : decode c_MM_enter 21 = .ok (.aload_n 0, 1) := by decide +kernel
theorem d_MM_enter_22 : decode c_MM_enter 22 = .ok (.bipush 13, 2) := by decide +kernel
theorem d_MM_enter_24 : decode c_MM_enter 24 = .ok (.iload_n 3, 1) := by decide +kernel
theorem d_MM_enter_25 : decode c_MM_enter 25 = .ok (.iconst 1, 1) := by decide +kernel
theorem d_MM_enter_26 : decode c_MM_enter 26 = .ok (.iload_n 3, 1) := by decide +kernel
theorem d_MM_enter_27 : decode c_MM_enter 27 = .ok (.ifCond .eq 16, 3) := by decide +kernel
theorem d_MM_enter_30 : decode c_MM_enter 30 = .ok (.aload_n 0, 1) := by decide +kernel
theorem d_MM_enter_31 : decode c_MM_enter 31 = .ok (.iload_n 1, 1) := by decide +kernel
theorem d_MM_enter_32 : decode c_MM_enter 32 = .ok (.invokevirtual 109, 3) := by decide +kernel
theorem d_MM_enter_35 : decode c_MM_enter 35 = .ok (.iload_n 2, 1) := by decide +kernel
theorem d_MM_enter_36 : decode c_MM_enter 36 = .ok (.if_icmp .eq 7, 3) := by decide +kernel
theorem d_MM_enter_39 : decode c_MM_enter 39 = .ok (.iconst 1, 1) := by decide +kernel
theorem d_MM_enter_40 : decode c_MM_enter 40 = .ok (.goto 4, 3) := by decide +kernel
theorem d_MM_enter_43 : decode c_MM_enter 43 = .ok (.iconst 0, 1) := by decide +kernel
theorem d_MM_enter_44 : decode c_MM_enter 44 = .ok (.aload_n 0, 1) := by decide +kernel
theorem d_MM_enter_45 : decode c_MM_enter 45 = .ok (.getfield 88, 3) := by decide +kernel
theorem d_MM_enter_48 : decode c_MM_enter 48 = .ok (.sipush 300, 3) := by decide +kernel
theorem d_MM_enter_51 : decode c_MM_enter 51 = .ok (.if_icmp .ge 7, 3) := by decide +kernel
theorem d_MM_enter_54 : decode c_MM_enter 54 = .ok (.iconst 1, 1) := by decide +kernel
theorem d_MM_enter_55 : decode c_MM_enter 55 = .ok (.goto 4, 3) := by decide +kernel
theorem d_MM_enter_58 : decode c_MM_enter 58 = .ok (.iconst 0, 1) := by decide +kernel
theorem d_MM_enter_59 : decode c_MM_enter 59 = .ok (.invokevirtual 98, 3) := by decide +kernel
theorem d_MM_enter_62 : decode c_MM_enter 62 = .ok (.ifCond .eq 9, 3) := by decide +kernel
theorem d_MM_enter_65 : decode c_MM_enter 65 = .ok (.aload_n 0, 1) := by decide +kernel
theorem d_MM_enter_66 : decode c_MM_enter 66 = .ok (.iload_n 1, 1) := by decide +kernel
theorem d_MM_enter_67 : decode c_MM_enter 67 = .ok (.iload_n 2, 1) := by decide +kernel
theorem d_MM_enter_68 : decode c_MM_enter 68 = .ok (.invokevirtual 113, 3) := by decide +kernel
theorem d_MM_enter_71 : decode c_MM_enter 71 = .ok (.return_, 1) := by decide +kernel
theorem d_MM_isPerson_0 : decode c_MM_isPerson 0 = .ok (.iload_n 1, 1) := by decide +kernel
theorem d_MM_isPerson_1 : decode c_MM_isPerson 1 = .ok (.iconst 0, 1) := by decide +kernel
theorem d_MM_isPerson_2 : decode c_MM_isPerson 2 = .ok (.aload_n 0, 1) := by decide +kernel
theorem d_MM_isPerson_3 : decode c_MM_isPerson 3 = .ok (.getfield 78, 3) := by decide +kernel
theorem d_MM_isPerson_6 : decode c_MM_isPerson 6 = .ok (.iconst 1, 1) := by decide +kernel
theorem d_MM_isPerson_7 : decode c_MM_isPerson 7 = .ok (.isub, 1) := by decide +kernel
theorem d_MM_isPerson_8 : decode c_MM_isPerson 8 = .ok (.invokestatic 81, 3) := by decide +kernel
theorem d_MM_isPerson_11 : decode c_MM_isPerson 11 = .ok (.ireturn, 1) := by decide +kernel
theorem d_MM_in_0 : decode c_MM_in 0 = .ok (.iload_n 0, 1) := by decide +kernel
theorem d_MM_in_1 : decode c_MM_in 1 = .ok (.iload_n 1, 1) := by decide +kernel
theorem d_MM_in_2 : decode c_MM_in 2 = .ok (.if_icmp .lt 12, 3) := by decide +kernel
theorem d_MM_in_5 : decode c_MM_in 5 = .ok (.iload_n 0, 1) := by decide +kernel
theorem d_MM_in_6 : decode c_MM_in 6 = .ok (.iload_n 2, 1) := by decide +kernel
theorem d_MM_in_7 : decode c_MM_in 7 = .ok (.if_icmp .gt 7, 3) := by decide +kernel
theorem d_MM_in_10 : decode c_MM_in 10 = .ok (.iconst 1, 1) := by decide +kernel
theorem d_MM_in_11 : decode c_MM_in 11 = .ok (.goto 4, 3) := by decide +kernel
theorem d_MM_in_14 : decode c_MM_in 14 = .ok (.iconst 0, 1) := by decide +kernel
theorem d_MM_in_15 : decode c_MM_in 15 = .ok (.ireturn, 1) := by decide +kernel
theorem d_MM_isSector_0 : decode c_MM_isSector 0 = .ok (.iload_n 0, 1) := by decide +kernel
theorem d_MM_isSector_1 : decode c_MM_isSector 1 = .ok (.iconst 0, 1) := by decide +kernel
theorem d_MM_isSector_2 : decode c_MM_isSector 2 = .ok (.bipush 9, 2) := by decide +kernel
theorem d_MM_isSector_4 : decode c_MM_isSector 4 = .ok (.invokestatic 81, 3) := by decide +kernel
theorem d_MM_isSector_7 : decode c_MM_isSector 7 = .ok (.ireturn, 1) := by decide +kernel
theorem d_MM_here_0 : decode c_MM_here 0 = .ok (.aload_n 0, 1) := by decide +kernel
theorem d_MM_here_1 : decode c_MM_here 1 = .ok (.iload_n 1, 1) := by decide +kernel
theorem d_MM_here_2 : decode c_MM_here 2 = .ok (.aload_n 0, 1) := by decide +kernel
theorem d_MM_here_3 : decode c_MM_here 3 = .ok (.getfield 91, 3) := by decide +kernel
theorem d_MM_here_6 : decode c_MM_here 6 = .ok (.invokevirtual 94, 3) := by decide +kernel
theorem d_MM_here_9 : decode c_MM_here 9 = .ok (.ireturn, 1) := by decide +kernel
theorem d_MM_at_0 : decode c_MM_at 0 = .ok (.iconst (-1), 1) := by decide +kernel
theorem d_MM_at_1 : decode c_MM_at 1 = .ok (.istore_n 3, 1) := by decide +kernel
theorem d_MM_at_2 : decode c_MM_at 2 = .ok (.iconst 0, 1) := by decide +kernel
theorem d_MM_at_3 : decode c_MM_at 3 = .ok (.istore 4, 2) := by decide +kernel
theorem d_MM_at_5 : decode c_MM_at 5 = .ok (.iload 4, 2) := by decide +kernel
theorem d_MM_at_7 : decode c_MM_at 7 = .ok (.aload_n 0, 1) := by decide +kernel
theorem d_MM_at_8 : decode c_MM_at 8 = .ok (.getfield 88, 3) := by decide +kernel
theorem d_MM_at_11 : decode c_MM_at 11 = .ok (.if_icmp .ge 39, 3) := by decide +kernel
theorem d_MM_at_14 : decode c_MM_at 14 = .ok (.aload_n 0, 1) := by decide +kernel
theorem d_MM_at_15 : decode c_MM_at 15 = .ok (.getfield 13, 3) := by decide +kernel
theorem d_MM_at_18 : decode c_MM_at 18 = .ok (.iload 4, 2) := by decide +kernel
theorem d_MM_at_20 : decode c_MM_at 20 = .ok (.iaload, 1) := by decide +kernel
theorem d_MM_at_21 : decode c_MM_at 21 = .ok (.iload_n 1, 1) := by decide +kernel
theorem d_MM_at_22 : decode c_MM_at 22 = .ok (.if_icmp .ne 22, 3) := by decide +kernel
theorem d_MM_at_25 : decode c_MM_at 25 = .ok (.aload_n 0, 1) := by decide +kernel
theorem d_MM_at_26 : decode c_MM_at 26 = .ok (.getfield 19, 3) := by decide +kernel
theorem d_MM_at_29 : decode c_MM_at 29 = .ok (.iload 4, 2) := by decide +kernel
theorem d_MM_at_31 : decode c_MM_at 31 = .ok (.iaload, 1) := by decide +kernel
theorem d_MM_at_32 : decode c_MM_at 32 = .ok (.iload_n 2, 1) := by decide +kernel
theorem d_MM_at_33 : decode c_MM_at 33 = .ok (.if_icmp .gt 11, 3) := by decide +kernel
theorem d_MM_at_36 : decode c_MM_at 36 = .ok (.aload_n 0, 1) := by decide +kernel
theorem d_MM_at_37 : decode c_MM_at 37 = .ok (.getfield 16, 3) := by decide +kernel
theorem d_MM_at_40 : decode c_MM_at 40 = .ok (.iload 4, 2) := by decide +kernel
theorem d_MM_at_42 : decode c_MM_at 42 = .ok (.iaload, 1) := by decide +kernel
theorem d_MM_at_43 : decode c_MM_at 43 = .ok (.istore_n 3, 1) := by decide +kernel
theorem d_MM_at_44 : decode c_MM_at 44 = .ok (.iinc 4 1, 3) := by decide +kernel
theorem d_MM_at_47 : decode c_MM_at 47 = .ok (.goto (-42), 3) := by decide +kernel
theorem d_MM_at_50 : decode c_MM_at 50 = .ok (.iload_n 3, 1) := by decide +kernel
theorem d_MM_at_51 : decode c_MM_at 51 = .ok (.ireturn, 1) := by decide +kernel
theorem d_MM_moves_0 : decode c_MM_moves 0 = .ok (.aload_n 0, 1) := by decide +kernel
theorem d_MM_moves_1 : decode c_MM_moves 1 = .ok (.getfield 13, 3) := by decide +kernel
theorem d_MM_moves_4 : decode c_MM_moves 4 = .ok (.aload_n 0, 1) := by decide +kernel
theorem d_MM_moves_5 : decode c_MM_moves 5 = .ok (.getfield 88, 3) := by decide +kernel
theorem d_MM_moves_8 : decode c_MM_moves 8 = .ok (.iload_n 1, 1) := by decide +kernel
theorem d_MM_moves_9 : decode c_MM_moves 9 = .ok (.iastore, 1) := by decide +kernel
theorem d_MM_moves_10 : decode c_MM_moves 10 = .ok (.aload_n 0, 1) := by decide +kernel
theorem d_MM_moves_11 : decode c_MM_moves 11 = .ok (.getfield 16, 3) := by decide +kernel
theorem d_MM_moves_14 : decode c_MM_moves 14 = .ok (.aload_n 0, 1) := by decide +kernel
theorem d_MM_moves_15 : decode c_MM_moves 15 = .ok (.getfield 88, 3) := by decide +kernel
theorem d_MM_moves_18 : decode c_MM_moves 18 = .ok (.iload_n 2, 1) := by decide +kernel
theorem d_MM_moves_19 : decode c_MM_moves 19 = .ok (.iastore, 1) := by decide +kernel
theorem d_MM_moves_20 : decode c_MM_moves 20 = .ok (.aload_n 0, 1) := by decide +kernel
theorem d_MM_moves_21 : decode c_MM_moves 21 = .ok (.getfield 19, 3) := by decide +kernel
theorem d_MM_moves_24 : decode c_MM_moves 24 = .ok (.aload_n 0, 1) := by decide +kernel
theorem d_MM_moves_25 : decode c_MM_moves 25 = .ok (.getfield 88, 3) := by decide +kernel
theorem d_MM_moves_28 : decode c_MM_moves 28 = .ok (.aload_n 0, 1) := by decide +kernel
theorem d_MM_moves_29 : decode c_MM_moves 29 = .ok (.getfield 91, 3) := by decide +kernel
theorem d_MM_moves_32 : decode c_MM_moves 32 = .ok (.iastore, 1) := by decide +kernel
theorem d_MM_moves_33 : decode c_MM_moves 33 = .ok (.aload_n 0, 1) := by decide +kernel
theorem d_MM_moves_34 : decode c_MM_moves 34 = .ok (.dup, 1) := by decide +kernel
theorem d_MM_moves_35 : decode c_MM_moves 35 = .ok (.getfield 88, 3) := by decide +kernel
theorem d_MM_moves_38 : decode c_MM_moves 38 = .ok (.iconst 1, 1) := by decide +kernel
theorem d_MM_moves_39 : decode c_MM_moves 39 = .ok (.iadd, 1) := by decide +kernel
theorem d_MM_moves_40 : decode c_MM_moves 40 = .ok (.putfield 88, 3) := by decide +kernel
theorem d_MM_moves_43 : decode c_MM_moves 43 = .ok (.return_, 1) := by decide +kernel
theorem d_MM_leave_0 : decode c_MM_leave 0 = .ok (.aload_n 0, 1) := by decide +kernel
theorem d_MM_leave_1 : decode c_MM_leave 1 = .ok (.bipush 13, 2) := by decide +kernel
theorem d_MM_leave_3 : decode c_MM_leave 3 = .ok (.aload_n 0, 1) := by decide +kernel
theorem d_MM_leave_4 : decode c_MM_leave 4 = .ok (.iload_n 1, 1) := by decide +kernel
theorem d_MM_leave_5 : decode c_MM_leave 5 = .ok (.invokevirtual 102, 3) := by decide +kernel
theorem d_MM_leave_8 : decode c_MM_leave 8 = .ok (.iconst 1, 1) := by decide +kernel
theorem d_MM_leave_9 : decode c_MM_leave 9 = .ok (.aload_n 0, 1) := by decide +kernel
theorem d_MM_leave_10 : decode c_MM_leave 10 = .ok (.iload_n 1, 1) := by decide +kernel
theorem d_MM_leave_11 : decode c_MM_leave 11 = .ok (.invokevirtual 102, 3) := by decide +kernel
theorem d_MM_leave_14 : decode c_MM_leave 14 = .ok (.ifCond .eq 15, 3) := by decide +kernel
theorem d_MM_leave_17 : decode c_MM_leave 17 = .ok (.aload_n 0, 1) := by decide +kernel
theorem d_MM_leave_18 : decode c_MM_leave 18 = .ok (.iload_n 1, 1) := by decide +kernel
theorem d_MM_leave_19 : decode c_MM_leave 19 = .ok (.invokevirtual 109, 3) := by decide +kernel
theorem d_MM_leave_22 : decode c_MM_leave 22 = .ok (.ifCond .lt 7, 3) := by decide +kernel
theorem d_MM_leave_25 : decode c_MM_leave 25 = .ok (.iconst 1, 1) := by decide +kernel
theorem d_MM_leave_26 : decode c_MM_leave 26 = .ok (.goto 4, 3) := by decide +kernel
theorem d_MM_leave_29 : decode c_MM_leave 29 = .ok (.iconst 0, 1) := by decide +kernel
theorem d_MM_leave_30 : decode c_MM_leave 30 = .ok (.aload_n 0, 1) := by decide +kernel
theorem d_MM_leave_31 : decode c_MM_leave 31 = .ok (.getfield 88, 3) := by decide +kernel
theorem d_MM_leave_34 : decode c_MM_leave 34 = .ok (.sipush 300, 3) := by decide +kernel
theorem d_MM_leave_37 : decode c_MM_leave 37 = .ok (.if_icmp .ge 7, 3) := by decide +kernel
theorem d_MM_leave_40 : decode c_MM_leave 40 = .ok (.iconst 1, 1) := by decide +kernel
theorem d_MM_leave_41 : decode c_MM_leave 41 = .ok (.goto 4, 3) := by decide +kernel
theorem d_MM_leave_44 : decode c_MM_leave 44 = .ok (.iconst 0, 1) := by decide +kernel
theorem d_MM_leave_45 : decode c_MM_leave 45 = .ok (.invokevirtual 98, 3) := by decide +kernel
theorem d_MM_leave_48 : decode c_MM_leave 48 = .ok (.ifCond .eq 9, 3) := by decide +kernel
theorem d_MM_leave_51 : decode c_MM_leave 51 = .ok (.aload_n 0, 1) := by decide +kernel
theorem d_MM_leave_52 : decode c_MM_leave 52 = .ok (.iload_n 1, 1) := by decide +kernel
theorem d_MM_leave_53 : decode c_MM_leave 53 = .ok (.iconst (-1), 1) := by decide +kernel
theorem d_MM_leave_54 : decode c_MM_leave 54 = .ok (.invokevirtual 113, 3) := by decide +kernel
theorem d_MM_leave_57 : decode c_MM_leave 57 = .ok (.return_, 1) := by decide +kernel
theorem d_MM_guests_0 : decode c_MM_guests 0 = .ok (.aload_n 0, 1) := by decide +kernel
theorem d_MM_guests_1 : decode c_MM_guests 1 = .ok (.iconst 3, 1) := by decide +kernel
theorem d_MM_guests_2 : decode c_MM_guests 2 = .ok (.iload_n 1, 1) := by decide +kernel
theorem d_MM_guests_3 : decode c_MM_guests 3 = .ok (.invokestatic 106, 3) := by decide +kernel
theorem d_MM_guests_6 : decode c_MM_guests 6 = .ok (.iload_n 2, 1) := by decide +kernel
theorem d_MM_guests_7 : decode c_MM_guests 7 = .ok (.iconst 0, 1) := by decide +kernel
theorem d_MM_guests_8 : decode c_MM_guests 8 = .ok (.sipush 999, 3) := by decide +kernel
theorem d_MM_guests_11 : decode c_MM_guests 11 = .ok (.invokestatic 81, 3) := by decide +kernel
theorem d_MM_guests_14 : decode c_MM_guests 14 = .ok (.iconst 1, 1) := by decide +kernel
theorem d_MM_guests_15 : decode c_MM_guests 15 = .ok (.iconst 1, 1) := by decide +kernel
theorem d_MM_guests_16 : decode c_MM_guests 16 = .ok (.invokevirtual 98, 3) := by decide +kernel
theorem d_MM_guests_19 : decode c_MM_guests 19 = .ok (.ifCond .eq 10, 3) := by decide +kernel
theorem d_MM_guests_22 : decode c_MM_guests 22 = .ok (.aload_n 0, 1) := by decide +kernel
theorem d_MM_guests_23 : decode c_MM_guests 23 = .ok (.getfield 7, 3) := by decide +kernel
theorem d_MM_guests_26 : decode c_MM_guests 26 = .ok (.iload_n 1, 1) := by decide +kernel
theorem d_MM_guests_27 : decode c_MM_guests 27 = .ok (.iload_n 2, 1) := by decide +kernel
theorem d_MM_guests_28 : decode c_MM_guests 28 = .ok (.iastore, 1) := by decide +kernel
theorem d_MM_guests_29 : decode c_MM_guests 29 = .ok (.return_, 1) := by decide +kernel
theorem d_MM_roll_0 : decode c_MM_roll 0 = .ok (.aload_n 0, 1) := by decide +kernel
theorem d_MM_roll_1 : decode c_MM_roll 1 = .ok (.invokevirtual 119, 3) := by decide +kernel
theorem d_MM_roll_4 : decode c_MM_roll 4 = .ok (.ifCond .ne 7, 3) := by decide +kernel
theorem d_MM_roll_7 : decode c_MM_roll 7 = .ok (.iconst 1, 1) := by decide +kernel
theorem d_MM_roll_8 : decode c_MM_roll 8 = .ok (.goto 4, 3) := by decide +kernel
theorem d_MM_roll_11 : decode c_MM_roll 11 = .ok (.iconst 0, 1) := by decide +kernel
theorem d_MM_roll_12 : decode c_MM_roll 12 = .ok (.istore_n 2, 1) := by decide +kernel
theorem d_MM_roll_13 : decode c_MM_roll 13 = .ok (.iconst 0, 1) := by decide +kernel
theorem d_MM_roll_14 : decode c_MM_roll 14 = .ok (.istore_n 3, 1) := by decide +kernel
theorem d_MM_roll_15 : decode c_MM_roll 15 = .ok (.iload_n 3, 1) := by decide +kernel
theorem d_MM_roll_16 : decode c_MM_roll 16 = .ok (.aload_n 0, 1) := by decide +kernel
theorem d_MM_roll_17 : decode c_MM_roll 17 = .ok (.getfield 85, 3) := by decide +kernel
theorem d_MM_roll_20 : decode c_MM_roll 20 = .ok (.if_icmp .ge 46, 3) := by decide +kernel
theorem d_MM_roll_23 : decode c_MM_roll 23 = .ok (.aload_n 0, 1) := by decide +kernel
theorem d_MM_roll_24 : decode c_MM_roll 24 = .ok (.getfield 25, 3) := by decide +kernel
theorem d_MM_roll_27 : decode c_MM_roll 27 = .ok (.iload_n 3, 1) := by decide +kernel
theorem d_MM_roll_28 : decode c_MM_roll 28 = .ok (.iaload, 1) := by decide +kernel
theorem d_MM_roll_29 : decode c_MM_roll 29 = .ok (.iconst 3, 1) := by decide +kernel
theorem d_MM_roll_30 : decode c_MM_roll 30 = .ok (.if_icmp .ge 30, 3) := by decide +kernel
theorem d_MM_roll_33 : decode c_MM_roll 33 = .ok (.iload_n 1, 1) := by decide +kernel
theorem d_MM_roll_34 : decode c_MM_roll 34 = .ok (.iconst (-1), 1) := by decide +kernel
theorem d_MM_roll_35 : decode c_MM_roll 35 = .ok (.if_icmp .eq 23, 3) := by decide +kernel
theorem d_MM_roll_38 : decode c_MM_roll 38 = .ok (.aload_n 0, 1) := by decide +kernel
theorem d_MM_roll_39 : decode c_MM_roll 39 = .ok (.getfield 22, 3) := by decide +kernel
theorem d_MM_roll_42 : decode c_MM_roll 42 = .ok (.iload_n 3, 1) := by decide +kernel
theorem d_MM_roll_43 : decode c_MM_roll 43 = .ok (.iaload, 1) := by decide +kernel
theorem d_MM_roll_44 : decode c_MM_roll 44 = .ok (.iconst (-1), 1) := by decide +kernel
theorem d_MM_roll_45 : decode c_MM_roll 45 = .ok (.if_icmp .eq 13, 3) := by decide +kernel
theorem d_MM_roll_48 : decode c_MM_roll 48 = .ok (.aload_n 0, 1) := by decide +kernel
theorem d_MM_roll_49 : decode c_MM_roll 49 = .ok (.getfield 22, 3) := by decide +kernel
theorem d_MM_roll_52 : decode c_MM_roll 52 = .ok (.iload_n 3, 1) := by decide +kernel
theorem d_MM_roll_53 : decode c_MM_roll 53 = .ok (.iaload, 1) := by decide +kernel
theorem d_MM_roll_54 : decode c_MM_roll 54 = .ok (.iload_n 1, 1) := by decide +kernel
theorem d_MM_roll_55 : decode c_MM_roll 55 = .ok (.if_icmp .ne 5, 3) := by decide +kernel
theorem d_MM_roll_58 : decode c_MM_roll 58 = .ok (.iconst 0, 1) := by decide +kernel
theorem d_MM_roll_59 : decode c_MM_roll 59 = .ok (.istore_n 2, 1) := by decide +kernel
theorem d_MM_roll_60 : decode c_MM_roll 60 = .ok (.iinc 3 1, 3) := by decide +kernel
theorem d_MM_roll_63 : decode c_MM_roll 63 = .ok (.goto (-48), 3) := by decide +kernel
theorem d_MM_roll_66 : decode c_MM_roll 66 = .ok (.aload_n 0, 1) := by decide +kernel
theorem d_MM_roll_67 : decode c_MM_roll 67 = .ok (.bipush 13, 2) := by decide +kernel
theorem d_MM_roll_69 : decode c_MM_roll 69 = .ok (.iload_n 1, 1) := by decide +kernel
theorem d_MM_roll_70 : decode c_MM_roll 70 = .ok (.iconst (-1), 1) := by decide +kernel
theorem d_MM_roll_71 : decode c_MM_roll 71 = .ok (.if_icmp .eq 10, 3) := by decide +kernel
theorem d_MM_roll_74 : decode c_MM_roll 74 = .ok (.iload_n 1, 1) := by decide +kernel
theorem d_MM_roll_75 : decode c_MM_roll 75 = .ok (.invokestatic 106, 3) := by decide +kernel
theorem d_MM_roll_78 : decode c_MM_roll 78 = .ok (.ifCond .eq 7, 3) := by decide +kernel
theorem d_MM_roll_81 : decode c_MM_roll 81 = .ok (.iconst 1, 1) := by decide +kernel
theorem d_MM_roll_82 : decode c_MM_roll 82 = .ok (.goto 4, 3) := by decide +kernel
theorem d_MM_roll_85 : decode c_MM_roll 85 = .ok (.iconst 0, 1) := by decide +kernel
theorem d_MM_roll_86 : decode c_MM_roll 86 = .ok (.iconst 1, 1) := by decide +kernel
theorem d_MM_roll_87 : decode c_MM_roll 87 = .ok (.iload_n 2, 1) := by decide +kernel
theorem d_MM_roll_88 : decode c_MM_roll 88 = .ok (.aload_n 0, 1) := by decide +kernel
theorem d_MM_roll_89 : decode c_MM_roll 89 = .ok (.getfield 85, 3) := by decide +kernel
theorem d_MM_roll_92 : decode c_MM_roll 92 = .ok (.bipush 40, 2) := by decide +kernel
theorem d_MM_roll_94 : decode c_MM_roll 94 = .ok (.if_icmp .ge 7, 3) := by decide +kernel
theorem d_MM_roll_97 : decode c_MM_roll 97 = .ok (.iconst 1, 1) := by decide +kernel
theorem d_MM_roll_98 : decode c_MM_roll 98 = .ok (.goto 4, 3) := by decide +kernel
theorem d_MM_roll_101 : decode c_MM_roll 101 = .ok (.iconst 0, 1) := by decide +kernel
theorem d_MM_roll_102 : decode c_MM_roll 102 = .ok (.invokevirtual 98, 3) := by decide +kernel
theorem d_MM_roll_105 : decode c_MM_roll 105 = .ok (.ifCond .ne 5, 3) := by decide +kernel
theorem d_MM_roll_108 : decode c_MM_roll 108 = .ok (.iconst 0, 1) := by decide +kernel
theorem d_MM_roll_109 : decode c_MM_roll 109 = .ok (.ireturn, 1) := by decide +kernel
theorem d_MM_roll_110 : decode c_MM_roll 110 = .ok (.aload_n 0, 1) := by decide +kernel
theorem d_MM_roll_111 : decode c_MM_roll 111 = .ok (.getfield 22, 3) := by decide +kernel
theorem d_MM_roll_114 : decode c_MM_roll 114 = .ok (.aload_n 0, 1) := by decide +kernel
theorem d_MM_roll_115 : decode c_MM_roll 115 = .ok (.getfield 85, 3) := by decide +kernel
theorem d_MM_roll_118 : decode c_MM_roll 118 = .ok (.iload_n 1, 1) := by decide +kernel
theorem d_MM_roll_119 : decode c_MM_roll 119 = .ok (.iastore, 1) := by decide +kernel
theorem d_MM_roll_120 : decode c_MM_roll 120 = .ok (.aload_n 0, 1) := by decide +kernel
theorem d_MM_roll_121 : decode c_MM_roll 121 = .ok (.getfield 28, 3) := by decide +kernel
theorem d_MM_roll_124 : decode c_MM_roll 124 = .ok (.aload_n 0, 1) := by decide +kernel
theorem d_MM_roll_125 : decode c_MM_roll 125 = .ok (.getfield 85, 3) := by decide +kernel
theorem d_MM_roll_128 : decode c_MM_roll 128 = .ok (.aload_n 0, 1) := by decide +kernel
theorem d_MM_roll_129 : decode c_MM_roll 129 = .ok (.getfield 88, 3) := by decide +kernel
theorem d_MM_roll_132 : decode c_MM_roll 132 = .ok (.iastore, 1) := by decide +kernel
theorem d_MM_roll_133 : decode c_MM_roll 133 = .ok (.iconst 0, 1) := by decide +kernel
theorem d_MM_roll_134 : decode c_MM_roll 134 = .ok (.istore_n 3, 1) := by decide +kernel
theorem d_MM_roll_135 : decode c_MM_roll 135 = .ok (.iconst 0, 1) := by decide +kernel
theorem d_MM_roll_136 : decode c_MM_roll 136 = .ok (.istore 4, 2) := by decide +kernel
theorem d_MM_roll_138 : decode c_MM_roll 138 = .ok (.iload 4, 2) := by decide +kernel
theorem d_MM_roll_140 : decode c_MM_roll 140 = .ok (.bipush 60, 2) := by decide +kernel
theorem d_MM_roll_142 : decode c_MM_roll 142 = .ok (.if_icmp .ge 98, 3) := by decide +kernel
theorem d_MM_roll_145 : decode c_MM_roll 145 = .ok (.aload_n 0, 1) := by decide +kernel
theorem d_MM_roll_146 : decode c_MM_roll 146 = .ok (.getfield 85, 3) := by decide +kernel
theorem d_MM_roll_149 : decode c_MM_roll 149 = .ok (.bipush 60, 2) := by decide +kernel
theorem d_MM_roll_151 : decode c_MM_roll 151 = .ok (.imul, 1) := by decide +kernel
theorem d_MM_roll_152 : decode c_MM_roll 152 = .ok (.iload 4, 2) := by decide +kernel
theorem d_MM_roll_154 : decode c_MM_roll 154 = .ok (.iadd, 1) := by decide +kernel
theorem d_MM_roll_155 : decode c_MM_roll 155 = .ok (.istore 5, 2) := by decide +kernel
theorem d_MM_roll_157 : decode c_MM_roll 157 = .ok (.iload 4, 2) := by decide +kernel
theorem d_MM_roll_159 : decode c_MM_roll 159 = .ok (.aload_n 0, 1) := by decide +kernel
theorem d_MM_roll_160 : decode c_MM_roll 160 = .ok (.getfield 78, 3) := by decide +kernel
theorem d_MM_roll_163 : decode c_MM_roll 163 = .ok (.if_icmp .ge 12, 3) := by decide +kernel
theorem d_MM_roll_166 : decode c_MM_roll 166 = .ok (.aload_n 0, 1) := by decide +kernel
theorem d_MM_roll_167 : decode c_MM_roll 167 = .ok (.iload 4, 2) := by decide +kernel
theorem d_MM_roll_169 : decode c_MM_roll 169 = .ok (.invokevirtual 109, 3) := by decide +kernel
theorem d_MM_roll_172 : decode c_MM_roll 172 = .ok (.goto 4, 3) := by decide +kernel
theorem d_MM_roll_175 : decode c_MM_roll 175 = .ok (.iconst (-1), 1) := by decide +kernel
theorem d_MM_roll_176 : decode c_MM_roll 176 = .ok (.istore 6, 2) := by decide +kernel
theorem d_MM_roll_178 : decode c_MM_roll 178 = .ok (.aload_n 0, 1) := by decide +kernel
theorem d_MM_roll_179 : decode c_MM_roll 179 = .ok (.getfield 40, 3) := by decide +kernel
theorem d_MM_roll_182 : decode c_MM_roll 182 = .ok (.iload 5, 2) := by decide +kernel
theorem d_MM_roll_184 : decode c_MM_roll 184 = .ok (.iload 6, 2) := by decide +kernel
theorem d_MM_roll_186 : decode c_MM_roll 186 = .ok (.ifCond .lt 18, 3) := by decide +kernel
theorem d_MM_roll_189 : decode c_MM_roll 189 = .ok (.iload_n 1, 1) := by decide +kernel
theorem d_MM_roll_190 : decode c_MM_roll 190 = .ok (.iconst (-1), 1) := by decide +kernel
theorem d_MM_roll_191 : decode c_MM_roll 191 = .ok (.if_icmp .eq 9, 3) := by decide +kernel
theorem d_MM_roll_194 : decode c_MM_roll 194 = .ok (.iload 6, 2) := by decide +kernel
theorem d_MM_roll_196 : decode c_MM_roll 196 = .ok (.iload_n 1, 1) := by decide +kernel
theorem d_MM_roll_197 : decode c_MM_roll 197 = .ok (.if_icmp .ne 7, 3) := by decide +kernel
theorem d_MM_roll_200 : decode c_MM_roll 200 = .ok (.iconst 1, 1) := by decide +kernel
theorem d_MM_roll_201 : decode c_MM_roll 201 = .ok (.goto 4, 3) := by decide +kernel
theorem d_MM_roll_204 : decode c_MM_roll 204 = .ok (.iconst 0, 1) := by decide +kernel
theorem d_MM_roll_205 : decode c_MM_roll 205 = .ok (.bastore, 1) := by decide +kernel
theorem d_MM_roll_206 : decode c_MM_roll 206 = .ok (.aload_n 0, 1) := by decide +kernel
theorem d_MM_roll_207 : decode c_MM_roll 207 = .ok (.getfield 44, 3) := by decide +kernel
theorem d_MM_roll_210 : decode c_MM_roll 210 = .ok (.iload 5, 2) := by decide +kernel
theorem d_MM_roll_212 : decode c_MM_roll 212 = .ok (.iconst (-1), 1) := by decide +kernel
theorem d_MM_roll_213 : decode c_MM_roll 213 = .ok (.iastore, 1) := by decide +kernel
theorem d_MM_roll_214 : decode c_MM_roll 214 = .ok (.iload_n 3, 1) := by decide +kernel
theorem d_MM_roll_215 : decode c_MM_roll 215 = .ok (.ifCond .ne 13, 3) := by decide +kernel
theorem d_MM_roll_218 : decode c_MM_roll 218 = .ok (.aload_n 0, 1) := by decide +kernel
theorem d_MM_roll_219 : decode c_MM_roll 219 = .ok (.getfield 40, 3) := by decide +kernel
theorem d_MM_roll_222 : decode c_MM_roll 222 = .ok (.iload 5, 2) := by decide +kernel
theorem d_MM_roll_224 : decode c_MM_roll 224 = .ok (.baload, 1) := by decide +kernel
theorem d_MM_roll_225 : decode c_MM_roll 225 = .ok (.ifCond .eq 7, 3) := by decide +kernel
theorem d_MM_roll_228 : decode c_MM_roll 228 = .ok (.iconst 1, 1) := by decide +kernel
theorem d_MM_roll_229 : decode c_MM_roll 229 = .ok (.goto 4, 3) := by decide +kernel
theorem d_MM_roll_232 : decode c_MM_roll 232 = .ok (.iconst 0, 1) := by decide +kernel
theorem d_MM_roll_233 : decode c_MM_roll 233 = .ok (.istore_n 3, 1) := by decide +kernel
theorem d_MM_roll_234 : decode c_MM_roll 234 = .ok (.iinc 4 1, 3) := by decide +kernel
theorem d_MM_roll_237 : decode c_MM_roll 237 = .ok (.goto (-99), 3) := by decide +kernel
theorem d_MM_roll_240 : decode c_MM_roll 240 = .ok (.iconst 0, 1) := by decide +kernel
theorem d_MM_roll_241 : decode c_MM_roll 241 = .ok (.istore 4, 2) := by decide +kernel
theorem d_MM_roll_243 : decode c_MM_roll 243 = .ok (.iload 4, 2) := by decide +kernel
theorem d_MM_roll_245 : decode c_MM_roll 245 = .ok (.bipush 10, 2) := by decide +kernel
theorem d_MM_roll_247 : decode c_MM_roll 247 = .ok (.if_icmp .ge 46, 3) := by decide +kernel
theorem d_MM_roll_250 : decode c_MM_roll 250 = .ok (.iload_n 1, 1) := by decide +kernel
theorem d_MM_roll_251 : decode c_MM_roll 251 = .ok (.iconst (-1), 1) := by decide +kernel
theorem d_MM_roll_252 : decode c_MM_roll 252 = .ok (.if_icmp .eq 9, 3) := by decide +kernel
theorem d_MM_roll_255 : decode c_MM_roll 255 = .ok (.iload 4, 2) := by decide +kernel
theorem d_MM_roll_257 : decode c_MM_roll 257 = .ok (.iload_n 1, 1) := by decide +kernel
theorem d_MM_roll_258 : decode c_MM_roll 258 = .ok (.if_icmp .ne 29, 3) := by decide +kernel
theorem d_MM_roll_261 : decode c_MM_roll 261 = .ok (.aload_n 0, 1) := by decide +kernel
theorem d_MM_roll_262 : decode c_MM_roll 262 = .ok (.getfield 31, 3) := by decide +kernel
theorem d_MM_roll_265 : decode c_MM_roll 265 = .ok (.aload_n 0, 1) := by decide +kernel
theorem d_MM_roll_266 : decode c_MM_roll 266 = .ok (.getfield 85, 3) := by decide +kernel
theorem d_MM_roll_269 : decode c_MM_roll 269 = .ok (.aload_n 0, 1) := by decide +kernel
theorem d_MM_roll_270 : decode c_MM_roll 270 = .ok (.getfield 31, 3) := by decide +kernel
theorem d_MM_roll_273 : decode c_MM_roll 273 = .ok (.aload_n 0, 1) := by decide +kernel
theorem d_MM_roll_274 : decode c_MM_roll 274 = .ok (.getfield 85, 3) := by decide +kernel
theorem d_MM_roll_277 : decode c_MM_roll 277 = .ok (.iaload, 1) := by decide +kernel
theorem d_MM_roll_278 : decode c_MM_roll 278 = .ok (.aload_n 0, 1) := by decide +kernel
theorem d_MM_roll_279 : decode c_MM_roll 279 = .ok (.getfield 7, 3) := by decide +kernel
theorem d_MM_roll_282 : decode c_MM_roll 282 = .ok (.iload 4, 2) := by decide +kernel
theorem d_MM_roll_284 : decode c_MM_roll 284 = .ok (.iaload, 1) := by decide +kernel
theorem d_MM_roll_285 : decode c_MM_roll 285 = .ok (.iadd, 1) := by decide +kernel
theorem d_MM_roll_286 : decode c_MM_roll 286 = .ok (.iastore, 1) := by decide +kernel
theorem d_MM_roll_287 : decode c_MM_roll 287 = .ok (.iinc 4 1, 3) := by decide +kernel
theorem d_MM_roll_290 : decode c_MM_roll 290 = .ok (.goto (-47), 3) := by decide +kernel
theorem d_MM_roll_293 : decode c_MM_roll 293 = .ok (.aload_n 0, 1) := by decide +kernel
theorem d_MM_roll_294 : decode c_MM_roll 294 = .ok (.getfield 25, 3) := by decide +kernel
theorem d_MM_roll_297 : decode c_MM_roll 297 = .ok (.aload_n 0, 1) := by decide +kernel
theorem d_MM_roll_298 : decode c_MM_roll 298 = .ok (.getfield 85, 3) := by decide +kernel
theorem d_MM_roll_301 : decode c_MM_roll 301 = .ok (.iload_n 3, 1) := by decide +kernel
theorem d_MM_roll_302 : decode c_MM_roll 302 = .ok (.ifCond .ne 15, 3) := by decide +kernel
theorem d_MM_roll_305 : decode c_MM_roll 305 = .ok (.aload_n 0, 1) := by decide +kernel
theorem d_MM_roll_306 : decode c_MM_roll 306 = .ok (.getfield 31, 3) := by decide +kernel
theorem d_MM_roll_309 : decode c_MM_roll 309 = .ok (.aload_n 0, 1) := by decide +kernel
theorem d_MM_roll_310 : decode c_MM_roll 310 = .ok (.getfield 85, 3) := by decide +kernel
theorem d_MM_roll_313 : decode c_MM_roll 313 = .ok (.iaload, 1) := by decide +kernel
theorem d_MM_roll_314 : decode c_MM_roll 314 = .ok (.ifCond .le 7, 3) := by decide +kernel
theorem d_MM_roll_317 : decode c_MM_roll 317 = .ok (.iconst 1, 1) := by decide +kernel
theorem d_MM_roll_318 : decode c_MM_roll 318 = .ok (.goto 4, 3) := by decide +kernel
theorem d_MM_roll_321 : decode c_MM_roll 321 = .ok (.iconst 3, 1) := by decide +kernel
theorem d_MM_roll_322 : decode c_MM_roll 322 = .ok (.iastore, 1) := by decide +kernel
theorem d_MM_roll_323 : decode c_MM_roll 323 = .ok (.aload_n 0, 1) := by decide +kernel
theorem d_MM_roll_324 : decode c_MM_roll 324 = .ok (.dup, 1) := by decide +kernel
theorem d_MM_roll_325 : decode c_MM_roll 325 = .ok (.getfield 85, 3) := by decide +kernel
theorem d_MM_roll_328 : decode c_MM_roll 328 = .ok (.iconst 1, 1) := by decide +kernel
theorem d_MM_roll_329 : decode c_MM_roll 329 = .ok (.iadd, 1) := by decide +kernel
theorem d_MM_roll_330 : decode c_MM_roll 330 = .ok (.putfield 85, 3) := by decide +kernel
theorem d_MM_roll_333 : decode c_MM_roll 333 = .ok (.aload_n 0, 1) := by decide +kernel
theorem d_MM_roll_334 : decode c_MM_roll 334 = .ok (.getfield 85, 3) := by decide +kernel
theorem d_MM_roll_337 : decode c_MM_roll 337 = .ok (.iconst 1, 1) := by decide +kernel
theorem d_MM_roll_338 : decode c_MM_roll 338 = .ok (.isub, 1) := by decide +kernel
theorem d_MM_roll_339 : decode c_MM_roll 339 = .ok (.ireturn, 1) := by decide +kernel
theorem d_MM_openMaydays_0 : decode c_MM_openMaydays 0 = .ok (.iconst 0, 1) := by decide +kernel
theorem d_MM_openMaydays_1 : decode c_MM_openMaydays 1 = .ok (.istore_n 1, 1) := by decide +kernel
theorem d_MM_openMaydays_2 : decode c_MM_openMaydays 2 = .ok (.iconst 0, 1) := by decide +kernel
theorem d_MM_openMaydays_3 : decode c_MM_openMaydays 3 = .ok (.istore_n 2, 1) := by decide +kernel
theorem d_MM_openMaydays_4 : decode c_MM_openMaydays 4 = .ok (.iload_n 2, 1) := by decide +kernel
theorem d_MM_openMaydays_5 : decode c_MM_openMaydays 5 = .ok (.aload_n 0, 1) := by decide +kernel
theorem d_MM_openMaydays_6 : decode c_MM_openMaydays 6 = .ok (.getfield 116, 3) := by decide +kernel
theorem d_MM_openMaydays_9 : decode c_MM_openMaydays 9 = .ok (.if_icmp .ge 21, 3) := by decide +kernel
theorem d_MM_openMaydays_12 : decode c_MM_openMaydays 12 = .ok (.aload_n 0, 1) := by decide +kernel
theorem d_MM_openMaydays_13 : decode c_MM_openMaydays 13 = .ok (.getfield 53, 3) := by decide +kernel
theorem d_MM_openMaydays_16 : decode c_MM_openMaydays 16 = .ok (.iload_n 2, 1) := by decide +kernel
theorem d_MM_openMaydays_17 : decode c_MM_openMaydays 17 = .ok (.baload, 1) := by decide +kernel
theorem d_MM_openMaydays_18 : decode c_MM_openMaydays 18 = .ok (.ifCond .eq 6, 3) := by decide +kernel
theorem d_MM_openMaydays_21 : decode c_MM_openMaydays 21 = .ok (.iinc 1 1, 3) := by decide +kernel
theorem d_MM_openMaydays_24 : decode c_MM_openMaydays 24 = .ok (.iinc 2 1, 3) := by decide +kernel
theorem d_MM_openMaydays_27 : decode c_MM_openMaydays 27 = .ok (.goto (-23), 3) := by decide +kernel
theorem d_MM_openMaydays_30 : decode c_MM_openMaydays 30 = .ok (.iload_n 1, 1) := by decide +kernel
theorem d_MM_openMaydays_31 : decode c_MM_openMaydays 31 = .ok (.ireturn, 1) := by decide +kernel
theorem d_MM_answer_0 : decode c_MM_answer 0 = .ok (.aload_n 0, 1) := by decide +kernel
theorem d_MM_answer_1 : decode c_MM_answer 1 = .ok (.iload_n 1, 1) := by decide +kernel
theorem d_MM_answer_2 : decode c_MM_answer 2 = .ok (.invokevirtual 123, 3) := by decide +kernel
theorem d_MM_answer_5 : decode c_MM_answer 5 = .ok (.ifCond .eq 22, 3) := by decide +kernel
theorem d_MM_answer_8 : decode c_MM_answer 8 = .ok (.iload_n 2, 1) := by decide +kernel
theorem d_MM_answer_9 : decode c_MM_answer 9 = .ok (.invokestatic 106, 3) := by decide +kernel
theorem d_MM_answer_12 : decode c_MM_answer 12 = .ok (.ifCond .eq 15, 3) := by decide +kernel
theorem d_MM_answer_15 : decode c_MM_answer 15 = .ok (.aload_n 0, 1) := by decide +kernel
theorem d_MM_answer_16 : decode c_MM_answer 16 = .ok (.iload_n 3, 1) := by decide +kernel
theorem d_MM_answer_17 : decode c_MM_answer 17 = .ok (.invokevirtual 102, 3) := by decide +kernel
theorem d_MM_answer_20 : decode c_MM_answer 20 = .ok (.ifCond .eq 7, 3) := by decide +kernel
theorem d_MM_answer_23 : decode c_MM_answer 23 = .ok (.iconst 1, 1) := by decide +kernel
theorem d_MM_answer_24 : decode c_MM_answer 24 = .ok (.goto 4, 3) := by decide +kernel
theorem d_MM_answer_27 : decode c_MM_answer 27 = .ok (.iconst 0, 1) := by decide +kernel
theorem d_MM_answer_28 : decode c_MM_answer 28 = .ok (.istore 4, 2) := by decide +kernel
theorem d_MM_answer_30 : decode c_MM_answer 30 = .ok (.iload 4, 2) := by decide +kernel
theorem d_MM_answer_32 : decode c_MM_answer 32 = .ok (.ifCond .eq 12, 3) := by decide +kernel
theorem d_MM_answer_35 : decode c_MM_answer 35 = .ok (.iload_n 1, 1) := by decide +kernel
theorem d_MM_answer_36 : decode c_MM_answer 36 = .ok (.bipush 60, 2) := by decide +kernel
theorem d_MM_answer_38 : decode c_MM_answer 38 = .ok (.imul, 1) := by decide +kernel
theorem d_MM_answer_39 : decode c_MM_answer 39 = .ok (.iload_n 3, 1) := by decide +kernel
theorem d_MM_answer_40 : decode c_MM_answer 40 = .ok (.iadd, 1) := by decide +kernel
theorem d_MM_answer_41 : decode c_MM_answer 41 = .ok (.goto 4, 3) := by decide +kernel
theorem d_MM_answer_44 : decode c_MM_answer 44 = .ok (.iconst 0, 1) := by decide +kernel
theorem d_MM_answer_45 : decode c_MM_answer 45 = .ok (.istore 5, 2) := by decide +kernel
theorem d_MM_answer_47 : decode c_MM_answer 47 = .ok (.iload 4, 2) := by decide +kernel
theorem d_MM_answer_49 : decode c_MM_answer 49 = .ok (.ifCond .eq 38, 3) := by decide +kernel
theorem d_MM_answer_52 : decode c_MM_answer 52 = .ok (.aload_n 0, 1) := by decide +kernel
theorem d_MM_answer_53 : decode c_MM_answer 53 = .ok (.getfield 40, 3) := by decide +kernel
theorem d_MM_answer_56 : decode c_MM_answer 56 = .ok (.iload 5, 2) := by decide +kernel
theorem d_MM_answer_58 : decode c_MM_answer 58 = .ok (.baload, 1) := by decide +kernel
theorem d_MM_answer_59 : decode c_MM_answer 59 = .ok (.ifCond .eq 28, 3) := by decide +kernel
theorem d_MM_answer_62 : decode c_MM_answer 62 = .ok (.aload_n 0, 1) := by decide +kernel
theorem d_MM_answer_63 : decode c_MM_answer 63 = .ok (.getfield 44, 3) := by decide +kernel
theorem d_MM_answer_66 : decode c_MM_answer 66 = .ok (.iload 5, 2) := by decide +kernel
theorem d_MM_answer_68 : decode c_MM_answer 68 = .ok (.iaload, 1) := by decide +kernel
theorem d_MM_answer_69 : decode c_MM_answer 69 = .ok (.ifCond .lt 18, 3) := by decide +kernel
theorem d_MM_answer_72 : decode c_MM_answer 72 = .ok (.aload_n 0, 1) := by decide +kernel
theorem d_MM_answer_73 : decode c_MM_answer 73 = .ok (.getfield 44, 3) := by decide +kernel
theorem d_MM_answer_76 : decode c_MM_answer 76 = .ok (.iload 5, 2) := by decide +kernel
theorem d_MM_answer_78 : decode c_MM_answer 78 = .ok (.iaload, 1) := by decide +kernel
theorem d_MM_answer_79 : decode c_MM_answer 79 = .ok (.iload_n 2, 1) := by decide +kernel
theorem d_MM_answer_80 : decode c_MM_answer 80 = .ok (.if_icmp .eq 7, 3) := by decide +kernel
theorem d_MM_answer_83 : decode c_MM_answer 83 = .ok (.iconst 1, 1) := by decide +kernel
theorem d_MM_answer_84 : decode c_MM_answer 84 = .ok (.goto 4, 3) := by decide +kernel
theorem d_MM_answer_87 : decode c_MM_answer 87 = .ok (.iconst 0, 1) := by decide +kernel
theorem d_MM_answer_88 : decode c_MM_answer 88 = .ok (.istore 6, 2) := by decide +kernel
theorem d_MM_answer_90 : decode c_MM_answer 90 = .ok (.aload_n 0, 1) := by decide +kernel
theorem d_MM_answer_91 : decode c_MM_answer 91 = .ok (.bipush 13, 2) := by decide +kernel
theorem d_MM_answer_93 : decode c_MM_answer 93 = .ok (.iload 4, 2) := by decide +kernel
theorem d_MM_answer_95 : decode c_MM_answer 95 = .ok (.iconst 1, 1) := by decide +kernel
theorem d_MM_answer_96 : decode c_MM_answer 96 = .ok (.iload 4, 2) := by decide +kernel
theorem d_MM_answer_98 : decode c_MM_answer 98 = .ok (.ifCond .eq 17, 3) := by decide +kernel
theorem d_MM_answer_101 : decode c_MM_answer 101 = .ok (.aload_n 0, 1) := by decide +kernel
theorem d_MM_answer_102 : decode c_MM_answer 102 = .ok (.getfield 25, 3) := by decide +kernel
theorem d_MM_answer_105 : decode c_MM_answer 105 = .ok (.iload_n 1, 1) := by decide +kernel
theorem d_MM_answer_106 : decode c_MM_answer 106 = .ok (.iaload, 1) := by decide +kernel
theorem d_MM_answer_107 : decode c_MM_answer 107 = .ok (.iconst 3, 1) := by decide +kernel
theorem d_MM_answer_108 : decode c_MM_answer 108 = .ok (.if_icmp .ge 7, 3) := by decide +kernel
theorem d_MM_answer_111 : decode c_MM_answer 111 = .ok (.iconst 1, 1) := by decide +kernel
theorem d_MM_answer_112 : decode c_MM_answer 112 = .ok (.goto 4, 3) := by decide +kernel
theorem d_MM_answer_115 : decode c_MM_answer 115 = .ok (.iconst 0, 1) := by decide +kernel
theorem d_MM_answer_116 : decode c_MM_answer 116 = .ok (.iload 6, 2) := by decide +kernel
theorem d_MM_answer_118 : decode c_MM_answer 118 = .ok (.ifCond .eq 12, 3) := by decide +kernel
theorem d_MM_answer_121 : decode c_MM_answer 121 = .ok (.aload_n 0, 1) := by decide +kernel
theorem d_MM_answer_122 : decode c_MM_answer 122 = .ok (.getfield 126, 3) := by decide +kernel
theorem d_MM_answer_125 : decode c_MM_answer 125 = .ok (.bipush 100, 2) := by decide +kernel
theorem d_MM_answer_127 : decode c_MM_answer 127 = .ok (.if_icmp .ge 7, 3) := by decide +kernel
theorem d_MM_answer_130 : decode c_MM_answer 130 = .ok (.iconst 1, 1) := by decide +kernel
theorem d_MM_answer_131 : decode c_MM_answer 131 = .ok (.goto 4, 3) := by decide +kernel
theorem d_MM_answer_134 : decode c_MM_answer 134 = .ok (.iconst 0, 1) := by decide +kernel
theorem d_MM_answer_135 : decode c_MM_answer 135 = .ok (.invokevirtual 98, 3) := by decide +kernel
theorem d_MM_answer_138 : decode c_MM_answer 138 = .ok (.ifCond .ne 5, 3) := by decide +kernel
theorem d_MM_answer_141 : decode c_MM_answer 141 = .ok (.iconst 0, 1) := by decide +kernel
theorem d_MM_answer_142 : decode c_MM_answer 142 = .ok (.ireturn, 1) := by decide +kernel
theorem d_MM_answer_143 : decode c_MM_answer 143 = .ok (.aload_n 0, 1) := by decide +kernel
theorem d_MM_answer_144 : decode c_MM_answer 144 = .ok (.getfield 40, 3) := by decide +kernel
theorem d_MM_answer_147 : decode c_MM_answer 147 = .ok (.iload 5, 2) := by decide +kernel
theorem d_MM_answer_149 : decode c_MM_answer 149 = .ok (.baload, 1) := by decide +kernel
theorem d_MM_answer_150 : decode c_MM_answer 150 = .ok (.ifCond .ne 15, 3) := by decide +kernel
theorem d_MM_answer_153 : decode c_MM_answer 153 = .ok (.aload_n 0, 1) := by decide +kernel
theorem d_MM_answer_154 : decode c_MM_answer 154 = .ok (.getfield 37, 3) := by decide +kernel
theorem d_MM_answer_157 : decode c_MM_answer 157 = .ok (.iload_n 1, 1) := by decide +kernel
theorem d_MM_answer_158 : decode c_MM_answer 158 = .ok (.dup2, 1) := by decide +kernel
theorem d_MM_answer_159 : decode c_MM_answer 159 = .ok (.iaload, 1) := by decide +kernel
theorem d_MM_answer_160 : decode c_MM_answer 160 = .ok (.iconst 1, 1) := by decide +kernel
theorem d_MM_answer_161 : decode c_MM_answer 161 = .ok (.iadd, 1) := by decide +kernel
theorem d_MM_answer_162 : decode c_MM_answer 162 = .ok (.iastore, 1) := by decide +kernel
theorem d_MM_answer_163 : decode c_MM_answer 163 = .ok (.iconst 4, 1) := by decide +kernel
theorem d_MM_answer_164 : decode c_MM_answer 164 = .ok (.ireturn, 1) := by decide +kernel
theorem d_MM_answer_165 : decode c_MM_answer 165 = .ok (.aload_n 0, 1) := by decide +kernel
theorem d_MM_answer_166 : decode c_MM_answer 166 = .ok (.getfield 44, 3) := by decide +kernel
theorem d_MM_answer_169 : decode c_MM_answer 169 = .ok (.iload 5, 2) := by decide +kernel
theorem d_MM_answer_171 : decode c_MM_answer 171 = .ok (.iaload, 1) := by decide +kernel
theorem d_MM_answer_172 : decode c_MM_answer 172 = .ok (.ifCond .ge 13, 3) := by decide +kernel
theorem d_MM_answer_175 : decode c_MM_answer 175 = .ok (.aload_n 0, 1) := by decide +kernel
theorem d_MM_answer_176 : decode c_MM_answer 176 = .ok (.getfield 44, 3) := by decide +kernel
theorem d_MM_answer_179 : decode c_MM_answer 179 = .ok (.iload 5, 2) := by decide +kernel
theorem d_MM_answer_181 : decode c_MM_answer 181 = .ok (.iload_n 2, 1) := by decide +kernel
theorem d_MM_answer_182 : decode c_MM_answer 182 = .ok (.iastore, 1) := by decide +kernel
theorem d_MM_answer_183 : decode c_MM_answer 183 = .ok (.iconst 1, 1) := by decide +kernel
theorem d_MM_answer_184 : decode c_MM_answer 184 = .ok (.ireturn, 1) := by decide +kernel
theorem d_MM_answer_185 : decode c_MM_answer 185 = .ok (.iload 6, 2) := by decide +kernel
theorem d_MM_answer_187 : decode c_MM_answer 187 = .ok (.ifCond .ne 5, 3) := by decide +kernel
theorem d_MM_answer_190 : decode c_MM_answer 190 = .ok (.iconst 2, 1) := by decide +kernel
theorem d_MM_answer_191 : decode c_MM_answer 191 = .ok (.ireturn, 1) := by decide +kernel
theorem d_MM_answer_192 : decode c_MM_answer 192 = .ok (.aload_n 0, 1) := by decide +kernel
theorem d_MM_answer_193 : decode c_MM_answer 193 = .ok (.getfield 50, 3) := by decide +kernel
theorem d_MM_answer_196 : decode c_MM_answer 196 = .ok (.iconst 4, 1) := by decide +kernel
theorem d_MM_answer_197 : decode c_MM_answer 197 = .ok (.aload_n 0, 1) := by decide +kernel
theorem d_MM_answer_198 : decode c_MM_answer 198 = .ok (.getfield 126, 3) := by decide +kernel
theorem d_MM_answer_201 : decode c_MM_answer 201 = .ok (.imul, 1) := by decide +kernel
theorem d_MM_answer_202 : decode c_MM_answer 202 = .ok (.iload_n 3, 1) := by decide +kernel
theorem d_MM_answer_203 : decode c_MM_answer 203 = .ok (.iastore, 1) := by decide +kernel
theorem d_MM_answer_204 : decode c_MM_answer 204 = .ok (.aload_n 0, 1) := by decide +kernel
theorem d_MM_answer_205 : decode c_MM_answer 205 = .ok (.getfield 50, 3) := by decide +kernel
theorem d_MM_answer_208 : decode c_MM_answer 208 = .ok (.iconst 4, 1) := by decide +kernel
theorem d_MM_answer_209 : decode c_MM_answer 209 = .ok (.aload_n 0, 1) := by decide +kernel
theorem d_MM_answer_210 : decode c_MM_answer 210 = .ok (.getfield 126, 3) := by decide +kernel
theorem d_MM_answer_213 : decode c_MM_answer 213 = .ok (.imul, 1) := by decide +kernel
theorem d_MM_answer_214 : decode c_MM_answer 214 = .ok (.iconst 1, 1) := by decide +kernel
theorem d_MM_answer_215 : decode c_MM_answer 215 = .ok (.iadd, 1) := by decide +kernel
theorem d_MM_answer_216 : decode c_MM_answer 216 = .ok (.aload_n 0, 1) := by decide +kernel
theorem d_MM_answer_217 : decode c_MM_answer 217 = .ok (.getfield 44, 3) := by decide +kernel
theorem d_MM_answer_220 : decode c_MM_answer 220 = .ok (.iload 5, 2) := by decide +kernel
theorem d_MM_answer_222 : decode c_MM_answer 222 = .ok (.iaload, 1) := by decide +kernel
theorem d_MM_answer_223 : decode c_MM_answer 223 = .ok (.iastore, 1) := by decide +kernel
theorem d_MM_answer_224 : decode c_MM_answer 224 = .ok (.aload_n 0, 1) := by decide +kernel
theorem d_MM_answer_225 : decode c_MM_answer 225 = .ok (.getfield 50, 3) := by decide +kernel
theorem d_MM_answer_228 : decode c_MM_answer 228 = .ok (.iconst 4, 1) := by decide +kernel
theorem d_MM_answer_229 : decode c_MM_answer 229 = .ok (.aload_n 0, 1) := by decide +kernel
theorem d_MM_answer_230 : decode c_MM_answer 230 = .ok (.getfield 126, 3) := by decide +kernel
theorem d_MM_answer_233 : decode c_MM_answer 233 = .ok (.imul, 1) := by decide +kernel
theorem d_MM_answer_234 : decode c_MM_answer 234 = .ok (.iconst 2, 1) := by decide +kernel
theorem d_MM_answer_235 : decode c_MM_answer 235 = .ok (.iadd, 1) := by decide +kernel
theorem d_MM_answer_236 : decode c_MM_answer 236 = .ok (.iload_n 2, 1) := by decide +kernel
theorem d_MM_answer_237 : decode c_MM_answer 237 = .ok (.iastore, 1) := by decide +kernel
theorem d_MM_answer_238 : decode c_MM_answer 238 = .ok (.aload_n 0, 1) := by decide +kernel
theorem d_MM_answer_239 : decode c_MM_answer 239 = .ok (.getfield 50, 3) := by decide +kernel
theorem d_MM_answer_242 : decode c_MM_answer 242 = .ok (.iconst 4, 1) := by decide +kernel
theorem d_MM_answer_243 : decode c_MM_answer 243 = .ok (.aload_n 0, 1) := by decide +kernel
theorem d_MM_answer_244 : decode c_MM_answer 244 = .ok (.getfield 126, 3) := by decide +kernel
theorem d_MM_answer_247 : decode c_MM_answer 247 = .ok (.imul, 1) := by decide +kernel
theorem d_MM_answer_248 : decode c_MM_answer 248 = .ok (.iconst 3, 1) := by decide +kernel
theorem d_MM_answer_249 : decode c_MM_answer 249 = .ok (.iadd, 1) := by decide +kernel
theorem d_MM_answer_250 : decode c_MM_answer 250 = .ok (.iload_n 1, 1) := by decide +kernel
theorem d_MM_answer_251 : decode c_MM_answer 251 = .ok (.iastore, 1) := by decide +kernel
theorem d_MM_answer_252 : decode c_MM_answer 252 = .ok (.aload_n 0, 1) := by decide +kernel
theorem d_MM_answer_253 : decode c_MM_answer 253 = .ok (.dup, 1) := by decide +kernel
theorem d_MM_answer_254 : decode c_MM_answer 254 = .ok (.getfield 126, 3) := by decide +kernel
theorem d_MM_answer_257 : decode c_MM_answer 257 = .ok (.iconst 1, 1) := by decide +kernel
theorem d_MM_answer_258 : decode c_MM_answer 258 = .ok (.iadd, 1) := by decide +kernel
theorem d_MM_answer_259 : decode c_MM_answer 259 = .ok (.putfield 126, 3) := by decide +kernel
theorem d_MM_answer_262 : decode c_MM_answer 262 = .ok (.iconst 3, 1) := by decide +kernel
theorem d_MM_answer_263 : decode c_MM_answer 263 = .ok (.ireturn, 1) := by decide +kernel
