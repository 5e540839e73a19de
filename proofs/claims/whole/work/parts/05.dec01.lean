theorem d_RC_isAskedNow_0 : decode c_RC_isAskedNow 0 = .ok (.iconst 0, 1) := by decide +kernel
theorem d_RC_isAskedNow_1 : decode c_RC_isAskedNow 1 = .ok (.istore_n 2, 1) := by decide +kernel
theorem d_RC_isAskedNow_2 : decode c_RC_isAskedNow 2 = .ok (.iload_n 2, 1) := by decide +kernel
theorem d_RC_isAskedNow_3 : decode c_RC_isAskedNow 3 = .ok (.aload_n 0, 1) := by decide +kernel
theorem d_RC_isAskedNow_4 : decode c_RC_isAskedNow 4 = .ok (.getfield 23, 3) := by decide +kernel
theorem d_RC_isAskedNow_7 : decode c_RC_isAskedNow 7 = .ok (.invokevirtual 39, 3) := by decide +kernel
theorem d_RC_isAskedNow_10 : decode c_RC_isAskedNow 10 = .ok (.if_icmp .ge 43, 3) := by decide +kernel
theorem d_RC_isAskedNow_13 : decode c_RC_isAskedNow 13 = .ok (.aload_n 0, 1) := by decide +kernel
theorem d_RC_isAskedNow_14 : decode c_RC_isAskedNow 14 = .ok (.getfield 23, 3) := by decide +kernel
theorem d_RC_isAskedNow_17 : decode c_RC_isAskedNow 17 = .ok (.iload_n 2, 1) := by decide +kernel
theorem d_RC_isAskedNow_18 : decode c_RC_isAskedNow 18 = .ok (.invokevirtual 89, 3) := by decide +kernel
theorem d_RC_isAskedNow_21 : decode c_RC_isAskedNow 21 = .ok (.checkcast 123, 3) := by decide +kernel
theorem d_RC_isAskedNow_24 : decode c_RC_isAskedNow 24 = .ok (.astore_n 3, 1) := by decide +kernel
theorem d_RC_isAskedNow_25 : decode c_RC_isAskedNow 25 = .ok (.aload_n 3, 1) := by decide +kernel
theorem d_RC_isAskedNow_26 : decode c_RC_isAskedNow 26 = .ok (.invokevirtual 187, 3) := by decide +kernel
theorem d_RC_isAskedNow_29 : decode c_RC_isAskedNow 29 = .ok (.ifCond .ne 18, 3) := by decide +kernel
theorem d_RC_isAskedNow_32 : decode c_RC_isAskedNow 32 = .ok (.iload_n 1, 1) := by decide +kernel
theorem d_RC_isAskedNow_33 : decode c_RC_isAskedNow 33 = .ok (.iconst (-1), 1) := by decide +kernel
theorem d_RC_isAskedNow_34 : decode c_RC_isAskedNow 34 = .ok (.if_icmp .eq 11, 3) := by decide +kernel
theorem d_RC_isAskedNow_37 : decode c_RC_isAskedNow 37 = .ok (.aload_n 3, 1) := by decide +kernel
theorem d_RC_isAskedNow_38 : decode c_RC_isAskedNow 38 = .ok (.iload_n 1, 1) := by decide +kernel
theorem d_RC_isAskedNow_39 : decode c_RC_isAskedNow 39 = .ok (.invokevirtual 229, 3) := by decide +kernel
theorem d_RC_isAskedNow_42 : decode c_RC_isAskedNow 42 = .ok (.ifCond .eq 5, 3) := by decide +kernel
theorem d_RC_isAskedNow_45 : decode c_RC_isAskedNow 45 = .ok (.iconst 1, 1) := by decide +kernel
theorem d_RC_isAskedNow_46 : decode c_RC_isAskedNow 46 = .ok (.ireturn, 1) := by decide +kernel
theorem d_RC_isAskedNow_47 : decode c_RC_isAskedNow 47 = .ok (.iinc 2 1, 3) := by decide +kernel
theorem d_RC_isAskedNow_50 : decode c_RC_isAskedNow 50 = .ok (.goto (-48), 3) := by decide +kernel
theorem d_RC_isAskedNow_53 : decode c_RC_isAskedNow 53 = .ok (.iconst 0, 1) := by decide +kernel
theorem d_RC_isAskedNow_54 : decode c_RC_isAskedNow 54 = .ok (.ireturn, 1) := by decide +kernel
theorem d_RO_isOver_0 : decode c_RO_isOver 0 = .ok (.aload_n 0, 1) := by decide +kernel
theorem d_RO_isOver_1 : decode c_RO_isOver 1 = .ok (.getfield 34, 3) := by decide +kernel
theorem d_RO_isOver_4 : decode c_RO_isOver 4 = .ok (.iconst 3, 1) := by decide +kernel
theorem d_RO_isOver_5 : decode c_RO_isOver 5 = .ok (.if_icmp .lt 7, 3) := by decide +kernel
theorem d_RO_isOver_8 : decode c_RO_isOver 8 = .ok (.iconst 1, 1) := by decide +kernel
theorem d_RO_isOver_9 : decode c_RO_isOver 9 = .ok (.goto 4, 3) := by decide +kernel
theorem d_RO_isOver_12 : decode c_RO_isOver 12 = .ok (.iconst 0, 1) := by decide +kernel
theorem d_RO_isOver_13 : decode c_RO_isOver 13 = .ok (.ireturn, 1) := by decide +kernel
theorem d_RO_asksSector_0 : decode c_RO_asksSector 0 = .ok (.aload_n 0, 1) := by decide +kernel
theorem d_RO_asksSector_1 : decode c_RO_asksSector 1 = .ok (.getfield 15, 3) := by decide +kernel
theorem d_RO_asksSector_4 : decode c_RO_asksSector 4 = .ok (.iconst (-1), 1) := by decide +kernel
theorem d_RO_asksSector_5 : decode c_RO_asksSector 5 = .ok (.if_icmp .eq 11, 3) := by decide +kernel
theorem d_RO_asksSector_8 : decode c_RO_asksSector 8 = .ok (.aload_n 0, 1) := by decide +kernel
theorem d_RO_asksSector_9 : decode c_RO_asksSector 9 = .ok (.getfield 15, 3) := by decide +kernel
theorem d_RO_asksSector_12 : decode c_RO_asksSector 12 = .ok (.iload_n 1, 1) := by decide +kernel
theorem d_RO_asksSector_13 : decode c_RO_asksSector 13 = .ok (.if_icmp .ne 7, 3) := by decide +kernel
theorem d_RO_asksSector_16 : decode c_RO_asksSector 16 = .ok (.iconst 1, 1) := by decide +kernel
theorem d_RO_asksSector_17 : decode c_RO_asksSector 17 = .ok (.goto 4, 3) := by decide +kernel
theorem d_RO_asksSector_20 : decode c_RO_asksSector 20 = .ok (.iconst 0, 1) := by decide +kernel
theorem d_RO_asksSector_21 : decode c_RO_asksSector 21 = .ok (.ireturn, 1) := by decide +kernel
theorem d_RC_openMaydays_0 : decode c_RC_openMaydays 0 = .ok (.iconst 0, 1) := by decide +kernel
theorem d_RC_openMaydays_1 : decode c_RC_openMaydays 1 = .ok (.istore_n 1, 1) := by decide +kernel
theorem d_RC_openMaydays_2 : decode c_RC_openMaydays 2 = .ok (.iconst 0, 1) := by decide +kernel
theorem d_RC_openMaydays_3 : decode c_RC_openMaydays 3 = .ok (.istore_n 2, 1) := by decide +kernel
theorem d_RC_openMaydays_4 : decode c_RC_openMaydays 4 = .ok (.iload_n 2, 1) := by decide +kernel
theorem d_RC_openMaydays_5 : decode c_RC_openMaydays 5 = .ok (.aload_n 0, 1) := by decide +kernel
theorem d_RC_openMaydays_6 : decode c_RC_openMaydays 6 = .ok (.getfield 29, 3) := by decide +kernel
theorem d_RC_openMaydays_9 : decode c_RC_openMaydays 9 = .ok (.invokevirtual 39, 3) := by decide +kernel
theorem d_RC_openMaydays_12 : decode c_RC_openMaydays 12 = .ok (.if_icmp .ge 29, 3) := by decide +kernel
theorem d_RC_openMaydays_15 : decode c_RC_openMaydays 15 = .ok (.aload_n 0, 1) := by decide +kernel
theorem d_RC_openMaydays_16 : decode c_RC_openMaydays 16 = .ok (.getfield 29, 3) := by decide +kernel
theorem d_RC_openMaydays_19 : decode c_RC_openMaydays 19 = .ok (.iload_n 2, 1) := by decide +kernel
theorem d_RC_openMaydays_20 : decode c_RC_openMaydays 20 = .ok (.invokevirtual 89, 3) := by decide +kernel
theorem d_RC_openMaydays_23 : decode c_RC_openMaydays 23 = .ok (.checkcast 252, 3) := by decide +kernel
theorem d_RC_openMaydays_26 : decode c_RC_openMaydays 26 = .ok (.getfield 262, 3) := by decide +kernel
theorem d_RC_openMaydays_29 : decode c_RC_openMaydays 29 = .ok (.ifCond .eq 6, 3) := by decide +kernel
theorem d_RC_openMaydays_32 : decode c_RC_openMaydays 32 = .ok (.iinc 1 1, 3) := by decide +kernel
theorem d_RC_openMaydays_35 : decode c_RC_openMaydays 35 = .ok (.iinc 2 1, 3) := by decide +kernel
theorem d_RC_openMaydays_38 : decode c_RC_openMaydays 38 = .ok (.goto (-34), 3) := by decide +kernel
theorem d_RC_openMaydays_41 : decode c_RC_openMaydays 41 = .ok (.iload_n 1, 1) := by decide +kernel
theorem d_RC_openMaydays_42 : decode c_RC_openMaydays 42 = .ok (.ireturn, 1) := by decide +kernel
theorem d_RO_init_0 : decode c_RO_init 0 = .ok (.aload_n 0, 1) := by decide +kernel
theorem d_RO_init_1 : decode c_RO_init 1 = .ok (.invokespecial 3, 3) := by decide +kernel
theorem d_RO_init_4 : decode c_RO_init 4 = .ok (.aload_n 0, 1) := by decide +kernel
theorem d_RO_init_5 : decode c_RO_init 5 = .ok (.iload_n 1, 1) := by decide +kernel
theorem d_RO_init_6 : decode c_RO_init 6 = .ok (.putfield 9, 3) := by decide +kernel
theorem d_RO_init_9 : decode c_RO_init 9 = .ok (.aload_n 0, 1) := by decide +kernel
theorem d_RO_init_10 : decode c_RO_init 10 = .ok (.iload_n 2, 1) := by decide +kernel
theorem d_RO_init_11 : decode c_RO_init 11 = .ok (.putfield 15, 3) := by decide +kernel
theorem d_RO_init_14 : decode c_RO_init 14 = .ok (.aload_n 0, 1) := by decide +kernel
theorem d_RO_init_15 : decode c_RO_init 15 = .ok (.iconst 0, 1) := by decide +kernel
theorem d_RO_init_16 : decode c_RO_init 16 = .ok (.iload_n 3, 1) := by decide +kernel
theorem d_RO_init_17 : decode c_RO_init 17 = .ok (.invokestatic 18, 3) := by decide +kernel
theorem d_RO_init_20 : decode c_RO_init 20 = .ok (.newarray .int, 2) := by decide +kernel
theorem d_RO_init_22 : decode c_RO_init 22 = .ok (.putfield 24, 3) := by decide +kernel
theorem d_RO_init_25 : decode c_RO_init 25 = .ok (.aload_n 0, 1) := by decide +kernel
theorem d_RO_init_26 : decode c_RO_init 26 = .ok (.getfield 24, 3) := by decide +kernel
theorem d_RO_init_29 : decode c_RO_init 29 = .ok (.bipush (-2), 2) := by decide +kernel
theorem d_RO_init_31 : decode c_RO_init 31 = .ok (.invokestatic 28, 3) := by decide +kernel
theorem d_RO_init_34 : decode c_RO_init 34 = .ok (.aload_n 0, 1) := by decide +kernel
theorem d_RO_init_35 : decode c_RO_init 35 = .ok (.iconst 1, 1) := by decide +kernel
theorem d_RO_init_36 : decode c_RO_init 36 = .ok (.putfield 34, 3) := by decide +kernel
theorem d_RO_init_39 : decode c_RO_init 39 = .ok (.return_, 1) := by decide +kernel
theorem d_AR_fill_0 : decode c_AR_fill 0 = .ok (.iconst 0, 1) := by decide +kernel
theorem d_AR_fill_1 : decode c_AR_fill 1 = .ok (.istore_n 2, 1) := by decide +kernel
theorem d_AR_fill_2 : decode c_AR_fill 2 = .ok (.aload_n 0, 1) := by decide +kernel
theorem d_AR_fill_3 : decode c_AR_fill 3 = .ok (.arraylength, 1) := by decide +kernel
theorem d_AR_fill_4 : decode c_AR_fill 4 = .ok (.istore_n 3, 1) := by decide +kernel
theorem d_AR_fill_5 : decode c_AR_fill 5 = .ok (.iload_n 2, 1) := by decide +kernel
theorem d_AR_fill_6 : decode c_AR_fill 6 = .ok (.iload_n 3, 1) := by decide +kernel
theorem d_AR_fill_7 : decode c_AR_fill 7 = .ok (.if_icmp .ge 13, 3) := by decide +kernel
theorem d_AR_fill_10 : decode c_AR_fill 10 = .ok (.aload_n 0, 1) := by decide +kernel
theorem d_AR_fill_11 : decode c_AR_fill 11 = .ok (.iload_n 2, 1) := by decide +kernel
theorem d_AR_fill_12 : decode c_AR_fill 12 = .ok (.iload_n 1, 1) := by decide +kernel
theorem d_AR_fill_13 : decode c_AR_fill 13 = .ok (.iastore, 1) := by decide +kernel
theorem d_AR_fill_14 : decode c_AR_fill 14 = .ok (.iinc 2 1, 3) := by decide +kernel
theorem d_AR_fill_17 : decode c_AR_fill 17 = .ok (.goto (-12), 3) := by decide +kernel
theorem d_AR_fill_20 : decode c_AR_fill 20 = .ok (.return_, 1) := by decide +kernel
theorem d_RC_askThoseInside_0 : decode c_RC_askThoseInside 0 = .ok (.iconst 0, 1) := by decide +kernel
theorem d_RC_askThoseInside_1 : decode c_RC_askThoseInside 1 = .ok (.istore_n 2, 1) := by decide +kernel
theorem d_RC_askThoseInside_2 : decode c_RC_askThoseInside 2 = .ok (.iload_n 2, 1) := by decide +kernel
theorem d_RC_askThoseInside_3 : decode c_RC_askThoseInside 3 = .ok (.aload_n 0, 1) := by decide +kernel
theorem d_RC_askThoseInside_4 : decode c_RC_askThoseInside 4 = .ok (.getfield 16, 3) := by decide +kernel
theorem d_RC_askThoseInside_7 : decode c_RC_askThoseInside 7 = .ok (.invokevirtual 39, 3) := by decide +kernel
theorem d_RC_askThoseInside_10 : decode c_RC_askThoseInside 10 = .ok (.if_icmp .ge 42, 3) := by decide +kernel
theorem d_RC_askThoseInside_13 : decode c_RC_askThoseInside 13 = .ok (.aload_n 0, 1) := by decide +kernel
theorem d_RC_askThoseInside_14 : decode c_RC_askThoseInside 14 = .ok (.getfield 16, 3) := by decide +kernel
theorem d_RC_askThoseInside_17 : decode c_RC_askThoseInside 17 = .ok (.iload_n 2, 1) := by decide +kernel
theorem d_RC_askThoseInside_18 : decode c_RC_askThoseInside 18 = .ok (.invokevirtual 89, 3) := by decide +kernel
theorem d_RC_askThoseInside_21 : decode c_RC_askThoseInside 21 = .ok (.checkcast 50, 3) := by decide +kernel
theorem d_RC_askThoseInside_24 : decode c_RC_askThoseInside 24 = .ok (.getfield 65, 3) := by decide +kernel
theorem d_RC_askThoseInside_27 : decode c_RC_askThoseInside 27 = .ok (.istore_n 3, 1) := by decide +kernel
theorem d_RC_askThoseInside_28 : decode c_RC_askThoseInside 28 = .ok (.iload_n 3, 1) := by decide +kernel
theorem d_RC_askThoseInside_29 : decode c_RC_askThoseInside 29 = .ok (.iconst (-1), 1) := by decide +kernel
theorem d_RC_askThoseInside_30 : decode c_RC_askThoseInside 30 = .ok (.if_icmp .eq 16, 3) := by decide +kernel
theorem d_RC_askThoseInside_33 : decode c_RC_askThoseInside 33 = .ok (.aload_n 1, 1) := by decide +kernel
theorem d_RC_askThoseInside_34 : decode c_RC_askThoseInside 34 = .ok (.iload_n 3, 1) := by decide +kernel
theorem d_RC_askThoseInside_35 : decode c_RC_askThoseInside 35 = .ok (.invokevirtual 229, 3) := by decide +kernel
theorem d_RC_askThoseInside_38 : decode c_RC_askThoseInside 38 = .ok (.ifCond .eq 8, 3) := by decide +kernel
theorem d_RC_askThoseInside_41 : decode c_RC_askThoseInside 41 = .ok (.aload_n 1, 1) := by decide +kernel
theorem d_RC_askThoseInside_42 : decode c_RC_askThoseInside 42 = .ok (.iload_n 2, 1) := by decide +kernel
theorem d_RC_askThoseInside_43 : decode c_RC_askThoseInside 43 = .ok (.invokevirtual 232, 3) := by decide +kernel
theorem d_RC_askThoseInside_46 : decode c_RC_askThoseInside 46 = .ok (.iinc 2 1, 3) := by decide +kernel
theorem d_RC_askThoseInside_49 : decode c_RC_askThoseInside 49 = .ok (.goto (-47), 3) := by decide +kernel
theorem d_RC_askThoseInside_52 : decode c_RC_askThoseInside 52 = .ok (.iconst 0, 1) := by decide +kernel
theorem d_RC_askThoseInside_53 : decode c_RC_askThoseInside 53 = .ok (.istore_n 2, 1) := by decide +kernel
theorem d_RC_askThoseInside_54 : decode c_RC_askThoseInside 54 = .ok (.iload_n 2, 1) := by decide +kernel
theorem d_RC_askThoseInside_55 : decode c_RC_askThoseInside 55 = .ok (.bipush 10, 2) := by decide +kernel
theorem d_RC_askThoseInside_57 : decode c_RC_askThoseInside 57 = .ok (.if_icmp .ge 32, 3) := by decide +kernel
theorem d_RC_askThoseInside_60 : decode c_RC_askThoseInside 60 = .ok (.aload_n 1, 1) := by decide +kernel
theorem d_RC_askThoseInside_61 : decode c_RC_askThoseInside 61 = .ok (.iload_n 2, 1) := by decide +kernel
theorem d_RC_askThoseInside_62 : decode c_RC_askThoseInside 62 = .ok (.invokevirtual 229, 3) := by decide +kernel
theorem d_RC_askThoseInside_65 : decode c_RC_askThoseInside 65 = .ok (.ifCond .eq 18, 3) := by decide +kernel
theorem d_RC_askThoseInside_68 : decode c_RC_askThoseInside 68 = .ok (.aload_n 1, 1) := by decide +kernel
theorem d_RC_askThoseInside_69 : decode c_RC_askThoseInside 69 = .ok (.dup, 1) := by decide +kernel
theorem d_RC_askThoseInside_70 : decode c_RC_askThoseInside 70 = .ok (.getfield 200, 3) := by decide +kernel
theorem d_RC_askThoseInside_73 : decode c_RC_askThoseInside 73 = .ok (.aload_n 0, 1) := by decide +kernel
theorem d_RC_askThoseInside_74 : decode c_RC_askThoseInside 74 = .ok (.getfield 9, 3) := by decide +kernel
theorem d_RC_askThoseInside_77 : decode c_RC_askThoseInside 77 = .ok (.iload_n 2, 1) := by decide +kernel
theorem d_RC_askThoseInside_78 : decode c_RC_askThoseInside 78 = .ok (.iaload, 1) := by decide +kernel
theorem d_RC_askThoseInside_79 : decode c_RC_askThoseInside 79 = .ok (.iadd, 1) := by decide +kernel
theorem d_RC_askThoseInside_80 : decode c_RC_askThoseInside 80 = .ok (.putfield 200, 3) := by decide +kernel
theorem d_RC_askThoseInside_83 : decode c_RC_askThoseInside 83 = .ok (.iinc 2 1, 3) := by decide +kernel
theorem d_RC_askThoseInside_86 : decode c_RC_askThoseInside 86 = .ok (.goto (-32), 3) := by decide +kernel
theorem d_RC_askThoseInside_89 : decode c_RC_askThoseInside 89 = .ok (.return_, 1) := by decide +kernel
theorem d_RO_askPerson_0 : decode c_RO_askPerson 0 = .ok (.iload_n 1, 1) := by decide +kernel
theorem d_RO_askPerson_1 : decode c_RO_askPerson 1 = .ok (.ifCond .lt 29, 3) := by decide +kernel
theorem d_RO_askPerson_4 : decode c_RO_askPerson 4 = .ok (.iload_n 1, 1) := by decide +kernel
theorem d_RO_askPerson_5 : decode c_RO_askPerson 5 = .ok (.aload_n 0, 1) := by decide +kernel
theorem d_RO_askPerson_6 : decode c_RO_askPerson 6 = .ok (.getfield 24, 3) := by decide +kernel
theorem d_RO_askPerson_9 : decode c_RO_askPerson 9 = .ok (.arraylength, 1) := by decide +kernel
theorem d_RO_askPerson_10 : decode c_RO_askPerson 10 = .ok (.if_icmp .ge 20, 3) := by decide +kernel
theorem d_RO_askPerson_13 : decode c_RO_askPerson 13 = .ok (.aload_n 0, 1) := by decide +kernel
theorem d_RO_askPerson_14 : decode c_RO_askPerson 14 = .ok (.getfield 24, 3) := by decide +kernel
theorem d_RO_askPerson_17 : decode c_RO_askPerson 17 = .ok (.iload_n 1, 1) := by decide +kernel
theorem d_RO_askPerson_18 : decode c_RO_askPerson 18 = .ok (.iconst (-1), 1) := by decide +kernel
theorem d_RO_askPerson_19 : decode c_RO_askPerson 19 = .ok (.iastore, 1) := by decide +kernel
theorem d_RO_askPerson_20 : decode c_RO_askPerson 20 = .ok (.aload_n 0, 1) := by decide +kernel
theorem d_RO_askPerson_21 : decode c_RO_askPerson 21 = .ok (.dup, 1) := by decide +kernel
theorem d_RO_askPerson_22 : decode c_RO_askPerson 22 = .ok (.getfield 37, 3) := by decide +kernel
theorem d_RO_askPerson_25 : decode c_RO_askPerson 25 = .ok (.iconst 1, 1) := by decide +kernel
theorem d_RO_askPerson_26 : decode c_RO_askPerson 26 = .ok (.iadd, 1) := by decide +kernel
theorem d_RO_askPerson_27 : decode c_RO_askPerson 27 = .ok (.putfield 37, 3) := by decide +kernel
theorem d_RO_askPerson_30 : decode c_RO_askPerson 30 = .ok (.return_, 1) := by decide +kernel
theorem d_RO_endIfNobodyIsAsked_0 : decode c_RO_endIfNobodyIsAsked 0 = .ok (.aload_n 0, 1) := by decide +kernel
theorem d_RO_endIfNobodyIsAsked_1 : decode c_RO_endIfNobodyIsAsked 1 = .ok (.getfield 37, 3) := by decide +kernel
theorem d_RO_endIfNobodyIsAsked_4 : decode c_RO_endIfNobodyIsAsked 4 = .ok (.ifCond .ne 15, 3) := by decide +kernel
theorem d_RO_endIfNobodyIsAsked_7 : decode c_RO_endIfNobodyIsAsked 7 = .ok (.aload_n 0, 1) := by decide +kernel
theorem d_RO_endIfNobodyIsAsked_8 : decode c_RO_endIfNobodyIsAsked 8 = .ok (.getfield 40, 3) := by decide +kernel
theorem d_RO_endIfNobodyIsAsked_11 : decode c_RO_endIfNobodyIsAsked 11 = .ok (.ifCond .ne 8, 3) := by decide +kernel
theorem d_RO_endIfNobodyIsAsked_14 : decode c_RO_endIfNobodyIsAsked 14 = .ok (.aload_n 0, 1) := by decide +kernel
theorem d_RO_endIfNobodyIsAsked_15 : decode c_RO_endIfNobodyIsAsked 15 = .ok (.iconst 3, 1) := by decide +kernel
theorem d_RO_endIfNobodyIsAsked_16 : decode c_RO_endIfNobodyIsAsked 16 = .ok (.putfield 34, 3) := by decide +kernel
theorem d_RO_endIfNobodyIsAsked_19 : decode c_RO_endIfNobodyIsAsked 19 = .ok (.return_, 1) := by decide +kernel
theorem d_LW_answer_0 : decode c_LW_answer 0 = .ok (.aload 4, 2) := by decide +kernel
theorem d_LW_answer_2 : decode c_LW_answer 2 = .ok (.iconst 0, 1) := by decide +kernel
theorem d_LW_answer_3 : decode c_LW_answer 3 = .ok (.aload_n 0, 1) := by decide +kernel
theorem d_LW_answer_4 : decode c_LW_answer 4 = .ok (.iload_n 1, 1) := by decide +kernel
theorem d_LW_answer_5 : decode c_LW_answer 5 = .ok (.iload_n 2, 1) := by decide +kernel
theorem d_LW_answer_6 : decode c_LW_answer 6 = .ok (.iload_n 3, 1) := by decide +kernel
theorem d_LW_answer_7 : decode c_LW_answer 7 = .ok (.invokevirtual 36, 3) := by decide +kernel
theorem d_LW_answer_10 : decode c_LW_answer 10 = .ok (.i2l, 1) := by decide +kernel
theorem d_LW_answer_11 : decode c_LW_answer 11 = .ok (.lastore, 1) := by decide +kernel
theorem d_LW_answer_12 : decode c_LW_answer 12 = .ok (.goto 15, 3) := by decide +kernel
theorem d_LW_answer_15 : decode c_LW_answer 15 = .ok (.astore 5, 2) := by decide +kernel
theorem d_LW_answer_17 : decode c_LW_answer 17 = .ok (.iconst 1, 1) := by decide +kernel
theorem d_LW_answer_18 : decode c_LW_answer 18 = .ok (.ireturn, 1) := by decide +kernel
theorem d_LW_answer_19 : decode c_LW_answer 19 = .ok (.astore 5, 2) := by decide +kernel
theorem d_LW_answer_21 : decode c_LW_answer 21 = .ok (.iconst 2, 1) := by decide +kernel
theorem d_LW_answer_22 : decode c_LW_answer 22 = .ok (.ireturn, 1) := by decide +kernel
theorem d_LW_answer_23 : decode c_LW_answer 23 = .ok (.astore 5, 2) := by decide +kernel
theorem d_LW_answer_25 : decode c_LW_answer 25 = .ok (.iconst 3, 1) := by decide +kernel
theorem d_LW_answer_26 : decode c_LW_answer 26 = .ok (.ireturn, 1) := by decide +kernel
theorem d_LW_answer_27 : decode c_LW_answer 27 = .ok (.iconst 0, 1) := by decide +kernel
theorem d_LW_answer_28 : decode c_LW_answer 28 = .ok (.ireturn, 1) := by decide +kernel
theorem d_RC_answer_0 : decode c_RC_answer 0 = .ok (.aload_n 0, 1) := by decide +kernel
theorem d_RC_answer_1 : decode c_RC_answer 1 = .ok (.iload_n 1, 1) := by decide +kernel
theorem d_RC_answer_2 : decode c_RC_answer 2 = .ok (.invokevirtual 136, 3) := by decide +kernel
theorem d_RC_answer_5 : decode c_RC_answer 5 = .ok (.astore 4, 2) := by decide +kernel
theorem d_RC_answer_7 : decode c_RC_answer 7 = .ok (.iload_n 2, 1) := by decide +kernel
theorem d_RC_answer_8 : decode c_RC_answer 8 = .ok (.invokestatic 61, 3) := by decide +kernel
theorem d_RC_answer_11 : decode c_RC_answer 11 = .ok (.aload_n 0, 1) := by decide +kernel
theorem d_RC_answer_12 : decode c_RC_answer 12 = .ok (.iload_n 3, 1) := by decide +kernel
theorem d_RC_answer_13 : decode c_RC_answer 13 = .ok (.invokevirtual 57, 3) := by decide +kernel
theorem d_RC_answer_16 : decode c_RC_answer 16 = .ok (.astore 5, 2) := by decide +kernel
theorem d_RC_answer_18 : decode c_RC_answer 18 = .ok (.aload 4, 2) := by decide +kernel
theorem d_RC_answer_20 : decode c_RC_answer 20 = .ok (.invokestatic 140, 3) := by decide +kernel
theorem d_RC_answer_23 : decode c_RC_answer 23 = .ok (.aload 4, 2) := by decide +kernel
theorem d_RC_answer_25 : decode c_RC_answer 25 = .ok (.iload_n 3, 1) := by decide +kernel
theorem d_RC_answer_26 : decode c_RC_answer 26 = .ok (.invokevirtual 143, 3) := by decide +kernel
theorem d_RC_answer_29 : decode c_RC_answer 29 = .ok (.istore 6, 2) := by decide +kernel
theorem d_RC_answer_31 : decode c_RC_answer 31 = .ok (.iload 6, 2) := by decide +kernel
theorem d_RC_answer_33 : decode c_RC_answer 33 = .ok (.bipush (-2), 2) := by decide +kernel
theorem d_RC_answer_35 : decode c_RC_answer 35 = .ok (.if_icmp .ne 16, 3) := by decide +kernel
theorem d_RC_answer_38 : decode c_RC_answer 38 = .ok (.aload 4, 2) := by decide +kernel
theorem d_RC_answer_40 : decode c_RC_answer 40 = .ok (.dup, 1) := by decide +kernel
theorem d_RC_answer_41 : decode c_RC_answer 41 = .ok (.getfield 147, 3) := by decide +kernel
theorem d_RC_answer_44 : decode c_RC_answer 44 = .ok (.iconst 1, 1) := by decide +kernel
theorem d_RC_answer_45 : decode c_RC_answer 45 = .ok (.iadd, 1) := by decide +kernel
theorem d_RC_answer_46 : decode c_RC_answer 46 = .ok (.putfield 147, 3) := by decide +kernel
theorem d_RC_answer_49 : decode c_RC_answer 49 = .ok (.iconst 4, 1) := by decide +kernel
theorem d_RC_answer_50 : decode c_RC_answer 50 = .ok (.ireturn, 1) := by decide +kernel
theorem d_RC_answer_51 : decode c_RC_answer 51 = .ok (.iload 6, 2) := by decide +kernel
theorem d_RC_answer_53 : decode c_RC_answer 53 = .ok (.iconst (-1), 1) := by decide +kernel
theorem d_RC_answer_54 : decode c_RC_answer 54 = .ok (.if_icmp .ne 26, 3) := by decide +kernel
theorem d_RC_answer_57 : decode c_RC_answer 57 = .ok (.aload 4, 2) := by decide +kernel
theorem d_RC_answer_59 : decode c_RC_answer 59 = .ok (.iload_n 3, 1) := by decide +kernel
theorem d_RC_answer_60 : decode c_RC_answer 60 = .ok (.iload_n 2, 1) := by decide +kernel
theorem d_RC_answer_61 : decode c_RC_answer 61 = .ok (.invokevirtual 150, 3) := by decide +kernel
theorem d_RC_answer_64 : decode c_RC_answer 64 = .ok (.aload 5, 2) := by decide +kernel
theorem d_RC_answer_66 : decode c_RC_answer 66 = .ok (.aload 5, 2) := by decide +kernel
theorem d_RC_answer_68 : decode c_RC_answer 68 = .ok (.getfield 153, 3) := by decide +kernel
theorem d_RC_answer_71 : decode c_RC_answer 71 = .ok (.iload_n 1, 1) := by decide +kernel
theorem d_RC_answer_72 : decode c_RC_answer 72 = .ok (.invokestatic 156, 3) := by decide +kernel
theorem d_RC_answer_75 : decode c_RC_answer 75 = .ok (.putfield 153, 3) := by decide +kernel
theorem d_RC_answer_78 : decode c_RC_answer 78 = .ok (.iconst 1, 1) := by decide +kernel
theorem d_RC_answer_79 : decode c_RC_answer 79 = .ok (.ireturn, 1) := by decide +kernel
theorem d_RC_answer_80 : decode c_RC_answer 80 = .ok (.iload 6, 2) := by decide +kernel
theorem d_RC_answer_82 : decode c_RC_answer 82 = .ok (.iload_n 2, 1) := by decide +kernel
theorem d_RC_answer_83 : decode c_RC_answer 83 = .ok (.if_icmp .ne 5, 3) := by decide +kernel
theorem d_RC_answer_86 : decode c_RC_answer 86 = .ok (.iconst 2, 1) := by decide +kernel
theorem d_RC_answer_87 : decode c_RC_answer 87 = .ok (.ireturn, 1) := by decide +kernel
theorem d_RC_answer_88 : decode c_RC_answer 88 = .ok (.aload_n 0, 1) := by decide +kernel
theorem d_RC_answer_89 : decode c_RC_answer 89 = .ok (.new 162, 3) := by decide +kernel
theorem d_RC_answer_92 : decode c_RC_answer 92 = .ok (.dup, 1) := by decide +kernel
theorem d_RC_answer_93 : decode c_RC_answer 93 = .ok (.iload_n 3, 1) := by decide +kernel
theorem d_RC_answer_94 : decode c_RC_answer 94 = .ok (.iload 6, 2) := by decide +kernel
theorem d_RC_answer_96 : decode c_RC_answer 96 = .ok (.iload_n 2, 1) := by decide +kernel
theorem d_RC_answer_97 : decode c_RC_answer 97 = .ok (.iload_n 1, 1) := by decide +kernel
theorem d_RC_answer_98 : decode c_RC_answer 98 = .ok (.invokespecial 164, 3) := by decide +kernel
theorem d_RC_answer_101 : decode c_RC_answer 101 = .ok (.invokevirtual 167, 3) := by decide +kernel
theorem d_RC_answer_104 : decode c_RC_answer 104 = .ok (.iconst 3, 1) := by decide +kernel
theorem d_RC_answer_105 : decode c_RC_answer 105 = .ok (.ireturn, 1) := by decide +kernel
theorem d_RC_knownRoll_0 : decode c_RC_knownRoll 0 = .ok (.iload_n 1, 1) := by decide +kernel
theorem d_RC_knownRoll_1 : decode c_RC_knownRoll 1 = .ok (.ifCond .lt 14, 3) := by decide +kernel
theorem d_RC_knownRoll_4 : decode c_RC_knownRoll 4 = .ok (.iload_n 1, 1) := by decide +kernel
theorem d_RC_knownRoll_5 : decode c_RC_knownRoll 5 = .ok (.aload_n 0, 1) := by decide +kernel
theorem d_RC_knownRoll_6 : decode c_RC_knownRoll 6 = .ok (.getfield 23, 3) := by decide +kernel
theorem d_RC_knownRoll_9 : decode c_RC_knownRoll 9 = .ok (.invokevirtual 39, 3) := by decide +kernel
theorem d_RC_knownRoll_12 : decode c_RC_knownRoll 12 = .ok (.if_icmp .lt 13, 3) := by decide +kernel
theorem d_RC_knownRoll_15 : decode c_RC_knownRoll 15 = .ok (.new 100, 3) := by decide +kernel
theorem d_RC_knownRoll_18 : decode c_RC_knownRoll 18 = .ok (.dup, 1) := by decide +kernel
theorem d_RC_knownRoll_19 : decode c_RC_knownRoll 19 = .ok (.ldc 225, 2) := by decide +kernel
theorem d_RC_knownRoll_21 : decode c_RC_knownRoll 21 = .ok (.invokespecial 104, 3) := by decide +kernel
theorem d_RC_knownRoll_24 : decode c_RC_knownRoll 24 = .ok (.athrow, 1) := by decide +kernel
theorem d_RC_knownRoll_25 : decode c_RC_knownRoll 25 = .ok (.aload_n 0, 1) := by decide +kernel
theorem d_RC_knownRoll_26 : decode c_RC_knownRoll 26 = .ok (.getfield 23, 3) := by decide +kernel
theorem d_RC_knownRoll_29 : decode c_RC_knownRoll 29 = .ok (.iload_n 1, 1) := by decide +kernel
theorem d_RC_knownRoll_30 : decode c_RC_knownRoll 30 = .ok (.invokevirtual 89, 3) := by decide +kernel
theorem d_RC_knownRoll_33 : decode c_RC_knownRoll 33 = .ok (.checkcast 123, 3) := by decide +kernel
theorem d_RC_knownRoll_36 : decode c_RC_knownRoll 36 = .ok (.areturn, 1) := by decide +kernel
theorem d_RC_checkIsOn_0 : decode c_RC_checkIsOn 0 = .ok (.aload_n 0, 1) := by decide +kernel
theorem d_RC_checkIsOn_1 : decode c_RC_checkIsOn 1 = .ok (.invokevirtual 187, 3) := by decide +kernel
theorem d_RC_checkIsOn_4 : decode c_RC_checkIsOn 4 = .ok (.ifCond .eq 13, 3) := by decide +kernel
theorem d_RC_checkIsOn_7 : decode c_RC_checkIsOn 7 = .ok (.new 68, 3) := by decide +kernel
theorem d_RC_checkIsOn_10 : decode c_RC_checkIsOn 10 = .ok (.dup, 1) := by decide +kernel
theorem d_RC_checkIsOn_11 : decode c_RC_checkIsOn 11 = .ok (.ldc 227, 2) := by decide +kernel
theorem d_RC_checkIsOn_13 : decode c_RC_checkIsOn 13 = .ok (.invokespecial 72, 3) := by decide +kernel
theorem d_RC_checkIsOn_16 : decode c_RC_checkIsOn 16 = .ok (.athrow, 1) := by decide +kernel
theorem d_RC_checkIsOn_17 : decode c_RC_checkIsOn 17 = .ok (.return_, 1) := by decide +kernel
theorem d_RO_counterOf_0 : decode c_RO_counterOf 0 = .ok (.iload_n 1, 1) := by decide +kernel
theorem d_RO_counterOf_1 : decode c_RO_counterOf 1 = .ok (.ifCond .lt 21, 3) := by decide +kernel
theorem d_RO_counterOf_4 : decode c_RO_counterOf 4 = .ok (.iload_n 1, 1) := by decide +kernel
theorem d_RO_counterOf_5 : decode c_RO_counterOf 5 = .ok (.aload_n 0, 1) := by decide +kernel
theorem d_RO_counterOf_6 : decode c_RO_counterOf 6 = .ok (.getfield 24, 3) := by decide +kernel
theorem d_RO_counterOf_9 : decode c_RO_counterOf 9 = .ok (.arraylength, 1) := by decide +kernel
theorem d_RO_counterOf_10 : decode c_RO_counterOf 10 = .ok (.if_icmp .ge 12, 3) := by decide +kernel
theorem d_RO_counterOf_13 : decode c_RO_counterOf 13 = .ok (.aload_n 0, 1) := by decide +kernel
theorem d_RO_counterOf_14 : decode c_RO_counterOf 14 = .ok (.getfield 24, 3) := by decide +kernel
theorem d_RO_counterOf_17 : decode c_RO_counterOf 17 = .ok (.iload_n 1, 1) := by decide +kernel
theorem d_RO_counterOf_18 : decode c_RO_counterOf 18 = .ok (.iaload, 1) := by decide +kernel
theorem d_RO_counterOf_19 : decode c_RO_counterOf 19 = .ok (.goto 5, 3) := by decide +kernel
theorem d_RO_counterOf_22 : decode c_RO_counterOf 22 = .ok (.bipush (-2), 2) := by decide +kernel
theorem d_RO_counterOf_24 : decode c_RO_counterOf 24 = .ok (.ireturn, 1) := by decide +kernel
theorem d_RO_countPerson_0 : decode c_RO_countPerson 0 = .ok (.iload_n 1, 1) := by decide +kernel
theorem d_RO_countPerson_1 : decode c_RO_countPerson 1 = .ok (.ifCond .lt 29, 3) := by decide +kernel
theorem d_RO_countPerson_4 : decode c_RO_countPerson 4 = .ok (.iload_n 1, 1) := by decide +kernel
theorem d_RO_countPerson_5 : decode c_RO_countPerson 5 = .ok (.aload_n 0, 1) := by decide +kernel
theorem d_RO_countPerson_6 : decode c_RO_countPerson 6 = .ok (.getfield 24, 3) := by decide +kernel
theorem d_RO_countPerson_9 : decode c_RO_countPerson 9 = .ok (.arraylength, 1) := by decide +kernel
theorem d_RO_countPerson_10 : decode c_RO_countPerson 10 = .ok (.if_icmp .ge 20, 3) := by decide +kernel
theorem d_RO_countPerson_13 : decode c_RO_countPerson 13 = .ok (.aload_n 0, 1) := by decide +kernel
theorem d_RO_countPerson_14 : decode c_RO_countPerson 14 = .ok (.getfield 24, 3) := by decide +kernel
theorem d_RO_countPerson_17 : decode c_RO_countPerson 17 = .ok (.iload_n 1, 1) := by decide +kernel
theorem d_RO_countPerson_18 : decode c_RO_countPerson 18 = .ok (.iload_n 2, 1) := by decide +kernel
theorem d_RO_countPerson_19 : decode c_RO_countPerson 19 = .ok (.iastore, 1) := by decide +kernel
theorem d_RO_countPerson_20 : decode c_RO_countPerson 20 = .ok (.aload_n 0, 1) := by decide +kernel
theorem d_RO_countPerson_21 : decode c_RO_countPerson 21 = .ok (.dup, 1) := by decide +kernel
theorem d_RO_countPerson_22 : decode c_RO_countPerson 22 = .ok (.getfield 43, 3) := by decide +kernel
theorem d_RO_countPerson_25 : decode c_RO_countPerson 25 = .ok (.iconst 1, 1) := by decide +kernel
theorem d_RO_countPerson_26 : decode c_RO_countPerson 26 = .ok (.iadd, 1) := by decide +kernel
theorem d_RO_countPerson_27 : decode c_RO_countPerson 27 = .ok (.putfield 43, 3) := by decide +kernel
theorem d_RO_countPerson_30 : decode c_RO_countPerson 30 = .ok (.return_, 1) := by decide +kernel
theorem d_DC_init_0 : decode c_DC_init 0 = .ok (.aload_n 0, 1) := by decide +kernel
theorem d_DC_init_1 : decode c_DC_init 1 = .ok (.invokespecial 1, 3) := by decide +kernel
theorem d_DC_init_4 : decode c_DC_init 4 = .ok (.aload_n 0, 1) := by decide +kernel
theorem d_DC_init_5 : decode c_DC_init 5 = .ok (.iload_n 1, 1) := by decide +kernel
theorem d_DC_init_6 : decode c_DC_init 6 = .ok (.putfield 7, 3) := by decide +kernel
theorem d_DC_init_9 : decode c_DC_init 9 = .ok (.aload_n 0, 1) := by decide +kernel
theorem d_DC_init_10 : decode c_DC_init 10 = .ok (.iload_n 2, 1) := by decide +kernel
theorem d_DC_init_11 : decode c_DC_init 11 = .ok (.putfield 13, 3) := by decide +kernel
theorem d_DC_init_14 : decode c_DC_init 14 = .ok (.aload_n 0, 1) := by decide +kernel
theorem d_DC_init_15 : decode c_DC_init 15 = .ok (.iload_n 3, 1) := by decide +kernel
theorem d_DC_init_16 : decode c_DC_init 16 = .ok (.putfield 16, 3) := by decide +kernel
theorem d_DC_init_19 : decode c_DC_init 19 = .ok (.aload_n 0, 1) := by decide +kernel
theorem d_DC_init_20 : decode c_DC_init 20 = .ok (.iload 4, 2) := by decide +kernel
theorem d_DC_init_22 : decode c_DC_init 22 = .ok (.putfield 19, 3) := by decide +kernel
theorem d_DC_init_25 : decode c_DC_init 25 = .ok (.return_, 1) := by decide +kernel
theorem d_RC_addDouble_0 : decode c_RC_addDouble 0 = .ok (.aload_n 0, 1) := by decide +kernel
theorem d_RC_addDouble_1 : decode c_RC_addDouble 1 = .ok (.getfield 26, 3) := by decide +kernel
theorem d_RC_addDouble_4 : decode c_RC_addDouble 4 = .ok (.invokevirtual 39, 3) := by decide +kernel
theorem d_RC_addDouble_7 : decode c_RC_addDouble 7 = .ok (.bipush 100, 2) := by decide +kernel
theorem d_RC_addDouble_9 : decode c_RC_addDouble 9 = .ok (.if_icmp .lt 13, 3) := by decide +kernel
theorem d_RC_addDouble_12 : decode c_RC_addDouble 12 = .ok (.new 43, 3) := by decide +kernel
theorem d_RC_addDouble_15 : decode c_RC_addDouble 15 = .ok (.dup, 1) := by decide +kernel
theorem d_RC_addDouble_16 : decode c_RC_addDouble 16 = .ok (.ldc 235, 2) := by decide +kernel
theorem d_RC_addDouble_18 : decode c_RC_addDouble 18 = .ok (.invokespecial 47, 3) := by decide +kernel
theorem d_RC_addDouble_21 : decode c_RC_addDouble 21 = .ok (.athrow, 1) := by decide +kernel
theorem d_RC_addDouble_22 : decode c_RC_addDouble 22 = .ok (.aload_n 0, 1) := by decide +kernel
theorem d_RC_addDouble_23 : decode c_RC_addDouble 23 = .ok (.getfield 26, 3) := by decide +kernel
theorem d_RC_addDouble_26 : decode c_RC_addDouble 26 = .ok (.aload_n 1, 1) := by decide +kernel
theorem d_RC_addDouble_27 : decode c_RC_addDouble 27 = .ok (.invokevirtual 53, 3) := by decide +kernel
theorem d_RC_addDouble_30 : decode c_RC_addDouble 30 = .ok (.pop, 1) := by decide +kernel
theorem d_RC_addDouble_31 : decode c_RC_addDouble 31 = .ok (.return_, 1) := by decide +kernel
theorem d_LW_seen_0 : decode c_LW_seen 0 = .ok (.aload_n 3, 1) := by decide +kernel
theorem d_LW_seen_1 : decode c_LW_seen 1 = .ok (.iconst 0, 1) := by decide +kernel
theorem d_LW_seen_2 : decode c_LW_seen 2 = .ok (.aload_n 0, 1) := by decide +kernel
theorem d_LW_seen_3 : decode c_LW_seen 3 = .ok (.iload_n 1, 1) := by decide +kernel
theorem d_LW_seen_4 : decode c_LW_seen 4 = .ok (.iload_n 2, 1) := by decide +kernel
theorem d_LW_seen_5 : decode c_LW_seen 5 = .ok (.invokevirtual 40, 3) := by decide +kernel
theorem d_LW_seen_8 : decode c_LW_seen 8 = .ok (.i2l, 1) := by decide +kernel
theorem d_LW_seen_9 : decode c_LW_seen 9 = .ok (.lastore, 1) := by decide +kernel
theorem d_LW_seen_10 : decode c_LW_seen 10 = .ok (.goto 19, 3) := by decide +kernel
theorem d_LW_seen_13 : decode c_LW_seen 13 = .ok (.astore 4, 2) := by decide +kernel
theorem d_LW_seen_15 : decode c_LW_seen 15 = .ok (.iconst 1, 1) := by decide +kernel
theorem d_LW_seen_16 : decode c_LW_seen 16 = .ok (.ireturn, 1) := by decide +kernel
theorem d_LW_seen_17 : decode c_LW_seen 17 = .ok (.astore 4, 2) := by decide +kernel
theorem d_LW_seen_19 : decode c_LW_seen 19 = .ok (.iconst 2, 1) := by decide +kernel
theorem d_LW_seen_20 : decode c_LW_seen 20 = .ok (.ireturn, 1) := by decide +kernel
theorem d_LW_seen_21 : decode c_LW_seen 21 = .ok (.astore 4, 2) := by decide +kernel
theorem d_LW_seen_23 : decode c_LW_seen 23 = .ok (.iconst 3, 1) := by decide +kernel
theorem d_LW_seen_24 : decode c_LW_seen 24 = .ok (.ireturn, 1) := by decide +kernel
theorem d_LW_seen_25 : decode c_LW_seen 25 = .ok (.astore 4, 2) := by decide +kernel
theorem d_LW_seen_27 : decode c_LW_seen 27 = .ok (.iconst 4, 1) := by decide +kernel
theorem d_LW_seen_28 : decode c_LW_seen 28 = .ok (.ireturn, 1) := by decide +kernel
theorem d_LW_seen_29 : decode c_LW_seen 29 = .ok (.iconst 0, 1) := by decide +kernel
theorem d_LW_seen_30 : decode c_LW_seen 30 = .ok (.ireturn, 1) := by decide +kernel
theorem d_RC_seen_0 : decode c_RC_seen 0 = .ok (.aload_n 0, 1) := by decide +kernel
theorem d_RC_seen_1 : decode c_RC_seen 1 = .ok (.iload_n 1, 1) := by decide +kernel
theorem d_RC_seen_2 : decode c_RC_seen 2 = .ok (.invokevirtual 136, 3) := by decide +kernel
theorem d_RC_seen_5 : decode c_RC_seen 5 = .ok (.astore_n 3, 1) := by decide +kernel
theorem d_RC_seen_6 : decode c_RC_seen 6 = .ok (.iload_n 2, 1) := by decide +kernel
theorem d_RC_seen_7 : decode c_RC_seen 7 = .ok (.ifCond .lt 10, 3) := by decide +kernel
theorem d_RC_seen_10 : decode c_RC_seen 10 = .ok (.iload_n 2, 1) := by decide +kernel
theorem d_RC_seen_11 : decode c_RC_seen 11 = .ok (.sipush 999, 3) := by decide +kernel
theorem d_RC_seen_14 : decode c_RC_seen 14 = .ok (.if_icmp .le 13, 3) := by decide +kernel
theorem d_RC_seen_17 : decode c_RC_seen 17 = .ok (.new 82, 3) := by decide +kernel
theorem d_RC_seen_20 : decode c_RC_seen 20 = .ok (.dup, 1) := by decide +kernel
theorem d_RC_seen_21 : decode c_RC_seen 21 = .ok (.ldc 171, 2) := by decide +kernel
theorem d_RC_seen_23 : decode c_RC_seen 23 = .ok (.invokespecial 86, 3) := by decide +kernel
theorem d_RC_seen_26 : decode c_RC_seen 26 = .ok (.athrow, 1) := by decide +kernel
theorem d_RC_seen_27 : decode c_RC_seen 27 = .ok (.aload_n 3, 1) := by decide +kernel
theorem d_RC_seen_28 : decode c_RC_seen 28 = .ok (.invokestatic 140, 3) := by decide +kernel
theorem d_RC_seen_31 : decode c_RC_seen 31 = .ok (.aload_n 3, 1) := by decide +kernel
theorem d_RC_seen_32 : decode c_RC_seen 32 = .ok (.getfield 173, 3) := by decide +kernel
theorem d_RC_seen_35 : decode c_RC_seen 35 = .ok (.iload_n 2, 1) := by decide +kernel
theorem d_RC_seen_36 : decode c_RC_seen 36 = .ok (.iadd, 1) := by decide +kernel
theorem d_RC_seen_37 : decode c_RC_seen 37 = .ok (.sipush 9999, 3) := by decide +kernel
theorem d_RC_seen_40 : decode c_RC_seen 40 = .ok (.if_icmp .le 13, 3) := by decide +kernel
theorem d_RC_seen_43 : decode c_RC_seen 43 = .ok (.new 43, 3) := by decide +kernel
theorem d_RC_seen_46 : decode c_RC_seen 46 = .ok (.dup, 1) := by decide +kernel
theorem d_RC_seen_47 : decode c_RC_seen 47 = .ok (.ldc 176, 2) := by decide +kernel
theorem d_RC_seen_49 : decode c_RC_seen 49 = .ok (.invokespecial 47, 3) := by decide +kernel
theorem d_RC_seen_52 : decode c_RC_seen 52 = .ok (.athrow, 1) := by decide +kernel
theorem d_RC_seen_53 : decode c_RC_seen 53 = .ok (.aload_n 3, 1) := by decide +kernel
theorem d_RC_seen_54 : decode c_RC_seen 54 = .ok (.dup, 1) := by decide +kernel
theorem d_RC_seen_55 : decode c_RC_seen 55 = .ok (.getfield 173, 3) := by decide +kernel
theorem d_RC_seen_58 : decode c_RC_seen 58 = .ok (.iload_n 2, 1) := by decide +kernel
theorem d_RC_seen_59 : decode c_RC_seen 59 = .ok (.iadd, 1) := by decide +kernel
theorem d_RC_seen_60 : decode c_RC_seen 60 = .ok (.putfield 173, 3) := by decide +kernel
theorem d_RC_seen_63 : decode c_RC_seen 63 = .ok (.aload_n 3, 1) := by decide +kernel
theorem d_RC_seen_64 : decode c_RC_seen 64 = .ok (.getfield 173, 3) := by decide +kernel
theorem d_RC_seen_67 : decode c_RC_seen 67 = .ok (.ireturn, 1) := by decide +kernel
theorem d_LW_round_0 : decode c_LW_round 0 = .ok (.aload_n 2, 1) := by decide +kernel
theorem d_LW_round_1 : decode c_LW_round 1 = .ok (.iconst 0, 1) := by decide +kernel
theorem d_LW_round_2 : decode c_LW_round 2 = .ok (.aload_n 0, 1) := by decide +kernel
theorem d_LW_round_3 : decode c_LW_round 3 = .ok (.iload_n 1, 1) := by decide +kernel
theorem d_LW_round_4 : decode c_LW_round 4 = .ok (.invokevirtual 44, 3) := by decide +kernel
theorem d_LW_round_7 : decode c_LW_round 7 = .ok (.i2l, 1) := by decide +kernel
theorem d_LW_round_8 : decode c_LW_round 8 = .ok (.lastore, 1) := by decide +kernel
theorem d_LW_round_9 : decode c_LW_round 9 = .ok (.goto 9, 3) := by decide +kernel
theorem d_LW_round_12 : decode c_LW_round 12 = .ok (.astore_n 3, 1) := by decide +kernel
theorem d_LW_round_13 : decode c_LW_round 13 = .ok (.iconst 1, 1) := by decide +kernel
theorem d_LW_round_14 : decode c_LW_round 14 = .ok (.ireturn, 1) := by decide +kernel
theorem d_LW_round_15 : decode c_LW_round 15 = .ok (.astore_n 3, 1) := by decide +kernel
theorem d_LW_round_16 : decode c_LW_round 16 = .ok (.iconst 2, 1) := by decide +kernel
theorem d_LW_round_17 : decode c_LW_round 17 = .ok (.ireturn, 1) := by decide +kernel
theorem d_LW_round_18 : decode c_LW_round 18 = .ok (.iconst 0, 1) := by decide +kernel
theorem d_LW_round_19 : decode c_LW_round 19 = .ok (.ireturn, 1) := by decide +kernel
theorem d_RC_round_0 : decode c_RC_round 0 = .ok (.aload_n 0, 1) := by decide +kernel
theorem d_RC_round_1 : decode c_RC_round 1 = .ok (.iload_n 1, 1) := by decide +kernel
theorem d_RC_round_2 : decode c_RC_round 2 = .ok (.invokevirtual 136, 3) := by decide +kernel
theorem d_RC_round_5 : decode c_RC_round 5 = .ok (.astore_n 2, 1) := by decide +kernel
theorem d_RC_round_6 : decode c_RC_round 6 = .ok (.aload_n 2, 1) := by decide +kernel
theorem d_RC_round_7 : decode c_RC_round 7 = .ok (.invokestatic 140, 3) := by decide +kernel
theorem d_RC_round_10 : decode c_RC_round 10 = .ok (.aload_n 0, 1) := by decide +kernel
theorem d_RC_round_11 : decode c_RC_round 11 = .ok (.invokevirtual 116, 3) := by decide +kernel
theorem d_RC_round_14 : decode c_RC_round 14 = .ok (.ifCond .le 13, 3) := by decide +kernel
theorem d_RC_round_17 : decode c_RC_round 17 = .ok (.new 68, 3) := by decide +kernel
theorem d_RC_round_20 : decode c_RC_round 20 = .ok (.dup, 1) := by decide +kernel
theorem d_RC_round_21 : decode c_RC_round 21 = .ok (.ldc 178, 2) := by decide +kernel
theorem d_RC_round_23 : decode c_RC_round 23 = .ok (.invokespecial 72, 3) := by decide +kernel
theorem d_RC_round_26 : decode c_RC_round 26 = .ok (.athrow, 1) := by decide +kernel
theorem d_RC_round_27 : decode c_RC_round 27 = .ok (.aload_n 0, 1) := by decide +kernel
theorem d_RC_round_28 : decode c_RC_round 28 = .ok (.aload_n 2, 1) := by decide +kernel
theorem d_RC_round_29 : decode c_RC_round 29 = .ok (.invokevirtual 180, 3) := by decide +kernel
theorem d_RC_round_32 : decode c_RC_round 32 = .ok (.istore_n 3, 1) := by decide +kernel
theorem d_RC_round_33 : decode c_RC_round 33 = .ok (.aload_n 2, 1) := by decide +kernel
theorem d_RC_round_34 : decode c_RC_round 34 = .ok (.dup, 1) := by decide +kernel
theorem d_RC_round_35 : decode c_RC_round 35 = .ok (.getfield 184, 3) := by decide +kernel
theorem d_RC_round_38 : decode c_RC_round 38 = .ok (.iconst 1, 1) := by decide +kernel
theorem d_RC_round_39 : decode c_RC_round 39 = .ok (.iadd, 1) := by decide +kernel
theorem d_RC_round_40 : decode c_RC_round 40 = .ok (.putfield 184, 3) := by decide +kernel
theorem d_RC_round_43 : decode c_RC_round 43 = .ok (.aload_n 2, 1) := by decide +kernel
theorem d_RC_round_44 : decode c_RC_round 44 = .ok (.invokevirtual 187, 3) := by decide +kernel
theorem d_RC_round_47 : decode c_RC_round 47 = .ok (.ifCond .eq 8, 3) := by decide +kernel
theorem d_RC_round_50 : decode c_RC_round 50 = .ok (.aload_n 2, 1) := by decide +kernel
theorem d_RC_round_51 : decode c_RC_round 51 = .ok (.iload_n 3, 1) := by decide +kernel
theorem d_RC_round_52 : decode c_RC_round 52 = .ok (.putfield 191, 3) := by decide +kernel
theorem d_RC_round_55 : decode c_RC_round 55 = .ok (.iload_n 3, 1) := by decide +kernel
theorem d_RC_round_56 : decode c_RC_round 56 = .ok (.ireturn, 1) := by decide +kernel
theorem d_RC_openPersons_0 : decode c_RC_openPersons 0 = .ok (.iconst 0, 1) := by decide +kernel
theorem d_RC_openPersons_1 : decode c_RC_openPersons 1 = .ok (.istore_n 2, 1) := by decide +kernel
theorem d_RC_openPersons_2 : decode c_RC_openPersons 2 = .ok (.iconst 0, 1) := by decide +kernel
theorem d_RC_openPersons_3 : decode c_RC_openPersons 3 = .ok (.istore_n 3, 1) := by decide +kernel
theorem d_RC_openPersons_4 : decode c_RC_openPersons 4 = .ok (.iload_n 3, 1) := by decide +kernel
theorem d_RC_openPersons_5 : decode c_RC_openPersons 5 = .ok (.aload_n 0, 1) := by decide +kernel
theorem d_RC_openPersons_6 : decode c_RC_openPersons 6 = .ok (.getfield 16, 3) := by decide +kernel
theorem d_RC_openPersons_9 : decode c_RC_openPersons 9 = .ok (.invokevirtual 39, 3) := by decide +kernel
theorem d_RC_openPersons_12 : decode c_RC_openPersons 12 = .ok (.if_icmp .ge 21, 3) := by decide +kernel
theorem d_RC_openPersons_15 : decode c_RC_openPersons 15 = .ok (.aload_n 0, 1) := by decide +kernel
theorem d_RC_openPersons_16 : decode c_RC_openPersons 16 = .ok (.aload_n 1, 1) := by decide +kernel
theorem d_RC_openPersons_17 : decode c_RC_openPersons 17 = .ok (.iload_n 3, 1) := by decide +kernel
theorem d_RC_openPersons_18 : decode c_RC_openPersons 18 = .ok (.invokevirtual 237, 3) := by decide +kernel
theorem d_RC_openPersons_21 : decode c_RC_openPersons 21 = .ok (.ifCond .eq 6, 3) := by decide +kernel
theorem d_RC_openPersons_24 : decode c_RC_openPersons 24 = .ok (.iinc 2 1, 3) := by decide +kernel
theorem d_RC_openPersons_27 : decode c_RC_openPersons 27 = .ok (.iinc 3 1, 3) := by decide +kernel
theorem d_RC_openPersons_30 : decode c_RC_openPersons 30 = .ok (.goto (-26), 3) := by decide +kernel
theorem d_RC_openPersons_33 : decode c_RC_openPersons 33 = .ok (.iload_n 2, 1) := by decide +kernel
theorem d_RC_openPersons_34 : decode c_RC_openPersons 34 = .ok (.ireturn, 1) := by decide +kernel
theorem d_RC_isOpen_0 : decode c_RC_isOpen 0 = .ok (.aload_n 1, 1) := by decide +kernel
theorem d_RC_isOpen_1 : decode c_RC_isOpen 1 = .ok (.iload_n 2, 1) := by decide +kernel
theorem d_RC_isOpen_2 : decode c_RC_isOpen 2 = .ok (.invokevirtual 143, 3) := by decide +kernel
theorem d_RC_isOpen_5 : decode c_RC_isOpen 5 = .ok (.iconst (-1), 1) := by decide +kernel
theorem d_RC_isOpen_6 : decode c_RC_isOpen 6 = .ok (.if_icmp .ne 22, 3) := by decide +kernel
theorem d_RC_isOpen_9 : decode c_RC_isOpen 9 = .ok (.aload_n 0, 1) := by decide +kernel
theorem d_RC_isOpen_10 : decode c_RC_isOpen 10 = .ok (.iload_n 2, 1) := by decide +kernel
theorem d_RC_isOpen_11 : decode c_RC_isOpen 11 = .ok (.invokevirtual 57, 3) := by decide +kernel
theorem d_RC_isOpen_14 : decode c_RC_isOpen 14 = .ok (.aload_n 1, 1) := by decide +kernel
theorem d_RC_isOpen_15 : decode c_RC_isOpen 15 = .ok (.getfield 133, 3) := by decide +kernel
theorem d_RC_isOpen_18 : decode c_RC_isOpen 18 = .ok (.invokevirtual 240, 3) := by decide +kernel
theorem d_RC_isOpen_21 : decode c_RC_isOpen 21 = .ok (.ifCond .ne 7, 3) := by decide +kernel
theorem d_RC_isOpen_24 : decode c_RC_isOpen 24 = .ok (.iconst 1, 1) := by decide +kernel
theorem d_RC_isOpen_25 : decode c_RC_isOpen 25 = .ok (.goto 4, 3) := by decide +kernel
theorem d_RC_isOpen_28 : decode c_RC_isOpen 28 = .ok (.iconst 0, 1) := by decide +kernel
theorem d_RC_isOpen_29 : decode c_RC_isOpen 29 = .ok (.ireturn, 1) := by decide +kernel
theorem d_PE_cameOutSince_0 : decode c_PE_cameOutSince 0 = .ok (.iload_n 1, 1) := by decide +kernel
theorem d_PE_cameOutSince_1 : decode c_PE_cameOutSince 1 = .ok (.aload_n 0, 1) := by decide +kernel
theorem d_PE_cameOutSince_2 : decode c_PE_cameOutSince 2 = .ok (.getfield 15, 3) := by decide +kernel
theorem d_PE_cameOutSince_5 : decode c_PE_cameOutSince 5 = .ok (.if_icmp .ge 7, 3) := by decide +kernel
theorem d_PE_cameOutSince_8 : decode c_PE_cameOutSince 8 = .ok (.iconst 1, 1) := by decide +kernel
theorem d_PE_cameOutSince_9 : decode c_PE_cameOutSince 9 = .ok (.goto 4, 3) := by decide +kernel
theorem d_PE_cameOutSince_12 : decode c_PE_cameOutSince 12 = .ok (.iconst 0, 1) := by decide +kernel
theorem d_PE_cameOutSince_13 : decode c_PE_cameOutSince 13 = .ok (.ireturn, 1) := by decide +kernel
