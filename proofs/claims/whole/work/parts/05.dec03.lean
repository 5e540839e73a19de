theorem d_RC_isEvacuating_0 : decode c_RC_isEvacuating 0 = .ok (.aload_n 0, 1) := by decide +kernel
theorem d_RC_isEvacuating_1 : decode c_RC_isEvacuating 1 = .ok (.getfield 32, 3) := by decide +kernel
theorem d_RC_isEvacuating_4 : decode c_RC_isEvacuating 4 = .ok (.invokevirtual 327, 3) := by decide +kernel
theorem d_RC_isEvacuating_7 : decode c_RC_isEvacuating 7 = .ok (.ifCond .ne 26, 3) := by decide +kernel
theorem d_RC_isEvacuating_10 : decode c_RC_isEvacuating 10 = .ok (.aload_n 0, 1) := by decide +kernel
theorem d_RC_isEvacuating_11 : decode c_RC_isEvacuating 11 = .ok (.aload_n 0, 1) := by decide +kernel
theorem d_RC_isEvacuating_12 : decode c_RC_isEvacuating 12 = .ok (.getfield 32, 3) := by decide +kernel
theorem d_RC_isEvacuating_15 : decode c_RC_isEvacuating 15 = .ok (.invokevirtual 39, 3) := by decide +kernel
theorem d_RC_isEvacuating_18 : decode c_RC_isEvacuating 18 = .ok (.iconst 1, 1) := by decide +kernel
theorem d_RC_isEvacuating_19 : decode c_RC_isEvacuating 19 = .ok (.isub, 1) := by decide +kernel
theorem d_RC_isEvacuating_20 : decode c_RC_isEvacuating 20 = .ok (.invokevirtual 308, 3) := by decide +kernel
theorem d_RC_isEvacuating_23 : decode c_RC_isEvacuating 23 = .ok (.getfield 299, 3) := by decide +kernel
theorem d_RC_isEvacuating_26 : decode c_RC_isEvacuating 26 = .ok (.ifCond .le 7, 3) := by decide +kernel
theorem d_RC_isEvacuating_29 : decode c_RC_isEvacuating 29 = .ok (.iconst 1, 1) := by decide +kernel
theorem d_RC_isEvacuating_30 : decode c_RC_isEvacuating 30 = .ok (.goto 4, 3) := by decide +kernel
theorem d_RC_isEvacuating_33 : decode c_RC_isEvacuating 33 = .ok (.iconst 0, 1) := by decide +kernel
theorem d_RC_isEvacuating_34 : decode c_RC_isEvacuating 34 = .ok (.ireturn, 1) := by decide +kernel
theorem d_AL_isEmpty_0 : decode c_AL_isEmpty 0 = .ok (.aload_n 0, 1) := by decide +kernel
theorem d_AL_isEmpty_1 : decode c_AL_isEmpty 1 = .ok (.getfield 48, 3) := by decide +kernel
theorem d_AL_isEmpty_4 : decode c_AL_isEmpty 4 = .ok (.ifCond .ne 7, 3) := by decide +kernel
theorem d_AL_isEmpty_7 : decode c_AL_isEmpty 7 = .ok (.iconst 1, 1) := by decide +kernel
theorem d_AL_isEmpty_8 : decode c_AL_isEmpty 8 = .ok (.goto 4, 3) := by decide +kernel
theorem d_AL_isEmpty_11 : decode c_AL_isEmpty 11 = .ok (.iconst 0, 1) := by decide +kernel
theorem d_AL_isEmpty_12 : decode c_AL_isEmpty 12 = .ok (.ireturn, 1) := by decide +kernel
theorem d_RC_knownEvacuation_0 : decode c_RC_knownEvacuation 0 = .ok (.iload_n 1, 1) := by decide +kernel
theorem d_RC_knownEvacuation_1 : decode c_RC_knownEvacuation 1 = .ok (.ifCond .lt 14, 3) := by decide +kernel
theorem d_RC_knownEvacuation_4 : decode c_RC_knownEvacuation 4 = .ok (.iload_n 1, 1) := by decide +kernel
theorem d_RC_knownEvacuation_5 : decode c_RC_knownEvacuation 5 = .ok (.aload_n 0, 1) := by decide +kernel
theorem d_RC_knownEvacuation_6 : decode c_RC_knownEvacuation 6 = .ok (.getfield 32, 3) := by decide +kernel
theorem d_RC_knownEvacuation_9 : decode c_RC_knownEvacuation 9 = .ok (.invokevirtual 39, 3) := by decide +kernel
theorem d_RC_knownEvacuation_12 : decode c_RC_knownEvacuation 12 = .ok (.if_icmp .lt 14, 3) := by decide +kernel
theorem d_RC_knownEvacuation_15 : decode c_RC_knownEvacuation 15 = .ok (.new 100, 3) := by decide +kernel
theorem d_RC_knownEvacuation_18 : decode c_RC_knownEvacuation 18 = .ok (.dup, 1) := by decide +kernel
theorem d_RC_knownEvacuation_19 : decode c_RC_knownEvacuation 19 = .ok (.ldc_w 330, 3) := by decide +kernel
theorem d_RC_knownEvacuation_22 : decode c_RC_knownEvacuation 22 = .ok (.invokespecial 104, 3) := by decide +kernel
theorem d_RC_knownEvacuation_25 : decode c_RC_knownEvacuation 25 = .ok (.athrow, 1) := by decide +kernel
theorem d_RC_knownEvacuation_26 : decode c_RC_knownEvacuation 26 = .ok (.aload_n 0, 1) := by decide +kernel
theorem d_RC_knownEvacuation_27 : decode c_RC_knownEvacuation 27 = .ok (.getfield 32, 3) := by decide +kernel
theorem d_RC_knownEvacuation_30 : decode c_RC_knownEvacuation 30 = .ok (.iload_n 1, 1) := by decide +kernel
theorem d_RC_knownEvacuation_31 : decode c_RC_knownEvacuation 31 = .ok (.invokevirtual 89, 3) := by decide +kernel
theorem d_RC_knownEvacuation_34 : decode c_RC_knownEvacuation 34 = .ok (.checkcast 291, 3) := by decide +kernel
theorem d_RC_knownEvacuation_37 : decode c_RC_knownEvacuation 37 = .ok (.areturn, 1) := by decide +kernel
theorem d_EV_init_0 : decode c_EV_init 0 = .ok (.aload_n 0, 1) := by decide +kernel
theorem d_EV_init_1 : decode c_EV_init 1 = .ok (.invokespecial 3, 3) := by decide +kernel
theorem d_EV_init_4 : decode c_EV_init 4 = .ok (.aload_n 0, 1) := by decide +kernel
theorem d_EV_init_5 : decode c_EV_init 5 = .ok (.iload_n 1, 1) := by decide +kernel
theorem d_EV_init_6 : decode c_EV_init 6 = .ok (.putfield 9, 3) := by decide +kernel
theorem d_EV_init_9 : decode c_EV_init 9 = .ok (.aload_n 0, 1) := by decide +kernel
theorem d_EV_init_10 : decode c_EV_init 10 = .ok (.bipush 10, 2) := by decide +kernel
theorem d_EV_init_12 : decode c_EV_init 12 = .ok (.newarray .boolean, 2) := by decide +kernel
theorem d_EV_init_14 : decode c_EV_init 14 = .ok (.putfield 15, 3) := by decide +kernel
theorem d_EV_init_17 : decode c_EV_init 17 = .ok (.aload_n 0, 1) := by decide +kernel
theorem d_EV_init_18 : decode c_EV_init 18 = .ok (.bipush 10, 2) := by decide +kernel
theorem d_EV_init_20 : decode c_EV_init 20 = .ok (.newarray .boolean, 2) := by decide +kernel
theorem d_EV_init_22 : decode c_EV_init 22 = .ok (.putfield 19, 3) := by decide +kernel
theorem d_EV_init_25 : decode c_EV_init 25 = .ok (.return_, 1) := by decide +kernel
theorem d_RC_demandConfirmations_0 : decode c_RC_demandConfirmations 0 = .ok (.iconst 0, 1) := by decide +kernel
theorem d_RC_demandConfirmations_1 : decode c_RC_demandConfirmations 1 = .ok (.istore_n 2, 1) := by decide +kernel
theorem d_RC_demandConfirmations_2 : decode c_RC_demandConfirmations 2 = .ok (.iload_n 2, 1) := by decide +kernel
theorem d_RC_demandConfirmations_3 : decode c_RC_demandConfirmations 3 = .ok (.bipush 10, 2) := by decide +kernel
theorem d_RC_demandConfirmations_5 : decode c_RC_demandConfirmations 5 = .ok (.if_icmp .ge 43, 3) := by decide +kernel
theorem d_RC_demandConfirmations_8 : decode c_RC_demandConfirmations 8 = .ok (.aload_n 0, 1) := by decide +kernel
theorem d_RC_demandConfirmations_9 : decode c_RC_demandConfirmations 9 = .ok (.getfield 9, 3) := by decide +kernel
theorem d_RC_demandConfirmations_12 : decode c_RC_demandConfirmations 12 = .ok (.iload_n 2, 1) := by decide +kernel
theorem d_RC_demandConfirmations_13 : decode c_RC_demandConfirmations 13 = .ok (.iaload, 1) := by decide +kernel
theorem d_RC_demandConfirmations_14 : decode c_RC_demandConfirmations 14 = .ok (.ifCond .gt 11, 3) := by decide +kernel
theorem d_RC_demandConfirmations_17 : decode c_RC_demandConfirmations 17 = .ok (.aload_n 0, 1) := by decide +kernel
theorem d_RC_demandConfirmations_18 : decode c_RC_demandConfirmations 18 = .ok (.iload_n 2, 1) := by decide +kernel
theorem d_RC_demandConfirmations_19 : decode c_RC_demandConfirmations 19 = .ok (.invokevirtual 332, 3) := by decide +kernel
theorem d_RC_demandConfirmations_22 : decode c_RC_demandConfirmations 22 = .ok (.ifCond .eq 20, 3) := by decide +kernel
theorem d_RC_demandConfirmations_25 : decode c_RC_demandConfirmations 25 = .ok (.aload_n 1, 1) := by decide +kernel
theorem d_RC_demandConfirmations_26 : decode c_RC_demandConfirmations 26 = .ok (.getfield 312, 3) := by decide +kernel
theorem d_RC_demandConfirmations_29 : decode c_RC_demandConfirmations 29 = .ok (.iload_n 2, 1) := by decide +kernel
theorem d_RC_demandConfirmations_30 : decode c_RC_demandConfirmations 30 = .ok (.iconst 1, 1) := by decide +kernel
theorem d_RC_demandConfirmations_31 : decode c_RC_demandConfirmations 31 = .ok (.bastore, 1) := by decide +kernel
theorem d_RC_demandConfirmations_32 : decode c_RC_demandConfirmations 32 = .ok (.aload_n 1, 1) := by decide +kernel
theorem d_RC_demandConfirmations_33 : decode c_RC_demandConfirmations 33 = .ok (.dup, 1) := by decide +kernel
theorem d_RC_demandConfirmations_34 : decode c_RC_demandConfirmations 34 = .ok (.getfield 299, 3) := by decide +kernel
theorem d_RC_demandConfirmations_37 : decode c_RC_demandConfirmations 37 = .ok (.iconst 1, 1) := by decide +kernel
theorem d_RC_demandConfirmations_38 : decode c_RC_demandConfirmations 38 = .ok (.iadd, 1) := by decide +kernel
theorem d_RC_demandConfirmations_39 : decode c_RC_demandConfirmations 39 = .ok (.putfield 299, 3) := by decide +kernel
theorem d_RC_demandConfirmations_42 : decode c_RC_demandConfirmations 42 = .ok (.iinc 2 1, 3) := by decide +kernel
theorem d_RC_demandConfirmations_45 : decode c_RC_demandConfirmations 45 = .ok (.goto (-43), 3) := by decide +kernel
theorem d_RC_demandConfirmations_48 : decode c_RC_demandConfirmations 48 = .ok (.return_, 1) := by decide +kernel
theorem d_RC_isSomebodyIn_0 : decode c_RC_isSomebodyIn 0 = .ok (.iconst 0, 1) := by decide +kernel
theorem d_RC_isSomebodyIn_1 : decode c_RC_isSomebodyIn 1 = .ok (.istore_n 2, 1) := by decide +kernel
theorem d_RC_isSomebodyIn_2 : decode c_RC_isSomebodyIn 2 = .ok (.iload_n 2, 1) := by decide +kernel
theorem d_RC_isSomebodyIn_3 : decode c_RC_isSomebodyIn 3 = .ok (.aload_n 0, 1) := by decide +kernel
theorem d_RC_isSomebodyIn_4 : decode c_RC_isSomebodyIn 4 = .ok (.getfield 16, 3) := by decide +kernel
theorem d_RC_isSomebodyIn_7 : decode c_RC_isSomebodyIn 7 = .ok (.invokevirtual 39, 3) := by decide +kernel
theorem d_RC_isSomebodyIn_10 : decode c_RC_isSomebodyIn 10 = .ok (.if_icmp .ge 29, 3) := by decide +kernel
theorem d_RC_isSomebodyIn_13 : decode c_RC_isSomebodyIn 13 = .ok (.aload_n 0, 1) := by decide +kernel
theorem d_RC_isSomebodyIn_14 : decode c_RC_isSomebodyIn 14 = .ok (.getfield 16, 3) := by decide +kernel
theorem d_RC_isSomebodyIn_17 : decode c_RC_isSomebodyIn 17 = .ok (.iload_n 2, 1) := by decide +kernel
theorem d_RC_isSomebodyIn_18 : decode c_RC_isSomebodyIn 18 = .ok (.invokevirtual 89, 3) := by decide +kernel
theorem d_RC_isSomebodyIn_21 : decode c_RC_isSomebodyIn 21 = .ok (.checkcast 50, 3) := by decide +kernel
theorem d_RC_isSomebodyIn_24 : decode c_RC_isSomebodyIn 24 = .ok (.getfield 65, 3) := by decide +kernel
theorem d_RC_isSomebodyIn_27 : decode c_RC_isSomebodyIn 27 = .ok (.iload_n 1, 1) := by decide +kernel
theorem d_RC_isSomebodyIn_28 : decode c_RC_isSomebodyIn 28 = .ok (.if_icmp .ne 5, 3) := by decide +kernel
theorem d_RC_isSomebodyIn_31 : decode c_RC_isSomebodyIn 31 = .ok (.iconst 1, 1) := by decide +kernel
theorem d_RC_isSomebodyIn_32 : decode c_RC_isSomebodyIn 32 = .ok (.ireturn, 1) := by decide +kernel
theorem d_RC_isSomebodyIn_33 : decode c_RC_isSomebodyIn 33 = .ok (.iinc 2 1, 3) := by decide +kernel
theorem d_RC_isSomebodyIn_36 : decode c_RC_isSomebodyIn 36 = .ok (.goto (-34), 3) := by decide +kernel
theorem d_RC_isSomebodyIn_39 : decode c_RC_isSomebodyIn 39 = .ok (.iconst 0, 1) := by decide +kernel
theorem d_RC_isSomebodyIn_40 : decode c_RC_isSomebodyIn 40 = .ok (.ireturn, 1) := by decide +kernel
theorem d_LW_confirm_0 : decode c_LW_confirm 0 = .ok (.aload_n 2, 1) := by decide +kernel
theorem d_LW_confirm_1 : decode c_LW_confirm 1 = .ok (.iconst 0, 1) := by decide +kernel
theorem d_LW_confirm_2 : decode c_LW_confirm 2 = .ok (.aload_n 0, 1) := by decide +kernel
theorem d_LW_confirm_3 : decode c_LW_confirm 3 = .ok (.iload_n 1, 1) := by decide +kernel
theorem d_LW_confirm_4 : decode c_LW_confirm 4 = .ok (.invokevirtual 68, 3) := by decide +kernel
theorem d_LW_confirm_7 : decode c_LW_confirm 7 = .ok (.i2l, 1) := by decide +kernel
theorem d_LW_confirm_8 : decode c_LW_confirm 8 = .ok (.lastore, 1) := by decide +kernel
theorem d_LW_confirm_9 : decode c_LW_confirm 9 = .ok (.goto 9, 3) := by decide +kernel
theorem d_LW_confirm_12 : decode c_LW_confirm 12 = .ok (.astore_n 3, 1) := by decide +kernel
theorem d_LW_confirm_13 : decode c_LW_confirm 13 = .ok (.iconst 1, 1) := by decide +kernel
theorem d_LW_confirm_14 : decode c_LW_confirm 14 = .ok (.ireturn, 1) := by decide +kernel
theorem d_LW_confirm_15 : decode c_LW_confirm 15 = .ok (.astore_n 3, 1) := by decide +kernel
theorem d_LW_confirm_16 : decode c_LW_confirm 16 = .ok (.iconst 2, 1) := by decide +kernel
theorem d_LW_confirm_17 : decode c_LW_confirm 17 = .ok (.ireturn, 1) := by decide +kernel
theorem d_LW_confirm_18 : decode c_LW_confirm 18 = .ok (.iconst 0, 1) := by decide +kernel
theorem d_LW_confirm_19 : decode c_LW_confirm 19 = .ok (.ireturn, 1) := by decide +kernel
theorem d_RC_confirm_0 : decode c_RC_confirm 0 = .ok (.iload_n 1, 1) := by decide +kernel
theorem d_RC_confirm_1 : decode c_RC_confirm 1 = .ok (.invokestatic 61, 3) := by decide +kernel
theorem d_RC_confirm_4 : decode c_RC_confirm 4 = .ok (.aload_n 0, 1) := by decide +kernel
theorem d_RC_confirm_5 : decode c_RC_confirm 5 = .ok (.invokevirtual 286, 3) := by decide +kernel
theorem d_RC_confirm_8 : decode c_RC_confirm 8 = .ok (.ifCond .ne 14, 3) := by decide +kernel
theorem d_RC_confirm_11 : decode c_RC_confirm 11 = .ok (.new 68, 3) := by decide +kernel
theorem d_RC_confirm_14 : decode c_RC_confirm 14 = .ok (.dup, 1) := by decide +kernel
theorem d_RC_confirm_15 : decode c_RC_confirm 15 = .ok (.ldc_w 306, 3) := by decide +kernel
theorem d_RC_confirm_18 : decode c_RC_confirm 18 = .ok (.invokespecial 72, 3) := by decide +kernel
theorem d_RC_confirm_21 : decode c_RC_confirm 21 = .ok (.athrow, 1) := by decide +kernel
theorem d_RC_confirm_22 : decode c_RC_confirm 22 = .ok (.aload_n 0, 1) := by decide +kernel
theorem d_RC_confirm_23 : decode c_RC_confirm 23 = .ok (.aload_n 0, 1) := by decide +kernel
theorem d_RC_confirm_24 : decode c_RC_confirm 24 = .ok (.getfield 32, 3) := by decide +kernel
theorem d_RC_confirm_27 : decode c_RC_confirm 27 = .ok (.invokevirtual 39, 3) := by decide +kernel
theorem d_RC_confirm_30 : decode c_RC_confirm 30 = .ok (.iconst 1, 1) := by decide +kernel
theorem d_RC_confirm_31 : decode c_RC_confirm 31 = .ok (.isub, 1) := by decide +kernel
theorem d_RC_confirm_32 : decode c_RC_confirm 32 = .ok (.invokevirtual 308, 3) := by decide +kernel
theorem d_RC_confirm_35 : decode c_RC_confirm 35 = .ok (.astore_n 2, 1) := by decide +kernel
theorem d_RC_confirm_36 : decode c_RC_confirm 36 = .ok (.aload_n 2, 1) := by decide +kernel
theorem d_RC_confirm_37 : decode c_RC_confirm 37 = .ok (.getfield 312, 3) := by decide +kernel
theorem d_RC_confirm_40 : decode c_RC_confirm 40 = .ok (.iload_n 1, 1) := by decide +kernel
theorem d_RC_confirm_41 : decode c_RC_confirm 41 = .ok (.baload, 1) := by decide +kernel
theorem d_RC_confirm_42 : decode c_RC_confirm 42 = .ok (.ifCond .ne 14, 3) := by decide +kernel
theorem d_RC_confirm_45 : decode c_RC_confirm 45 = .ok (.new 68, 3) := by decide +kernel
theorem d_RC_confirm_48 : decode c_RC_confirm 48 = .ok (.dup, 1) := by decide +kernel
theorem d_RC_confirm_49 : decode c_RC_confirm 49 = .ok (.ldc_w 316, 3) := by decide +kernel
theorem d_RC_confirm_52 : decode c_RC_confirm 52 = .ok (.invokespecial 72, 3) := by decide +kernel
theorem d_RC_confirm_55 : decode c_RC_confirm 55 = .ok (.athrow, 1) := by decide +kernel
theorem d_RC_confirm_56 : decode c_RC_confirm 56 = .ok (.aload_n 2, 1) := by decide +kernel
theorem d_RC_confirm_57 : decode c_RC_confirm 57 = .ok (.getfield 312, 3) := by decide +kernel
theorem d_RC_confirm_60 : decode c_RC_confirm 60 = .ok (.iload_n 1, 1) := by decide +kernel
theorem d_RC_confirm_61 : decode c_RC_confirm 61 = .ok (.iconst 0, 1) := by decide +kernel
theorem d_RC_confirm_62 : decode c_RC_confirm 62 = .ok (.bastore, 1) := by decide +kernel
theorem d_RC_confirm_63 : decode c_RC_confirm 63 = .ok (.aload_n 2, 1) := by decide +kernel
theorem d_RC_confirm_64 : decode c_RC_confirm 64 = .ok (.dup, 1) := by decide +kernel
theorem d_RC_confirm_65 : decode c_RC_confirm 65 = .ok (.getfield 299, 3) := by decide +kernel
theorem d_RC_confirm_68 : decode c_RC_confirm 68 = .ok (.iconst 1, 1) := by decide +kernel
theorem d_RC_confirm_69 : decode c_RC_confirm 69 = .ok (.isub, 1) := by decide +kernel
theorem d_RC_confirm_70 : decode c_RC_confirm 70 = .ok (.putfield 299, 3) := by decide +kernel
theorem d_RC_confirm_73 : decode c_RC_confirm 73 = .ok (.aload_n 2, 1) := by decide +kernel
theorem d_RC_confirm_74 : decode c_RC_confirm 74 = .ok (.getfield 299, 3) := by decide +kernel
theorem d_RC_confirm_77 : decode c_RC_confirm 77 = .ok (.ireturn, 1) := by decide +kernel
theorem d_LW_late_0 : decode c_LW_late 0 = .ok (.aload_n 3, 1) := by decide +kernel
theorem d_LW_late_1 : decode c_LW_late 1 = .ok (.iconst 0, 1) := by decide +kernel
theorem d_LW_late_2 : decode c_LW_late 2 = .ok (.aload_n 0, 1) := by decide +kernel
theorem d_LW_late_3 : decode c_LW_late 3 = .ok (.iload_n 1, 1) := by decide +kernel
theorem d_LW_late_4 : decode c_LW_late 4 = .ok (.iload_n 2, 1) := by decide +kernel
theorem d_LW_late_5 : decode c_LW_late 5 = .ok (.invokevirtual 71, 3) := by decide +kernel
theorem d_LW_late_8 : decode c_LW_late 8 = .ok (.i2l, 1) := by decide +kernel
theorem d_LW_late_9 : decode c_LW_late 9 = .ok (.lastore, 1) := by decide +kernel
theorem d_LW_late_10 : decode c_LW_late 10 = .ok (.goto 11, 3) := by decide +kernel
theorem d_LW_late_13 : decode c_LW_late 13 = .ok (.astore 4, 2) := by decide +kernel
theorem d_LW_late_15 : decode c_LW_late 15 = .ok (.iconst 1, 1) := by decide +kernel
theorem d_LW_late_16 : decode c_LW_late 16 = .ok (.ireturn, 1) := by decide +kernel
theorem d_LW_late_17 : decode c_LW_late 17 = .ok (.astore 4, 2) := by decide +kernel
theorem d_LW_late_19 : decode c_LW_late 19 = .ok (.iconst 2, 1) := by decide +kernel
theorem d_LW_late_20 : decode c_LW_late 20 = .ok (.ireturn, 1) := by decide +kernel
theorem d_LW_late_21 : decode c_LW_late 21 = .ok (.iconst 0, 1) := by decide +kernel
theorem d_LW_late_22 : decode c_LW_late 22 = .ok (.ireturn, 1) := by decide +kernel
theorem d_RC_late_0 : decode c_RC_late 0 = .ok (.aload_n 0, 1) := by decide +kernel
theorem d_RC_late_1 : decode c_RC_late 1 = .ok (.iload_n 1, 1) := by decide +kernel
theorem d_RC_late_2 : decode c_RC_late 2 = .ok (.invokevirtual 308, 3) := by decide +kernel
theorem d_RC_late_5 : decode c_RC_late 5 = .ok (.astore_n 3, 1) := by decide +kernel
theorem d_RC_late_6 : decode c_RC_late 6 = .ok (.iload_n 2, 1) := by decide +kernel
theorem d_RC_late_7 : decode c_RC_late 7 = .ok (.ifCond .ge 13, 3) := by decide +kernel
theorem d_RC_late_10 : decode c_RC_late 10 = .ok (.new 82, 3) := by decide +kernel
theorem d_RC_late_13 : decode c_RC_late 13 = .ok (.dup, 1) := by decide +kernel
theorem d_RC_late_14 : decode c_RC_late 14 = .ok (.ldc 205, 2) := by decide +kernel
theorem d_RC_late_16 : decode c_RC_late 16 = .ok (.invokespecial 86, 3) := by decide +kernel
theorem d_RC_late_19 : decode c_RC_late 19 = .ok (.athrow, 1) := by decide +kernel
theorem d_RC_late_20 : decode c_RC_late 20 = .ok (.iconst 0, 1) := by decide +kernel
theorem d_RC_late_21 : decode c_RC_late 21 = .ok (.istore 4, 2) := by decide +kernel
theorem d_RC_late_23 : decode c_RC_late 23 = .ok (.iconst 0, 1) := by decide +kernel
theorem d_RC_late_24 : decode c_RC_late 24 = .ok (.istore 5, 2) := by decide +kernel
theorem d_RC_late_26 : decode c_RC_late 26 = .ok (.iload 5, 2) := by decide +kernel
theorem d_RC_late_28 : decode c_RC_late 28 = .ok (.bipush 10, 2) := by decide +kernel
theorem d_RC_late_30 : decode c_RC_late 30 = .ok (.if_icmp .ge 31, 3) := by decide +kernel
theorem d_RC_late_33 : decode c_RC_late 33 = .ok (.aload_n 3, 1) := by decide +kernel
theorem d_RC_late_34 : decode c_RC_late 34 = .ok (.getfield 318, 3) := by decide +kernel
theorem d_RC_late_37 : decode c_RC_late 37 = .ok (.iload 5, 2) := by decide +kernel
theorem d_RC_late_39 : decode c_RC_late 39 = .ok (.baload, 1) := by decide +kernel
theorem d_RC_late_40 : decode c_RC_late 40 = .ok (.ifCond .eq 15, 3) := by decide +kernel
theorem d_RC_late_43 : decode c_RC_late 43 = .ok (.iload 4, 2) := by decide +kernel
theorem d_RC_late_45 : decode c_RC_late 45 = .ok (.iload_n 2, 1) := by decide +kernel
theorem d_RC_late_46 : decode c_RC_late 46 = .ok (.if_icmp .ne 6, 3) := by decide +kernel
theorem d_RC_late_49 : decode c_RC_late 49 = .ok (.iload 5, 2) := by decide +kernel
theorem d_RC_late_51 : decode c_RC_late 51 = .ok (.ireturn, 1) := by decide +kernel
theorem d_RC_late_52 : decode c_RC_late 52 = .ok (.iinc 4 1, 3) := by decide +kernel
theorem d_RC_late_55 : decode c_RC_late 55 = .ok (.iinc 5 1, 3) := by decide +kernel
theorem d_RC_late_58 : decode c_RC_late 58 = .ok (.goto (-32), 3) := by decide +kernel
theorem d_RC_late_61 : decode c_RC_late 61 = .ok (.iconst (-1), 1) := by decide +kernel
theorem d_RC_late_62 : decode c_RC_late 62 = .ok (.ireturn, 1) := by decide +kernel
theorem d_LW_tick_0 : decode c_LW_tick 0 = .ok (.aload_n 2, 1) := by decide +kernel
theorem d_LW_tick_1 : decode c_LW_tick 1 = .ok (.iconst 0, 1) := by decide +kernel
theorem d_LW_tick_2 : decode c_LW_tick 2 = .ok (.aload_n 0, 1) := by decide +kernel
theorem d_LW_tick_3 : decode c_LW_tick 3 = .ok (.iload_n 1, 1) := by decide +kernel
theorem d_LW_tick_4 : decode c_LW_tick 4 = .ok (.invokevirtual 74, 3) := by decide +kernel
theorem d_LW_tick_7 : decode c_LW_tick 7 = .ok (.i2l, 1) := by decide +kernel
theorem d_LW_tick_8 : decode c_LW_tick 8 = .ok (.lastore, 1) := by decide +kernel
theorem d_LW_tick_9 : decode c_LW_tick 9 = .ok (.goto 6, 3) := by decide +kernel
theorem d_LW_tick_12 : decode c_LW_tick 12 = .ok (.astore_n 3, 1) := by decide +kernel
theorem d_LW_tick_13 : decode c_LW_tick 13 = .ok (.iconst 1, 1) := by decide +kernel
theorem d_LW_tick_14 : decode c_LW_tick 14 = .ok (.ireturn, 1) := by decide +kernel
theorem d_LW_tick_15 : decode c_LW_tick 15 = .ok (.iconst 0, 1) := by decide +kernel
theorem d_LW_tick_16 : decode c_LW_tick 16 = .ok (.ireturn, 1) := by decide +kernel
theorem d_RC_tick_0 : decode c_RC_tick 0 = .ok (.iload_n 1, 1) := by decide +kernel
theorem d_RC_tick_1 : decode c_RC_tick 1 = .ok (.iconst 1, 1) := by decide +kernel
theorem d_RC_tick_2 : decode c_RC_tick 2 = .ok (.if_icmp .lt 22, 3) := by decide +kernel
theorem d_RC_tick_5 : decode c_RC_tick 5 = .ok (.iload_n 1, 1) := by decide +kernel
theorem d_RC_tick_6 : decode c_RC_tick 6 = .ok (.sipush 5000, 3) := by decide +kernel
theorem d_RC_tick_9 : decode c_RC_tick 9 = .ok (.if_icmp .gt 15, 3) := by decide +kernel
theorem d_RC_tick_12 : decode c_RC_tick 12 = .ok (.iload_n 1, 1) := by decide +kernel
theorem d_RC_tick_13 : decode c_RC_tick 13 = .ok (.ldc_w 321, 3) := by decide +kernel
theorem d_RC_tick_16 : decode c_RC_tick 16 = .ok (.aload_n 0, 1) := by decide +kernel
theorem d_RC_tick_17 : decode c_RC_tick 17 = .ok (.getfield 35, 3) := by decide +kernel
theorem d_RC_tick_20 : decode c_RC_tick 20 = .ok (.isub, 1) := by decide +kernel
theorem d_RC_tick_21 : decode c_RC_tick 21 = .ok (.if_icmp .le 14, 3) := by decide +kernel
theorem d_RC_tick_24 : decode c_RC_tick 24 = .ok (.new 82, 3) := by decide +kernel
theorem d_RC_tick_27 : decode c_RC_tick 27 = .ok (.dup, 1) := by decide +kernel
theorem d_RC_tick_28 : decode c_RC_tick 28 = .ok (.ldc_w 322, 3) := by decide +kernel
theorem d_RC_tick_31 : decode c_RC_tick 31 = .ok (.invokespecial 86, 3) := by decide +kernel
theorem d_RC_tick_34 : decode c_RC_tick 34 = .ok (.athrow, 1) := by decide +kernel
theorem d_RC_tick_35 : decode c_RC_tick 35 = .ok (.aload_n 0, 1) := by decide +kernel
theorem d_RC_tick_36 : decode c_RC_tick 36 = .ok (.dup, 1) := by decide +kernel
theorem d_RC_tick_37 : decode c_RC_tick 37 = .ok (.getfield 35, 3) := by decide +kernel
theorem d_RC_tick_40 : decode c_RC_tick 40 = .ok (.iload_n 1, 1) := by decide +kernel
theorem d_RC_tick_41 : decode c_RC_tick 41 = .ok (.iadd, 1) := by decide +kernel
theorem d_RC_tick_42 : decode c_RC_tick 42 = .ok (.putfield 35, 3) := by decide +kernel
theorem d_RC_tick_45 : decode c_RC_tick 45 = .ok (.aload_n 0, 1) := by decide +kernel
theorem d_RC_tick_46 : decode c_RC_tick 46 = .ok (.invokevirtual 286, 3) := by decide +kernel
theorem d_RC_tick_49 : decode c_RC_tick 49 = .ok (.ifCond .ne 5, 3) := by decide +kernel
theorem d_RC_tick_52 : decode c_RC_tick 52 = .ok (.iconst 0, 1) := by decide +kernel
theorem d_RC_tick_53 : decode c_RC_tick 53 = .ok (.ireturn, 1) := by decide +kernel
theorem d_RC_tick_54 : decode c_RC_tick 54 = .ok (.aload_n 0, 1) := by decide +kernel
theorem d_RC_tick_55 : decode c_RC_tick 55 = .ok (.aload_n 0, 1) := by decide +kernel
theorem d_RC_tick_56 : decode c_RC_tick 56 = .ok (.getfield 32, 3) := by decide +kernel
theorem d_RC_tick_59 : decode c_RC_tick 59 = .ok (.invokevirtual 39, 3) := by decide +kernel
theorem d_RC_tick_62 : decode c_RC_tick 62 = .ok (.iconst 1, 1) := by decide +kernel
theorem d_RC_tick_63 : decode c_RC_tick 63 = .ok (.isub, 1) := by decide +kernel
theorem d_RC_tick_64 : decode c_RC_tick 64 = .ok (.invokevirtual 308, 3) := by decide +kernel
theorem d_RC_tick_67 : decode c_RC_tick 67 = .ok (.aload_n 0, 1) := by decide +kernel
theorem d_RC_tick_68 : decode c_RC_tick 68 = .ok (.getfield 35, 3) := by decide +kernel
theorem d_RC_tick_71 : decode c_RC_tick 71 = .ok (.invokevirtual 324, 3) := by decide +kernel
theorem d_RC_tick_74 : decode c_RC_tick 74 = .ok (.ireturn, 1) := by decide +kernel
theorem d_EV_tellLate_0 : decode c_EV_tellLate 0 = .ok (.aload_n 0, 1) := by decide +kernel
theorem d_EV_tellLate_1 : decode c_EV_tellLate 1 = .ok (.getfield 22, 3) := by decide +kernel
theorem d_EV_tellLate_4 : decode c_EV_tellLate 4 = .ok (.ifCond .ne 11, 3) := by decide +kernel
theorem d_EV_tellLate_7 : decode c_EV_tellLate 7 = .ok (.iload_n 1, 1) := by decide +kernel
theorem d_EV_tellLate_8 : decode c_EV_tellLate 8 = .ok (.aload_n 0, 1) := by decide +kernel
theorem d_EV_tellLate_9 : decode c_EV_tellLate 9 = .ok (.getfield 9, 3) := by decide +kernel
theorem d_EV_tellLate_12 : decode c_EV_tellLate 12 = .ok (.if_icmp .gt 5, 3) := by decide +kernel
theorem d_EV_tellLate_15 : decode c_EV_tellLate 15 = .ok (.iconst 0, 1) := by decide +kernel
theorem d_EV_tellLate_16 : decode c_EV_tellLate 16 = .ok (.ireturn, 1) := by decide +kernel
theorem d_EV_tellLate_17 : decode c_EV_tellLate 17 = .ok (.aload_n 0, 1) := by decide +kernel
theorem d_EV_tellLate_18 : decode c_EV_tellLate 18 = .ok (.iconst 1, 1) := by decide +kernel
theorem d_EV_tellLate_19 : decode c_EV_tellLate 19 = .ok (.putfield 22, 3) := by decide +kernel
theorem d_EV_tellLate_22 : decode c_EV_tellLate 22 = .ok (.iconst 0, 1) := by decide +kernel
theorem d_EV_tellLate_23 : decode c_EV_tellLate 23 = .ok (.istore_n 2, 1) := by decide +kernel
theorem d_EV_tellLate_24 : decode c_EV_tellLate 24 = .ok (.iload_n 2, 1) := by decide +kernel
theorem d_EV_tellLate_25 : decode c_EV_tellLate 25 = .ok (.bipush 10, 2) := by decide +kernel
theorem d_EV_tellLate_27 : decode c_EV_tellLate 27 = .ok (.if_icmp .ge 21, 3) := by decide +kernel
theorem d_EV_tellLate_30 : decode c_EV_tellLate 30 = .ok (.aload_n 0, 1) := by decide +kernel
theorem d_EV_tellLate_31 : decode c_EV_tellLate 31 = .ok (.getfield 19, 3) := by decide +kernel
theorem d_EV_tellLate_34 : decode c_EV_tellLate 34 = .ok (.iload_n 2, 1) := by decide +kernel
theorem d_EV_tellLate_35 : decode c_EV_tellLate 35 = .ok (.aload_n 0, 1) := by decide +kernel
theorem d_EV_tellLate_36 : decode c_EV_tellLate 36 = .ok (.getfield 15, 3) := by decide +kernel
theorem d_EV_tellLate_39 : decode c_EV_tellLate 39 = .ok (.iload_n 2, 1) := by decide +kernel
theorem d_EV_tellLate_40 : decode c_EV_tellLate 40 = .ok (.baload, 1) := by decide +kernel
theorem d_EV_tellLate_41 : decode c_EV_tellLate 41 = .ok (.bastore, 1) := by decide +kernel
theorem d_EV_tellLate_42 : decode c_EV_tellLate 42 = .ok (.iinc 2 1, 3) := by decide +kernel
theorem d_EV_tellLate_45 : decode c_EV_tellLate 45 = .ok (.goto (-21), 3) := by decide +kernel
theorem d_EV_tellLate_48 : decode c_EV_tellLate 48 = .ok (.aload_n 0, 1) := by decide +kernel
theorem d_EV_tellLate_49 : decode c_EV_tellLate 49 = .ok (.getfield 26, 3) := by decide +kernel
theorem d_EV_tellLate_52 : decode c_EV_tellLate 52 = .ok (.ireturn, 1) := by decide +kernel
theorem d_LW_was_0 : decode c_LW_was 0 = .ok (.aload_n 3, 1) := by decide +kernel
theorem d_LW_was_1 : decode c_LW_was 1 = .ok (.iconst 0, 1) := by decide +kernel
theorem d_LW_was_2 : decode c_LW_was 2 = .ok (.aload_n 0, 1) := by decide +kernel
theorem d_LW_was_3 : decode c_LW_was 3 = .ok (.iload_n 1, 1) := by decide +kernel
theorem d_LW_was_4 : decode c_LW_was 4 = .ok (.iload_n 2, 1) := by decide +kernel
theorem d_LW_was_5 : decode c_LW_was 5 = .ok (.invokevirtual 77, 3) := by decide +kernel
theorem d_LW_was_8 : decode c_LW_was 8 = .ok (.i2l, 1) := by decide +kernel
theorem d_LW_was_9 : decode c_LW_was 9 = .ok (.lastore, 1) := by decide +kernel
theorem d_LW_was_10 : decode c_LW_was 10 = .ok (.goto 11, 3) := by decide +kernel
theorem d_LW_was_13 : decode c_LW_was 13 = .ok (.astore 4, 2) := by decide +kernel
theorem d_LW_was_15 : decode c_LW_was 15 = .ok (.iconst 1, 1) := by decide +kernel
theorem d_LW_was_16 : decode c_LW_was 16 = .ok (.ireturn, 1) := by decide +kernel
theorem d_LW_was_17 : decode c_LW_was 17 = .ok (.astore 4, 2) := by decide +kernel
theorem d_LW_was_19 : decode c_LW_was 19 = .ok (.iconst 2, 1) := by decide +kernel
theorem d_LW_was_20 : decode c_LW_was 20 = .ok (.ireturn, 1) := by decide +kernel
theorem d_LW_was_21 : decode c_LW_was 21 = .ok (.iconst 0, 1) := by decide +kernel
theorem d_LW_was_22 : decode c_LW_was 22 = .ok (.ireturn, 1) := by decide +kernel
theorem d_RC_was_0 : decode c_RC_was 0 = .ok (.aload_n 0, 1) := by decide +kernel
theorem d_RC_was_1 : decode c_RC_was 1 = .ok (.iload_n 1, 1) := by decide +kernel
theorem d_RC_was_2 : decode c_RC_was 2 = .ok (.invokevirtual 57, 3) := by decide +kernel
theorem d_RC_was_5 : decode c_RC_was 5 = .ok (.pop, 1) := by decide +kernel
theorem d_RC_was_6 : decode c_RC_was 6 = .ok (.iload_n 2, 1) := by decide +kernel
theorem d_RC_was_7 : decode c_RC_was 7 = .ok (.ifCond .lt 11, 3) := by decide +kernel
theorem d_RC_was_10 : decode c_RC_was 10 = .ok (.iload_n 2, 1) := by decide +kernel
theorem d_RC_was_11 : decode c_RC_was 11 = .ok (.aload_n 0, 1) := by decide +kernel
theorem d_RC_was_12 : decode c_RC_was 12 = .ok (.getfield 35, 3) := by decide +kernel
theorem d_RC_was_15 : decode c_RC_was 15 = .ok (.if_icmp .le 13, 3) := by decide +kernel
theorem d_RC_was_18 : decode c_RC_was 18 = .ok (.new 82, 3) := by decide +kernel
theorem d_RC_was_21 : decode c_RC_was 21 = .ok (.dup, 1) := by decide +kernel
theorem d_RC_was_22 : decode c_RC_was 22 = .ok (.ldc 87, 2) := by decide +kernel
theorem d_RC_was_24 : decode c_RC_was 24 = .ok (.invokespecial 86, 3) := by decide +kernel
theorem d_RC_was_27 : decode c_RC_was 27 = .ok (.athrow, 1) := by decide +kernel
theorem d_RC_was_28 : decode c_RC_was 28 = .ok (.aload_n 0, 1) := by decide +kernel
theorem d_RC_was_29 : decode c_RC_was 29 = .ok (.getfield 20, 3) := by decide +kernel
theorem d_RC_was_32 : decode c_RC_was 32 = .ok (.invokevirtual 39, 3) := by decide +kernel
theorem d_RC_was_35 : decode c_RC_was 35 = .ok (.iconst 1, 1) := by decide +kernel
theorem d_RC_was_36 : decode c_RC_was 36 = .ok (.isub, 1) := by decide +kernel
theorem d_RC_was_37 : decode c_RC_was 37 = .ok (.istore_n 3, 1) := by decide +kernel
theorem d_RC_was_38 : decode c_RC_was 38 = .ok (.iload_n 3, 1) := by decide +kernel
theorem d_RC_was_39 : decode c_RC_was 39 = .ok (.ifCond .lt 46, 3) := by decide +kernel
theorem d_RC_was_42 : decode c_RC_was 42 = .ok (.aload_n 0, 1) := by decide +kernel
theorem d_RC_was_43 : decode c_RC_was 43 = .ok (.getfield 20, 3) := by decide +kernel
theorem d_RC_was_46 : decode c_RC_was 46 = .ok (.iload_n 3, 1) := by decide +kernel
theorem d_RC_was_47 : decode c_RC_was 47 = .ok (.invokevirtual 89, 3) := by decide +kernel
theorem d_RC_was_50 : decode c_RC_was 50 = .ok (.checkcast 93, 3) := by decide +kernel
theorem d_RC_was_53 : decode c_RC_was 53 = .ok (.astore 4, 2) := by decide +kernel
theorem d_RC_was_55 : decode c_RC_was 55 = .ok (.aload 4, 2) := by decide +kernel
theorem d_RC_was_57 : decode c_RC_was 57 = .ok (.getfield 95, 3) := by decide +kernel
theorem d_RC_was_60 : decode c_RC_was 60 = .ok (.iload_n 1, 1) := by decide +kernel
theorem d_RC_was_61 : decode c_RC_was 61 = .ok (.if_icmp .ne 18, 3) := by decide +kernel
theorem d_RC_was_64 : decode c_RC_was 64 = .ok (.aload 4, 2) := by decide +kernel
theorem d_RC_was_66 : decode c_RC_was 66 = .ok (.getfield 98, 3) := by decide +kernel
theorem d_RC_was_69 : decode c_RC_was 69 = .ok (.iload_n 2, 1) := by decide +kernel
theorem d_RC_was_70 : decode c_RC_was 70 = .ok (.if_icmp .gt 9, 3) := by decide +kernel
theorem d_RC_was_73 : decode c_RC_was 73 = .ok (.aload 4, 2) := by decide +kernel
theorem d_RC_was_75 : decode c_RC_was 75 = .ok (.getfield 99, 3) := by decide +kernel
theorem d_RC_was_78 : decode c_RC_was 78 = .ok (.ireturn, 1) := by decide +kernel
theorem d_RC_was_79 : decode c_RC_was 79 = .ok (.iinc 3 (-1), 3) := by decide +kernel
theorem d_RC_was_82 : decode c_RC_was 82 = .ok (.goto (-44), 3) := by decide +kernel
theorem d_RC_was_85 : decode c_RC_was 85 = .ok (.iconst (-1), 1) := by decide +kernel
theorem d_RC_was_86 : decode c_RC_was 86 = .ok (.ireturn, 1) := by decide +kernel
theorem d_LW_count_0 : decode c_LW_count 0 = .ok (.aload_n 2, 1) := by decide +kernel
theorem d_LW_count_1 : decode c_LW_count 1 = .ok (.iconst 0, 1) := by decide +kernel
theorem d_LW_count_2 : decode c_LW_count 2 = .ok (.aload_n 0, 1) := by decide +kernel
theorem d_LW_count_3 : decode c_LW_count 3 = .ok (.iload_n 1, 1) := by decide +kernel
theorem d_LW_count_4 : decode c_LW_count 4 = .ok (.invokevirtual 80, 3) := by decide +kernel
theorem d_LW_count_7 : decode c_LW_count 7 = .ok (.i2l, 1) := by decide +kernel
theorem d_LW_count_8 : decode c_LW_count 8 = .ok (.lastore, 1) := by decide +kernel
theorem d_LW_count_9 : decode c_LW_count 9 = .ok (.goto 6, 3) := by decide +kernel
theorem d_LW_count_12 : decode c_LW_count 12 = .ok (.astore_n 3, 1) := by decide +kernel
theorem d_LW_count_13 : decode c_LW_count 13 = .ok (.iconst 1, 1) := by decide +kernel
theorem d_LW_count_14 : decode c_LW_count 14 = .ok (.ireturn, 1) := by decide +kernel
theorem d_LW_count_15 : decode c_LW_count 15 = .ok (.iconst 0, 1) := by decide +kernel
theorem d_LW_count_16 : decode c_LW_count 16 = .ok (.ireturn, 1) := by decide +kernel
theorem d_RC_count_0 : decode c_RC_count 0 = .ok (.iload_n 1, 1) := by decide +kernel
theorem d_RC_count_1 : decode c_RC_count 1 = .ok (.tableswitch 75 0 5 #[39, 44, 49, 54, 59, 67], 39) := by decide +kernel
theorem d_RC_count_40 : decode c_RC_count 40 = .ok (.aload_n 0, 1) := by decide +kernel
theorem d_RC_count_41 : decode c_RC_count 41 = .ok (.getfield 35, 3) := by decide +kernel
theorem d_RC_count_44 : decode c_RC_count 44 = .ok (.ireturn, 1) := by decide +kernel
theorem d_RC_count_45 : decode c_RC_count 45 = .ok (.aload_n 0, 1) := by decide +kernel
theorem d_RC_count_46 : decode c_RC_count 46 = .ok (.invokevirtual 335, 3) := by decide +kernel
theorem d_RC_count_49 : decode c_RC_count 49 = .ok (.ireturn, 1) := by decide +kernel
theorem d_RC_count_50 : decode c_RC_count 50 = .ok (.aload_n 0, 1) := by decide +kernel
theorem d_RC_count_51 : decode c_RC_count 51 = .ok (.invokevirtual 338, 3) := by decide +kernel
theorem d_RC_count_54 : decode c_RC_count 54 = .ok (.ireturn, 1) := by decide +kernel
theorem d_RC_count_55 : decode c_RC_count 55 = .ok (.aload_n 0, 1) := by decide +kernel
theorem d_RC_count_56 : decode c_RC_count 56 = .ok (.invokevirtual 116, 3) := by decide +kernel
theorem d_RC_count_59 : decode c_RC_count 59 = .ok (.ireturn, 1) := by decide +kernel
theorem d_RC_count_60 : decode c_RC_count 60 = .ok (.aload_n 0, 1) := by decide +kernel
theorem d_RC_count_61 : decode c_RC_count 61 = .ok (.getfield 26, 3) := by decide +kernel
theorem d_RC_count_64 : decode c_RC_count 64 = .ok (.invokevirtual 39, 3) := by decide +kernel
theorem d_RC_count_67 : decode c_RC_count 67 = .ok (.ireturn, 1) := by decide +kernel
theorem d_RC_count_68 : decode c_RC_count 68 = .ok (.aload_n 0, 1) := by decide +kernel
theorem d_RC_count_69 : decode c_RC_count 69 = .ok (.getfield 20, 3) := by decide +kernel
theorem d_RC_count_72 : decode c_RC_count 72 = .ok (.invokevirtual 39, 3) := by decide +kernel
theorem d_RC_count_75 : decode c_RC_count 75 = .ok (.ireturn, 1) := by decide +kernel
theorem d_RC_count_76 : decode c_RC_count 76 = .ok (.new 100, 3) := by decide +kernel
theorem d_RC_count_79 : decode c_RC_count 79 = .ok (.dup, 1) := by decide +kernel
theorem d_RC_count_80 : decode c_RC_count 80 = .ok (.ldc 203, 2) := by decide +kernel
theorem d_RC_count_82 : decode c_RC_count 82 = .ok (.invokespecial 104, 3) := by decide +kernel
theorem d_RC_count_85 : decode c_RC_count 85 = .ok (.athrow, 1) := by decide +kernel
theorem d_RC_personsInside_0 : decode c_RC_personsInside 0 = .ok (.iconst 0, 1) := by decide +kernel
theorem d_RC_personsInside_1 : decode c_RC_personsInside 1 = .ok (.istore_n 1, 1) := by decide +kernel
theorem d_RC_personsInside_2 : decode c_RC_personsInside 2 = .ok (.iconst 0, 1) := by decide +kernel
theorem d_RC_personsInside_3 : decode c_RC_personsInside 3 = .ok (.istore_n 2, 1) := by decide +kernel
theorem d_RC_personsInside_4 : decode c_RC_personsInside 4 = .ok (.iload_n 2, 1) := by decide +kernel
theorem d_RC_personsInside_5 : decode c_RC_personsInside 5 = .ok (.aload_n 0, 1) := by decide +kernel
theorem d_RC_personsInside_6 : decode c_RC_personsInside 6 = .ok (.getfield 16, 3) := by decide +kernel
theorem d_RC_personsInside_9 : decode c_RC_personsInside 9 = .ok (.invokevirtual 39, 3) := by decide +kernel
theorem d_RC_personsInside_12 : decode c_RC_personsInside 12 = .ok (.if_icmp .ge 30, 3) := by decide +kernel
theorem d_RC_personsInside_15 : decode c_RC_personsInside 15 = .ok (.aload_n 0, 1) := by decide +kernel
theorem d_RC_personsInside_16 : decode c_RC_personsInside 16 = .ok (.getfield 16, 3) := by decide +kernel
theorem d_RC_personsInside_19 : decode c_RC_personsInside 19 = .ok (.iload_n 2, 1) := by decide +kernel
theorem d_RC_personsInside_20 : decode c_RC_personsInside 20 = .ok (.invokevirtual 89, 3) := by decide +kernel
theorem d_RC_personsInside_23 : decode c_RC_personsInside 23 = .ok (.checkcast 50, 3) := by decide +kernel
theorem d_RC_personsInside_26 : decode c_RC_personsInside 26 = .ok (.getfield 65, 3) := by decide +kernel
theorem d_RC_personsInside_29 : decode c_RC_personsInside 29 = .ok (.iconst (-1), 1) := by decide +kernel
theorem d_RC_personsInside_30 : decode c_RC_personsInside 30 = .ok (.if_icmp .eq 6, 3) := by decide +kernel
theorem d_RC_personsInside_33 : decode c_RC_personsInside 33 = .ok (.iinc 1 1, 3) := by decide +kernel
theorem d_RC_personsInside_36 : decode c_RC_personsInside 36 = .ok (.iinc 2 1, 3) := by decide +kernel
theorem d_RC_personsInside_39 : decode c_RC_personsInside 39 = .ok (.goto (-35), 3) := by decide +kernel
theorem d_RC_personsInside_42 : decode c_RC_personsInside 42 = .ok (.iload_n 1, 1) := by decide +kernel
theorem d_RC_personsInside_43 : decode c_RC_personsInside 43 = .ok (.ireturn, 1) := by decide +kernel
theorem d_RC_rollsOn_0 : decode c_RC_rollsOn 0 = .ok (.iconst 0, 1) := by decide +kernel
theorem d_RC_rollsOn_1 : decode c_RC_rollsOn 1 = .ok (.istore_n 1, 1) := by decide +kernel
theorem d_RC_rollsOn_2 : decode c_RC_rollsOn 2 = .ok (.iconst 0, 1) := by decide +kernel
theorem d_RC_rollsOn_3 : decode c_RC_rollsOn 3 = .ok (.istore_n 2, 1) := by decide +kernel
theorem d_RC_rollsOn_4 : decode c_RC_rollsOn 4 = .ok (.iload_n 2, 1) := by decide +kernel
theorem d_RC_rollsOn_5 : decode c_RC_rollsOn 5 = .ok (.aload_n 0, 1) := by decide +kernel
theorem d_RC_rollsOn_6 : decode c_RC_rollsOn 6 = .ok (.getfield 23, 3) := by decide +kernel
theorem d_RC_rollsOn_9 : decode c_RC_rollsOn 9 = .ok (.invokevirtual 39, 3) := by decide +kernel
theorem d_RC_rollsOn_12 : decode c_RC_rollsOn 12 = .ok (.if_icmp .ge 29, 3) := by decide +kernel
theorem d_RC_rollsOn_15 : decode c_RC_rollsOn 15 = .ok (.aload_n 0, 1) := by decide +kernel
theorem d_RC_rollsOn_16 : decode c_RC_rollsOn 16 = .ok (.getfield 23, 3) := by decide +kernel
theorem d_RC_rollsOn_19 : decode c_RC_rollsOn 19 = .ok (.iload_n 2, 1) := by decide +kernel
theorem d_RC_rollsOn_20 : decode c_RC_rollsOn 20 = .ok (.invokevirtual 89, 3) := by decide +kernel
theorem d_RC_rollsOn_23 : decode c_RC_rollsOn 23 = .ok (.checkcast 123, 3) := by decide +kernel
theorem d_RC_rollsOn_26 : decode c_RC_rollsOn 26 = .ok (.invokevirtual 187, 3) := by decide +kernel
theorem d_RC_rollsOn_29 : decode c_RC_rollsOn 29 = .ok (.ifCond .ne 6, 3) := by decide +kernel
theorem d_RC_rollsOn_32 : decode c_RC_rollsOn 32 = .ok (.iinc 1 1, 3) := by decide +kernel
theorem d_RC_rollsOn_35 : decode c_RC_rollsOn 35 = .ok (.iinc 2 1, 3) := by decide +kernel
theorem d_RC_rollsOn_38 : decode c_RC_rollsOn 38 = .ok (.goto (-34), 3) := by decide +kernel
theorem d_RC_rollsOn_41 : decode c_RC_rollsOn 41 = .ok (.iload_n 1, 1) := by decide +kernel
theorem d_RC_rollsOn_42 : decode c_RC_rollsOn 42 = .ok (.ireturn, 1) := by decide +kernel
theorem d_MM_init_0 : decode c_MM_init 0 = .ok (.aload_n 0, 1) := by decide +kernel
theorem d_MM_init_1 : decode c_MM_init 1 = .ok (.invokespecial 1, 3) := by decide +kernel
theorem d_MM_init_4 : decode c_MM_init 4 = .ok (.aload_n 0, 1) := by decide +kernel
theorem d_MM_init_5 : decode c_MM_init 5 = .ok (.bipush 10, 2) := by decide +kernel
theorem d_MM_init_7 : decode c_MM_init 7 = .ok (.newarray .int, 2) := by decide +kernel
theorem d_MM_init_9 : decode c_MM_init 9 = .ok (.putfield 7, 3) := by decide +kernel
theorem d_MM_init_12 : decode c_MM_init 12 = .ok (.aload_n 0, 1) := by decide +kernel
theorem d_MM_init_13 : decode c_MM_init 13 = .ok (.sipush 300, 3) := by decide +kernel
theorem d_MM_init_16 : decode c_MM_init 16 = .ok (.newarray .int, 2) := by decide +kernel
theorem d_MM_init_18 : decode c_MM_init 18 = .ok (.putfield 13, 3) := by decide +kernel
theorem d_MM_init_21 : decode c_MM_init 21 = .ok (.aload_n 0, 1) := by decide +kernel
theorem d_MM_init_22 : decode c_MM_init 22 = .ok (.sipush 300, 3) := by decide +kernel
theorem d_MM_init_25 : decode c_MM_init 25 = .ok (.newarray .int, 2) := by decide +kernel
theorem d_MM_init_27 : decode c_MM_init 27 = .ok (.putfield 16, 3) := by decide +kernel
theorem d_MM_init_30 : decode c_MM_init 30 = .ok (.aload_n 0, 1) := by decide +kernel
theorem d_MM_init_31 : decode c_MM_init 31 = .ok (.sipush 300, 3) := by decide +kernel
theorem d_MM_init_34 : decode c_MM_init 34 = .ok (.newarray .int, 2) := by decide +kernel
theorem d_MM_init_36 : decode c_MM_init 36 = .ok (.putfield 19, 3) := by decide +kernel
theorem d_MM_init_39 : decode c_MM_init 39 = .ok (.aload_n 0, 1) := by decide +kernel
theorem d_MM_init_40 : decode c_MM_init 40 = .ok (.bipush 40, 2) := by decide +kernel
theorem d_MM_init_42 : decode c_MM_init 42 = .ok (.newarray .int, 2) := by decide +kernel
theorem d_MM_init_44 : decode c_MM_init 44 = .ok (.putfield 22, 3) := by decide +kernel
theorem d_MM_init_47 : decode c_MM_init 47 = .ok (.aload_n 0, 1) := by decide +kernel
theorem d_MM_init_48 : decode c_MM_init 48 = .ok (.bipush 40, 2) := by decide +kernel
theorem d_MM_init_50 : decode c_MM_init 50 = .ok (.newarray .int, 2) := by decide +kernel
theorem d_MM_init_52 : decode c_MM_init 52 = .ok (.putfield 25, 3) := by decide +kernel
theorem d_MM_init_55 : decode c_MM_init 55 = .ok (.aload_n 0, 1) := by decide +kernel
theorem d_MM_init_56 : decode c_MM_init 56 = .ok (.bipush 40, 2) := by decide +kernel
theorem d_MM_init_58 : decode c_MM_init 58 = .ok (.newarray .int, 2) := by decide +kernel
theorem d_MM_init_60 : decode c_MM_init 60 = .ok (.putfield 28, 3) := by decide +kernel
theorem d_MM_init_63 : decode c_MM_init 63 = .ok (.aload_n 0, 1) := by decide +kernel
theorem d_MM_init_64 : decode c_MM_init 64 = .ok (.bipush 40, 2) := by decide +kernel
theorem d_MM_init_66 : decode c_MM_init 66 = .ok (.newarray .int, 2) := by decide +kernel
theorem d_MM_init_68 : decode c_MM_init 68 = .ok (.putfield 31, 3) := by decide +kernel
theorem d_MM_init_71 : decode c_MM_init 71 = .ok (.aload_n 0, 1) := by decide +kernel
theorem d_MM_init_72 : decode c_MM_init 72 = .ok (.bipush 40, 2) := by decide +kernel
theorem d_MM_init_74 : decode c_MM_init 74 = .ok (.newarray .int, 2) := by decide +kernel
theorem d_MM_init_76 : decode c_MM_init 76 = .ok (.putfield 34, 3) := by decide +kernel
theorem d_MM_init_79 : decode c_MM_init 79 = .ok (.aload_n 0, 1) := by decide +kernel
theorem d_MM_init_80 : decode c_MM_init 80 = .ok (.bipush 40, 2) := by decide +kernel
theorem d_MM_init_82 : decode c_MM_init 82 = .ok (.newarray .int, 2) := by decide +kernel
theorem d_MM_init_84 : decode c_MM_init 84 = .ok (.putfield 37, 3) := by decide +kernel
theorem d_MM_init_87 : decode c_MM_init 87 = .ok (.aload_n 0, 1) := by decide +kernel
theorem d_MM_init_88 : decode c_MM_init 88 = .ok (.sipush 2400, 3) := by decide +kernel
theorem d_MM_init_91 : decode c_MM_init 91 = .ok (.newarray .boolean, 2) := by decide +kernel
theorem d_MM_init_93 : decode c_MM_init 93 = .ok (.putfield 40, 3) := by decide +kernel
theorem d_MM_init_96 : decode c_MM_init 96 = .ok (.aload_n 0, 1) := by decide +kernel
theorem d_MM_init_97 : decode c_MM_init 97 = .ok (.sipush 2400, 3) := by decide +kernel
theorem d_MM_init_100 : decode c_MM_init 100 = .ok (.newarray .int, 2) := by decide +kernel
theorem d_MM_init_102 : decode c_MM_init 102 = .ok (.putfield 44, 3) := by decide +kernel
theorem d_MM_init_105 : decode c_MM_init 105 = .ok (.aload_n 0, 1) := by decide +kernel
theorem d_MM_init_106 : decode c_MM_init 106 = .ok (.sipush 2400, 3) := by decide +kernel
theorem d_MM_init_109 : decode c_MM_init 109 = .ok (.newarray .boolean, 2) := by decide +kernel
theorem d_MM_init_111 : decode c_MM_init 111 = .ok (.putfield 47, 3) := by decide +kernel
theorem d_MM_init_114 : decode c_MM_init 114 = .ok (.aload_n 0, 1) := by decide +kernel
theorem d_MM_init_115 : decode c_MM_init 115 = .ok (.sipush 400, 3) := by decide +kernel
theorem d_MM_init_118 : decode c_MM_init 118 = .ok (.newarray .int, 2) := by decide +kernel
theorem d_MM_init_120 : decode c_MM_init 120 = .ok (.putfield 50, 3) := by decide +kernel
theorem d_MM_init_123 : decode c_MM_init 123 = .ok (.aload_n 0, 1) := by decide +kernel
theorem d_MM_init_124 : decode c_MM_init 124 = .ok (.bipush 30, 2) := by decide +kernel
theorem d_MM_init_126 : decode c_MM_init 126 = .ok (.newarray .boolean, 2) := by decide +kernel
theorem d_MM_init_128 : decode c_MM_init 128 = .ok (.putfield 53, 3) := by decide +kernel
theorem d_MM_init_131 : decode c_MM_init 131 = .ok (.aload_n 0, 1) := by decide +kernel
theorem d_MM_init_132 : decode c_MM_init 132 = .ok (.bipush 30, 2) := by decide +kernel
theorem d_MM_init_134 : decode c_MM_init 134 = .ok (.newarray .int, 2) := by decide +kernel
theorem d_MM_init_136 : decode c_MM_init 136 = .ok (.putfield 56, 3) := by decide +kernel
theorem d_MM_init_139 : decode c_MM_init 139 = .ok (.aload_n 0, 1) := by decide +kernel
theorem d_MM_init_140 : decode c_MM_init 140 = .ok (.bipush 30, 2) := by decide +kernel
theorem d_MM_init_142 : decode c_MM_init 142 = .ok (.newarray .int, 2) := by decide +kernel
theorem d_MM_init_144 : decode c_MM_init 144 = .ok (.putfield 59, 3) := by decide +kernel
theorem d_MM_init_147 : decode c_MM_init 147 = .ok (.aload_n 0, 1) := by decide +kernel
theorem d_MM_init_148 : decode c_MM_init 148 = .ok (.bipush 30, 2) := by decide +kernel
theorem d_MM_init_150 : decode c_MM_init 150 = .ok (.newarray .int, 2) := by decide +kernel
theorem d_MM_init_152 : decode c_MM_init 152 = .ok (.putfield 62, 3) := by decide +kernel
theorem d_MM_init_155 : decode c_MM_init 155 = .ok (.aload_n 0, 1) := by decide +kernel
theorem d_MM_init_156 : decode c_MM_init 156 = .ok (.bipush 30, 2) := by decide +kernel
theorem d_MM_init_158 : decode c_MM_init 158 = .ok (.newarray .int, 2) := by decide +kernel
theorem d_MM_init_160 : decode c_MM_init 160 = .ok (.putfield 65, 3) := by decide +kernel
theorem d_MM_init_163 : decode c_MM_init 163 = .ok (.aload_n 0, 1) := by decide +kernel
theorem d_MM_init_164 : decode c_MM_init 164 = .ok (.bipush 20, 2) := by decide +kernel
theorem d_MM_init_166 : decode c_MM_init 166 = .ok (.newarray .int, 2) := by decide +kernel
theorem d_MM_init_168 : decode c_MM_init 168 = .ok (.putfield 68, 3) := by decide +kernel
theorem d_MM_init_171 : decode c_MM_init 171 = .ok (.aload_n 0, 1) := by decide +kernel
theorem d_MM_init_172 : decode c_MM_init 172 = .ok (.sipush 200, 3) := by decide +kernel
theorem d_MM_init_175 : decode c_MM_init 175 = .ok (.newarray .int, 2) := by decide +kernel
theorem d_MM_init_177 : decode c_MM_init 177 = .ok (.putfield 71, 3) := by decide +kernel
theorem d_MM_init_180 : decode c_MM_init 180 = .ok (.return_, 1) := by decide +kernel
