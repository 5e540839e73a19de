theorem d_RC_init_0 : decode c_RC_init 0 = .ok (.aload_n 0, 1) := by decide +kernel
theorem d_RC_init_1 : decode c_RC_init 1 = .ok (.invokespecial 1, 3) := by decide +kernel
theorem d_RC_init_4 : decode c_RC_init 4 = .ok (.aload_n 0, 1) := by decide +kernel
theorem d_RC_init_5 : decode c_RC_init 5 = .ok (.bipush 10, 2) := by decide +kernel
theorem d_RC_init_7 : decode c_RC_init 7 = .ok (.newarray .int, 2) := by decide +kernel
theorem d_RC_init_9 : decode c_RC_init 9 = .ok (.putfield 9, 3) := by decide +kernel
theorem d_RC_init_12 : decode c_RC_init 12 = .ok (.aload_n 0, 1) := by decide +kernel
theorem d_RC_init_13 : decode c_RC_init 13 = .ok (.new 13, 3) := by decide +kernel
theorem d_RC_init_16 : decode c_RC_init 16 = .ok (.dup, 1) := by decide +kernel
theorem d_RC_init_17 : decode c_RC_init 17 = .ok (.invokespecial 15, 3) := by decide +kernel
theorem d_RC_init_20 : decode c_RC_init 20 = .ok (.putfield 16, 3) := by decide +kernel
theorem d_RC_init_23 : decode c_RC_init 23 = .ok (.aload_n 0, 1) := by decide +kernel
theorem d_RC_init_24 : decode c_RC_init 24 = .ok (.new 13, 3) := by decide +kernel
theorem d_RC_init_27 : decode c_RC_init 27 = .ok (.dup, 1) := by decide +kernel
theorem d_RC_init_28 : decode c_RC_init 28 = .ok (.invokespecial 15, 3) := by decide +kernel
theorem d_RC_init_31 : decode c_RC_init 31 = .ok (.putfield 20, 3) := by decide +kernel
theorem d_RC_init_34 : decode c_RC_init 34 = .ok (.aload_n 0, 1) := by decide +kernel
theorem d_RC_init_35 : decode c_RC_init 35 = .ok (.new 13, 3) := by decide +kernel
theorem d_RC_init_38 : decode c_RC_init 38 = .ok (.dup, 1) := by decide +kernel
theorem d_RC_init_39 : decode c_RC_init 39 = .ok (.invokespecial 15, 3) := by decide +kernel
theorem d_RC_init_42 : decode c_RC_init 42 = .ok (.putfield 23, 3) := by decide +kernel
theorem d_RC_init_45 : decode c_RC_init 45 = .ok (.aload_n 0, 1) := by decide +kernel
theorem d_RC_init_46 : decode c_RC_init 46 = .ok (.new 13, 3) := by decide +kernel
theorem d_RC_init_49 : decode c_RC_init 49 = .ok (.dup, 1) := by decide +kernel
theorem d_RC_init_50 : decode c_RC_init 50 = .ok (.invokespecial 15, 3) := by decide +kernel
theorem d_RC_init_53 : decode c_RC_init 53 = .ok (.putfield 26, 3) := by decide +kernel
theorem d_RC_init_56 : decode c_RC_init 56 = .ok (.aload_n 0, 1) := by decide +kernel
theorem d_RC_init_57 : decode c_RC_init 57 = .ok (.new 13, 3) := by decide +kernel
theorem d_RC_init_60 : decode c_RC_init 60 = .ok (.dup, 1) := by decide +kernel
theorem d_RC_init_61 : decode c_RC_init 61 = .ok (.invokespecial 15, 3) := by decide +kernel
theorem d_RC_init_64 : decode c_RC_init 64 = .ok (.putfield 29, 3) := by decide +kernel
theorem d_RC_init_67 : decode c_RC_init 67 = .ok (.aload_n 0, 1) := by decide +kernel
theorem d_RC_init_68 : decode c_RC_init 68 = .ok (.new 13, 3) := by decide +kernel
theorem d_RC_init_71 : decode c_RC_init 71 = .ok (.dup, 1) := by decide +kernel
theorem d_RC_init_72 : decode c_RC_init 72 = .ok (.invokespecial 15, 3) := by decide +kernel
theorem d_RC_init_75 : decode c_RC_init 75 = .ok (.putfield 32, 3) := by decide +kernel
theorem d_RC_init_78 : decode c_RC_init 78 = .ok (.aload_n 0, 1) := by decide +kernel
theorem d_RC_init_79 : decode c_RC_init 79 = .ok (.iconst 0, 1) := by decide +kernel
theorem d_RC_init_80 : decode c_RC_init 80 = .ok (.putfield 35, 3) := by decide +kernel
theorem d_RC_init_83 : decode c_RC_init 83 = .ok (.return_, 1) := by decide +kernel
theorem d_AL_init_0 : decode c_AL_init 0 = .ok (.aload_n 0, 1) := by decide +kernel
theorem d_AL_init_1 : decode c_AL_init 1 = .ok (.invokespecial 1, 3) := by decide +kernel
theorem d_AL_init_4 : decode c_AL_init 4 = .ok (.aload_n 0, 1) := by decide +kernel
theorem d_AL_init_5 : decode c_AL_init 5 = .ok (.getstatic 39, 3) := by decide +kernel
theorem d_AL_init_8 : decode c_AL_init 8 = .ok (.putfield 9, 3) := by decide +kernel
theorem d_AL_init_11 : decode c_AL_init 11 = .ok (.return_, 1) := by decide +kernel
theorem d_AB_init_0 : decode c_AB_init 0 = .ok (.aload_n 0, 1) := by decide +kernel
theorem d_AB_init_1 : decode c_AB_init 1 = .ok (.invokespecial 1, 3) := by decide +kernel
theorem d_AB_init_4 : decode c_AB_init 4 = .ok (.aload_n 0, 1) := by decide +kernel
theorem d_AB_init_5 : decode c_AB_init 5 = .ok (.iconst 0, 1) := by decide +kernel
theorem d_AB_init_6 : decode c_AB_init 6 = .ok (.putfield 7, 3) := by decide +kernel
theorem d_AB_init_9 : decode c_AB_init 9 = .ok (.return_, 1) := by decide +kernel
theorem d_AC_init_0 : decode c_AC_init 0 = .ok (.aload_n 0, 1) := by decide +kernel
theorem d_AC_init_1 : decode c_AC_init 1 = .ok (.invokespecial 1, 3) := by decide +kernel
theorem d_AC_init_4 : decode c_AC_init 4 = .ok (.return_, 1) := by decide +kernel
theorem d_LW_person_0 : decode c_LW_person 0 = .ok (.aload_n 1, 1) := by decide +kernel
theorem d_LW_person_1 : decode c_LW_person 1 = .ok (.iconst 0, 1) := by decide +kernel
theorem d_LW_person_2 : decode c_LW_person 2 = .ok (.aload_n 0, 1) := by decide +kernel
theorem d_LW_person_3 : decode c_LW_person 3 = .ok (.invokevirtual 7, 3) := by decide +kernel
theorem d_LW_person_6 : decode c_LW_person 6 = .ok (.i2l, 1) := by decide +kernel
theorem d_LW_person_7 : decode c_LW_person 7 = .ok (.lastore, 1) := by decide +kernel
theorem d_LW_person_8 : decode c_LW_person 8 = .ok (.goto 6, 3) := by decide +kernel
theorem d_LW_person_11 : decode c_LW_person 11 = .ok (.astore_n 2, 1) := by decide +kernel
theorem d_LW_person_12 : decode c_LW_person 12 = .ok (.iconst 1, 1) := by decide +kernel
theorem d_LW_person_13 : decode c_LW_person 13 = .ok (.ireturn, 1) := by decide +kernel
theorem d_LW_person_14 : decode c_LW_person 14 = .ok (.iconst 0, 1) := by decide +kernel
theorem d_LW_person_15 : decode c_LW_person 15 = .ok (.ireturn, 1) := by decide +kernel
theorem d_RC_person_0 : decode c_RC_person 0 = .ok (.aload_n 0, 1) := by decide +kernel
theorem d_RC_person_1 : decode c_RC_person 1 = .ok (.getfield 16, 3) := by decide +kernel
theorem d_RC_person_4 : decode c_RC_person 4 = .ok (.invokevirtual 39, 3) := by decide +kernel
theorem d_RC_person_7 : decode c_RC_person 7 = .ok (.bipush 60, 2) := by decide +kernel
theorem d_RC_person_9 : decode c_RC_person 9 = .ok (.if_icmp .lt 13, 3) := by decide +kernel
theorem d_RC_person_12 : decode c_RC_person 12 = .ok (.new 43, 3) := by decide +kernel
theorem d_RC_person_15 : decode c_RC_person 15 = .ok (.dup, 1) := by decide +kernel
theorem d_RC_person_16 : decode c_RC_person 16 = .ok (.ldc 45, 2) := by decide +kernel
theorem d_RC_person_18 : decode c_RC_person 18 = .ok (.invokespecial 47, 3) := by decide +kernel
theorem d_RC_person_21 : decode c_RC_person 21 = .ok (.athrow, 1) := by decide +kernel
theorem d_RC_person_22 : decode c_RC_person 22 = .ok (.aload_n 0, 1) := by decide +kernel
theorem d_RC_person_23 : decode c_RC_person 23 = .ok (.getfield 16, 3) := by decide +kernel
theorem d_RC_person_26 : decode c_RC_person 26 = .ok (.new 50, 3) := by decide +kernel
theorem d_RC_person_29 : decode c_RC_person 29 = .ok (.dup, 1) := by decide +kernel
theorem d_RC_person_30 : decode c_RC_person 30 = .ok (.invokespecial 52, 3) := by decide +kernel
theorem d_RC_person_33 : decode c_RC_person 33 = .ok (.invokevirtual 53, 3) := by decide +kernel
theorem d_RC_person_36 : decode c_RC_person 36 = .ok (.pop, 1) := by decide +kernel
theorem d_RC_person_37 : decode c_RC_person 37 = .ok (.aload_n 0, 1) := by decide +kernel
theorem d_RC_person_38 : decode c_RC_person 38 = .ok (.getfield 16, 3) := by decide +kernel
theorem d_RC_person_41 : decode c_RC_person 41 = .ok (.invokevirtual 39, 3) := by decide +kernel
theorem d_RC_person_44 : decode c_RC_person 44 = .ok (.iconst 1, 1) := by decide +kernel
theorem d_RC_person_45 : decode c_RC_person 45 = .ok (.isub, 1) := by decide +kernel
theorem d_RC_person_46 : decode c_RC_person 46 = .ok (.ireturn, 1) := by decide +kernel
theorem d_AL_size_0 : decode c_AL_size 0 = .ok (.aload_n 0, 1) := by decide +kernel
theorem d_AL_size_1 : decode c_AL_size 1 = .ok (.getfield 48, 3) := by decide +kernel
theorem d_AL_size_4 : decode c_AL_size 4 = .ok (.ireturn, 1) := by decide +kernel
theorem d_PE_init_0 : decode c_PE_init 0 = .ok (.aload_n 0, 1) := by decide +kernel
theorem d_PE_init_1 : decode c_PE_init 1 = .ok (.invokespecial 3, 3) := by decide +kernel
theorem d_PE_init_4 : decode c_PE_init 4 = .ok (.aload_n 0, 1) := by decide +kernel
theorem d_PE_init_5 : decode c_PE_init 5 = .ok (.iconst (-1), 1) := by decide +kernel
theorem d_PE_init_6 : decode c_PE_init 6 = .ok (.putfield 9, 3) := by decide +kernel
theorem d_PE_init_9 : decode c_PE_init 9 = .ok (.aload_n 0, 1) := by decide +kernel
theorem d_PE_init_10 : decode c_PE_init 10 = .ok (.iconst 0, 1) := by decide +kernel
theorem d_PE_init_11 : decode c_PE_init 11 = .ok (.putfield 15, 3) := by decide +kernel
theorem d_PE_init_14 : decode c_PE_init 14 = .ok (.aload_n 0, 1) := by decide +kernel
theorem d_PE_init_15 : decode c_PE_init 15 = .ok (.iconst (-1), 1) := by decide +kernel
theorem d_PE_init_16 : decode c_PE_init 16 = .ok (.putfield 18, 3) := by decide +kernel
theorem d_PE_init_19 : decode c_PE_init 19 = .ok (.return_, 1) := by decide +kernel
theorem d_AL_add_0 : decode c_AL_add 0 = .ok (.aload_n 0, 1) := by decide +kernel
theorem d_AL_add_1 : decode c_AL_add 1 = .ok (.dup, 1) := by decide +kernel
theorem d_AL_add_2 : decode c_AL_add 2 = .ok (.getfield 63, 3) := by decide +kernel
theorem d_AL_add_5 : decode c_AL_add 5 = .ok (.iconst 1, 1) := by decide +kernel
theorem d_AL_add_6 : decode c_AL_add 6 = .ok (.iadd, 1) := by decide +kernel
theorem d_AL_add_7 : decode c_AL_add 7 = .ok (.putfield 63, 3) := by decide +kernel
theorem d_AL_add_10 : decode c_AL_add 10 = .ok (.aload_n 0, 1) := by decide +kernel
theorem d_AL_add_11 : decode c_AL_add 11 = .ok (.aload_n 1, 1) := by decide +kernel
theorem d_AL_add_12 : decode c_AL_add 12 = .ok (.aload_n 0, 1) := by decide +kernel
theorem d_AL_add_13 : decode c_AL_add 13 = .ok (.getfield 9, 3) := by decide +kernel
theorem d_AL_add_16 : decode c_AL_add 16 = .ok (.aload_n 0, 1) := by decide +kernel
theorem d_AL_add_17 : decode c_AL_add 17 = .ok (.getfield 48, 3) := by decide +kernel
theorem d_AL_add_20 : decode c_AL_add 20 = .ok (.invokevirtual 131, 3) := by decide +kernel
theorem d_AL_add_23 : decode c_AL_add 23 = .ok (.iconst 1, 1) := by decide +kernel
theorem d_AL_add_24 : decode c_AL_add 24 = .ok (.ireturn, 1) := by decide +kernel
theorem d_AL_add3_0 : decode c_AL_add3 0 = .ok (.iload_n 3, 1) := by decide +kernel
theorem d_AL_add3_1 : decode c_AL_add3 1 = .ok (.aload_n 2, 1) := by decide +kernel
theorem d_AL_add3_2 : decode c_AL_add3 2 = .ok (.arraylength, 1) := by decide +kernel
theorem d_AL_add3_3 : decode c_AL_add3 3 = .ok (.if_icmp .ne 8, 3) := by decide +kernel
theorem d_AL_add3_6 : decode c_AL_add3 6 = .ok (.aload_n 0, 1) := by decide +kernel
theorem d_AL_add3_7 : decode c_AL_add3 7 = .ok (.invokevirtual 129, 3) := by decide +kernel
theorem d_AL_add3_10 : decode c_AL_add3 10 = .ok (.astore_n 2, 1) := by decide +kernel
theorem d_AL_add3_11 : decode c_AL_add3 11 = .ok (.aload_n 2, 1) := by decide +kernel
theorem d_AL_add3_12 : decode c_AL_add3 12 = .ok (.iload_n 3, 1) := by decide +kernel
theorem d_AL_add3_13 : decode c_AL_add3 13 = .ok (.aload_n 1, 1) := by decide +kernel
theorem d_AL_add3_14 : decode c_AL_add3 14 = .ok (.aastore, 1) := by decide +kernel
theorem d_AL_add3_15 : decode c_AL_add3 15 = .ok (.aload_n 0, 1) := by decide +kernel
theorem d_AL_add3_16 : decode c_AL_add3 16 = .ok (.iload_n 3, 1) := by decide +kernel
theorem d_AL_add3_17 : decode c_AL_add3 17 = .ok (.iconst 1, 1) := by decide +kernel
theorem d_AL_add3_18 : decode c_AL_add3 18 = .ok (.iadd, 1) := by decide +kernel
theorem d_AL_add3_19 : decode c_AL_add3 19 = .ok (.putfield 48, 3) := by decide +kernel
theorem d_AL_add3_22 : decode c_AL_add3 22 = .ok (.return_, 1) := by decide +kernel
theorem d_AL_grow_0 : decode c_AL_grow 0 = .ok (.aload_n 0, 1) := by decide +kernel
theorem d_AL_grow_1 : decode c_AL_grow 1 = .ok (.aload_n 0, 1) := by decide +kernel
theorem d_AL_grow_2 : decode c_AL_grow 2 = .ok (.getfield 48, 3) := by decide +kernel
theorem d_AL_grow_5 : decode c_AL_grow 5 = .ok (.iconst 1, 1) := by decide +kernel
theorem d_AL_grow_6 : decode c_AL_grow 6 = .ok (.iadd, 1) := by decide +kernel
theorem d_AL_grow_7 : decode c_AL_grow 7 = .ok (.invokevirtual 69, 3) := by decide +kernel
theorem d_AL_grow_10 : decode c_AL_grow 10 = .ok (.areturn, 1) := by decide +kernel
theorem d_AL_growI_0 : decode c_AL_growI 0 = .ok (.aload_n 0, 1) := by decide +kernel
theorem d_AL_growI_1 : decode c_AL_growI 1 = .ok (.getfield 9, 3) := by decide +kernel
theorem d_AL_growI_4 : decode c_AL_growI 4 = .ok (.arraylength, 1) := by decide +kernel
theorem d_AL_growI_5 : decode c_AL_growI 5 = .ok (.istore_n 2, 1) := by decide +kernel
theorem d_AL_growI_6 : decode c_AL_growI 6 = .ok (.iload_n 2, 1) := by decide +kernel
theorem d_AL_growI_7 : decode c_AL_growI 7 = .ok (.ifCond .gt 13, 3) := by decide +kernel
theorem d_AL_growI_10 : decode c_AL_growI 10 = .ok (.aload_n 0, 1) := by decide +kernel
theorem d_AL_growI_11 : decode c_AL_growI 11 = .ok (.getfield 9, 3) := by decide +kernel
theorem d_AL_growI_14 : decode c_AL_growI 14 = .ok (.getstatic 39, 3) := by decide +kernel
theorem d_AL_growI_17 : decode c_AL_growI 17 = .ok (.if_acmp .eq 28, 3) := by decide +kernel
theorem d_AL_growI_20 : decode c_AL_growI 20 = .ok (.iload_n 2, 1) := by decide +kernel
theorem d_AL_growI_21 : decode c_AL_growI 21 = .ok (.iload_n 1, 1) := by decide +kernel
theorem d_AL_growI_22 : decode c_AL_growI 22 = .ok (.iload_n 2, 1) := by decide +kernel
theorem d_AL_growI_23 : decode c_AL_growI 23 = .ok (.isub, 1) := by decide +kernel
theorem d_AL_growI_24 : decode c_AL_growI 24 = .ok (.iload_n 2, 1) := by decide +kernel
theorem d_AL_growI_25 : decode c_AL_growI 25 = .ok (.iconst 1, 1) := by decide +kernel
theorem d_AL_growI_26 : decode c_AL_growI 26 = .ok (.ishr, 1) := by decide +kernel
theorem d_AL_growI_27 : decode c_AL_growI 27 = .ok (.invokestatic 73, 3) := by decide +kernel
theorem d_AL_growI_30 : decode c_AL_growI 30 = .ok (.istore_n 3, 1) := by decide +kernel
theorem d_AL_growI_31 : decode c_AL_growI 31 = .ok (.aload_n 0, 1) := by decide +kernel
theorem d_AL_growI_32 : decode c_AL_growI 32 = .ok (.aload_n 0, 1) := by decide +kernel
theorem d_AL_growI_33 : decode c_AL_growI 33 = .ok (.getfield 9, 3) := by decide +kernel
theorem d_AL_growI_36 : decode c_AL_growI 36 = .ok (.iload_n 3, 1) := by decide +kernel
theorem d_AL_growI_37 : decode c_AL_growI 37 = .ok (.invokestatic 66, 3) := by decide +kernel
theorem d_AL_growI_40 : decode c_AL_growI 40 = .ok (.dup_x1, 1) := by decide +kernel
theorem d_AL_growI_41 : decode c_AL_growI 41 = .ok (.putfield 9, 3) := by decide +kernel
theorem d_AL_growI_44 : decode c_AL_growI 44 = .ok (.areturn, 1) := by decide +kernel
theorem d_AL_growI_45 : decode c_AL_growI 45 = .ok (.aload_n 0, 1) := by decide +kernel
theorem d_AL_growI_46 : decode c_AL_growI 46 = .ok (.bipush 10, 2) := by decide +kernel
theorem d_AL_growI_48 : decode c_AL_growI 48 = .ok (.iload_n 1, 1) := by decide +kernel
theorem d_AL_growI_49 : decode c_AL_growI 49 = .ok (.invokestatic 79, 3) := by decide +kernel
theorem d_AL_growI_52 : decode c_AL_growI 52 = .ok (.anewarray 7, 3) := by decide +kernel
theorem d_AL_growI_55 : decode c_AL_growI 55 = .ok (.dup_x1, 1) := by decide +kernel
theorem d_AL_growI_56 : decode c_AL_growI 56 = .ok (.putfield 9, 3) := by decide +kernel
theorem d_AL_growI_59 : decode c_AL_growI 59 = .ok (.areturn, 1) := by decide +kernel
theorem d_AS_newLength_0 : decode c_AS_newLength 0 = .ok (.iload_n 0, 1) := by decide +kernel
theorem d_AS_newLength_1 : decode c_AS_newLength 1 = .ok (.iload_n 1, 1) := by decide +kernel
theorem d_AS_newLength_2 : decode c_AS_newLength 2 = .ok (.iload_n 2, 1) := by decide +kernel
theorem d_AS_newLength_3 : decode c_AS_newLength 3 = .ok (.invokestatic 194, 3) := by decide +kernel
theorem d_AS_newLength_6 : decode c_AS_newLength 6 = .ok (.iadd, 1) := by decide +kernel
theorem d_AS_newLength_7 : decode c_AS_newLength 7 = .ok (.istore_n 3, 1) := by decide +kernel
theorem d_AS_newLength_8 : decode c_AS_newLength 8 = .ok (.iconst 0, 1) := by decide +kernel
theorem d_AS_newLength_9 : decode c_AS_newLength 9 = .ok (.iload_n 3, 1) := by decide +kernel
theorem d_AS_newLength_10 : decode c_AS_newLength 10 = .ok (.if_icmp .ge 11, 3) := by decide +kernel
theorem d_AS_newLength_13 : decode c_AS_newLength 13 = .ok (.iload_n 3, 1) := by decide +kernel
theorem d_AS_newLength_14 : decode c_AS_newLength 14 = .ok (.ldc 200, 2) := by decide +kernel
theorem d_AS_newLength_16 : decode c_AS_newLength 16 = .ok (.if_icmp .gt 5, 3) := by decide +kernel
theorem d_AS_newLength_19 : decode c_AS_newLength 19 = .ok (.iload_n 3, 1) := by decide +kernel
theorem d_AS_newLength_20 : decode c_AS_newLength 20 = .ok (.ireturn, 1) := by decide +kernel
theorem d_AS_newLength_21 : decode c_AS_newLength 21 = .ok (.iload_n 0, 1) := by decide +kernel
theorem d_AS_newLength_22 : decode c_AS_newLength 22 = .ok (.iload_n 1, 1) := by decide +kernel
theorem d_AS_newLength_23 : decode c_AS_newLength 23 = .ok (.invokestatic 201, 3) := by decide +kernel
theorem d_AS_newLength_26 : decode c_AS_newLength 26 = .ok (.ireturn, 1) := by decide +kernel
theorem d_MA_max_0 : decode c_MA_max 0 = .ok (.iload_n 0, 1) := by decide +kernel
theorem d_MA_max_1 : decode c_MA_max 1 = .ok (.iload_n 1, 1) := by decide +kernel
theorem d_MA_max_2 : decode c_MA_max 2 = .ok (.if_icmp .lt 7, 3) := by decide +kernel
theorem d_MA_max_5 : decode c_MA_max 5 = .ok (.iload_n 0, 1) := by decide +kernel
theorem d_MA_max_6 : decode c_MA_max 6 = .ok (.goto 4, 3) := by decide +kernel
theorem d_MA_max_9 : decode c_MA_max 9 = .ok (.iload_n 1, 1) := by decide +kernel
theorem d_MA_max_10 : decode c_MA_max 10 = .ok (.ireturn, 1) := by decide +kernel
theorem d_AS_hugeLength_0 : decode c_AS_hugeLength 0 = .ok (.iload_n 0, 1) := by decide +kernel
theorem d_AS_hugeLength_1 : decode c_AS_hugeLength 1 = .ok (.iload_n 1, 1) := by decide +kernel
theorem d_AS_hugeLength_2 : decode c_AS_hugeLength 2 = .ok (.iadd, 1) := by decide +kernel
theorem d_AS_hugeLength_3 : decode c_AS_hugeLength 3 = .ok (.istore_n 2, 1) := by decide +kernel
theorem d_AS_hugeLength_4 : decode c_AS_hugeLength 4 = .ok (.iload_n 2, 1) := by decide +kernel
theorem d_AS_hugeLength_5 : decode c_AS_hugeLength 5 = .ok (.ifCond .ge 44, 3) := by decide +kernel
theorem d_AS_hugeLength_8 : decode c_AS_hugeLength 8 = .ok (.new 204, 3) := by decide +kernel
theorem d_AS_hugeLength_11 : decode c_AS_hugeLength 11 = .ok (.dup, 1) := by decide +kernel
theorem d_AS_hugeLength_12 : decode c_AS_hugeLength 12 = .ok (.new 89, 3) := by decide +kernel
theorem d_AS_hugeLength_15 : decode c_AS_hugeLength 15 = .ok (.dup, 1) := by decide +kernel
theorem d_AS_hugeLength_16 : decode c_AS_hugeLength 16 = .ok (.invokespecial 91, 3) := by decide +kernel
theorem d_AS_hugeLength_19 : decode c_AS_hugeLength 19 = .ok (.ldc 206, 2) := by decide +kernel
theorem d_AS_hugeLength_21 : decode c_AS_hugeLength 21 = .ok (.invokevirtual 94, 3) := by decide +kernel
theorem d_AS_hugeLength_24 : decode c_AS_hugeLength 24 = .ok (.iload_n 0, 1) := by decide +kernel
theorem d_AS_hugeLength_25 : decode c_AS_hugeLength 25 = .ok (.invokevirtual 98, 3) := by decide +kernel
theorem d_AS_hugeLength_28 : decode c_AS_hugeLength 28 = .ok (.ldc 208, 2) := by decide +kernel
theorem d_AS_hugeLength_30 : decode c_AS_hugeLength 30 = .ok (.invokevirtual 94, 3) := by decide +kernel
theorem d_AS_hugeLength_33 : decode c_AS_hugeLength 33 = .ok (.iload_n 1, 1) := by decide +kernel
theorem d_AS_hugeLength_34 : decode c_AS_hugeLength 34 = .ok (.invokevirtual 98, 3) := by decide +kernel
theorem d_AS_hugeLength_37 : decode c_AS_hugeLength 37 = .ok (.ldc 210, 2) := by decide +kernel
theorem d_AS_hugeLength_39 : decode c_AS_hugeLength 39 = .ok (.invokevirtual 94, 3) := by decide +kernel
theorem d_AS_hugeLength_42 : decode c_AS_hugeLength 42 = .ok (.invokevirtual 101, 3) := by decide +kernel
theorem d_AS_hugeLength_45 : decode c_AS_hugeLength 45 = .ok (.invokespecial 212, 3) := by decide +kernel
theorem d_AS_hugeLength_48 : decode c_AS_hugeLength 48 = .ok (.athrow, 1) := by decide +kernel
theorem d_AS_hugeLength_49 : decode c_AS_hugeLength 49 = .ok (.iload_n 2, 1) := by decide +kernel
theorem d_AS_hugeLength_50 : decode c_AS_hugeLength 50 = .ok (.ldc 200, 2) := by decide +kernel
theorem d_AS_hugeLength_52 : decode c_AS_hugeLength 52 = .ok (.if_icmp .gt 6, 3) := by decide +kernel
theorem d_AS_hugeLength_55 : decode c_AS_hugeLength 55 = .ok (.ldc 200, 2) := by decide +kernel
theorem d_AS_hugeLength_57 : decode c_AS_hugeLength 57 = .ok (.ireturn, 1) := by decide +kernel
theorem d_AS_hugeLength_58 : decode c_AS_hugeLength 58 = .ok (.iload_n 2, 1) := by decide +kernel
theorem d_AS_hugeLength_59 : decode c_AS_hugeLength 59 = .ok (.ireturn, 1) := by decide +kernel
theorem d_AR_copyOf_0 : decode c_AR_copyOf 0 = .ok (.aload_n 0, 1) := by decide +kernel
theorem d_AR_copyOf_1 : decode c_AR_copyOf 1 = .ok (.iload_n 1, 1) := by decide +kernel
theorem d_AR_copyOf_2 : decode c_AR_copyOf 2 = .ok (.aload_n 0, 1) := by decide +kernel
theorem d_AR_copyOf_3 : decode c_AR_copyOf 3 = .ok (.invokevirtual 86, 3) := by decide +kernel
theorem d_AR_copyOf_6 : decode c_AR_copyOf 6 = .ok (.invokestatic 300, 3) := by decide +kernel
theorem d_AR_copyOf_9 : decode c_AR_copyOf 9 = .ok (.areturn, 1) := by decide +kernel
theorem d_AR_copyOf3_0 : decode c_AR_copyOf3 0 = .ok (.aload_n 2, 1) := by decide +kernel
theorem d_AR_copyOf3_1 : decode c_AR_copyOf3 1 = .ok (.ldc 110, 2) := by decide +kernel
theorem d_AR_copyOf3_3 : decode c_AR_copyOf3 3 = .ok (.if_acmp .ne 10, 3) := by decide +kernel
theorem d_AR_copyOf3_6 : decode c_AR_copyOf3 6 = .ok (.iload_n 1, 1) := by decide +kernel
theorem d_AR_copyOf3_7 : decode c_AR_copyOf3 7 = .ok (.anewarray 2, 3) := by decide +kernel
theorem d_AR_copyOf3_10 : decode c_AR_copyOf3 10 = .ok (.goto 14, 3) := by decide +kernel
theorem d_AR_copyOf3_13 : decode c_AR_copyOf3 13 = .ok (.aload_n 2, 1) := by decide +kernel
theorem d_AR_copyOf3_14 : decode c_AR_copyOf3 14 = .ok (.invokevirtual 90, 3) := by decide +kernel
theorem d_AR_copyOf3_17 : decode c_AR_copyOf3 17 = .ok (.iload_n 1, 1) := by decide +kernel
theorem d_AR_copyOf3_18 : decode c_AR_copyOf3 18 = .ok (.invokestatic 95, 3) := by decide +kernel
theorem d_AR_copyOf3_21 : decode c_AR_copyOf3 21 = .ok (.checkcast 110, 3) := by decide +kernel
theorem d_AR_copyOf3_24 : decode c_AR_copyOf3 24 = .ok (.astore_n 3, 1) := by decide +kernel
theorem d_AR_copyOf3_25 : decode c_AR_copyOf3 25 = .ok (.aload_n 0, 1) := by decide +kernel
theorem d_AR_copyOf3_26 : decode c_AR_copyOf3 26 = .ok (.iconst 0, 1) := by decide +kernel
theorem d_AR_copyOf3_27 : decode c_AR_copyOf3 27 = .ok (.aload_n 3, 1) := by decide +kernel
theorem d_AR_copyOf3_28 : decode c_AR_copyOf3 28 = .ok (.iconst 0, 1) := by decide +kernel
theorem d_AR_copyOf3_29 : decode c_AR_copyOf3 29 = .ok (.aload_n 0, 1) := by decide +kernel
theorem d_AR_copyOf3_30 : decode c_AR_copyOf3 30 = .ok (.arraylength, 1) := by decide +kernel
theorem d_AR_copyOf3_31 : decode c_AR_copyOf3 31 = .ok (.iload_n 1, 1) := by decide +kernel
theorem d_AR_copyOf3_32 : decode c_AR_copyOf3 32 = .ok (.invokestatic 304, 3) := by decide +kernel
theorem d_AR_copyOf3_35 : decode c_AR_copyOf3 35 = .ok (.invokestatic 150, 3) := by decide +kernel
theorem d_AR_copyOf3_38 : decode c_AR_copyOf3 38 = .ok (.aload_n 3, 1) := by decide +kernel
theorem d_AR_copyOf3_39 : decode c_AR_copyOf3 39 = .ok (.areturn, 1) := by decide +kernel
theorem d_MA_min_0 : decode c_MA_min 0 = .ok (.iload_n 0, 1) := by decide +kernel
theorem d_MA_min_1 : decode c_MA_min 1 = .ok (.iload_n 1, 1) := by decide +kernel
theorem d_MA_min_2 : decode c_MA_min 2 = .ok (.if_icmp .gt 7, 3) := by decide +kernel
theorem d_MA_min_5 : decode c_MA_min 5 = .ok (.iload_n 0, 1) := by decide +kernel
theorem d_MA_min_6 : decode c_MA_min 6 = .ok (.goto 4, 3) := by decide +kernel
theorem d_MA_min_9 : decode c_MA_min 9 = .ok (.iload_n 1, 1) := by decide +kernel
theorem d_MA_min_10 : decode c_MA_min 10 = .ok (.ireturn, 1) := by decide +kernel
theorem d_LW_enter_0 : decode c_LW_enter 0 = .ok (.aload_n 0, 1) := by decide +kernel
theorem d_LW_enter_1 : decode c_LW_enter 1 = .ok (.iload_n 1, 1) := by decide +kernel
theorem d_LW_enter_2 : decode c_LW_enter 2 = .ok (.iload_n 2, 1) := by decide +kernel
theorem d_LW_enter_3 : decode c_LW_enter 3 = .ok (.invokevirtual 15, 3) := by decide +kernel
theorem d_LW_enter_6 : decode c_LW_enter 6 = .ok (.goto 12, 3) := by decide +kernel
theorem d_LW_enter_9 : decode c_LW_enter 9 = .ok (.astore_n 3, 1) := by decide +kernel
theorem d_LW_enter_10 : decode c_LW_enter 10 = .ok (.iconst 1, 1) := by decide +kernel
theorem d_LW_enter_11 : decode c_LW_enter 11 = .ok (.ireturn, 1) := by decide +kernel
theorem d_LW_enter_12 : decode c_LW_enter 12 = .ok (.astore_n 3, 1) := by decide +kernel
theorem d_LW_enter_13 : decode c_LW_enter 13 = .ok (.iconst 2, 1) := by decide +kernel
theorem d_LW_enter_14 : decode c_LW_enter 14 = .ok (.ireturn, 1) := by decide +kernel
theorem d_LW_enter_15 : decode c_LW_enter 15 = .ok (.astore_n 3, 1) := by decide +kernel
theorem d_LW_enter_16 : decode c_LW_enter 16 = .ok (.iconst 3, 1) := by decide +kernel
theorem d_LW_enter_17 : decode c_LW_enter 17 = .ok (.ireturn, 1) := by decide +kernel
theorem d_LW_enter_18 : decode c_LW_enter 18 = .ok (.iconst 0, 1) := by decide +kernel
theorem d_LW_enter_19 : decode c_LW_enter 19 = .ok (.ireturn, 1) := by decide +kernel
theorem d_RC_enter_0 : decode c_RC_enter 0 = .ok (.aload_n 0, 1) := by decide +kernel
theorem d_RC_enter_1 : decode c_RC_enter 1 = .ok (.iload_n 1, 1) := by decide +kernel
theorem d_RC_enter_2 : decode c_RC_enter 2 = .ok (.invokevirtual 57, 3) := by decide +kernel
theorem d_RC_enter_5 : decode c_RC_enter 5 = .ok (.astore_n 3, 1) := by decide +kernel
theorem d_RC_enter_6 : decode c_RC_enter 6 = .ok (.iload_n 2, 1) := by decide +kernel
theorem d_RC_enter_7 : decode c_RC_enter 7 = .ok (.invokestatic 61, 3) := by decide +kernel
theorem d_RC_enter_10 : decode c_RC_enter 10 = .ok (.aload_n 3, 1) := by decide +kernel
theorem d_RC_enter_11 : decode c_RC_enter 11 = .ok (.getfield 65, 3) := by decide +kernel
theorem d_RC_enter_14 : decode c_RC_enter 14 = .ok (.iload_n 2, 1) := by decide +kernel
theorem d_RC_enter_15 : decode c_RC_enter 15 = .ok (.if_icmp .ne 13, 3) := by decide +kernel
theorem d_RC_enter_18 : decode c_RC_enter 18 = .ok (.new 68, 3) := by decide +kernel
theorem d_RC_enter_21 : decode c_RC_enter 21 = .ok (.dup, 1) := by decide +kernel
theorem d_RC_enter_22 : decode c_RC_enter 22 = .ok (.ldc 70, 2) := by decide +kernel
theorem d_RC_enter_24 : decode c_RC_enter 24 = .ok (.invokespecial 72, 3) := by decide +kernel
theorem d_RC_enter_27 : decode c_RC_enter 27 = .ok (.athrow, 1) := by decide +kernel
theorem d_RC_enter_28 : decode c_RC_enter 28 = .ok (.aload_n 0, 1) := by decide +kernel
theorem d_RC_enter_29 : decode c_RC_enter 29 = .ok (.iload_n 1, 1) := by decide +kernel
theorem d_RC_enter_30 : decode c_RC_enter 30 = .ok (.iload_n 2, 1) := by decide +kernel
theorem d_RC_enter_31 : decode c_RC_enter 31 = .ok (.invokevirtual 73, 3) := by decide +kernel
theorem d_RC_enter_34 : decode c_RC_enter 34 = .ok (.aload_n 3, 1) := by decide +kernel
theorem d_RC_enter_35 : decode c_RC_enter 35 = .ok (.iload_n 2, 1) := by decide +kernel
theorem d_RC_enter_36 : decode c_RC_enter 36 = .ok (.putfield 65, 3) := by decide +kernel
theorem d_RC_enter_39 : decode c_RC_enter 39 = .ok (.return_, 1) := by decide +kernel
theorem d_RC_knownPerson_0 : decode c_RC_knownPerson 0 = .ok (.iload_n 1, 1) := by decide +kernel
theorem d_RC_knownPerson_1 : decode c_RC_knownPerson 1 = .ok (.ifCond .lt 14, 3) := by decide +kernel
theorem d_RC_knownPerson_4 : decode c_RC_knownPerson 4 = .ok (.iload_n 1, 1) := by decide +kernel
theorem d_RC_knownPerson_5 : decode c_RC_knownPerson 5 = .ok (.aload_n 0, 1) := by decide +kernel
theorem d_RC_knownPerson_6 : decode c_RC_knownPerson 6 = .ok (.getfield 16, 3) := by decide +kernel
theorem d_RC_knownPerson_9 : decode c_RC_knownPerson 9 = .ok (.invokevirtual 39, 3) := by decide +kernel
theorem d_RC_knownPerson_12 : decode c_RC_knownPerson 12 = .ok (.if_icmp .lt 13, 3) := by decide +kernel
theorem d_RC_knownPerson_15 : decode c_RC_knownPerson 15 = .ok (.new 100, 3) := by decide +kernel
theorem d_RC_knownPerson_18 : decode c_RC_knownPerson 18 = .ok (.dup, 1) := by decide +kernel
theorem d_RC_knownPerson_19 : decode c_RC_knownPerson 19 = .ok (.ldc 102, 2) := by decide +kernel
theorem d_RC_knownPerson_21 : decode c_RC_knownPerson 21 = .ok (.invokespecial 104, 3) := by decide +kernel
theorem d_RC_knownPerson_24 : decode c_RC_knownPerson 24 = .ok (.athrow, 1) := by decide +kernel
theorem d_RC_knownPerson_25 : decode c_RC_knownPerson 25 = .ok (.aload_n 0, 1) := by decide +kernel
theorem d_RC_knownPerson_26 : decode c_RC_knownPerson 26 = .ok (.getfield 16, 3) := by decide +kernel
theorem d_RC_knownPerson_29 : decode c_RC_knownPerson 29 = .ok (.iload_n 1, 1) := by decide +kernel
theorem d_RC_knownPerson_30 : decode c_RC_knownPerson 30 = .ok (.invokevirtual 89, 3) := by decide +kernel
theorem d_RC_knownPerson_33 : decode c_RC_knownPerson 33 = .ok (.checkcast 50, 3) := by decide +kernel
theorem d_RC_knownPerson_36 : decode c_RC_knownPerson 36 = .ok (.areturn, 1) := by decide +kernel
theorem d_AL_get_0 : decode c_AL_get 0 = .ok (.iload_n 1, 1) := by decide +kernel
theorem d_AL_get_1 : decode c_AL_get 1 = .ok (.aload_n 0, 1) := by decide +kernel
theorem d_AL_get_2 : decode c_AL_get 2 = .ok (.getfield 48, 3) := by decide +kernel
theorem d_AL_get_5 : decode c_AL_get 5 = .ok (.invokestatic 118, 3) := by decide +kernel
theorem d_AL_get_8 : decode c_AL_get 8 = .ok (.pop, 1) := by decide +kernel
theorem d_AL_get_9 : decode c_AL_get 9 = .ok (.aload_n 0, 1) := by decide +kernel
theorem d_AL_get_10 : decode c_AL_get 10 = .ok (.iload_n 1, 1) := by decide +kernel
theorem d_AL_get_11 : decode c_AL_get 11 = .ok (.invokevirtual 123, 3) := by decide +kernel
theorem d_AL_get_14 : decode c_AL_get 14 = .ok (.areturn, 1) := by decide +kernel
theorem d_OB_checkIndex_0 : decode c_OB_checkIndex 0 = .ok (.iload_n 0, 1) := by decide +kernel
theorem d_OB_checkIndex_1 : decode c_OB_checkIndex 1 = .ok (.iload_n 1, 1) := by decide +kernel
theorem d_OB_checkIndex_2 : decode c_OB_checkIndex 2 = .ok (.aconst_null, 1) := by decide +kernel
theorem d_OB_checkIndex_3 : decode c_OB_checkIndex 3 = .ok (.invokestatic 105, 3) := by decide +kernel
theorem d_OB_checkIndex_6 : decode c_OB_checkIndex 6 = .ok (.ireturn, 1) := by decide +kernel
theorem d_PR_checkIndex_0 : decode c_PR_checkIndex 0 = .ok (.iload_n 0, 1) := by decide +kernel
theorem d_PR_checkIndex_1 : decode c_PR_checkIndex 1 = .ok (.ifCond .lt 8, 3) := by decide +kernel
theorem d_PR_checkIndex_4 : decode c_PR_checkIndex 4 = .ok (.iload_n 0, 1) := by decide +kernel
theorem d_PR_checkIndex_5 : decode c_PR_checkIndex 5 = .ok (.iload_n 1, 1) := by decide +kernel
theorem d_PR_checkIndex_6 : decode c_PR_checkIndex 6 = .ok (.if_icmp .lt 10, 3) := by decide +kernel
theorem d_PR_checkIndex_9 : decode c_PR_checkIndex 9 = .ok (.aload_n 2, 1) := by decide +kernel
theorem d_PR_checkIndex_10 : decode c_PR_checkIndex 10 = .ok (.iload_n 0, 1) := by decide +kernel
theorem d_PR_checkIndex_11 : decode c_PR_checkIndex 11 = .ok (.iload_n 1, 1) := by decide +kernel
theorem d_PR_checkIndex_12 : decode c_PR_checkIndex 12 = .ok (.invokestatic 95, 3) := by decide +kernel
theorem d_PR_checkIndex_15 : decode c_PR_checkIndex 15 = .ok (.athrow, 1) := by decide +kernel
theorem d_PR_checkIndex_16 : decode c_PR_checkIndex 16 = .ok (.iload_n 0, 1) := by decide +kernel
theorem d_PR_checkIndex_17 : decode c_PR_checkIndex 17 = .ok (.ireturn, 1) := by decide +kernel
theorem d_AL_elementData_0 : decode c_AL_elementData 0 = .ok (.aload_n 0, 1) := by decide +kernel
theorem d_AL_elementData_1 : decode c_AL_elementData 1 = .ok (.getfield 9, 3) := by decide +kernel
theorem d_AL_elementData_4 : decode c_AL_elementData 4 = .ok (.iload_n 1, 1) := by decide +kernel
theorem d_AL_elementData_5 : decode c_AL_elementData 5 = .ok (.aaload, 1) := by decide +kernel
theorem d_AL_elementData_6 : decode c_AL_elementData 6 = .ok (.areturn, 1) := by decide +kernel
theorem d_RC_checkSector_0 : decode c_RC_checkSector 0 = .ok (.iload_n 0, 1) := by decide +kernel
theorem d_RC_checkSector_1 : decode c_RC_checkSector 1 = .ok (.ifCond .lt 9, 3) := by decide +kernel
theorem d_RC_checkSector_4 : decode c_RC_checkSector 4 = .ok (.iload_n 0, 1) := by decide +kernel
theorem d_RC_checkSector_5 : decode c_RC_checkSector 5 = .ok (.bipush 10, 2) := by decide +kernel
theorem d_RC_checkSector_7 : decode c_RC_checkSector 7 = .ok (.if_icmp .lt 13, 3) := by decide +kernel
theorem d_RC_checkSector_10 : decode c_RC_checkSector 10 = .ok (.new 100, 3) := by decide +kernel
theorem d_RC_checkSector_13 : decode c_RC_checkSector 13 = .ok (.dup, 1) := by decide +kernel
theorem d_RC_checkSector_14 : decode c_RC_checkSector 14 = .ok (.ldc 105, 2) := by decide +kernel
theorem d_RC_checkSector_16 : decode c_RC_checkSector 16 = .ok (.invokespecial 104, 3) := by decide +kernel
theorem d_RC_checkSector_19 : decode c_RC_checkSector 19 = .ok (.athrow, 1) := by decide +kernel
theorem d_RC_checkSector_20 : decode c_RC_checkSector 20 = .ok (.return_, 1) := by decide +kernel
theorem d_RC_addMove_0 : decode c_RC_addMove 0 = .ok (.aload_n 0, 1) := by decide +kernel
theorem d_RC_addMove_1 : decode c_RC_addMove 1 = .ok (.getfield 20, 3) := by decide +kernel
theorem d_RC_addMove_4 : decode c_RC_addMove 4 = .ok (.invokevirtual 39, 3) := by decide +kernel
theorem d_RC_addMove_7 : decode c_RC_addMove 7 = .ok (.sipush 300, 3) := by decide +kernel
theorem d_RC_addMove_10 : decode c_RC_addMove 10 = .ok (.if_icmp .lt 13, 3) := by decide +kernel
theorem d_RC_addMove_13 : decode c_RC_addMove 13 = .ok (.new 43, 3) := by decide +kernel
theorem d_RC_addMove_16 : decode c_RC_addMove 16 = .ok (.dup, 1) := by decide +kernel
theorem d_RC_addMove_17 : decode c_RC_addMove 17 = .ok (.ldc 107, 2) := by decide +kernel
theorem d_RC_addMove_19 : decode c_RC_addMove 19 = .ok (.invokespecial 47, 3) := by decide +kernel
theorem d_RC_addMove_22 : decode c_RC_addMove 22 = .ok (.athrow, 1) := by decide +kernel
theorem d_RC_addMove_23 : decode c_RC_addMove 23 = .ok (.aload_n 0, 1) := by decide +kernel
theorem d_RC_addMove_24 : decode c_RC_addMove 24 = .ok (.getfield 20, 3) := by decide +kernel
theorem d_RC_addMove_27 : decode c_RC_addMove 27 = .ok (.new 93, 3) := by decide +kernel
theorem d_RC_addMove_30 : decode c_RC_addMove 30 = .ok (.dup, 1) := by decide +kernel
theorem d_RC_addMove_31 : decode c_RC_addMove 31 = .ok (.iload_n 1, 1) := by decide +kernel
theorem d_RC_addMove_32 : decode c_RC_addMove 32 = .ok (.iload_n 2, 1) := by decide +kernel
theorem d_RC_addMove_33 : decode c_RC_addMove 33 = .ok (.aload_n 0, 1) := by decide +kernel
theorem d_RC_addMove_34 : decode c_RC_addMove 34 = .ok (.getfield 35, 3) := by decide +kernel
theorem d_RC_addMove_37 : decode c_RC_addMove 37 = .ok (.invokespecial 109, 3) := by decide +kernel
theorem d_RC_addMove_40 : decode c_RC_addMove 40 = .ok (.invokevirtual 53, 3) := by decide +kernel
theorem d_RC_addMove_43 : decode c_RC_addMove 43 = .ok (.pop, 1) := by decide +kernel
theorem d_RC_addMove_44 : decode c_RC_addMove 44 = .ok (.return_, 1) := by decide +kernel
theorem d_MO_init_0 : decode c_MO_init 0 = .ok (.aload_n 0, 1) := by decide +kernel
theorem d_MO_init_1 : decode c_MO_init 1 = .ok (.invokespecial 1, 3) := by decide +kernel
theorem d_MO_init_4 : decode c_MO_init 4 = .ok (.aload_n 0, 1) := by decide +kernel
theorem d_MO_init_5 : decode c_MO_init 5 = .ok (.iload_n 1, 1) := by decide +kernel
theorem d_MO_init_6 : decode c_MO_init 6 = .ok (.putfield 7, 3) := by decide +kernel
theorem d_MO_init_9 : decode c_MO_init 9 = .ok (.aload_n 0, 1) := by decide +kernel
theorem d_MO_init_10 : decode c_MO_init 10 = .ok (.iload_n 2, 1) := by decide +kernel
theorem d_MO_init_11 : decode c_MO_init 11 = .ok (.putfield 13, 3) := by decide +kernel
theorem d_MO_init_14 : decode c_MO_init 14 = .ok (.aload_n 0, 1) := by decide +kernel
theorem d_MO_init_15 : decode c_MO_init 15 = .ok (.iload_n 3, 1) := by decide +kernel
theorem d_MO_init_16 : decode c_MO_init 16 = .ok (.putfield 16, 3) := by decide +kernel
theorem d_MO_init_19 : decode c_MO_init 19 = .ok (.return_, 1) := by decide +kernel
theorem d_LW_leave_0 : decode c_LW_leave 0 = .ok (.aload_n 0, 1) := by decide +kernel
theorem d_LW_leave_1 : decode c_LW_leave 1 = .ok (.iload_n 1, 1) := by decide +kernel
theorem d_LW_leave_2 : decode c_LW_leave 2 = .ok (.invokevirtual 23, 3) := by decide +kernel
theorem d_LW_leave_5 : decode c_LW_leave 5 = .ok (.goto 12, 3) := by decide +kernel
theorem d_LW_leave_8 : decode c_LW_leave 8 = .ok (.astore_n 2, 1) := by decide +kernel
theorem d_LW_leave_9 : decode c_LW_leave 9 = .ok (.iconst 1, 1) := by decide +kernel
theorem d_LW_leave_10 : decode c_LW_leave 10 = .ok (.ireturn, 1) := by decide +kernel
theorem d_LW_leave_11 : decode c_LW_leave 11 = .ok (.astore_n 2, 1) := by decide +kernel
theorem d_LW_leave_12 : decode c_LW_leave 12 = .ok (.iconst 2, 1) := by decide +kernel
theorem d_LW_leave_13 : decode c_LW_leave 13 = .ok (.ireturn, 1) := by decide +kernel
theorem d_LW_leave_14 : decode c_LW_leave 14 = .ok (.astore_n 2, 1) := by decide +kernel
theorem d_LW_leave_15 : decode c_LW_leave 15 = .ok (.iconst 3, 1) := by decide +kernel
theorem d_LW_leave_16 : decode c_LW_leave 16 = .ok (.ireturn, 1) := by decide +kernel
theorem d_LW_leave_17 : decode c_LW_leave 17 = .ok (.iconst 0, 1) := by decide +kernel
theorem d_LW_leave_18 : decode c_LW_leave 18 = .ok (.ireturn, 1) := by decide +kernel
theorem d_RC_leave_0 : decode c_RC_leave 0 = .ok (.aload_n 0, 1) := by decide +kernel
theorem d_RC_leave_1 : decode c_RC_leave 1 = .ok (.iload_n 1, 1) := by decide +kernel
theorem d_RC_leave_2 : decode c_RC_leave 2 = .ok (.invokevirtual 57, 3) := by decide +kernel
theorem d_RC_leave_5 : decode c_RC_leave 5 = .ok (.astore_n 2, 1) := by decide +kernel
theorem d_RC_leave_6 : decode c_RC_leave 6 = .ok (.aload_n 2, 1) := by decide +kernel
theorem d_RC_leave_7 : decode c_RC_leave 7 = .ok (.getfield 65, 3) := by decide +kernel
theorem d_RC_leave_10 : decode c_RC_leave 10 = .ok (.iconst (-1), 1) := by decide +kernel
theorem d_RC_leave_11 : decode c_RC_leave 11 = .ok (.if_icmp .ne 13, 3) := by decide +kernel
theorem d_RC_leave_14 : decode c_RC_leave 14 = .ok (.new 68, 3) := by decide +kernel
theorem d_RC_leave_17 : decode c_RC_leave 17 = .ok (.dup, 1) := by decide +kernel
theorem d_RC_leave_18 : decode c_RC_leave 18 = .ok (.ldc 77, 2) := by decide +kernel
theorem d_RC_leave_20 : decode c_RC_leave 20 = .ok (.invokespecial 72, 3) := by decide +kernel
theorem d_RC_leave_23 : decode c_RC_leave 23 = .ok (.athrow, 1) := by decide +kernel
theorem d_RC_leave_24 : decode c_RC_leave 24 = .ok (.aload_n 0, 1) := by decide +kernel
theorem d_RC_leave_25 : decode c_RC_leave 25 = .ok (.iload_n 1, 1) := by decide +kernel
theorem d_RC_leave_26 : decode c_RC_leave 26 = .ok (.iconst (-1), 1) := by decide +kernel
theorem d_RC_leave_27 : decode c_RC_leave 27 = .ok (.invokevirtual 73, 3) := by decide +kernel
theorem d_RC_leave_30 : decode c_RC_leave 30 = .ok (.aload_n 2, 1) := by decide +kernel
theorem d_RC_leave_31 : decode c_RC_leave 31 = .ok (.iconst (-1), 1) := by decide +kernel
theorem d_RC_leave_32 : decode c_RC_leave 32 = .ok (.putfield 65, 3) := by decide +kernel
theorem d_RC_leave_35 : decode c_RC_leave 35 = .ok (.aload_n 2, 1) := by decide +kernel
theorem d_RC_leave_36 : decode c_RC_leave 36 = .ok (.aload_n 0, 1) := by decide +kernel
theorem d_RC_leave_37 : decode c_RC_leave 37 = .ok (.getfield 23, 3) := by decide +kernel
theorem d_RC_leave_40 : decode c_RC_leave 40 = .ok (.invokevirtual 39, 3) := by decide +kernel
theorem d_RC_leave_43 : decode c_RC_leave 43 = .ok (.putfield 79, 3) := by decide +kernel
theorem d_RC_leave_46 : decode c_RC_leave 46 = .ok (.return_, 1) := by decide +kernel
theorem d_LW_guests_0 : decode c_LW_guests 0 = .ok (.aload_n 0, 1) := by decide +kernel
theorem d_LW_guests_1 : decode c_LW_guests 1 = .ok (.iload_n 1, 1) := by decide +kernel
theorem d_LW_guests_2 : decode c_LW_guests 2 = .ok (.iload_n 2, 1) := by decide +kernel
theorem d_LW_guests_3 : decode c_LW_guests 3 = .ok (.invokevirtual 27, 3) := by decide +kernel
theorem d_LW_guests_6 : decode c_LW_guests 6 = .ok (.goto 9, 3) := by decide +kernel
theorem d_LW_guests_9 : decode c_LW_guests 9 = .ok (.astore_n 3, 1) := by decide +kernel
theorem d_LW_guests_10 : decode c_LW_guests 10 = .ok (.iconst 1, 1) := by decide +kernel
theorem d_LW_guests_11 : decode c_LW_guests 11 = .ok (.ireturn, 1) := by decide +kernel
theorem d_LW_guests_12 : decode c_LW_guests 12 = .ok (.astore_n 3, 1) := by decide +kernel
theorem d_LW_guests_13 : decode c_LW_guests 13 = .ok (.iconst 2, 1) := by decide +kernel
theorem d_LW_guests_14 : decode c_LW_guests 14 = .ok (.ireturn, 1) := by decide +kernel
theorem d_LW_guests_15 : decode c_LW_guests 15 = .ok (.iconst 0, 1) := by decide +kernel
theorem d_LW_guests_16 : decode c_LW_guests 16 = .ok (.ireturn, 1) := by decide +kernel
theorem d_RC_guests_0 : decode c_RC_guests 0 = .ok (.iload_n 1, 1) := by decide +kernel
theorem d_RC_guests_1 : decode c_RC_guests 1 = .ok (.invokestatic 61, 3) := by decide +kernel
theorem d_RC_guests_4 : decode c_RC_guests 4 = .ok (.iload_n 2, 1) := by decide +kernel
theorem d_RC_guests_5 : decode c_RC_guests 5 = .ok (.ifCond .lt 10, 3) := by decide +kernel
theorem d_RC_guests_8 : decode c_RC_guests 8 = .ok (.iload_n 2, 1) := by decide +kernel
theorem d_RC_guests_9 : decode c_RC_guests 9 = .ok (.sipush 999, 3) := by decide +kernel
theorem d_RC_guests_12 : decode c_RC_guests 12 = .ok (.if_icmp .le 13, 3) := by decide +kernel
theorem d_RC_guests_15 : decode c_RC_guests 15 = .ok (.new 82, 3) := by decide +kernel
theorem d_RC_guests_18 : decode c_RC_guests 18 = .ok (.dup, 1) := by decide +kernel
theorem d_RC_guests_19 : decode c_RC_guests 19 = .ok (.ldc 84, 2) := by decide +kernel
theorem d_RC_guests_21 : decode c_RC_guests 21 = .ok (.invokespecial 86, 3) := by decide +kernel
theorem d_RC_guests_24 : decode c_RC_guests 24 = .ok (.athrow, 1) := by decide +kernel
theorem d_RC_guests_25 : decode c_RC_guests 25 = .ok (.aload_n 0, 1) := by decide +kernel
theorem d_RC_guests_26 : decode c_RC_guests 26 = .ok (.getfield 9, 3) := by decide +kernel
theorem d_RC_guests_29 : decode c_RC_guests 29 = .ok (.iload_n 1, 1) := by decide +kernel
theorem d_RC_guests_30 : decode c_RC_guests 30 = .ok (.iload_n 2, 1) := by decide +kernel
theorem d_RC_guests_31 : decode c_RC_guests 31 = .ok (.iastore, 1) := by decide +kernel
theorem d_RC_guests_32 : decode c_RC_guests 32 = .ok (.return_, 1) := by decide +kernel
theorem d_LW_roll_0 : decode c_LW_roll 0 = .ok (.aload_n 2, 1) := by decide +kernel
theorem d_LW_roll_1 : decode c_LW_roll 1 = .ok (.iconst 0, 1) := by decide +kernel
theorem d_LW_roll_2 : decode c_LW_roll 2 = .ok (.aload_n 0, 1) := by decide +kernel
theorem d_LW_roll_3 : decode c_LW_roll 3 = .ok (.iload_n 1, 1) := by decide +kernel
theorem d_LW_roll_4 : decode c_LW_roll 4 = .ok (.invokevirtual 32, 3) := by decide +kernel
theorem d_LW_roll_7 : decode c_LW_roll 7 = .ok (.i2l, 1) := by decide +kernel
theorem d_LW_roll_8 : decode c_LW_roll 8 = .ok (.lastore, 1) := by decide +kernel
theorem d_LW_roll_9 : decode c_LW_roll 9 = .ok (.goto 12, 3) := by decide +kernel
theorem d_LW_roll_12 : decode c_LW_roll 12 = .ok (.astore_n 3, 1) := by decide +kernel
theorem d_LW_roll_13 : decode c_LW_roll 13 = .ok (.iconst 1, 1) := by decide +kernel
theorem d_LW_roll_14 : decode c_LW_roll 14 = .ok (.ireturn, 1) := by decide +kernel
theorem d_LW_roll_15 : decode c_LW_roll 15 = .ok (.astore_n 3, 1) := by decide +kernel
theorem d_LW_roll_16 : decode c_LW_roll 16 = .ok (.iconst 2, 1) := by decide +kernel
theorem d_LW_roll_17 : decode c_LW_roll 17 = .ok (.ireturn, 1) := by decide +kernel
theorem d_LW_roll_18 : decode c_LW_roll 18 = .ok (.astore_n 3, 1) := by decide +kernel
theorem d_LW_roll_19 : decode c_LW_roll 19 = .ok (.iconst 3, 1) := by decide +kernel
theorem d_LW_roll_20 : decode c_LW_roll 20 = .ok (.ireturn, 1) := by decide +kernel
theorem d_LW_roll_21 : decode c_LW_roll 21 = .ok (.iconst 0, 1) := by decide +kernel
theorem d_LW_roll_22 : decode c_LW_roll 22 = .ok (.ireturn, 1) := by decide +kernel
theorem d_RC_roll_0 : decode c_RC_roll 0 = .ok (.iload_n 1, 1) := by decide +kernel
theorem d_RC_roll_1 : decode c_RC_roll 1 = .ok (.iconst (-1), 1) := by decide +kernel
theorem d_RC_roll_2 : decode c_RC_roll 2 = .ok (.if_icmp .eq 7, 3) := by decide +kernel
theorem d_RC_roll_5 : decode c_RC_roll 5 = .ok (.iload_n 1, 1) := by decide +kernel
theorem d_RC_roll_6 : decode c_RC_roll 6 = .ok (.invokestatic 61, 3) := by decide +kernel
theorem d_RC_roll_9 : decode c_RC_roll 9 = .ok (.aload_n 0, 1) := by decide +kernel
theorem d_RC_roll_10 : decode c_RC_roll 10 = .ok (.iload_n 1, 1) := by decide +kernel
theorem d_RC_roll_11 : decode c_RC_roll 11 = .ok (.invokevirtual 112, 3) := by decide +kernel
theorem d_RC_roll_14 : decode c_RC_roll 14 = .ok (.ifCond .ne 10, 3) := by decide +kernel
theorem d_RC_roll_17 : decode c_RC_roll 17 = .ok (.aload_n 0, 1) := by decide +kernel
theorem d_RC_roll_18 : decode c_RC_roll 18 = .ok (.invokevirtual 116, 3) := by decide +kernel
theorem d_RC_roll_21 : decode c_RC_roll 21 = .ok (.ifCond .le 13, 3) := by decide +kernel
theorem d_RC_roll_24 : decode c_RC_roll 24 = .ok (.new 68, 3) := by decide +kernel
theorem d_RC_roll_27 : decode c_RC_roll 27 = .ok (.dup, 1) := by decide +kernel
theorem d_RC_roll_28 : decode c_RC_roll 28 = .ok (.ldc 119, 2) := by decide +kernel
theorem d_RC_roll_30 : decode c_RC_roll 30 = .ok (.invokespecial 72, 3) := by decide +kernel
theorem d_RC_roll_33 : decode c_RC_roll 33 = .ok (.athrow, 1) := by decide +kernel
theorem d_RC_roll_34 : decode c_RC_roll 34 = .ok (.aload_n 0, 1) := by decide +kernel
theorem d_RC_roll_35 : decode c_RC_roll 35 = .ok (.getfield 23, 3) := by decide +kernel
theorem d_RC_roll_38 : decode c_RC_roll 38 = .ok (.invokevirtual 39, 3) := by decide +kernel
theorem d_RC_roll_41 : decode c_RC_roll 41 = .ok (.bipush 40, 2) := by decide +kernel
theorem d_RC_roll_43 : decode c_RC_roll 43 = .ok (.if_icmp .lt 13, 3) := by decide +kernel
theorem d_RC_roll_46 : decode c_RC_roll 46 = .ok (.new 43, 3) := by decide +kernel
theorem d_RC_roll_49 : decode c_RC_roll 49 = .ok (.dup, 1) := by decide +kernel
theorem d_RC_roll_50 : decode c_RC_roll 50 = .ok (.ldc 121, 2) := by decide +kernel
theorem d_RC_roll_52 : decode c_RC_roll 52 = .ok (.invokespecial 47, 3) := by decide +kernel
theorem d_RC_roll_55 : decode c_RC_roll 55 = .ok (.athrow, 1) := by decide +kernel
theorem d_RC_roll_56 : decode c_RC_roll 56 = .ok (.new 123, 3) := by decide +kernel
theorem d_RC_roll_59 : decode c_RC_roll 59 = .ok (.dup, 1) := by decide +kernel
theorem d_RC_roll_60 : decode c_RC_roll 60 = .ok (.aload_n 0, 1) := by decide +kernel
theorem d_RC_roll_61 : decode c_RC_roll 61 = .ok (.getfield 23, 3) := by decide +kernel
theorem d_RC_roll_64 : decode c_RC_roll 64 = .ok (.invokevirtual 39, 3) := by decide +kernel
theorem d_RC_roll_67 : decode c_RC_roll 67 = .ok (.iload_n 1, 1) := by decide +kernel
theorem d_RC_roll_68 : decode c_RC_roll 68 = .ok (.aload_n 0, 1) := by decide +kernel
theorem d_RC_roll_69 : decode c_RC_roll 69 = .ok (.getfield 16, 3) := by decide +kernel
theorem d_RC_roll_72 : decode c_RC_roll 72 = .ok (.invokevirtual 39, 3) := by decide +kernel
theorem d_RC_roll_75 : decode c_RC_roll 75 = .ok (.invokespecial 125, 3) := by decide +kernel
theorem d_RC_roll_78 : decode c_RC_roll 78 = .ok (.astore_n 2, 1) := by decide +kernel
theorem d_RC_roll_79 : decode c_RC_roll 79 = .ok (.aload_n 0, 1) := by decide +kernel
theorem d_RC_roll_80 : decode c_RC_roll 80 = .ok (.aload_n 2, 1) := by decide +kernel
theorem d_RC_roll_81 : decode c_RC_roll 81 = .ok (.invokevirtual 126, 3) := by decide +kernel
theorem d_RC_roll_84 : decode c_RC_roll 84 = .ok (.aload_n 2, 1) := by decide +kernel
theorem d_RC_roll_85 : decode c_RC_roll 85 = .ok (.invokevirtual 130, 3) := by decide +kernel
theorem d_RC_roll_88 : decode c_RC_roll 88 = .ok (.aload_n 0, 1) := by decide +kernel
theorem d_RC_roll_89 : decode c_RC_roll 89 = .ok (.getfield 23, 3) := by decide +kernel
theorem d_RC_roll_92 : decode c_RC_roll 92 = .ok (.aload_n 2, 1) := by decide +kernel
theorem d_RC_roll_93 : decode c_RC_roll 93 = .ok (.invokevirtual 53, 3) := by decide +kernel
theorem d_RC_roll_96 : decode c_RC_roll 96 = .ok (.pop, 1) := by decide +kernel
theorem d_RC_roll_97 : decode c_RC_roll 97 = .ok (.aload_n 2, 1) := by decide +kernel
theorem d_RC_roll_98 : decode c_RC_roll 98 = .ok (.getfield 133, 3) := by decide +kernel
theorem d_RC_roll_101 : decode c_RC_roll 101 = .ok (.ireturn, 1) := by decide +kernel
