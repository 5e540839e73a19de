/-! what is known at the law's entry; the claim -/
theorem ks_cast_0 : Cond.castable "java/lang/UnsupportedOperationException" "java/lang/UnsupportedOperationException" ∈ lw_tbl := List.mem_of_getElem? (i := 140) (by decide +kernel)
theorem ks_cast_1 : Cond.castable "java/lang/IllegalArgumentException" "java/lang/IllegalArgumentException" ∈ lw_tbl := List.mem_of_getElem? (i := 301) (by decide +kernel)
theorem ks_cast_2 : Cond.castable "java/lang/IllegalStateException" "java/lang/IllegalStateException" ∈ lw_tbl := List.mem_of_getElem? (i := 335) (by decide +kernel)
theorem ks_cast_3 : Cond.castable "java/lang/IndexOutOfBoundsException" "java/lang/IndexOutOfBoundsException" ∈ lw_tbl := List.mem_of_getElem? (i := 391) (by decide +kernel)
theorem ks_cast_4 : Cond.castable "RollCalls$Person" "RollCalls$Person" ∈ lw_tbl := List.mem_of_getElem? (i := 1033) (by decide +kernel)
theorem ks_cast_5 : Cond.castable "RollCalls$Roll" "RollCalls$Roll" ∈ lw_tbl := List.mem_of_getElem? (i := 1034) (by decide +kernel)
theorem ks_cast_6 : Cond.castable "RollCalls$Mayday" "RollCalls$Mayday" ∈ lw_tbl := List.mem_of_getElem? (i := 1035) (by decide +kernel)
theorem ks_cast_7 : Cond.castable "RollCalls$DoubleCount" "RollCalls$DoubleCount" ∈ lw_tbl := List.mem_of_getElem? (i := 1036) (by decide +kernel)
theorem ks_cast_8 : Cond.castable "RollCalls$Evacuation" "RollCalls$Evacuation" ∈ lw_tbl := List.mem_of_getElem? (i := 1037) (by decide +kernel)
theorem ks_cast_9 : Cond.castable "RollCalls$Move" "RollCalls$Move" ∈ lw_tbl := List.mem_of_getElem? (i := 1038) (by decide +kernel)
theorem ks_cast_10 : Cond.castable "RollCalls" "java/lang/Object" ∈ lw_tbl := List.mem_of_getElem? (i := 1042) (by decide +kernel)
theorem ks_cast_11 : Cond.castable "RollCallsModel" "java/lang/Object" ∈ lw_tbl := List.mem_of_getElem? (i := 1043) (by decide +kernel)
theorem ks_cast_12 : Cond.castable "RollCalls$Person" "java/lang/Object" ∈ lw_tbl := List.mem_of_getElem? (i := 1044) (by decide +kernel)
theorem ks_cast_13 : Cond.castable "RollCalls$Move" "java/lang/Object" ∈ lw_tbl := List.mem_of_getElem? (i := 1045) (by decide +kernel)
theorem ks_cast_14 : Cond.castable "RollCalls$Roll" "java/lang/Object" ∈ lw_tbl := List.mem_of_getElem? (i := 1046) (by decide +kernel)
theorem ks_cast_15 : Cond.castable "RollCalls$DoubleCount" "java/lang/Object" ∈ lw_tbl := List.mem_of_getElem? (i := 1047) (by decide +kernel)
theorem ks_cast_16 : Cond.castable "RollCalls$Mayday" "java/lang/Object" ∈ lw_tbl := List.mem_of_getElem? (i := 1048) (by decide +kernel)
theorem ks_cast_17 : Cond.castable "RollCalls$Evacuation" "java/lang/Object" ∈ lw_tbl := List.mem_of_getElem? (i := 1049) (by decide +kernel)
theorem ks_cast_18 : Cond.castable "java/lang/String" "java/lang/Object" ∈ lw_tbl := List.mem_of_getElem? (i := 1050) (by decide +kernel)
theorem ks_cast : ∀ x ∈ zcast, Cond.castable x.1 x.2 ∈ lw_tbl := (List.forall_mem_cons.mpr ⟨ks_cast_0, (List.forall_mem_cons.mpr ⟨ks_cast_1, (List.forall_mem_cons.mpr ⟨ks_cast_2, (List.forall_mem_cons.mpr ⟨ks_cast_3, (List.forall_mem_cons.mpr ⟨ks_cast_4, (List.forall_mem_cons.mpr ⟨ks_cast_5, (List.forall_mem_cons.mpr ⟨ks_cast_6, (List.forall_mem_cons.mpr ⟨ks_cast_7, (List.forall_mem_cons.mpr ⟨ks_cast_8, (List.forall_mem_cons.mpr ⟨ks_cast_9, (List.forall_mem_cons.mpr ⟨ks_cast_10, (List.forall_mem_cons.mpr ⟨ks_cast_11, (List.forall_mem_cons.mpr ⟨ks_cast_12, (List.forall_mem_cons.mpr ⟨ks_cast_13, (List.forall_mem_cons.mpr ⟨ks_cast_14, (List.forall_mem_cons.mpr ⟨ks_cast_15, (List.forall_mem_cons.mpr ⟨ks_cast_16, (List.forall_mem_cons.mpr ⟨ks_cast_17, (List.forall_mem_cons.mpr ⟨ks_cast_18, (fun _ h => absurd h List.not_mem_nil)⟩)⟩)⟩)⟩)⟩)⟩)⟩)⟩)⟩)⟩)⟩)⟩)⟩)⟩)⟩)⟩)⟩)⟩)⟩)
theorem ks_decl_0 : Cond.declares ⟨"java/lang/RuntimeException", "<init>", "()V"⟩ ∈ lw_tbl := List.mem_of_getElem? (i := 141) (by decide +kernel)
theorem ks_decl_1 : Cond.declares ⟨"java/lang/RuntimeException", "<init>", "(Ljava/lang/String;)V"⟩ ∈ lw_tbl := List.mem_of_getElem? (i := 142) (by decide +kernel)
theorem ks_decl_2 : Cond.declares ⟨"java/lang/Exception", "<init>", "()V"⟩ ∈ lw_tbl := List.mem_of_getElem? (i := 143) (by decide +kernel)
theorem ks_decl_3 : Cond.declares ⟨"java/lang/Exception", "<init>", "(Ljava/lang/String;)V"⟩ ∈ lw_tbl := List.mem_of_getElem? (i := 144) (by decide +kernel)
theorem ks_decl_4 : Cond.declares ⟨"java/lang/Throwable", "<init>", "()V"⟩ ∈ lw_tbl := List.mem_of_getElem? (i := 145) (by decide +kernel)
theorem ks_decl_5 : Cond.declares ⟨"java/lang/Throwable", "<init>", "(Ljava/lang/String;)V"⟩ ∈ lw_tbl := List.mem_of_getElem? (i := 146) (by decide +kernel)
theorem ks_decl_6 : Cond.declares ⟨"java/lang/Object", "getClass", "()Ljava/lang/Class;"⟩ ∈ lw_tbl := List.mem_of_getElem? (i := 1041) (by decide +kernel)
theorem ks_decl : ∀ x ∈ zdecl, Cond.declares x ∈ lw_tbl := (List.forall_mem_cons.mpr ⟨ks_decl_0, (List.forall_mem_cons.mpr ⟨ks_decl_1, (List.forall_mem_cons.mpr ⟨ks_decl_2, (List.forall_mem_cons.mpr ⟨ks_decl_3, (List.forall_mem_cons.mpr ⟨ks_decl_4, (List.forall_mem_cons.mpr ⟨ks_decl_5, (List.forall_mem_cons.mpr ⟨ks_decl_6, (fun _ h => absurd h List.not_mem_nil)⟩)⟩)⟩)⟩)⟩)⟩)⟩)
theorem ks_priv_0 : Cond.privateMethod ⟨"java/lang/Throwable", "fillInStackTrace", "(I)Ljava/lang/Throwable;"⟩ ∈ lw_tbl := List.mem_of_getElem? (i := 176) (by decide +kernel)
theorem ks_priv : ∀ x ∈ zpriv, Cond.privateMethod x ∈ lw_tbl := (List.forall_mem_cons.mpr ⟨ks_priv_0, (fun _ h => absurd h List.not_mem_nil)⟩)
theorem ks_str_0 : Cond.stringRef "RollCalls" 45 "no room for a person" ∈ lw_tbl := List.mem_of_getElem? (i := 180) (by decide +kernel)
theorem ks_str_1 : Cond.stringRef "RollCalls" 102 "no such person" ∈ lw_tbl := List.mem_of_getElem? (i := 308) (by decide +kernel)
theorem ks_str_2 : Cond.stringRef "RollCalls" 105 "no such sector" ∈ lw_tbl := List.mem_of_getElem? (i := 332) (by decide +kernel)
theorem ks_str_3 : Cond.stringRef "RollCalls" 70 "the person is in that sector" ∈ lw_tbl := List.mem_of_getElem? (i := 342) (by decide +kernel)
theorem ks_str_4 : Cond.stringRef "RollCalls" 107 "no room for a move" ∈ lw_tbl := List.mem_of_getElem? (i := 353) (by decide +kernel)
theorem ks_str_5 : Cond.stringRef "RollCalls" 77 "the person is outside" ∈ lw_tbl := List.mem_of_getElem? (i := 380) (by decide +kernel)
theorem ks_str_6 : Cond.stringRef "RollCalls" 84 "guests are 0 to 999" ∈ lw_tbl := List.mem_of_getElem? (i := 398) (by decide +kernel)
theorem ks_str_7 : Cond.stringRef "RollCalls" 119 "a roll is on there, or a mayday is open" ∈ lw_tbl := List.mem_of_getElem? (i := 430) (by decide +kernel)
theorem ks_str_8 : Cond.stringRef "RollCalls" 121 "no room for a roll" ∈ lw_tbl := List.mem_of_getElem? (i := 431) (by decide +kernel)
theorem ks_str_9 : Cond.stringRef "RollCalls" 225 "no such roll" ∈ lw_tbl := List.mem_of_getElem? (i := 500) (by decide +kernel)
theorem ks_str_10 : Cond.stringRef "RollCalls" 227 "the roll is over" ∈ lw_tbl := List.mem_of_getElem? (i := 504) (by decide +kernel)
theorem ks_str_11 : Cond.stringRef "RollCalls" 235 "no room for a double" ∈ lw_tbl := List.mem_of_getElem? (i := 541) (by decide +kernel)
theorem ks_str_12 : Cond.stringRef "RollCalls" 171 "guests seen at a time are 0 to 999" ∈ lw_tbl := List.mem_of_getElem? (i := 549) (by decide +kernel)
theorem ks_str_13 : Cond.stringRef "RollCalls" 176 "no room for so many guests seen" ∈ lw_tbl := List.mem_of_getElem? (i := 550) (by decide +kernel)
theorem ks_str_14 : Cond.stringRef "RollCalls" 178 "a mayday is open" ∈ lw_tbl := List.mem_of_getElem? (i := 558) (by decide +kernel)
theorem ks_str_15 : Cond.stringRef "RollCalls" 203 "no such what" ∈ lw_tbl := List.mem_of_getElem? (i := 578) (by decide +kernel)
theorem ks_str_16 : Cond.stringRef "RollCalls" 205 "i is below 0" ∈ lw_tbl := List.mem_of_getElem? (i := 586) (by decide +kernel)
theorem ks_str_17 : Cond.stringRef "RollCalls" 207 "the roll is not over" ∈ lw_tbl := List.mem_of_getElem? (i := 587) (by decide +kernel)
theorem ks_str_18 : Cond.stringRef "RollCalls" 213 "no such double" ∈ lw_tbl := List.mem_of_getElem? (i := 599) (by decide +kernel)
theorem ks_str_19 : Cond.stringRef "RollCalls" 243 "places are 0 to 999" ∈ lw_tbl := List.mem_of_getElem? (i := 607) (by decide +kernel)
theorem ks_str_20 : Cond.stringRef "RollCalls" 248 "the person is outside, or has an open mayday" ∈ lw_tbl := List.mem_of_getElem? (i := 612) (by decide +kernel)
theorem ks_str_21 : Cond.stringRef "RollCalls" 250 "no room for a mayday" ∈ lw_tbl := List.mem_of_getElem? (i := 613) (by decide +kernel)
theorem ks_str_22 : Cond.stringRef "RollCalls" 279 "no such mayday" ∈ lw_tbl := List.mem_of_getElem? (i := 659) (by decide +kernel)
theorem ks_str_23 : Cond.stringRef "RollCalls" 266 "the mayday was answered" ∈ lw_tbl := List.mem_of_getElem? (i := 660) (by decide +kernel)
theorem ks_str_24 : Cond.stringRef "RollCalls" 284 "an evacuation has 1 to 10,000 seconds" ∈ lw_tbl := List.mem_of_getElem? (i := 679) (by decide +kernel)
theorem ks_str_25 : Cond.stringRef "RollCalls" 330 "no such evacuation" ∈ lw_tbl := List.mem_of_getElem? (i := 692) (by decide +kernel)
theorem ks_str_26 : Cond.stringRef "RollCalls" 289 "an evacuation is on" ∈ lw_tbl := List.mem_of_getElem? (i := 694) (by decide +kernel)
theorem ks_str_27 : Cond.stringRef "RollCalls" 302 "nobody would have to confirm" ∈ lw_tbl := List.mem_of_getElem? (i := 728) (by decide +kernel)
theorem ks_str_28 : Cond.stringRef "RollCalls" 304 "no room for an evacuation" ∈ lw_tbl := List.mem_of_getElem? (i := 729) (by decide +kernel)
theorem ks_str_29 : Cond.stringRef "RollCalls" 306 "no evacuation is on" ∈ lw_tbl := List.mem_of_getElem? (i := 737) (by decide +kernel)
theorem ks_str_30 : Cond.stringRef "RollCalls" 316 "the sector need not confirm, or did" ∈ lw_tbl := List.mem_of_getElem? (i := 738) (by decide +kernel)
theorem ks_str_31 : Cond.stringRef "RollCalls" 322 "1 to 5,000 seconds, up to second 99,999" ∈ lw_tbl := List.mem_of_getElem? (i := 754) (by decide +kernel)
theorem ks_str_32 : Cond.stringRef "RollCalls" 87 "a second to come, or below 0" ∈ lw_tbl := List.mem_of_getElem? (i := 766) (by decide +kernel)
theorem ks_str : ∀ x ∈ zstr, Cond.stringRef x.1 x.2.1 x.2.2 ∈ lw_tbl := (List.forall_mem_cons.mpr ⟨ks_str_0, (List.forall_mem_cons.mpr ⟨ks_str_1, (List.forall_mem_cons.mpr ⟨ks_str_2, (List.forall_mem_cons.mpr ⟨ks_str_3, (List.forall_mem_cons.mpr ⟨ks_str_4, (List.forall_mem_cons.mpr ⟨ks_str_5, (List.forall_mem_cons.mpr ⟨ks_str_6, (List.forall_mem_cons.mpr ⟨ks_str_7, (List.forall_mem_cons.mpr ⟨ks_str_8, (List.forall_mem_cons.mpr ⟨ks_str_9, (List.forall_mem_cons.mpr ⟨ks_str_10, (List.forall_mem_cons.mpr ⟨ks_str_11, (List.forall_mem_cons.mpr ⟨ks_str_12, (List.forall_mem_cons.mpr ⟨ks_str_13, (List.forall_mem_cons.mpr ⟨ks_str_14, (List.forall_mem_cons.mpr ⟨ks_str_15, (List.forall_mem_cons.mpr ⟨ks_str_16, (List.forall_mem_cons.mpr ⟨ks_str_17, (List.forall_mem_cons.mpr ⟨ks_str_18, (List.forall_mem_cons.mpr ⟨ks_str_19, (List.forall_mem_cons.mpr ⟨ks_str_20, (List.forall_mem_cons.mpr ⟨ks_str_21, (List.forall_mem_cons.mpr ⟨ks_str_22, (List.forall_mem_cons.mpr ⟨ks_str_23, (List.forall_mem_cons.mpr ⟨ks_str_24, (List.forall_mem_cons.mpr ⟨ks_str_25, (List.forall_mem_cons.mpr ⟨ks_str_26, (List.forall_mem_cons.mpr ⟨ks_str_27, (List.forall_mem_cons.mpr ⟨ks_str_28, (List.forall_mem_cons.mpr ⟨ks_str_29, (List.forall_mem_cons.mpr ⟨ks_str_30, (List.forall_mem_cons.mpr ⟨ks_str_31, (List.forall_mem_cons.mpr ⟨ks_str_32, (fun _ h => absurd h List.not_mem_nil)⟩)⟩)⟩)⟩)⟩)⟩)⟩)⟩)⟩)⟩)⟩)⟩)⟩)⟩)⟩)⟩)⟩)⟩)⟩)⟩)⟩)⟩)⟩)⟩)⟩)⟩)⟩)⟩)⟩)⟩)⟩)⟩)⟩)
abbrev lw_pre : List Cond := flatC (Jvm.Cond.and given_1 narrow_1)
theorem kf_nc_0 : Cond.not (.castable "java/lang/IllegalArgumentException" "java/lang/IndexOutOfBoundsException") ∈ lw_pre := List.mem_of_getElem? (i := 51) (by decide +kernel)
theorem kf_nc_1 : Cond.not (.castable "java/lang/IllegalArgumentException" "java/lang/IllegalStateException") ∈ lw_pre := List.mem_of_getElem? (i := 39) (by decide +kernel)
theorem kf_nc_2 : Cond.not (.castable "java/lang/IllegalArgumentException" "java/lang/UnsupportedOperationException") ∈ lw_pre := List.mem_of_getElem? (i := 14) (by decide +kernel)
theorem kf_nc_3 : Cond.not (.castable "java/lang/IndexOutOfBoundsException" "java/lang/IllegalArgumentException") ∈ lw_pre := List.mem_of_getElem? (i := 29) (by decide +kernel)
theorem kf_nc_4 : Cond.not (.castable "java/lang/IndexOutOfBoundsException" "java/lang/IllegalStateException") ∈ lw_pre := List.mem_of_getElem? (i := 41) (by decide +kernel)
theorem kf_nc_5 : Cond.not (.castable "java/lang/IndexOutOfBoundsException" "java/lang/UnsupportedOperationException") ∈ lw_pre := List.mem_of_getElem? (i := 17) (by decide +kernel)
theorem kf_nc_6 : Cond.not (.castable "java/lang/IllegalStateException" "java/lang/IllegalArgumentException") ∈ lw_pre := List.mem_of_getElem? (i := 27) (by decide +kernel)
theorem kf_nc_7 : Cond.not (.castable "java/lang/IllegalStateException" "java/lang/IndexOutOfBoundsException") ∈ lw_pre := List.mem_of_getElem? (i := 52) (by decide +kernel)
theorem kf_nc_8 : Cond.not (.castable "java/lang/IllegalStateException" "java/lang/UnsupportedOperationException") ∈ lw_pre := List.mem_of_getElem? (i := 15) (by decide +kernel)
theorem kf_nc_9 : Cond.not (.castable "java/lang/UnsupportedOperationException" "java/lang/IllegalArgumentException") ∈ lw_pre := List.mem_of_getElem? (i := 25) (by decide +kernel)
theorem kf_nc_10 : Cond.not (.castable "java/lang/UnsupportedOperationException" "java/lang/IndexOutOfBoundsException") ∈ lw_pre := List.mem_of_getElem? (i := 49) (by decide +kernel)
theorem kf_nc_11 : Cond.not (.castable "java/lang/UnsupportedOperationException" "java/lang/IllegalStateException") ∈ lw_pre := List.mem_of_getElem? (i := 37) (by decide +kernel)
theorem kf_nc : ∀ x ∈ znc, Cond.not (.castable x.1 x.2) ∈ lw_pre := (List.forall_mem_cons.mpr ⟨kf_nc_0, (List.forall_mem_cons.mpr ⟨kf_nc_1, (List.forall_mem_cons.mpr ⟨kf_nc_2, (List.forall_mem_cons.mpr ⟨kf_nc_3, (List.forall_mem_cons.mpr ⟨kf_nc_4, (List.forall_mem_cons.mpr ⟨kf_nc_5, (List.forall_mem_cons.mpr ⟨kf_nc_6, (List.forall_mem_cons.mpr ⟨kf_nc_7, (List.forall_mem_cons.mpr ⟨kf_nc_8, (List.forall_mem_cons.mpr ⟨kf_nc_9, (List.forall_mem_cons.mpr ⟨kf_nc_10, (List.forall_mem_cons.mpr ⟨kf_nc_11, (fun _ h => absurd h List.not_mem_nil)⟩)⟩)⟩)⟩)⟩)⟩)⟩)⟩)⟩)⟩)⟩)⟩)
theorem kf_str_0 : Cond.exactly (.string "RollCalls" 45) "java/lang/String" ∈ lw_pre := List.mem_of_getElem? (i := 59) (by decide +kernel)
theorem kf_str_1 : Cond.exactly (.string "RollCalls" 102) "java/lang/String" ∈ lw_pre := List.mem_of_getElem? (i := 83) (by decide +kernel)
theorem kf_str_2 : Cond.exactly (.string "RollCalls" 105) "java/lang/String" ∈ lw_pre := List.mem_of_getElem? (i := 101) (by decide +kernel)
theorem kf_str_3 : Cond.exactly (.string "RollCalls" 70) "java/lang/String" ∈ lw_pre := List.mem_of_getElem? (i := 119) (by decide +kernel)
theorem kf_str_4 : Cond.exactly (.string "RollCalls" 107) "java/lang/String" ∈ lw_pre := List.mem_of_getElem? (i := 151) (by decide +kernel)
theorem kf_str_5 : Cond.exactly (.string "RollCalls" 77) "java/lang/String" ∈ lw_pre := List.mem_of_getElem? (i := 173) (by decide +kernel)
theorem kf_str_6 : Cond.exactly (.string "RollCalls" 84) "java/lang/String" ∈ lw_pre := List.mem_of_getElem? (i := 198) (by decide +kernel)
theorem kf_str_7 : Cond.exactly (.string "RollCalls" 119) "java/lang/String" ∈ lw_pre := List.mem_of_getElem? (i := 221) (by decide +kernel)
theorem kf_str_8 : Cond.exactly (.string "RollCalls" 121) "java/lang/String" ∈ lw_pre := List.mem_of_getElem? (i := 264) (by decide +kernel)
theorem kf_str_9 : Cond.exactly (.string "RollCalls" 225) "java/lang/String" ∈ lw_pre := List.mem_of_getElem? (i := 286) (by decide +kernel)
theorem kf_str_10 : Cond.exactly (.string "RollCalls" 227) "java/lang/String" ∈ lw_pre := List.mem_of_getElem? (i := 302) (by decide +kernel)
theorem kf_str_11 : Cond.exactly (.string "RollCalls" 235) "java/lang/String" ∈ lw_pre := List.mem_of_getElem? (i := 322) (by decide +kernel)
theorem kf_str_12 : Cond.exactly (.string "RollCalls" 171) "java/lang/String" ∈ lw_pre := List.mem_of_getElem? (i := 346) (by decide +kernel)
theorem kf_str_13 : Cond.exactly (.string "RollCalls" 176) "java/lang/String" ∈ lw_pre := List.mem_of_getElem? (i := 384) (by decide +kernel)
theorem kf_str_14 : Cond.exactly (.string "RollCalls" 178) "java/lang/String" ∈ lw_pre := List.mem_of_getElem? (i := 419) (by decide +kernel)
theorem kf_str_15 : Cond.exactly (.string "RollCalls" 203) "java/lang/String" ∈ lw_pre := List.mem_of_getElem? (i := 439) (by decide +kernel)
theorem kf_str_16 : Cond.exactly (.string "RollCalls" 205) "java/lang/String" ∈ lw_pre := List.mem_of_getElem? (i := 455) (by decide +kernel)
theorem kf_str_17 : Cond.exactly (.string "RollCalls" 207) "java/lang/String" ∈ lw_pre := List.mem_of_getElem? (i := 471) (by decide +kernel)
theorem kf_str_18 : Cond.exactly (.string "RollCalls" 213) "java/lang/String" ∈ lw_pre := List.mem_of_getElem? (i := 495) (by decide +kernel)
theorem kf_str_19 : Cond.exactly (.string "RollCalls" 243) "java/lang/String" ∈ lw_pre := List.mem_of_getElem? (i := 513) (by decide +kernel)
theorem kf_str_20 : Cond.exactly (.string "RollCalls" 248) "java/lang/String" ∈ lw_pre := List.mem_of_getElem? (i := 536) (by decide +kernel)
theorem kf_str_21 : Cond.exactly (.string "RollCalls" 250) "java/lang/String" ∈ lw_pre := List.mem_of_getElem? (i := 584) (by decide +kernel)
theorem kf_str_22 : Cond.exactly (.string "RollCalls" 279) "java/lang/String" ∈ lw_pre := List.mem_of_getElem? (i := 608) (by decide +kernel)
theorem kf_str_23 : Cond.exactly (.string "RollCalls" 266) "java/lang/String" ∈ lw_pre := List.mem_of_getElem? (i := 626) (by decide +kernel)
theorem kf_str_24 : Cond.exactly (.string "RollCalls" 284) "java/lang/String" ∈ lw_pre := List.mem_of_getElem? (i := 653) (by decide +kernel)
theorem kf_str_25 : Cond.exactly (.string "RollCalls" 330) "java/lang/String" ∈ lw_pre := List.mem_of_getElem? (i := 694) (by decide +kernel)
theorem kf_str_26 : Cond.exactly (.string "RollCalls" 289) "java/lang/String" ∈ lw_pre := List.mem_of_getElem? (i := 716) (by decide +kernel)
theorem kf_str_27 : Cond.exactly (.string "RollCalls" 302) "java/lang/String" ∈ lw_pre := List.mem_of_getElem? (i := 739) (by decide +kernel)
theorem kf_str_28 : Cond.exactly (.string "RollCalls" 304) "java/lang/String" ∈ lw_pre := List.mem_of_getElem? (i := 771) (by decide +kernel)
theorem kf_str_29 : Cond.exactly (.string "RollCalls" 306) "java/lang/String" ∈ lw_pre := List.mem_of_getElem? (i := 800) (by decide +kernel)
theorem kf_str_30 : Cond.exactly (.string "RollCalls" 316) "java/lang/String" ∈ lw_pre := List.mem_of_getElem? (i := 823) (by decide +kernel)
theorem kf_str_31 : Cond.exactly (.string "RollCalls" 322) "java/lang/String" ∈ lw_pre := List.mem_of_getElem? (i := 862) (by decide +kernel)
theorem kf_str_32 : Cond.exactly (.string "RollCalls" 87) "java/lang/String" ∈ lw_pre := List.mem_of_getElem? (i := 905) (by decide +kernel)
theorem kf_str : ∀ x ∈ zstr, Cond.exactly (.string x.1 x.2.1) "java/lang/String" ∈ lw_pre := (List.forall_mem_cons.mpr ⟨kf_str_0, (List.forall_mem_cons.mpr ⟨kf_str_1, (List.forall_mem_cons.mpr ⟨kf_str_2, (List.forall_mem_cons.mpr ⟨kf_str_3, (List.forall_mem_cons.mpr ⟨kf_str_4, (List.forall_mem_cons.mpr ⟨kf_str_5, (List.forall_mem_cons.mpr ⟨kf_str_6, (List.forall_mem_cons.mpr ⟨kf_str_7, (List.forall_mem_cons.mpr ⟨kf_str_8, (List.forall_mem_cons.mpr ⟨kf_str_9, (List.forall_mem_cons.mpr ⟨kf_str_10, (List.forall_mem_cons.mpr ⟨kf_str_11, (List.forall_mem_cons.mpr ⟨kf_str_12, (List.forall_mem_cons.mpr ⟨kf_str_13, (List.forall_mem_cons.mpr ⟨kf_str_14, (List.forall_mem_cons.mpr ⟨kf_str_15, (List.forall_mem_cons.mpr ⟨kf_str_16, (List.forall_mem_cons.mpr ⟨kf_str_17, (List.forall_mem_cons.mpr ⟨kf_str_18, (List.forall_mem_cons.mpr ⟨kf_str_19, (List.forall_mem_cons.mpr ⟨kf_str_20, (List.forall_mem_cons.mpr ⟨kf_str_21, (List.forall_mem_cons.mpr ⟨kf_str_22, (List.forall_mem_cons.mpr ⟨kf_str_23, (List.forall_mem_cons.mpr ⟨kf_str_24, (List.forall_mem_cons.mpr ⟨kf_str_25, (List.forall_mem_cons.mpr ⟨kf_str_26, (List.forall_mem_cons.mpr ⟨kf_str_27, (List.forall_mem_cons.mpr ⟨kf_str_28, (List.forall_mem_cons.mpr ⟨kf_str_29, (List.forall_mem_cons.mpr ⟨kf_str_30, (List.forall_mem_cons.mpr ⟨kf_str_31, (List.forall_mem_cons.mpr ⟨kf_str_32, (fun _ h => absurd h List.not_mem_nil)⟩)⟩)⟩)⟩)⟩)⟩)⟩)⟩)⟩)⟩)⟩)⟩)⟩)⟩)⟩)⟩)⟩)⟩)⟩)⟩)⟩)⟩)⟩)⟩)⟩)⟩)⟩)⟩)⟩)⟩)⟩)⟩)⟩)
set_option maxRecDepth 100000 in
theorem kz_start {s : State} {args : Array Value} (l : Launch) (hl : l.stackTraces = false) (hts : ∀ w ∈ lw_tbl, w.before args s = true) (hgv : (Jvm.Cond.and given_1 narrow_1).before args s = true) : ∃ g : zG, g.1 = l ∧ g.bs = s.heap.size ∧ Kz g s s.heap := by
  have hf : ∀ w ∈ lw_pre, w.before args s = true := flat_of_before _ hgv
  have hz : ∀ w ∈ zT, w.before args s = true := fun w hw => hts w (List.mem_filter.mp hw).1
  have hA : ∀ a : Nat, a < s.heap.size → ¬ (fun q : Nat => s.heap.size ≤ q) a := fun a h => Nat.not_le.mpr h
  obtain ⟨c0, s0, h0⟩ := u_known (C := "java/util/ArrayList") (T := T_AL) (N := 3) hz i_AL (hz _ k_34)
  obtain ⟨c1, s1, h1⟩ := u_known (C := "RollCalls$Person") (T := T_PE) (N := 3) hz i_PE (hz _ k_167)
  obtain ⟨c2, s2, h2⟩ := u_known (C := "RollCalls$Move") (T := T_MO) (N := 3) hz i_MO (hz _ k_314)
  obtain ⟨c3, s3, h3⟩ := u_known (C := "RollCalls$Roll") (T := T_RO) (N := 10) hz i_RO (hz _ k_391)
  obtain ⟨c4, s4, h4⟩ := u_known (C := "RollCalls$DoubleCount") (T := T_DC) (N := 4) hz i_DC (hz _ k_474)
  obtain ⟨c5, s5, h5⟩ := u_known (C := "RollCalls$Mayday") (T := T_MD) (N := 5) hz i_MD (hz _ k_573)
  obtain ⟨c6, s6, h6⟩ := u_known (C := "RollCalls$Evacuation") (T := T_EV) (N := 5) hz i_EV (hz _ k_654)
  obtain ⟨c7, s7, h7⟩ := u_known (C := "RollCalls") (T := T_RC) (N := 8) hz i_RC (hz _ k_26)
  obtain ⟨c8, s8, h8⟩ := u_known (C := "RollCallsModel") (T := T_MM) (N := 29) hz i_MM (hz _ k_742)
  obtain ⟨cI, kI, pI, fI, gI, jI⟩ := Cond.arrayClass_spec (hz _ k_59)
  obtain ⟨cZ, kZ, pZ, fZ, gZ, jZ⟩ := Cond.arrayClass_spec (hz _ k_678)
  obtain ⟨cJ, kJ, pJ, fJ, gJ, jJ⟩ := Cond.arrayClass_spec (hz _ k_990)
  have hao : va_AO "java/lang/Object" s := va_AO.of (hts (Cond.arrayOver (.object "java/lang/Object")) (List.mem_of_getElem? (i := 276) (by decide +kernel)))
  obtain ⟨pO, cO, kO, fO, -, gO, jO, nO⟩ := Cond.arrayOver_spec hao
  obtain ⟨ea, -, ce, -, hea, -, hce, -⟩ := Cond.exactly_spec (hf (Cond.exactly (.static "java/util/ArrayList" "DEFAULTCAPACITY_EMPTY_ELEMENTDATA" "[Ljava/lang/Object;") "[Ljava/lang/Object;") (List.mem_of_getElem? (i := 6) (by decide +kernel)))
  obtain ⟨ta, hta, hT⟩ := va_Tof (f := fun _ => .null) (N := 0) (A := fun q : Nat => s.heap.size ≤ q) (by decide) (hf (Cond.arrayOf (.static "java/util/ArrayList" "DEFAULTCAPACITY_EMPTY_ELEMENTDATA" "[Ljava/lang/Object;") (.object "java/lang/Object")) (List.mem_of_getElem? (i := 5) (by decide +kernel))) (va_eqt (hf (Cond.eq (.length (.static "java/util/ArrayList" "DEFAULTCAPACITY_EMPTY_ELEMENTDATA" "[Ljava/lang/Object;")) (.int 0)) (List.mem_of_getElem? (i := 7) (by decide +kernel)))) (fun j hj => absurd hj (Nat.not_lt_zero j)) hA
  obtain rfl : ea = ta := by
    have := hea.symm.trans hta
    injection this with this
    injection this
  obtain ⟨mi, hmi⟩ := va_Mi.of (hf (Cond.isRef (.mirror "[Ljava/lang/Object;")) (List.mem_of_getElem? (i := 58) (by decide +kernel)))
  refine ⟨(l, (fun k => if k = 0 then c0 else if k = 1 then c1 else if k = 2 then c2 else if k = 3 then c3 else if k = 4 then c4 else if k = 5 then c5 else if k = 6 then c6 else if k = 7 then c7 else c8, fun k => if k = 0 then s0 else if k = 1 then s1 else if k = 2 then s2 else if k = 3 then s3 else if k = 4 then s4 else if k = 5 then s5 else if k = 6 then s6 else if k = 7 then s7 else s8), fun k => if k = 0 then cI else if k = 1 then cZ else if k = 2 then cJ else cO, s.heap.size, ea, mi), rfl, rfl, hl, ⟨?_, ?_⟩, ?_, ?_, ?_, ⟨?_, ?_, ?_⟩, ?_, ⟨?_, ⟨_, hT⟩, ?_⟩, hao, ?_, hmi⟩
  · intro k q hq
    match k, hq with
    | 0, hq => cases hq; exact h0
    | 1, hq => cases hq; exact h1
    | 2, hq => cases hq; exact h2
    | 3, hq => cases hq; exact h3
    | 4, hq => cases hq; exact h4
    | 5, hq => cases hq; exact h5
    | 6, hq => cases hq; exact h6
    | 7, hq => cases hq; exact h7
    | 8, hq => cases hq; exact h8
    | k + 9, hq => simp [zcl] at hq
  · intro k q hq
    match k, hq with
    | 0, hq => cases hq; exact ⟨fun n z => ⟨fun k h => (by cases h), kI, gI, pI, jI⟩, fI⟩
    | 1, hq => cases hq; exact ⟨fun n z => ⟨fun k h => (by cases h), kZ, gZ, pZ, jZ⟩, fZ⟩
    | 2, hq => cases hq; exact ⟨fun n z => ⟨fun k h => (by cases h), kJ, gJ, pJ, jJ⟩, fJ⟩
    | 3, hq => cases hq; exact ⟨fun n z => ⟨fun k h => (by cases h), kO, gO, pO, jO⟩, kO, pO, gO, jO, fO, nO⟩
    | k + 4, hq => simp [ztys] at hq
  · exact vx_Zqof (hts (Cond.laysStatic "java/lang/Throwable" "UNASSIGNED_STACK" "[Ljava/lang/StackTraceElement;") (List.mem_of_getElem? (i := 165) (by decide +kernel))) (hz _ k_6) (hf (Cond.isRef (.static "java/lang/Throwable" "UNASSIGNED_STACK" "[Ljava/lang/StackTraceElement;")) (List.mem_of_getElem? (i := 8) (by decide +kernel))) hA
  · exact vx_Zqof (hts (Cond.laysStatic "java/lang/Throwable" "SUPPRESSED_SENTINEL" "Ljava/util/List;") (List.mem_of_getElem? (i := 167) (by decide +kernel))) (hz _ k_6) (hf (Cond.isRef (.static "java/lang/Throwable" "SUPPRESSED_SENTINEL" "Ljava/util/List;")) (List.mem_of_getElem? (i := 9) (by decide +kernel))) hA
  · intro x hx
    obtain ⟨a, -, -, -, ha, -⟩ := Cond.exactly_spec (hf _ (kf_str x hx))
    exact ⟨a, vk_R.of (hts _ (ks_str x hx)) ha⟩
  · exact fun x hx => va_Nw.of rfl (hts _ (ks_cast x hx))
  · exact fun x hx => va_Nw.of rfl (hts _ (ks_decl x hx))
  · exact fun x hx => va_Nw.of rfl (hts _ (ks_priv x hx))
  · exact fun x hx => va_Nc.of (hf _ (kf_nc x hx))
  · exact va_Zof (hts (Cond.laysStatic "java/util/ArrayList" "DEFAULTCAPACITY_EMPTY_ELEMENTDATA" "[Ljava/lang/Object;") (List.mem_of_getElem? (i := 87) (by decide +kernel))) (hz _ k_4) hea hA
  · exact (Array.getElem?_eq_some_iff.mp hce).1
  · exact va_Dc.of (hts (Cond.declares ⟨"java/lang/Object", "getClass", "()Ljava/lang/Class;"⟩) (List.mem_of_getElem? (i := 1041) (by decide +kernel)))
