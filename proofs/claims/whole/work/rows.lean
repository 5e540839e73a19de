section
-- ===== PART A: goes FIRST, ahead of the names: the tables' words, and 'selects' of the private methods out of them =====
/-- a private method of a class that the tables say can be made, by its rows of tables_1 -/
def lw_okq (q : MethodName × Nat) : Prop := (q.1.cls ≠ "java/lang/invoke/MethodHandle" ∧ q.1.cls ≠ "java/lang/invoke/VarHandle") ∧ Cond.instantiable q.1.cls q.2 ∈ tables_1 ∧ Cond.privateMethod q.1 ∈ tables_1 ∧ Cond.instanceMethod q.1 ∈ tables_1
theorem lw_p0 : lw_okq (⟨"java/lang/Throwable", "fillInStackTrace", "(I)Ljava/lang/Throwable;"⟩, 6) := ⟨⟨by decide +kernel, by decide +kernel⟩, List.mem_of_getElem? (i := 137) (by decide +kernel), List.mem_of_getElem? (i := 135) (by decide +kernel), List.mem_of_getElem? (i := 136) (by decide +kernel)⟩
theorem lw_p1 : lw_okq (⟨"java/util/ArrayList", "add", "(Ljava/lang/Object;[Ljava/lang/Object;I)V"⟩, 3) := ⟨⟨by decide +kernel, by decide +kernel⟩, List.mem_of_getElem? (i := 34) (by decide +kernel), List.mem_of_getElem? (i := 190) (by decide +kernel), List.mem_of_getElem? (i := 191) (by decide +kernel)⟩
theorem lw_p2 : lw_okq (⟨"java/util/ArrayList", "grow", "()[Ljava/lang/Object;"⟩, 3) := ⟨⟨by decide +kernel, by decide +kernel⟩, List.mem_of_getElem? (i := 34) (by decide +kernel), List.mem_of_getElem? (i := 194) (by decide +kernel), List.mem_of_getElem? (i := 195) (by decide +kernel)⟩
theorem lw_p3 : lw_okq (⟨"java/util/ArrayList", "grow", "(I)[Ljava/lang/Object;"⟩, 3) := ⟨⟨by decide +kernel, by decide +kernel⟩, List.mem_of_getElem? (i := 34) (by decide +kernel), List.mem_of_getElem? (i := 198) (by decide +kernel), List.mem_of_getElem? (i := 199) (by decide +kernel)⟩
theorem lw_p4 : lw_okq (⟨"RollCalls", "knownPerson", "(I)LRollCalls$Person;"⟩, 8) := ⟨⟨by decide +kernel, by decide +kernel⟩, List.mem_of_getElem? (i := 26) (by decide +kernel), List.mem_of_getElem? (i := 255) (by decide +kernel), List.mem_of_getElem? (i := 256) (by decide +kernel)⟩
theorem lw_p5 : lw_okq (⟨"RollCalls", "addMove", "(II)V"⟩, 8) := ⟨⟨by decide +kernel, by decide +kernel⟩, List.mem_of_getElem? (i := 26) (by decide +kernel), List.mem_of_getElem? (i := 309) (by decide +kernel), List.mem_of_getElem? (i := 310) (by decide +kernel)⟩
theorem lw_p6 : lw_okq (⟨"RollCalls", "isAskedNow", "(I)Z"⟩, 8) := ⟨⟨by decide +kernel, by decide +kernel⟩, List.mem_of_getElem? (i := 26) (by decide +kernel), List.mem_of_getElem? (i := 372) (by decide +kernel), List.mem_of_getElem? (i := 373) (by decide +kernel)⟩
theorem lw_p7 : lw_okq (⟨"RollCalls", "openMaydays", "()I"⟩, 8) := ⟨⟨by decide +kernel, by decide +kernel⟩, List.mem_of_getElem? (i := 26) (by decide +kernel), List.mem_of_getElem? (i := 385) (by decide +kernel), List.mem_of_getElem? (i := 386) (by decide +kernel)⟩
theorem lw_p8 : lw_okq (⟨"RollCalls", "askThoseInside", "(LRollCalls$Roll;)V"⟩, 8) := ⟨⟨by decide +kernel, by decide +kernel⟩, List.mem_of_getElem? (i := 26) (by decide +kernel), List.mem_of_getElem? (i := 437) (by decide +kernel), List.mem_of_getElem? (i := 438) (by decide +kernel)⟩
theorem lw_p9 : lw_okq (⟨"RollCalls", "knownRoll", "(I)LRollCalls$Roll;"⟩, 8) := ⟨⟨by decide +kernel, by decide +kernel⟩, List.mem_of_getElem? (i := 26) (by decide +kernel), List.mem_of_getElem? (i := 456) (by decide +kernel), List.mem_of_getElem? (i := 457) (by decide +kernel)⟩
theorem lw_p10 : lw_okq (⟨"RollCalls", "addDouble", "(LRollCalls$DoubleCount;)V"⟩, 8) := ⟨⟨by decide +kernel, by decide +kernel⟩, List.mem_of_getElem? (i := 26) (by decide +kernel), List.mem_of_getElem? (i := 497) (by decide +kernel), List.mem_of_getElem? (i := 498) (by decide +kernel)⟩
theorem lw_p11 : lw_okq (⟨"RollCalls", "openPersons", "(LRollCalls$Roll;)I"⟩, 8) := ⟨⟨by decide +kernel, by decide +kernel⟩, List.mem_of_getElem? (i := 26) (by decide +kernel), List.mem_of_getElem? (i := 519) (by decide +kernel), List.mem_of_getElem? (i := 520) (by decide +kernel)⟩
theorem lw_p12 : lw_okq (⟨"RollCalls", "isOpen", "(LRollCalls$Roll;I)Z"⟩, 8) := ⟨⟨by decide +kernel, by decide +kernel⟩, List.mem_of_getElem? (i := 26) (by decide +kernel), List.mem_of_getElem? (i := 523) (by decide +kernel), List.mem_of_getElem? (i := 524) (by decide +kernel)⟩
theorem lw_p13 : lw_okq (⟨"RollCalls", "isMissingStill", "(LRollCalls$Roll;I)Z"⟩, 8) := ⟨⟨by decide +kernel, by decide +kernel⟩, List.mem_of_getElem? (i := 26) (by decide +kernel), List.mem_of_getElem? (i := 548) (by decide +kernel), List.mem_of_getElem? (i := 549) (by decide +kernel)⟩
theorem lw_p14 : lw_okq (⟨"RollCalls", "hasOpenMayday", "(I)Z"⟩, 8) := ⟨⟨by decide +kernel, by decide +kernel⟩, List.mem_of_getElem? (i := 26) (by decide +kernel), List.mem_of_getElem? (i := 568) (by decide +kernel), List.mem_of_getElem? (i := 569) (by decide +kernel)⟩
theorem lw_p15 : lw_okq (⟨"RollCalls", "lowestFreeTeam", "()I"⟩, 8) := ⟨⟨by decide +kernel, by decide +kernel⟩, List.mem_of_getElem? (i := 26) (by decide +kernel), List.mem_of_getElem? (i := 575) (by decide +kernel), List.mem_of_getElem? (i := 576) (by decide +kernel)⟩
def lw_privs_1 : List (MethodName × Nat) := [(⟨"java/lang/Throwable", "fillInStackTrace", "(I)Ljava/lang/Throwable;"⟩, 6), (⟨"java/util/ArrayList", "add", "(Ljava/lang/Object;[Ljava/lang/Object;I)V"⟩, 3), (⟨"java/util/ArrayList", "grow", "()[Ljava/lang/Object;"⟩, 3), (⟨"java/util/ArrayList", "grow", "(I)[Ljava/lang/Object;"⟩, 3), (⟨"RollCalls", "knownPerson", "(I)LRollCalls$Person;"⟩, 8), (⟨"RollCalls", "addMove", "(II)V"⟩, 8), (⟨"RollCalls", "isAskedNow", "(I)Z"⟩, 8), (⟨"RollCalls", "openMaydays", "()I"⟩, 8), (⟨"RollCalls", "askThoseInside", "(LRollCalls$Roll;)V"⟩, 8), (⟨"RollCalls", "knownRoll", "(I)LRollCalls$Roll;"⟩, 8), (⟨"RollCalls", "addDouble", "(LRollCalls$DoubleCount;)V"⟩, 8), (⟨"RollCalls", "openPersons", "(LRollCalls$Roll;)I"⟩, 8), (⟨"RollCalls", "isOpen", "(LRollCalls$Roll;I)Z"⟩, 8), (⟨"RollCalls", "isMissingStill", "(LRollCalls$Roll;I)Z"⟩, 8), (⟨"RollCalls", "hasOpenMayday", "(I)Z"⟩, 8), (⟨"RollCalls", "lowestFreeTeam", "()I"⟩, 8)]
theorem lw_r1 : ∀ q ∈ lw_privs_1, lw_okq q := List.forall_mem_cons.mpr ⟨lw_p0, List.forall_mem_cons.mpr ⟨lw_p1, List.forall_mem_cons.mpr ⟨lw_p2, List.forall_mem_cons.mpr ⟨lw_p3, List.forall_mem_cons.mpr ⟨lw_p4, List.forall_mem_cons.mpr ⟨lw_p5, List.forall_mem_cons.mpr ⟨lw_p6, List.forall_mem_cons.mpr ⟨lw_p7, List.forall_mem_cons.mpr ⟨lw_p8, List.forall_mem_cons.mpr ⟨lw_p9, List.forall_mem_cons.mpr ⟨lw_p10, List.forall_mem_cons.mpr ⟨lw_p11, List.forall_mem_cons.mpr ⟨lw_p12, List.forall_mem_cons.mpr ⟨lw_p13, List.forall_mem_cons.mpr ⟨lw_p14, List.forall_mem_cons.mpr ⟨lw_p15, fun _ h => absurd h List.not_mem_nil⟩⟩⟩⟩⟩⟩⟩⟩⟩⟩⟩⟩⟩⟩⟩⟩
theorem lw_p16 : lw_okq (⟨"RollCalls", "isSent", "(I)Z"⟩, 8) := ⟨⟨by decide +kernel, by decide +kernel⟩, List.mem_of_getElem? (i := 26) (by decide +kernel), List.mem_of_getElem? (i := 579) (by decide +kernel), List.mem_of_getElem? (i := 580) (by decide +kernel)⟩
theorem lw_p17 : lw_okq (⟨"RollCalls", "knownMayday", "(I)LRollCalls$Mayday;"⟩, 8) := ⟨⟨by decide +kernel, by decide +kernel⟩, List.mem_of_getElem? (i := 26) (by decide +kernel), List.mem_of_getElem? (i := 615) (by decide +kernel), List.mem_of_getElem? (i := 616) (by decide +kernel)⟩
theorem lw_p18 : lw_okq (⟨"RollCalls", "sendToLowestWaiting", "(I)V"⟩, 8) := ⟨⟨by decide +kernel, by decide +kernel⟩, List.mem_of_getElem? (i := 26) (by decide +kernel), List.mem_of_getElem? (i := 621) (by decide +kernel), List.mem_of_getElem? (i := 622) (by decide +kernel)⟩
theorem lw_p19 : lw_okq (⟨"RollCalls", "isEvacuating", "()Z"⟩, 8) := ⟨⟨by decide +kernel, by decide +kernel⟩, List.mem_of_getElem? (i := 26) (by decide +kernel), List.mem_of_getElem? (i := 640) (by decide +kernel), List.mem_of_getElem? (i := 641) (by decide +kernel)⟩
theorem lw_p20 : lw_okq (⟨"RollCalls", "knownEvacuation", "(I)LRollCalls$Evacuation;"⟩, 8) := ⟨⟨by decide +kernel, by decide +kernel⟩, List.mem_of_getElem? (i := 26) (by decide +kernel), List.mem_of_getElem? (i := 648) (by decide +kernel), List.mem_of_getElem? (i := 649) (by decide +kernel)⟩
theorem lw_p21 : lw_okq (⟨"RollCalls", "demandConfirmations", "(LRollCalls$Evacuation;)V"⟩, 8) := ⟨⟨by decide +kernel, by decide +kernel⟩, List.mem_of_getElem? (i := 26) (by decide +kernel), List.mem_of_getElem? (i := 680) (by decide +kernel), List.mem_of_getElem? (i := 681) (by decide +kernel)⟩
theorem lw_p22 : lw_okq (⟨"RollCalls", "isSomebodyIn", "(I)Z"⟩, 8) := ⟨⟨by decide +kernel, by decide +kernel⟩, List.mem_of_getElem? (i := 26) (by decide +kernel), List.mem_of_getElem? (i := 684) (by decide +kernel), List.mem_of_getElem? (i := 685) (by decide +kernel)⟩
theorem lw_p23 : lw_okq (⟨"RollCalls", "personsInside", "()I"⟩, 8) := ⟨⟨by decide +kernel, by decide +kernel⟩, List.mem_of_getElem? (i := 26) (by decide +kernel), List.mem_of_getElem? (i := 734) (by decide +kernel), List.mem_of_getElem? (i := 735) (by decide +kernel)⟩
theorem lw_p24 : lw_okq (⟨"RollCalls", "rollsOn", "()I"⟩, 8) := ⟨⟨by decide +kernel, by decide +kernel⟩, List.mem_of_getElem? (i := 26) (by decide +kernel), List.mem_of_getElem? (i := 738) (by decide +kernel), List.mem_of_getElem? (i := 739) (by decide +kernel)⟩
theorem lw_p25 : lw_okq (⟨"RollCallsModel", "goes", "(IZZZZ)Z"⟩, 29) := ⟨⟨by decide +kernel, by decide +kernel⟩, List.mem_of_getElem? (i := 742) (by decide +kernel), List.mem_of_getElem? (i := 844) (by decide +kernel), List.mem_of_getElem? (i := 845) (by decide +kernel)⟩
theorem lw_p26 : lw_okq (⟨"RollCallsModel", "isPerson", "(I)Z"⟩, 29) := ⟨⟨by decide +kernel, by decide +kernel⟩, List.mem_of_getElem? (i := 742) (by decide +kernel), List.mem_of_getElem? (i := 852) (by decide +kernel), List.mem_of_getElem? (i := 853) (by decide +kernel)⟩
theorem lw_p27 : lw_okq (⟨"RollCallsModel", "here", "(I)I"⟩, 29) := ⟨⟨by decide +kernel, by decide +kernel⟩, List.mem_of_getElem? (i := 742) (by decide +kernel), List.mem_of_getElem? (i := 862) (by decide +kernel), List.mem_of_getElem? (i := 863) (by decide +kernel)⟩
theorem lw_p28 : lw_okq (⟨"RollCallsModel", "at", "(II)I"⟩, 29) := ⟨⟨by decide +kernel, by decide +kernel⟩, List.mem_of_getElem? (i := 742) (by decide +kernel), List.mem_of_getElem? (i := 866) (by decide +kernel), List.mem_of_getElem? (i := 867) (by decide +kernel)⟩
theorem lw_p29 : lw_okq (⟨"RollCallsModel", "moves", "(II)V"⟩, 29) := ⟨⟨by decide +kernel, by decide +kernel⟩, List.mem_of_getElem? (i := 742) (by decide +kernel), List.mem_of_getElem? (i := 870) (by decide +kernel), List.mem_of_getElem? (i := 871) (by decide +kernel)⟩
theorem lw_p30 : lw_okq (⟨"RollCallsModel", "openMaydays", "()I"⟩, 29) := ⟨⟨by decide +kernel, by decide +kernel⟩, List.mem_of_getElem? (i := 742) (by decide +kernel), List.mem_of_getElem? (i := 886) (by decide +kernel), List.mem_of_getElem? (i := 887) (by decide +kernel)⟩
theorem lw_p31 : lw_okq (⟨"RollCallsModel", "isRoll", "(I)Z"⟩, 29) := ⟨⟨by decide +kernel, by decide +kernel⟩, List.mem_of_getElem? (i := 742) (by decide +kernel), List.mem_of_getElem? (i := 894) (by decide +kernel), List.mem_of_getElem? (i := 895) (by decide +kernel)⟩
def lw_privs_2 : List (MethodName × Nat) := [(⟨"RollCalls", "isSent", "(I)Z"⟩, 8), (⟨"RollCalls", "knownMayday", "(I)LRollCalls$Mayday;"⟩, 8), (⟨"RollCalls", "sendToLowestWaiting", "(I)V"⟩, 8), (⟨"RollCalls", "isEvacuating", "()Z"⟩, 8), (⟨"RollCalls", "knownEvacuation", "(I)LRollCalls$Evacuation;"⟩, 8), (⟨"RollCalls", "demandConfirmations", "(LRollCalls$Evacuation;)V"⟩, 8), (⟨"RollCalls", "isSomebodyIn", "(I)Z"⟩, 8), (⟨"RollCalls", "personsInside", "()I"⟩, 8), (⟨"RollCalls", "rollsOn", "()I"⟩, 8), (⟨"RollCallsModel", "goes", "(IZZZZ)Z"⟩, 29), (⟨"RollCallsModel", "isPerson", "(I)Z"⟩, 29), (⟨"RollCallsModel", "here", "(I)I"⟩, 29), (⟨"RollCallsModel", "at", "(II)I"⟩, 29), (⟨"RollCallsModel", "moves", "(II)V"⟩, 29), (⟨"RollCallsModel", "openMaydays", "()I"⟩, 29), (⟨"RollCallsModel", "isRoll", "(I)Z"⟩, 29)]
theorem lw_r2 : ∀ q ∈ lw_privs_2, lw_okq q := List.forall_mem_cons.mpr ⟨lw_p16, List.forall_mem_cons.mpr ⟨lw_p17, List.forall_mem_cons.mpr ⟨lw_p18, List.forall_mem_cons.mpr ⟨lw_p19, List.forall_mem_cons.mpr ⟨lw_p20, List.forall_mem_cons.mpr ⟨lw_p21, List.forall_mem_cons.mpr ⟨lw_p22, List.forall_mem_cons.mpr ⟨lw_p23, List.forall_mem_cons.mpr ⟨lw_p24, List.forall_mem_cons.mpr ⟨lw_p25, List.forall_mem_cons.mpr ⟨lw_p26, List.forall_mem_cons.mpr ⟨lw_p27, List.forall_mem_cons.mpr ⟨lw_p28, List.forall_mem_cons.mpr ⟨lw_p29, List.forall_mem_cons.mpr ⟨lw_p30, List.forall_mem_cons.mpr ⟨lw_p31, fun _ h => absurd h List.not_mem_nil⟩⟩⟩⟩⟩⟩⟩⟩⟩⟩⟩⟩⟩⟩⟩⟩
theorem lw_p32 : lw_okq (⟨"RollCallsModel", "open", "(I)I"⟩, 29) := ⟨⟨by decide +kernel, by decide +kernel⟩, List.mem_of_getElem? (i := 742) (by decide +kernel), List.mem_of_getElem? (i := 906) (by decide +kernel), List.mem_of_getElem? (i := 907) (by decide +kernel)⟩
theorem lw_p33 : lw_okq (⟨"RollCallsModel", "isStill", "(II)Z"⟩, 29) := ⟨⟨by decide +kernel, by decide +kernel⟩, List.mem_of_getElem? (i := 742) (by decide +kernel), List.mem_of_getElem? (i := 910) (by decide +kernel), List.mem_of_getElem? (i := 911) (by decide +kernel)⟩
theorem lw_p34 : lw_okq (⟨"RollCallsModel", "cameOut", "(II)Z"⟩, 29) := ⟨⟨by decide +kernel, by decide +kernel⟩, List.mem_of_getElem? (i := 742) (by decide +kernel), List.mem_of_getElem? (i := 914) (by decide +kernel), List.mem_of_getElem? (i := 915) (by decide +kernel)⟩
theorem lw_p35 : lw_okq (⟨"RollCallsModel", "isFound", "(II)Z"⟩, 29) := ⟨⟨by decide +kernel, by decide +kernel⟩, List.mem_of_getElem? (i := 742) (by decide +kernel), List.mem_of_getElem? (i := 926) (by decide +kernel), List.mem_of_getElem? (i := 927) (by decide +kernel)⟩
theorem lw_p36 : lw_okq (⟨"RollCallsModel", "serve", "()V"⟩, 29) := ⟨⟨by decide +kernel, by decide +kernel⟩, List.mem_of_getElem? (i := 742) (by decide +kernel), List.mem_of_getElem? (i := 938) (by decide +kernel), List.mem_of_getElem? (i := 939) (by decide +kernel)⟩
theorem lw_p37 : lw_okq (⟨"RollCallsModel", "isFull", "(I)Z"⟩, 29) := ⟨⟨by decide +kernel, by decide +kernel⟩, List.mem_of_getElem? (i := 742) (by decide +kernel), List.mem_of_getElem? (i := 954) (by decide +kernel), List.mem_of_getElem? (i := 955) (by decide +kernel)⟩
theorem lw_p38 : lw_okq (⟨"RollCallsModel", "isOn", "()Z"⟩, 29) := ⟨⟨by decide +kernel, by decide +kernel⟩, List.mem_of_getElem? (i := 742) (by decide +kernel), List.mem_of_getElem? (i := 958) (by decide +kernel), List.mem_of_getElem? (i := 959) (by decide +kernel)⟩
theorem lw_p39 : lw_okq (⟨"RollCallsModel", "left", "(I)I"⟩, 29) := ⟨⟨by decide +kernel, by decide +kernel⟩, List.mem_of_getElem? (i := 742) (by decide +kernel), List.mem_of_getElem? (i := 962) (by decide +kernel), List.mem_of_getElem? (i := 963) (by decide +kernel)⟩
theorem lw_p40 : lw_okq (⟨"RollCallsModel", "isLate", "(II)Z"⟩, 29) := ⟨⟨by decide +kernel, by decide +kernel⟩, List.mem_of_getElem? (i := 742) (by decide +kernel), List.mem_of_getElem? (i := 974) (by decide +kernel), List.mem_of_getElem? (i := 975) (by decide +kernel)⟩
def lw_privs_3 : List (MethodName × Nat) := [(⟨"RollCallsModel", "open", "(I)I"⟩, 29), (⟨"RollCallsModel", "isStill", "(II)Z"⟩, 29), (⟨"RollCallsModel", "cameOut", "(II)Z"⟩, 29), (⟨"RollCallsModel", "isFound", "(II)Z"⟩, 29), (⟨"RollCallsModel", "serve", "()V"⟩, 29), (⟨"RollCallsModel", "isFull", "(I)Z"⟩, 29), (⟨"RollCallsModel", "isOn", "()Z"⟩, 29), (⟨"RollCallsModel", "left", "(I)I"⟩, 29), (⟨"RollCallsModel", "isLate", "(II)Z"⟩, 29)]
theorem lw_r3 : ∀ q ∈ lw_privs_3, lw_okq q := List.forall_mem_cons.mpr ⟨lw_p32, List.forall_mem_cons.mpr ⟨lw_p33, List.forall_mem_cons.mpr ⟨lw_p34, List.forall_mem_cons.mpr ⟨lw_p35, List.forall_mem_cons.mpr ⟨lw_p36, List.forall_mem_cons.mpr ⟨lw_p37, List.forall_mem_cons.mpr ⟨lw_p38, List.forall_mem_cons.mpr ⟨lw_p39, List.forall_mem_cons.mpr ⟨lw_p40, fun _ h => absurd h List.not_mem_nil⟩⟩⟩⟩⟩⟩⟩⟩⟩
def lw_privs : List (MethodName × Nat) := lw_privs_1 ++ (lw_privs_2 ++ (lw_privs_3))
def lw_tbl : List Cond := k2_sels lw_privs ++ tables_1
theorem lw_privs_ok : ∀ q ∈ lw_privs, lw_okq q := by
  show ∀ q ∈ lw_privs_1 ++ (lw_privs_2 ++ (lw_privs_3)), lw_okq q
  exact List.forall_mem_append.mpr ⟨lw_r1, List.forall_mem_append.mpr ⟨lw_r2, lw_r3⟩⟩
end
section
/-! ===== BEGIN words of one list among another's, by their places ===== -/
theorem goodIn_r {big : List Cond} (ws : List Cond) (ps : List Nat) (hp : ws = ps.filterMap (fun i => big[i]?)) (h : ws.all goodWord = true) : GoodIn big ws := by
  intro w hw
  have h1 := List.all_eq_true.mp h w hw
  rw [hp] at hw
  obtain ⟨i, -, hi⟩ := List.mem_filterMap.mp hw
  have hm : w ∈ big := by first | exact List.mem_of_getElem? hi | exact List.getElem?_mem hi
  exact ⟨hm, good_of_word h1⟩
theorem goodIn_app {big a b : List Cond} (ha : GoodIn big a) (hb : GoodIn big b) : GoodIn big (a ++ b) := fun w h => (List.mem_append.mp h).elim (ha w) (hb w)
theorem goodIn_ca {big a b : List Cond} {c : Cond} (ha : GoodIn big (c :: a)) (hb : GoodIn big b) : GoodIn big (c :: (a ++ b)) := fun w h => (List.mem_cons.mp h).elim (fun e => ha w (List.mem_cons.mpr (Or.inl e))) (fun h => (List.mem_append.mp h).elim (fun h => ha w (List.mem_cons.mpr (Or.inr h))) (hb w))
theorem goodIn_sub {big ws : List Cond} (hm : ∀ w ∈ ws, w ∈ big) (h : ws.all goodWord = true) : GoodIn big ws := fun w hw => ⟨hm w hw, good_of_word (List.all_eq_true.mp h w hw)⟩
/-! ===== END ===== -/

/-! ===== BEGIN exceptions that leave a method, and their catching by the caller (launches without stack traces) ===== -/
section VXA
/-! The laws vx_back, vx_callV, vx_callS, vx_callSW, vx_throw0, vx_throwS follow proofs of the library, with one case more: JvmDerived/Free/Laws.lean (Back.of_free), Shelf42/LK1.lean (callV, callS), Shelf/KitTraced.lean (throwNew0V, throwNewS). -/
/-- where a method has thrown q: the class by its name, the cell, what was written, the world -/
def vx_T (XC : String → State → State → Prop) (st : State) (q : Addr) (t : State) (mc ms : Nat) (free : Addr → Prop) : Prop :=
  ∃ (E : String) (ce : Cell) (L : List Loc), XC E st t ∧ t.heap[q]? = some ce ∧ ce.vm = .none ∧ st.vm.findClass E = some ce.cls ∧ st.WarmedH t.vm ∧ st.sameButNew ({ t with vm := st.vm } : State) L mc ms ∧ ∀ z ∈ L, free z.base
def vx_Q (Qc : Array Value → State → Outcome → State → Prop) (XC : String → State → State → Prop) (mc ms : Nat) (free : Addr → Prop) : Array Value → State → Outcome → State → Prop := fun a st o t =>
  (Qc a st o t ∧ ∃ L, FrameEnd st o t L mc ms ∧ ∀ q ∈ L, free q.base) ∨ ∃ q, o = .threw q ∧ vx_T XC st q t mc ms free
/-- a callee that returns or throws -/
def vx_Met (l : Launch) (y : MethodName) (ws : List Cond) (rm : Room) (Pc : Array Value → State → Prop) (Qc : Array Value → State → Outcome → State → Prop) (XC : String → State → State → Prop) (mc ms : Nat) (free : Addr → Prop) : Prop :=
  MetFree l y (headSpec ws rm) Pc (fun _ _ _ _ _ => True) (vx_Q Qc XC mc ms free)
def vx_Post (XC : String → State → State → Prop) (mc ms : Nat) (free : Addr → Prop) : Pt → Array Value → Addr → Pt → Prop := fun A a q B =>
  ∃ (g : JFrame) (mk : MethodId) (t : State) (L : List Loc) (E : String) (ce : Cell), B.U.heap = t.heap ∧ B.U.vm = t.vm ∧ XC E (A.U.calling g mk a) t ∧ t.heap[q]? = some ce ∧ ce.vm = .none ∧ A.U.vm.findClass E = some ce.cls ∧ B.locs = A.locs ++ L ∧ (∀ z ∈ L, free z.base) ∧ B.cells = A.cells + mc ∧ B.slots = A.slots + ms
def vx_Back (l : Launch) (R : Room) (p : Program) (e : Env) (below : List Frame) (s : State) (sargs : Array Value) (y : MethodName) (len W9 : Nat)
    (Pre : Pt → Array Value → Prop) (Post : Pt → Array Value → Option Value → Pt → Prop) (PostX : Pt → Array Value → Addr → Pt → Prop) : Prop :=
  ∀ (m : MethodId) (meth : Method) (c : Code) (A : Pt) (g : JFrame) (ig : Instr) (mk : MethodId) (a : Array Value),
    Stand p l e R s m sargs below meth c A.U A.locs A.cells A.slots → g.method = m → g.locals.size = c.maxLocals → decode c.code g.pc = .ok (ig, len) →
    2 * g.monitorRoom + (g.stack.map fun v => v.category).sum ≤ W9 → A.U.methodNamed? y = some mk → Pre A a →
    (∃ (v : Option Value) (B : Pt), Stand p l e R s m sargs below meth c B.U B.locs B.cells B.slots ∧ Post A a v B ∧
      Steps p.tables e below (doInvoke e (A.U.setTop g) [] mk a).1 (B.U.setTop { g with pc := g.pc + len, stack := v.toList ++ g.stack })) ∨
    (∃ (q : Addr) (B : Pt), Stand p l e R s m sargs below meth c B.U B.locs B.cells B.slots ∧ PostX A a q B ∧
      Steps p.tables e below (doInvoke e (A.U.setTop g) [] mk a).1 ((B.U.setTop g).pushFrame (.throwing q)))
section Payer
variable {l : Launch} {R : Room} {p : Program} {e : Env} {below : List Frame} {s : State} {sargs : Array Value} {y : MethodName} {len W9 : Nat}
theorem vx_back {ws : List Cond} {rm : Room} {Pc : Array Value → State → Prop} {Qc : Array Value → State → Outcome → State → Prop} {XC : String → State → State → Prop} {mc ms : Nat} {free : Addr → Prop} {bytes : ByteArray} {maxL : Nat} {ret : Option FieldType}
    (hM : vx_Met l y ws rm Pc Qc XC mc ms free) (hblind : FrameBlind Pc) (hrc : rm.cells = mc) (hrs : rm.slots = ms)
    (hframes : rm.frames + 1 ≤ R.frames) (hlocals : W9 + (maxL + 11) + rm.locals ≤ R.locals)
    (hws : ∀ w ∈ ws, ∀ a' U, s.WarmedH U.vm → w.before a' U = true) (hcode : Cond.code y bytes maxL ret ∈ ws) (hinit : ∀ a' U, s.WarmedH U.vm → (Cond.initialized y.cls).before a' U = true) :
    vx_Back l R p e below s sargs y len W9 (PreOf R mc ms Pc) (PostOf Qc mc ms free) (vx_Post XC mc ms free) := by
  intro m meth c A g ig mk a X hg hsize hdg hW hn hp
  have h1 : (headSpec ws rm).pre.before a A.U = true := atoms_intro fun w hw => hws w hw _ _ X.warmed
  have h2 : (Cond.code y bytes maxL ret).before a A.U = true := hws _ hcode _ _ X.warmed
  have h3 : (Cond.initialized y.cls).before a A.U = true := hinit _ _ X.warmed
  have h4 : A.cells + (headSpec ws rm).room.cells ≤ R.cells := by rw [show (headSpec ws rm).room.cells = mc from hrc]; exact hp.1
  have h5 : A.slots + (headSpec ws rm).room.slots ≤ R.slots := by rw [show (headSpec ws rm).room.slots = ms from hrs]; exact hp.2.1
  have hPc : Pc a (A.U.calling g mk a) := hblind _ _ _ _ hp.2.2
  obtain ⟨U, Ls, c0, s0⟩ := A
  dsimp only [Pt.U, Pt.locs, Pt.cells, Pt.slots] at h1 h2 h3 h4 h5 X hn hPc ⊢
  obtain ⟨methY, cY, hmY, hcY, -, hlY, -, -, -, -⟩ := Cond.code_spec hn h2
  obtain ⟨kY, hkY, -⟩ := className_of_methodNamed hn
  have hinitY : kY.init = .initialized := Cond.initialized_spec (findClass_of_methodNamed hn) hkY h3
  have h : At U g.method c below := by rw [hg]; exact X.here
  have hlocals9 : W9 + (maxL + 11) + (headSpec ws rm).room.locals ≤ R.locals := hlocals
  have happ : (headSpec ws rm).appliesLoose y e.platform (U.calling g mk a) = true :=
    Spec.appliesLoose_calling (g := g) h hdg hn hkY hinitY
      (X.room_calling (g := g) (R' := (headSpec ws rm).room) hsize hmY hcY hframes (by rw [hlY]; omega) h4 h5) h1
  obtain ⟨mid, hmid⟩ := h.above
  have hfr : (U.setTop g).frames = (.java g :: mid) ++ below := by rw [State.frames_setTop' g h.top, hmid]; rfl
  obtain ⟨o, s₂, hsteps, -, hend, hq⟩ := Steps.callFree hM p X.admits X.cas X.clock (acts := []) hfr happ hPc trivial
  have hq' : vx_Q Qc XC mc ms free a (U.calling g mk a) o s₂ := hq
  rw [State.frames_setTop' g h.top] at hend
  obtain ⟨g₀, hg0⟩ := Option.isSome_iff_exists.mp h.top
  obtain ⟨r, hr⟩ := State.topJava?_eq_some.mp hg0
  have hr' : (({ U with heap := s₂.heap, slotsUsed := s₂.slotsUsed } : State).setVm s₂.vm).frames = .java g₀ :: r := hr
  rcases hq' with ⟨hqc, L, hfe, hL⟩ | ⟨q, rfl, E, ce, L, hx, hce, hcv, hcl, hW₂, hsm, hL⟩
  · obtain ⟨⟨v, rfl⟩, hW₂, e2, q2, q3, q4, q5, q6⟩ := id hfe
    have e3 : s₂ = ({ (U.calling g mk a).setFrames s₂.frames with heap := s₂.heap, slotsUsed := s₂.slotsUsed } : State).setVm s₂.vm := by
      have : s₂ = ({ s₂ with vm := (U.calling g mk a).vm } : State).setVm s₂.vm := rfl
      rw [e2] at this
      exact this
    obtain ⟨c₂, i₂, len₂, hc₂, hd₂, hf₂⟩ := hend
    have hW' : U.WarmedH s₂.vm := hW₂
    have hcc : c₂ = c := by
      have h1 : s₂.code? g.method = U.code? g.method := by
        rw [State.code?_eq, State.code?_eq, hW'.alike.method?]
      exact Option.some.inj (hc₂.symm.trans (h1.trans h.code))
    subst hcc
    have hlen : len₂ = len := by rw [hdg] at hd₂; cases hd₂; rfl
    subst hlen
    have hs₂ : s₂ = (({ U with heap := s₂.heap, slotsUsed := s₂.slotsUsed } : State).setVm s₂.vm).setTop { g with pc := g.pc + len₂, stack := v.toList ++ g.stack } := by
      refine e3.trans ?_
      rw [hf₂, State.calling_eq h.top, State.setFrames_setFrames, State.setTop_of_frames _ hr', hr]
      rfl
    have hsame : U.sameButNew ({ U with heap := s₂.heap, slotsUsed := s₂.slotsUsed } : State) L mc ms := by
      refine ⟨?_, q2, q3, q4, q5, q6⟩
      obtain ⟨t, ht, -⟩ := State.frames_cons hr
      show ({ U with heap := s₂.heap, slotsUsed := s₂.slotsUsed } : State) = { U.setFrames U.frames with heap := s₂.heap, slotsUsed := s₂.slotsUsed }
      rw [State.setFrames_self ht]
    subst hg
    refine Or.inl ⟨v, ⟨(({ U with heap := s₂.heap, slotsUsed := s₂.slotsUsed } : State).setVm s₂.vm), Ls ++ L, c0 + mc, s0 + ms⟩,
      ⟨X.admits, X.cas, X.clock, X.frames, X.room, X.hears, X.method, X.code, (X.here.setHeapUsed s₂.heap s₂.slotsUsed).setVm hW'.alike, X.tail, State.WarmedH.trans X.warmed hW', X.limits, X.bytes, X.same.trans (hsame.setVm s.vm)⟩,
      ⟨g, mk, s₂, L, rfl, rfl, hqc, rfl, hL, rfl, rfl⟩, ?_⟩
    show Steps p.tables e below _ ((({ U with heap := s₂.heap, slotsUsed := s₂.slotsUsed } : State).setVm s₂.vm).setTop { g with pc := g.pc + len₂, stack := v.toList ++ g.stack })
    rw [← hs₂]
    exact hsteps
  · obtain ⟨e2, q2, q3, q4, q5, q6⟩ := id hsm
    have e3 : s₂ = ({ (U.calling g mk a).setFrames s₂.frames with heap := s₂.heap, slotsUsed := s₂.slotsUsed } : State).setVm s₂.vm := by
      have : s₂ = ({ s₂ with vm := (U.calling g mk a).vm } : State).setVm s₂.vm := rfl
      rw [e2] at this
      exact this
    have hf₂ : s₂.frames = .throwing q :: .java g :: U.frames.tail := hend
    have hW' : U.WarmedH s₂.vm := hW₂
    have hs₂ : s₂ = ((({ U with heap := s₂.heap, slotsUsed := s₂.slotsUsed } : State).setVm s₂.vm).setTop g).pushFrame (.throwing q) := by
      refine e3.trans ?_
      rw [hf₂, State.calling_eq h.top, State.setFrames_setFrames, State.pushFrame, State.frames_setTop _ hr', State.setTop_of_frames _ hr', State.setFrames_setFrames, hr]
      rfl
    have hsame : U.sameButNew ({ U with heap := s₂.heap, slotsUsed := s₂.slotsUsed } : State) L mc ms := by
      refine ⟨?_, q2, q3, q4, q5, q6⟩
      obtain ⟨t, ht, -⟩ := State.frames_cons hr
      show ({ U with heap := s₂.heap, slotsUsed := s₂.slotsUsed } : State) = { U.setFrames U.frames with heap := s₂.heap, slotsUsed := s₂.slotsUsed }
      rw [State.setFrames_self ht]
    subst hg
    refine Or.inr ⟨q, ⟨(({ U with heap := s₂.heap, slotsUsed := s₂.slotsUsed } : State).setVm s₂.vm), Ls ++ L, c0 + mc, s0 + ms⟩,
      ⟨X.admits, X.cas, X.clock, X.frames, X.room, X.hears, X.method, X.code, (X.here.setHeapUsed s₂.heap s₂.slotsUsed).setVm hW'.alike, X.tail, State.WarmedH.trans X.warmed hW', X.limits, X.bytes, X.same.trans (hsame.setVm s.vm)⟩,
      ⟨g, mk, s₂, L, E, ce, rfl, rfl, hx, hce, hcv, hcl, rfl, hL, rfl, rfl⟩, ?_⟩
    show Steps p.tables e below _ (((({ U with heap := s₂.heap, slotsUsed := s₂.slotsUsed } : State).setVm s₂.vm).setTop g).pushFrame (.throwing q))
    rw [← hs₂]
    exact hsteps
end Payer
section Calls
variable {p : Program} {l : Launch} {e : Env} {R : Room} {s : State} {m : MethodId} {args : Array Value} {below : List Frame} {meth : Method} {c : Code} {T : State} {locs : List Loc} {cells slots : Nat}
theorem vx_callV (X : Stand p l e R s m args below meth c T locs cells slots) (hexec : p.tables.exec = Jvm.exec) {own C : String} {index : Nat} {y : MethodName} {bytes : ByteArray} {maxL : Nat} {ret : Option FieldType}
    (hown : s.vm.findClass own = some m.cls) (hlink : (Cond.methodLink own index y).before args s = true) (hinst : (Cond.instanceMethod y).before args s = true) (hsel : (Cond.selects C y y).before args s = true)
    (hcode : (Cond.code y bytes maxL ret).before args s = true) (hy : y.cls ≠ "java/lang/invoke/MethodHandle" ∧ y.cls ≠ "java/lang/invoke/VarHandle")
    {W9 : Nat} {Pre : Pt → Array Value → Prop} {Post : Pt → Array Value → Option Value → Pt → Prop} {PostX : Pt → Array Value → Addr → Pt → Prop} (hK : vx_Back l R p e below s args y 3 W9 Pre Post PostX)
    {b : Addr} {cellB : Cell} (hcell : T.heap[b]? = some cellB) (hobj : cellB.vm.isStatics = false) (hcls : s.vm.findClass C = some cellB.cls)
    {g : JFrame} (hg : g.method = m) (hsize : g.locals.size = c.maxLocals) {argsL rest : List Value} (hlen : ∀ sig, parseMethodDescriptor y.desc = some sig → argsL.length = sig.parameters.length)
    (hstack : g.stack = argsL.reverse ++ .ref b :: rest) (hW : 2 * g.monitorRoom + (rest.map fun v => v.category).sum ≤ W9) (hdg : decode c.code g.pc = .ok (.invokevirtual index, 3))
    (hpre : ∀ vm₁, s.WarmedH vm₁ → Pre ⟨T.setVm vm₁, locs, cells, slots⟩ (Value.ref b :: argsL).toArray) :
    (∃ (v : Option Value) (vm₁ : Vm) (B : Pt), s.WarmedH vm₁ ∧ Stand p l e R s m args below meth c B.U B.locs B.cells B.slots ∧ Post ⟨T.setVm vm₁, locs, cells, slots⟩ (Value.ref b :: argsL).toArray v B ∧
      ∀ target, Steps p.tables e below (B.U.setTop { g with pc := g.pc + 3, stack := v.toList ++ rest }) target → Steps p.tables e below (T.setTop g) target) ∨
    (∃ (q : Addr) (vm₁ : Vm) (B : Pt), s.WarmedH vm₁ ∧ Stand p l e R s m args below meth c B.U B.locs B.cells B.slots ∧ PostX ⟨T.setVm vm₁, locs, cells, slots⟩ (Value.ref b :: argsL).toArray q B ∧
      Steps p.tables e below (T.setTop g) ((B.U.setTop { g with stack := rest }).pushFrame (.throwing q))) := by
  obtain ⟨mk, methM, hnamed, hmethM, hstM, habM⟩ := Cond.instanceMethod_spec hinst
  obtain ⟨methM', cM, hmethM', -, -, -, -, -, -, hsigM⟩ := Cond.code_spec hnamed hcode
  cases hmethM.symm.trans hmethM'
  obtain ⟨c2, r2, m2, q1, q2, q3, q4, kP, hkP, hkPi⟩ := Cond.selects_spec hsel
  cases hcls.symm.trans q1
  cases (State.methodFound?_of_named hnamed hy).symm.trans q2
  cases hnamed.symm.trans q3
  have hselP : selectMethod e.platform s.vm cellB.cls mk = .method mk := by rw [Launch.admits_selectMethod X.admits]; exact q4
  obtain ⟨vm₁, X₁, hstep₁⟩ := X.invokevirtual hexec hown hlink hnamed hmethM hstM hkP hkPi hy (a := b) (cell := cellB) hcell
    (fun z h => by rw [h] at hobj; cases hobj) hselP hmethM habM hkP hkPi (g := g) hg (argsL := argsL) (rest := rest) (hlen _ hsigM) hstack hdg
  rcases hK m meth c ⟨T.setVm vm₁, locs, cells, slots⟩ { g with stack := rest } (.invokevirtual index) mk (Value.ref b :: argsL).toArray X₁ hg hsize hdg hW (X₁.named hnamed) (hpre vm₁ X₁.warmed) with ⟨v, B, X', hpost, hsteps⟩ | ⟨q, B, X', hpost, hsteps⟩
  · exact Or.inl ⟨v, vm₁, B, X₁.warmed, X', hpost, fun target h => hstep₁ _ fun acts => by rw [doInvoke_state]; exact hsteps.trans h⟩
  · exact Or.inr ⟨q, vm₁, B, X₁.warmed, X', hpost, hstep₁ _ fun acts => by rw [doInvoke_state]; exact hsteps⟩
theorem vx_callS (X : Stand p l e R s m args below meth c T locs cells slots) (hexec : p.tables.exec = Jvm.exec) {own : String} {index : Nat} {y : MethodName} {bytes : ByteArray} {maxL : Nat} {ret : Option FieldType}
    (hown : s.vm.findClass own = some m.cls) (hlink : (Cond.methodLink own index y).before args s = true) (hstat : (Cond.static y).before args s = true) (hinit : (Cond.initialized y.cls).before args s = true)
    (hcode : (Cond.code y bytes maxL ret).before args s = true) (hy : y.cls ≠ "java/lang/invoke/MethodHandle" ∧ y.cls ≠ "java/lang/invoke/VarHandle")
    {W9 : Nat} {Pre : Pt → Array Value → Prop} {Post : Pt → Array Value → Option Value → Pt → Prop} {PostX : Pt → Array Value → Addr → Pt → Prop} (hK : vx_Back l R p e below s args y 3 W9 Pre Post PostX)
    {g : JFrame} (hg : g.method = m) (hsize : g.locals.size = c.maxLocals) {argsL rest : List Value} (hlen : ∀ sig, parseMethodDescriptor y.desc = some sig → argsL.length = sig.parameters.length)
    (hstack : g.stack = argsL.reverse ++ rest) (hW : 2 * g.monitorRoom + (rest.map fun v => v.category).sum ≤ W9) (hdg : decode c.code g.pc = .ok (.invokestatic index, 3))
    (hpre : ∀ vm₁, s.WarmedH vm₁ → Pre ⟨T.setVm vm₁, locs, cells, slots⟩ argsL.toArray) :
    (∃ (v : Option Value) (vm₁ : Vm) (B : Pt), s.WarmedH vm₁ ∧ Stand p l e R s m args below meth c B.U B.locs B.cells B.slots ∧ Post ⟨T.setVm vm₁, locs, cells, slots⟩ argsL.toArray v B ∧
      ∀ target, Steps p.tables e below (B.U.setTop { g with pc := g.pc + 3, stack := v.toList ++ rest }) target → Steps p.tables e below (T.setTop g) target) ∨
    (∃ (q : Addr) (vm₁ : Vm) (B : Pt), s.WarmedH vm₁ ∧ Stand p l e R s m args below meth c B.U B.locs B.cells B.slots ∧ PostX ⟨T.setVm vm₁, locs, cells, slots⟩ argsL.toArray q B ∧
      Steps p.tables e below (T.setTop g) ((B.U.setTop { g with stack := rest }).pushFrame (.throwing q))) := by
  obtain ⟨mk, hnamed⟩ := Cond.code_named hcode
  obtain ⟨methM, cM, hmethM, -, -, -, -, -, -, hsigM⟩ := Cond.code_spec hnamed hcode
  have hstatic : methM.isStatic = true := Cond.static_spec hnamed hmethM hstat
  obtain ⟨kP, hkP, -⟩ := className_of_methodNamed hnamed
  have hinitP : kP.init = .initialized := Cond.initialized_spec (findClass_of_methodNamed hnamed) hkP hinit
  obtain ⟨vm₁, X₁, hstep₁⟩ := X.invokestatic hexec hown hlink hnamed hmethM hstatic hkP hinitP hy (g := g) hg (argsL := argsL) (rest := rest) (hlen _ hsigM) hstack hdg
  rcases hK m meth c ⟨T.setVm vm₁, locs, cells, slots⟩ { g with stack := rest } (.invokestatic index) mk argsL.toArray X₁ hg hsize hdg hW (X₁.named hnamed) (hpre vm₁ X₁.warmed) with ⟨v, B, X', hpost, hsteps⟩ | ⟨q, B, X', hpost, hsteps⟩
  · exact Or.inl ⟨v, vm₁, B, X₁.warmed, X', hpost, fun target h => hstep₁ _ fun acts => by rw [doInvoke_state]; exact hsteps.trans h⟩
  · exact Or.inr ⟨q, vm₁, B, X₁.warmed, X', hpost, hstep₁ _ fun acts => by rw [doInvoke_state]; exact hsteps⟩
end Calls
theorem vx_cls {s : State} {T : State} {vm₁ : Vm} {E : String} {k : ClassId} (hW : s.WarmedH vm₁) (h : (T.setVm vm₁).vm.findClass E = some k) : s.vm.findClass E = some k := by
  have h1 : vm₁.findClass E = some k := h
  rw [hW.alike.findClass] at h1
  exact h1
/-- the method's frame g, with q thrown over it -/
def vx_W (p : Program) (l : Launch) (e : Env) (R : Room) (s : State) (m : MethodId) (args : Array Value) (below : List Frame) (meth : Method) (c : Code) (H : Heap) (locs : List Loc) (cells slots : Nat) (Q : State → Prop) (g : JFrame) (q : Addr) : Prop :=
  ∀ T : State, T.heap = H → Stand p l e R s m args below meth c T locs cells slots → ∃ t, Steps p.tables e below ((T.setTop g).pushFrame (.throwing q)) t ∧ Q t
def vx_Run (p : Program) (l : Launch) (e : Env) (R : Room) (s : State) (m : MethodId) (args : Array Value) (below : List Frame) (meth : Method) (c : Code) (H : Heap) (locs : List Loc) (cells slots mc ms : Nat) (g : JFrame) (rest : List Value) (Qa : State → Outcome → State → Prop) (XC : String → State → State → Prop) (free : Addr → Prop) : Prop :=
  ∀ T : State, T.heap = H → Stand p l e R s m args below meth c T locs cells slots →
    (∃ (v : Option Value) (st₀ t T' : State) (L : List Loc), st₀.heap = H ∧ Stand p l e R s m args below meth c T' (locs ++ L) (cells + mc) (slots + ms) ∧ (∀ q ∈ L, free q.base) ∧ T'.heap = t.heap ∧ T'.vm = t.vm ∧ Qa st₀ (.returned v) t ∧
      Goes p e below T g T' { g with pc := g.pc + 3, stack := v.toList ++ rest }) ∨
    (∃ (q : Addr) (st₀ t T' : State) (L : List Loc) (E : String) (ce : Cell), st₀.heap = H ∧ Stand p l e R s m args below meth c T' (locs ++ L) (cells + mc) (slots + ms) ∧ (∀ z ∈ L, free z.base) ∧ T'.heap = t.heap ∧ T'.vm = t.vm ∧ XC E st₀ t ∧ t.heap[q]? = some ce ∧ ce.vm = .none ∧ s.vm.findClass E = some ce.cls ∧
      Steps p.tables e below (T.setTop g) ((T'.setTop { g with stack := rest }).pushFrame (.throwing q)))
def vx_X {S : Type} (px : S → Prop) (B : String → S → State → Prop) (A : Nat → Prop) : String → State → State → Prop := fun E st t => ∃ u : S, px u ∧ B E u t ∧ va_F A st t
section Runs
variable {p : Program} {l : Launch} {e : Env} {R : Room} {s : State} {m : MethodId} {args : Array Value} {below : List Frame} {meth : Method} {c : Code} {H : Heap} {locs : List Loc} {cells slots : Nat}
variable {y : MethodName} {bytes cc : ByteArray} {maxL nL mc ms n index : Nat} {ret : Option FieldType} {ws : List Cond} {rm : Room} {Pc : Array Value → State → Prop} {Qc : Array Value → State → Outcome → State → Prop} {XC : String → State → State → Prop} {free : Addr → Prop} {Ts : List Cond} {own C : String} {b : Addr} {As rest : List Value} {g : JFrame}
theorem vx_callBack (cb : CallB R s args own index y bytes maxL ret ws rm mc ms n) (hM : vx_Met l y ws rm Pc Qc XC mc ms free) (hbl : FrameBlind Pc) : vx_Back l R p e below s args y 3 8 (PreOf R mc ms Pc) (PostOf Qc mc ms free) (vx_Post XC mc ms free) := by
  obtain ⟨hrc, hrs, hfr, hlo, hws, hcw, -, hini, -⟩ := cb
  exact vx_back (bytes := bytes) (maxL := maxL) (ret := ret) hM hbl hrc hrs hfr hlo hws hcw (fun a' U hW => word_at hW (Or.inl (by first | rfl | simp [Cond.onTables, Cond.keeps, Cond.steady])) hini)
theorem vx_runV (S : CallFix p m c cc nL s args Ts own) (hM : vx_Met l y ws rm Pc Qc XC mc ms free) (cw : CallW R s args own C index y bytes maxL ret ws rm mc ms n) (hp : PreV s H C b Pc As)
    (hg : g.method = m) (hn : As.length = n) (hsize : g.locals.size = nL) (hstack : g.stack = As.reverse ++ .ref b :: rest) (hW : 2 * g.monitorRoom + (rest.map fun v => v.category).sum ≤ 8) (hdg : decode cc g.pc = .ok (.invokevirtual index, 3)) (hf : cells + mc ≤ R.cells ∧ slots + ms ≤ R.slots) :
    vx_Run p l e R s m args below meth c H locs cells slots mc ms g rest (Qc (Value.ref b :: As).toArray) XC free := by
  have hK : vx_Back l R p e below s args y 3 8 (PreOf R mc ms Pc) (PostOf Qc mc ms free) (vx_Post XC mc ms free) := vx_callBack cw.1 hM hp.1
  obtain ⟨⟨-, -, -, -, -, -, hcode, -, hy, hlen, hl⟩, hin, hse⟩ := cw
  obtain ⟨hx, hb, hml, ho, -⟩ := S
  obtain ⟨-, ⟨cellB, hcB, hoB, hclB⟩, hPc⟩ := hp
  intro T hT X
  rcases vx_callV X hx (C := C) (bytes := bytes) (maxL := maxL) (ret := ret) ho hl hin hse hcode hy hK (by rw [hT]; exact hcB) hoB hclB hg (hsize.trans hml.symm) (argsL := As) (rest := rest) (fun sig h => hn.trans (hlen sig h)) hstack hW (by rw [hb]; exact hdg)
    (fun vm₁ hW₁ => ⟨hf.1, hf.2, hPc (T.setVm vm₁) hT hW₁⟩) with ⟨v, vm₁, ⟨U', l2, c2, s2⟩, hW₁, X', ⟨g', mk, t, L, e1, e2, hq, h1, hL, h2, h3⟩, st⟩ | ⟨q, vm₁, ⟨U', l2, c2, s2⟩, hW₁, X', ⟨g', mk, t, L, E, ce, e1, e2, hq, hce, hcv, hcl, h1, hL, h2, h3⟩, st⟩
  · dsimp only [Pt.U, Pt.locs, Pt.cells, Pt.slots] at X' e1 e2 h1 h2 h3 st
    subst h1; subst h2; subst h3
    exact Or.inl ⟨v, (T.setVm vm₁).calling g' mk (Value.ref b :: As).toArray, t, U', L, hT, X', hL, e1, e2, hq, st⟩
  · dsimp only [Pt.U, Pt.locs, Pt.cells, Pt.slots] at X' e1 e2 h1 h2 h3 st hcl
    subst h1; subst h2; subst h3
    exact Or.inr ⟨q, (T.setVm vm₁).calling g' mk (Value.ref b :: As).toArray, t, U', L, E, ce, hT, X', hL, e1, e2, hq, hce, hcv, vx_cls hW₁ hcl, st⟩
theorem vx_runS (S : CallFix p m c cc nL s args Ts own) (hM : vx_Met l y ws rm Pc Qc XC mc ms free) (cw : CallB R s args own index y bytes maxL ret ws rm mc ms n ∧ (Cond.static y).before args s = true) (hp : PreS s H Pc As)
    (hg : g.method = m) (hn : As.length = n) (hsize : g.locals.size = nL) (hstack : g.stack = As.reverse ++ rest) (hW : 2 * g.monitorRoom + (rest.map fun v => v.category).sum ≤ 8) (hdg : decode cc g.pc = .ok (.invokestatic index, 3)) (hf : cells + mc ≤ R.cells ∧ slots + ms ≤ R.slots) :
    vx_Run p l e R s m args below meth c H locs cells slots mc ms g rest (Qc As.toArray) XC free := by
  have hK : vx_Back l R p e below s args y 3 8 (PreOf R mc ms Pc) (PostOf Qc mc ms free) (vx_Post XC mc ms free) := vx_callBack cw.1 hM hp.1
  obtain ⟨⟨-, -, -, -, -, -, hcode, hini, hy, hlen, hl⟩, hstt⟩ := cw
  obtain ⟨hx, hb, hml, ho, -⟩ := S
  intro T hT X
  rcases vx_callS X hx (bytes := bytes) (maxL := maxL) (ret := ret) ho hl hstt hini hcode hy hK hg (hsize.trans hml.symm) (argsL := As) (rest := rest) (fun sig h => hn.trans (hlen sig h)) hstack hW (by rw [hb]; exact hdg)
    (fun vm₁ hW₁ => ⟨hf.1, hf.2, hp.2 (T.setVm vm₁) hT hW₁⟩) with ⟨v, vm₁, ⟨U', l2, c2, s2⟩, hW₁, X', ⟨g', mk, t, L, e1, e2, hq, h1, hL, h2, h3⟩, st⟩ | ⟨q, vm₁, ⟨U', l2, c2, s2⟩, hW₁, X', ⟨g', mk, t, L, E, ce, e1, e2, hq, hce, hcv, hcl, h1, hL, h2, h3⟩, st⟩
  · dsimp only [Pt.U, Pt.locs, Pt.cells, Pt.slots] at X' e1 e2 h1 h2 h3 st
    subst h1; subst h2; subst h3
    exact Or.inl ⟨v, (T.setVm vm₁).calling g' mk As.toArray, t, U', L, hT, X', hL, e1, e2, hq, st⟩
  · dsimp only [Pt.U, Pt.locs, Pt.cells, Pt.slots] at X' e1 e2 h1 h2 h3 st hcl
    subst h1; subst h2; subst h3
    exact Or.inr ⟨q, (T.setVm vm₁).calling g' mk As.toArray, t, U', L, E, ce, hT, X', hL, e1, e2, hq, hce, hcv, vx_cls hW₁ hcl, st⟩
end Runs
section Rows
variable {p : Program} {l : Launch} {e : Env} {R : Room} {s : State} {m : MethodId} {args : Array Value} {below : List Frame} {meth : Method} {c : Code} {H : Heap} {locs : List Loc} {cells slots : Nat} {Q : State → Prop}
variable {mc ms : Nat} {free : Addr → Prop} {A0 A1 : Nat → Prop} {H0 : Heap} {a : Array Value} {pc : Nat} {ls : Array Slot} {st0 rest : List Value}
theorem vx_keep {st₀ t T' : State} {L : List Loc} (h0 : st₀.heap = H) (e1 : T'.heap = t.heap) (hS : va_S A0 H0 H locs) (hA : ∀ q, q < H.size → A1 q → A0 q) (hf : ∀ q, free q → A0 q) (hL : ∀ q ∈ L, free q.base) (hF : va_F A1 st₀ t) :
    H.size ≤ T'.heap.size ∧ (∀ q : Nat, q < H.size → ¬ A1 q → T'.heap[q]? = H[q]?) ∧ va_S A0 H0 T'.heap (locs ++ L) := by
  obtain ⟨hz, hk⟩ := hF
  rw [h0] at hz hk
  exact ⟨by rw [e1]; exact hz, fun q h1 h2 => by rw [e1]; exact hk q h1 h2,
    ⟨Nat.le_trans hS.1 (by rw [e1]; exact hz), fun q h1 h2 => by rw [e1, hk q (Nat.lt_of_lt_of_le h1 hS.1) (fun z => h2 (hA q (Nat.lt_of_lt_of_le h1 hS.1) z))]; exact hS.2.1 q h1 h2, fun q hq => by
      rcases List.mem_append.mp hq with h | h
      · exact hS.2.2 q h
      · exact hf _ (hL q h)⟩⟩
theorem vx_calli {S SX : Type} {post : Int32 → S → Prop} {px : SX → Prop} {B : S → State → Prop} {BX : String → SX → State → Prop} {AX : Nat → Prop} (hr : vx_Run p l e R s m args below meth c H locs cells slots mc ms (F0 m pc ls st0) rest (va_Qi post B A1 a) (vx_X px BX AX) free) (hS : va_S A0 H0 H locs) (hA : ∀ q, q < H.size → A1 q → A0 q) (hf : ∀ q, free q → A0 q) (hAX : ∀ q, q < H.size → AX q → A0 q)
    (kx : ∀ (E : String) (ce : Cell) (q9 : Addr) (u : SX) (t : State) (H1 : Heap) (locs1 : List Loc), t.heap = H1 → s.vm.Alike t.vm → px u → BX E u t → H.size ≤ H1.size → (∀ q : Nat, q < H.size → ¬ AX q → H1[q]? = H[q]?) → va_S A0 H0 H1 locs1 → H1[q9]? = some ce → ce.vm = .none → s.vm.findClass E = some ce.cls → vx_W p l e R s m args below meth c H1 locs1 (cells + mc) (slots + ms) Q (F0 m pc ls rest) q9)
    (kk : ∀ (r : Int32) (u : S) (t : State) (H1 : Heap) (locs1 : List Loc), t.heap = H1 → s.vm.Alike t.vm → post r u → B u t → H.size ≤ H1.size → (∀ q : Nat, q < H.size → ¬ A1 q → H1[q]? = H[q]?) → va_S A0 H0 H1 locs1 → W p l e R s m args below meth c H1 locs1 (cells + mc) (slots + ms) Q (F0 m (pc + 3) ls (.int r :: rest))) : W p l e R s m args below meth c H locs cells slots Q (F0 m pc ls st0) := by
  intro T hT X
  rcases hr T hT X with ⟨v, st₀, t, T', L, h0, X', hL, e1, e2, ⟨⟨r, u, hv, hp, hb⟩, hF⟩, st⟩ | ⟨q, st₀, t, T', L, E, ce, h0, X', hL, e1, e2, ⟨u, hp, hb, hF⟩, hce, hcv, hcl, st⟩
  · cases hv
    obtain ⟨k1, k2, k3⟩ := vx_keep h0 e1 hS hA hf hL hF
    obtain ⟨t2, a1, b1⟩ := kk r u t T'.heap (locs ++ L) e1.symm (by rw [← e2]; exact X'.warmed.alike) hp hb k1 k2 k3 T' rfl X'
    exact ⟨t2, st t2 a1, b1⟩
  · obtain ⟨k1, k2, k3⟩ := vx_keep h0 e1 hS hAX hf hL hF
    obtain ⟨t2, a1, b1⟩ := kx E ce q u t T'.heap (locs ++ L) e1.symm (by rw [← e2]; exact X'.warmed.alike) hp hb k1 k2 k3 (by rw [e1]; exact hce) hcv hcl T' rfl X'
    exact ⟨t2, st.trans a1, b1⟩
theorem vx_calll {S SX : Type} {post : Int64 → S → Prop} {px : SX → Prop} {B : S → State → Prop} {BX : String → SX → State → Prop} {AX : Nat → Prop} (hr : vx_Run p l e R s m args below meth c H locs cells slots mc ms (F0 m pc ls st0) rest (va_Ql post B A1 a) (vx_X px BX AX) free) (hS : va_S A0 H0 H locs) (hA : ∀ q, q < H.size → A1 q → A0 q) (hf : ∀ q, free q → A0 q) (hAX : ∀ q, q < H.size → AX q → A0 q)
    (kx : ∀ (E : String) (ce : Cell) (q9 : Addr) (u : SX) (t : State) (H1 : Heap) (locs1 : List Loc), t.heap = H1 → s.vm.Alike t.vm → px u → BX E u t → H.size ≤ H1.size → (∀ q : Nat, q < H.size → ¬ AX q → H1[q]? = H[q]?) → va_S A0 H0 H1 locs1 → H1[q9]? = some ce → ce.vm = .none → s.vm.findClass E = some ce.cls → vx_W p l e R s m args below meth c H1 locs1 (cells + mc) (slots + ms) Q (F0 m pc ls rest) q9)
    (kk : ∀ (r : Int64) (u : S) (t : State) (H1 : Heap) (locs1 : List Loc), t.heap = H1 → s.vm.Alike t.vm → post r u → B u t → H.size ≤ H1.size → (∀ q : Nat, q < H.size → ¬ A1 q → H1[q]? = H[q]?) → va_S A0 H0 H1 locs1 → W p l e R s m args below meth c H1 locs1 (cells + mc) (slots + ms) Q (F0 m (pc + 3) ls (.long r :: rest))) : W p l e R s m args below meth c H locs cells slots Q (F0 m pc ls st0) := by
  intro T hT X
  rcases hr T hT X with ⟨v, st₀, t, T', L, h0, X', hL, e1, e2, ⟨⟨r, u, hv, hp, hb⟩, hF⟩, st⟩ | ⟨q, st₀, t, T', L, E, ce, h0, X', hL, e1, e2, ⟨u, hp, hb, hF⟩, hce, hcv, hcl, st⟩
  · cases hv
    obtain ⟨k1, k2, k3⟩ := vx_keep h0 e1 hS hA hf hL hF
    obtain ⟨t2, a1, b1⟩ := kk r u t T'.heap (locs ++ L) e1.symm (by rw [← e2]; exact X'.warmed.alike) hp hb k1 k2 k3 T' rfl X'
    exact ⟨t2, st t2 a1, b1⟩
  · obtain ⟨k1, k2, k3⟩ := vx_keep h0 e1 hS hAX hf hL hF
    obtain ⟨t2, a1, b1⟩ := kx E ce q u t T'.heap (locs ++ L) e1.symm (by rw [← e2]; exact X'.warmed.alike) hp hb k1 k2 k3 (by rw [e1]; exact hce) hcv hcl T' rfl X'
    exact ⟨t2, st.trans a1, b1⟩
theorem vx_callf {S SX : Type} {post : UInt32 → S → Prop} {px : SX → Prop} {B : S → State → Prop} {BX : String → SX → State → Prop} {AX : Nat → Prop} (hr : vx_Run p l e R s m args below meth c H locs cells slots mc ms (F0 m pc ls st0) rest (va_Qf post B A1 a) (vx_X px BX AX) free) (hS : va_S A0 H0 H locs) (hA : ∀ q, q < H.size → A1 q → A0 q) (hf : ∀ q, free q → A0 q) (hAX : ∀ q, q < H.size → AX q → A0 q)
    (kx : ∀ (E : String) (ce : Cell) (q9 : Addr) (u : SX) (t : State) (H1 : Heap) (locs1 : List Loc), t.heap = H1 → s.vm.Alike t.vm → px u → BX E u t → H.size ≤ H1.size → (∀ q : Nat, q < H.size → ¬ AX q → H1[q]? = H[q]?) → va_S A0 H0 H1 locs1 → H1[q9]? = some ce → ce.vm = .none → s.vm.findClass E = some ce.cls → vx_W p l e R s m args below meth c H1 locs1 (cells + mc) (slots + ms) Q (F0 m pc ls rest) q9)
    (kk : ∀ (r : UInt32) (u : S) (t : State) (H1 : Heap) (locs1 : List Loc), t.heap = H1 → s.vm.Alike t.vm → post r u → B u t → H.size ≤ H1.size → (∀ q : Nat, q < H.size → ¬ A1 q → H1[q]? = H[q]?) → va_S A0 H0 H1 locs1 → W p l e R s m args below meth c H1 locs1 (cells + mc) (slots + ms) Q (F0 m (pc + 3) ls (.float r :: rest))) : W p l e R s m args below meth c H locs cells slots Q (F0 m pc ls st0) := by
  intro T hT X
  rcases hr T hT X with ⟨v, st₀, t, T', L, h0, X', hL, e1, e2, ⟨⟨r, u, hv, hp, hb⟩, hF⟩, st⟩ | ⟨q, st₀, t, T', L, E, ce, h0, X', hL, e1, e2, ⟨u, hp, hb, hF⟩, hce, hcv, hcl, st⟩
  · cases hv
    obtain ⟨k1, k2, k3⟩ := vx_keep h0 e1 hS hA hf hL hF
    obtain ⟨t2, a1, b1⟩ := kk r u t T'.heap (locs ++ L) e1.symm (by rw [← e2]; exact X'.warmed.alike) hp hb k1 k2 k3 T' rfl X'
    exact ⟨t2, st t2 a1, b1⟩
  · obtain ⟨k1, k2, k3⟩ := vx_keep h0 e1 hS hAX hf hL hF
    obtain ⟨t2, a1, b1⟩ := kx E ce q u t T'.heap (locs ++ L) e1.symm (by rw [← e2]; exact X'.warmed.alike) hp hb k1 k2 k3 (by rw [e1]; exact hce) hcv hcl T' rfl X'
    exact ⟨t2, st.trans a1, b1⟩
theorem vx_calld {S SX : Type} {post : UInt64 → S → Prop} {px : SX → Prop} {B : S → State → Prop} {BX : String → SX → State → Prop} {AX : Nat → Prop} (hr : vx_Run p l e R s m args below meth c H locs cells slots mc ms (F0 m pc ls st0) rest (va_Qd post B A1 a) (vx_X px BX AX) free) (hS : va_S A0 H0 H locs) (hA : ∀ q, q < H.size → A1 q → A0 q) (hf : ∀ q, free q → A0 q) (hAX : ∀ q, q < H.size → AX q → A0 q)
    (kx : ∀ (E : String) (ce : Cell) (q9 : Addr) (u : SX) (t : State) (H1 : Heap) (locs1 : List Loc), t.heap = H1 → s.vm.Alike t.vm → px u → BX E u t → H.size ≤ H1.size → (∀ q : Nat, q < H.size → ¬ AX q → H1[q]? = H[q]?) → va_S A0 H0 H1 locs1 → H1[q9]? = some ce → ce.vm = .none → s.vm.findClass E = some ce.cls → vx_W p l e R s m args below meth c H1 locs1 (cells + mc) (slots + ms) Q (F0 m pc ls rest) q9)
    (kk : ∀ (r : UInt64) (u : S) (t : State) (H1 : Heap) (locs1 : List Loc), t.heap = H1 → s.vm.Alike t.vm → post r u → B u t → H.size ≤ H1.size → (∀ q : Nat, q < H.size → ¬ A1 q → H1[q]? = H[q]?) → va_S A0 H0 H1 locs1 → W p l e R s m args below meth c H1 locs1 (cells + mc) (slots + ms) Q (F0 m (pc + 3) ls (.double r :: rest))) : W p l e R s m args below meth c H locs cells slots Q (F0 m pc ls st0) := by
  intro T hT X
  rcases hr T hT X with ⟨v, st₀, t, T', L, h0, X', hL, e1, e2, ⟨⟨r, u, hv, hp, hb⟩, hF⟩, st⟩ | ⟨q, st₀, t, T', L, E, ce, h0, X', hL, e1, e2, ⟨u, hp, hb, hF⟩, hce, hcv, hcl, st⟩
  · cases hv
    obtain ⟨k1, k2, k3⟩ := vx_keep h0 e1 hS hA hf hL hF
    obtain ⟨t2, a1, b1⟩ := kk r u t T'.heap (locs ++ L) e1.symm (by rw [← e2]; exact X'.warmed.alike) hp hb k1 k2 k3 T' rfl X'
    exact ⟨t2, st t2 a1, b1⟩
  · obtain ⟨k1, k2, k3⟩ := vx_keep h0 e1 hS hAX hf hL hF
    obtain ⟨t2, a1, b1⟩ := kx E ce q u t T'.heap (locs ++ L) e1.symm (by rw [← e2]; exact X'.warmed.alike) hp hb k1 k2 k3 (by rw [e1]; exact hce) hcv hcl T' rfl X'
    exact ⟨t2, st.trans a1, b1⟩
theorem vx_callv {S SX : Type} {post : S → Prop} {px : SX → Prop} {B : S → State → Prop} {BX : String → SX → State → Prop} {AX : Nat → Prop} (hr : vx_Run p l e R s m args below meth c H locs cells slots mc ms (F0 m pc ls st0) rest (va_Qv post B A1 a) (vx_X px BX AX) free) (hS : va_S A0 H0 H locs) (hA : ∀ q, q < H.size → A1 q → A0 q) (hf : ∀ q, free q → A0 q) (hAX : ∀ q, q < H.size → AX q → A0 q)
    (kx : ∀ (E : String) (ce : Cell) (q9 : Addr) (u : SX) (t : State) (H1 : Heap) (locs1 : List Loc), t.heap = H1 → s.vm.Alike t.vm → px u → BX E u t → H.size ≤ H1.size → (∀ q : Nat, q < H.size → ¬ AX q → H1[q]? = H[q]?) → va_S A0 H0 H1 locs1 → H1[q9]? = some ce → ce.vm = .none → s.vm.findClass E = some ce.cls → vx_W p l e R s m args below meth c H1 locs1 (cells + mc) (slots + ms) Q (F0 m pc ls rest) q9)
    (kk : ∀ (u : S) (t : State) (H1 : Heap) (locs1 : List Loc), t.heap = H1 → s.vm.Alike t.vm → post u → B u t → H.size ≤ H1.size → (∀ q : Nat, q < H.size → ¬ A1 q → H1[q]? = H[q]?) → va_S A0 H0 H1 locs1 → W p l e R s m args below meth c H1 locs1 (cells + mc) (slots + ms) Q (F0 m (pc + 3) ls (rest))) : W p l e R s m args below meth c H locs cells slots Q (F0 m pc ls st0) := by
  intro T hT X
  rcases hr T hT X with ⟨v, st₀, t, T', L, h0, X', hL, e1, e2, ⟨⟨u, hv, hp, hb⟩, hF⟩, st⟩ | ⟨q, st₀, t, T', L, E, ce, h0, X', hL, e1, e2, ⟨u, hp, hb, hF⟩, hce, hcv, hcl, st⟩
  · cases hv
    obtain ⟨k1, k2, k3⟩ := vx_keep h0 e1 hS hA hf hL hF
    obtain ⟨t2, a1, b1⟩ := kk u t T'.heap (locs ++ L) e1.symm (by rw [← e2]; exact X'.warmed.alike) hp hb k1 k2 k3 T' rfl X'
    exact ⟨t2, st t2 a1, b1⟩
  · obtain ⟨k1, k2, k3⟩ := vx_keep h0 e1 hS hAX hf hL hF
    obtain ⟨t2, a1, b1⟩ := kx E ce q u t T'.heap (locs ++ L) e1.symm (by rw [← e2]; exact X'.warmed.alike) hp hb k1 k2 k3 (by rw [e1]; exact hce) hcv hcl T' rfl X'
    exact ⟨t2, st.trans a1, b1⟩
/-- caught by the row x of this method's table; the rows ahead don't take it -/
theorem vx_catch {own name : String} {E : String} {ce : Cell} {q : Addr} (hown : s.vm.findClass own = some m.cls) (pre : List ExceptionTableEntry) (x : ExceptionTableEntry) (suf : List ExceptionTableEntry) (hsplit : c.exceptionTable.toList = pre ++ x :: suf)
    (hpass : ∀ z ∈ pre, covers z pc = false ∨ (z.catchType ≠ 0 ∧ ∃ nm : String, (Cond.classLink own z.catchType nm).before args s = true ∧ va_Nc E nm s)) (hx : covers x pc = true) (h0 : x.catchType ≠ 0)
    (hlink : (Cond.classLink own x.catchType name).before args s = true) (hcast : (Cond.castable E name).before args s = true) (hcell : H[q]? = some ce) (hv : ce.vm = .none) (hcl : s.vm.findClass E = some ce.cls)
    (kk : W p l e R s m args below meth c H locs cells slots Q (F0 m x.handlerPc ls [.ref q])) : vx_W p l e R s m args below meth c H locs cells slots Q (F0 m pc ls rest) q := by
  intro T hT X
  have hpl : e.platform.magicAccessors = ({} : Platform).magicAccessors := by rw [X.admits.platform]
  obtain ⟨c3, c4, hc3, hc4, hasg⟩ := Cond.castable_spec hcast
  cases Option.some.inj (hc3.symm.trans hcl)
  obtain ⟨c5, hc5, hcl5⟩ := Cond.classLink_spec hown hlink e.platform hpl
  cases Option.some.inj (hc4.symm.trans hc5)
  obtain ⟨vm', X', st⟩ := X.thenCaughtThrough q (g := F0 m pc ls rest) rfl (Steps.refl _) (by rw [hT]; exact hcell) (by rw [hv]; rfl) (by obtain ⟨k9, h9, -⟩ := Vm.findClass_spec hcl; exact ⟨k9, h9⟩) pre x suf hsplit
    (fun z hz => by
      rcases hpass z hz with h | ⟨hz0, nm, hl1, hn1⟩
      · exact Or.inl h
      · obtain ⟨c6, hc6, hcl6⟩ := Cond.classLink_spec hown hl1 e.platform hpl
        obtain ⟨a8, b8, h1, h2, h3⟩ := hn1
        cases Option.some.inj (h1.symm.trans hcl)
        cases Option.some.inj (h2.symm.trans hc6)
        exact Or.inr ⟨hz0, _, hcl6, h3⟩) hx (Or.inr ⟨h0, c4, hcl5, hasg⟩)
  obtain ⟨t, a1, b1⟩ := kk (T.setVm vm') hT X'
  exact ⟨t, st.trans a1, b1⟩
end Rows
section Ends
variable {p : Program} {l : Launch} {e : Env} {R : Room} {s : State} {m : MethodId} {args : Array Value} {below : List Frame} {meth : Method} {c : Code} {H : Heap} {locs : List Loc} {cells slots : Nat} {Q : State → Prop}
variable {mc ms : Nat} {free : Addr → Prop} {A0 A1 : Nat → Prop} {H0 : Heap} {a : Array Value} {ls : Array Slot} {st0 rest : List Value}
variable {Qc : Array Value → State → Outcome → State → Prop} {XC : String → State → State → Prop}
/-- what a body that may throw owes at its end -/
def vx_MQ (below : List Frame) (Qc : Array Value → State → Outcome → State → Prop) (XC : String → State → State → Prop) (a : Array Value) (s : State) (mc ms : Nat) (free : Addr → Prop) : State → Prop := fun t =>
  ∃ o, t.status = .running ∧ Ended t below o ∧ vx_Q Qc XC mc ms free a s o t
theorem vx_ret {g : JFrame} {mc ms : Nat} (k : W p l e R s m args below meth c H locs cells slots (MQ below Qc args s mc ms free) g) : W p l e R s m args below meth c H locs cells slots (vx_MQ below Qc XC args s mc ms free) g := by
  intro T hT X
  obtain ⟨t, a1, o, b1, b2, b3, b4⟩ := k T hT X
  exact ⟨t, a1, o, b1, b2, Or.inl ⟨b3, b4⟩⟩
/-- not caught here: it goes on to the caller -/
theorem vx_widen {g : JFrame} {q : Addr} {k n : Nat} (h1 : cells ≤ k) (h2 : slots ≤ n) (kk : vx_W p l e R s m args below meth c H locs k n Q g q) : vx_W p l e R s m args below meth c H locs cells slots Q g q := fun T hT X => kk T hT (stand_widen X h1 h2)
theorem vx_out {pc : Nat} {E : String} {ce : Cell} {q : Addr} {mc ms : Nat} (hout : ∀ x ∈ c.exceptionTable.toList, covers x pc = false) (hlocks : meth.locks = false) (hcell : H[q]? = some ce) (hv : ce.vm = .none) (hcl : s.vm.findClass E = some ce.cls)
    (hx : ∀ t : State, t.heap = H → s.vm.Alike t.vm → XC E s t) (hf : ∀ z ∈ locs, free z.base) (hc : cells ≤ mc) (hs : slots ≤ ms) :
    vx_W p l e R s m args below meth c H locs cells slots (vx_MQ below Qc XC args s mc ms free) (F0 m pc ls rest) q := by
  intro T hT X
  obtain ⟨st1, hrun, hend, hW, hsm⟩ := X.leaveThrown q (g := F0 m pc ls rest) rfl rfl rfl hout hlocks
  have hcell9 : (T.setFrames (.throwing q :: below)).heap[q]? = some ce := by
    show T.heap[q]? = some ce
    rw [hT]; exact hcell
  exact ⟨_, st1, .threw q, hrun, hend, Or.inr ⟨q, rfl, E, ce, locs, hx _ hT hW.alike, hcell9, hv, hcl, hW, hsm.mono hc hs, hf⟩⟩
theorem vx_frame {U : State} {k n : Nat} (h : s.sameButNew ({ U with vm := s.vm } : State) locs k n) : s.heap.size ≤ U.heap.size ∧ ∀ q : Nat, q < s.heap.size → (∀ z ∈ locs, z.base ≠ q) → U.heap[q]? = s.heap[q]? := by
  obtain ⟨-, h2, -, -, -, h6⟩ := h
  refine ⟨h2, fun q hq hz => ?_⟩
  obtain ⟨c9, e1, e2, e3, e4⟩ := h6 q _ (Array.getElem?_eq_getElem hq)
  have hs : c9.slots = (s.heap[q]).slots := Array.ext_getElem? fun i => e4 i fun hm => hz _ hm rfl
  have h9 : c9 = s.heap[q] := by
    rw [hs] at e2
    exact e2
  have e5 : U.heap[q]? = some c9 := e1
  rw [e5, h9, Array.getElem?_eq_getElem hq]
/-- the words of a throw but the four that speak of the heap -/
def vx_no (w : Cond) : Bool := decide (w ≠ .isRef (.static Bundle.tN "UNASSIGNED_STACK" Bundle.steD)) && decide (w ≠ .isRef (.static Bundle.tN "SUPPRESSED_SENTINEL" Bundle.listD)) && decide (w ≠ .laysStatic Bundle.tN "UNASSIGNED_STACK" Bundle.steD) && decide (w ≠ .laysStatic Bundle.tN "SUPPRESSED_SENTINEL" Bundle.listD)
def vx_at0 (own : String) (ic : Nat) (X : String) (names : List String) : List Cond := (Bundle.ownAtoms0 own ic X names).filter vx_no
def vx_atS (own : String) (ic : Nat) (X : String) (names : List String) : List Cond := (Bundle.ownAtoms own ic X names).filter vx_no
/-- a word that the tables alone decide, or a good one -/
def vx_ot (w : Cond) : Bool := w.onTables || goodWord w
theorem vx_ot_at {args a' : Array Value} {s U : State} {w : Cond} (hW : s.WarmedH U.vm) (hvm : s.vm = U.vm) (hg : vx_ot w = true) (h : w.before args s = true) : w.before a' U = true := by
  simp only [vx_ot, Bool.or_eq_true] at hg
  rcases hg with hg | hg
  · exact va_tabs hg hvm h
  · exact word_at hW (good_of_word hg) h
/-- a list's words: the good ones out of the method's own list, the others by premises of their own -/
theorem vx_hat {args : Array Value} {s : State} {L B : List Cond} (h1 : ∀ w ∈ L.filter goodWord, w.before args s = true) (h2 : ∀ w ∈ L.filter (fun w => !goodWord w), w ∈ B) (h3 : ∀ w ∈ B, w.before args s = true) : ∀ w ∈ L, w.before args s = true := by
  intro w hw
  by_cases g : goodWord w = true
  · exact h1 w (List.mem_filter.mpr ⟨hw, g⟩)
  · refine h3 w (h2 w (List.mem_filter.mpr ⟨hw, ?_⟩))
    show (!goodWord w) = true
    cases hgw : goodWord w
    · rfl
    · exact absurd hgw g
theorem vx_c {args : Array Value} {s : State} {w : Cond} {B : List Cond} (h : w.before args s = true) (t : ∀ w ∈ B, w.before args s = true) : ∀ w' ∈ w :: B, w'.before args s = true := fun w' h' => (List.mem_cons.mp h').elim (fun e => by rw [e]; exact h) (t w')
theorem vx_n {args : Array Value} {s : State} : ∀ w ∈ ([] : List Cond), w.before args s = true := fun _ h => nomatch h
theorem vx_own {args : Array Value} {s : State} {L : List Cond} (h1 : ∀ w ∈ L.filter vx_no, w.before args s = true)
    (hU : (Cond.isRef (.static Bundle.tN "UNASSIGNED_STACK" Bundle.steD)).before args s = true) (hN : (Cond.isRef (.static Bundle.tN "SUPPRESSED_SENTINEL" Bundle.listD)).before args s = true)
    (lU : (Cond.laysStatic Bundle.tN "UNASSIGNED_STACK" Bundle.steD).before args s = true) (lN : (Cond.laysStatic Bundle.tN "SUPPRESSED_SENTINEL" Bundle.listD).before args s = true) : ∀ w ∈ L, w.before args s = true := by
  intro w hw
  by_cases e1 : w = .isRef (.static Bundle.tN "UNASSIGNED_STACK" Bundle.steD)
  · rw [e1]; exact hU
  · by_cases e2 : w = .isRef (.static Bundle.tN "SUPPRESSED_SENTINEL" Bundle.listD)
    · rw [e2]; exact hN
    · by_cases e3 : w = .laysStatic Bundle.tN "UNASSIGNED_STACK" Bundle.steD
      · rw [e3]; exact lU
      · by_cases e4 : w = .laysStatic Bundle.tN "SUPPRESSED_SENTINEL" Bundle.listD
        · rw [e4]; exact lN
        · exact h1 w (List.mem_filter.mpr ⟨hw, by unfold vx_no; rw [decide_eq_true e1, decide_eq_true e2, decide_eq_true e3, decide_eq_true e4]; rfl⟩)
/-- where a static field lies, its class's statics cell in H -/
def vx_L (C n d : String) (A : Nat → Prop) (U : State) (H : Heap) : Prop := ∃ (c : ClassId) (k : Class) (i : Nat) (f : Field) (a : Nat) (cell : Cell), U.vm.findClass C = some c ∧ U.fieldFound? C n d = some (c, k, i, f) ∧ f.isStatic = true ∧ k.statics = some a ∧ H[a]? = some cell ∧ cell.vm.isStatics = true ∧ cell.cls = c ∧ f.slot < cell.slots.size ∧ k.staticTypes[f.slot]? = some f.type ∧ ¬ A a
theorem vx_L.moved {C n d : String} {A : Nat → Prop} {u U : State} {H : Heap} (hvm : u.vm.Alike U.vm) (h : vx_L C n d A u H) : vx_L C n d A U H := by
  obtain ⟨c, k, i, f, a, cell, h1, h2, h3, h4, h5, h6, h7, h8, h9, h10⟩ := h
  obtain ⟨k', hi', he⟩ := State.fieldFound?_setVm hvm h2
  exact ⟨c, k', i, f, a, cell, by rw [hvm.findClass]; exact h1, hi', h3, by rw [he]; exact h4, h5, h6, h7, h8, by rw [he]; exact h9, h10⟩
theorem vx_L.kept {C n d : String} {A : Nat → Prop} {U : State} {H H1 : Heap} (h : vx_L C n d A U H) (hq : ∀ a : Nat, a < H.size → ¬ A a → H1[a]? = H[a]?) : vx_L C n d A U H1 := by
  obtain ⟨c, k, i, f, a, cell, h1, h2, h3, h4, h5, h6, h7, h8, h9, h10⟩ := h
  exact ⟨c, k, i, f, a, cell, h1, h2, h3, h4, by rw [hq a (Array.getElem?_eq_some_iff.mp h5).1 h10]; exact h5, h6, h7, h8, h9, h10⟩
theorem vx_L.narrow {C n d : String} {A B : Nat → Prop} {U : State} {H : Heap} (h : vx_L C n d A U H) (hAB : ∀ q, B q → A q) : vx_L C n d B U H := by
  obtain ⟨c, k, i, f, a, cell, h1, h2, h3, h4, h5, h6, h7, h8, h9, h10⟩ := h
  exact ⟨c, k, i, f, a, cell, h1, h2, h3, h4, h5, h6, h7, h8, h9, fun z => h10 (hAB _ z)⟩
theorem vx_L.word {C n d : String} {A : Nat → Prop} {s : State} {args : Array Value} (h : vx_L C n d A s s.heap) : (Cond.laysStatic C n d).before args s = true := by
  obtain ⟨c, k, i, f, a, cell, h1, h2, h3, h4, h5, h6, h7, h8, h9, -⟩ := h
  show (Cond.laysStatic C n d).holds args s none s [] = true
  exact Cond.laysStatic_of h1 h2 h3 h4 h5 h6 h7 h8 h9
/-- .. and what it holds: null or some reference -/
def vx_Zq (C n d : String) (A : Nat → Prop) (U : State) (H : Heap) : Prop := va_Zq C n d A U H ∧ vx_L C n d A U H
theorem vx_Zq.moved {C n d : String} {A : Nat → Prop} {u U : State} {H : Heap} (hvm : u.vm.Alike U.vm) (h : vx_Zq C n d A u H) : vx_Zq C n d A U H := ⟨va_Zq.moved hvm h.1, vx_L.moved hvm h.2⟩
theorem vx_Zq.kept {C n d : String} {A : Nat → Prop} {U : State} {H H1 : Heap} (h : vx_Zq C n d A U H) (hq : ∀ a : Nat, a < H.size → ¬ A a → H1[a]? = H[a]?) : vx_Zq C n d A U H1 := ⟨va_Zq.kept h.1 hq, vx_L.kept h.2 hq⟩
theorem vx_Zq.narrow {C n d : String} {A B : Nat → Prop} {U : State} {H : Heap} (h : vx_Zq C n d A U H) (hAB : ∀ q, B q → A q) : vx_Zq C n d B U H := ⟨va_Zq.narrow h.1 hAB, vx_L.narrow h.2 hAB⟩
theorem vx_Zqof {args : Array Value} {s : State} {C n d : String} {A : Nat → Prop} (hl : (Cond.laysStatic C n d).before args s = true) (hini : (Cond.initialized C).before args s = true) (h : (Cond.isRef (.static C n d)).before args s = true) (hA : ∀ a : Nat, a < s.heap.size → ¬ A a) : vx_Zq C n d A s s.heap := by
  refine ⟨va_Zqof hl hini h hA, ?_⟩
  obtain ⟨c, k, i, f, a, cell, h1, h2, h3, h4, h5, h6, h7, h8, h9⟩ := Cond.laysStatic_spec hl
  exact ⟨c, k, i, f, a, cell, h1, h2, h3, h4, h5, h6, h7, h8, h9, hA a (Array.getElem?_eq_some_iff.mp h5).1⟩
theorem vx_isRef {C n d : String} {v : Value} {A : Nat → Prop} {s : State} {args : Array Value} (h : va_Z C n d v A s s.heap) (hv : v.isRef = true) : (Cond.isRef (.static C n d)).before args s = true := by
  obtain ⟨cf, kf, fi, f, a, cell, h1, h2, h3, h4, h5, h6, h7, -⟩ := h
  have he : (Term.static C n d).eval args s none [] s = some v := by
    simp [Term.eval, State.fieldNamed?, h1, h2, h4, h5, h6, h7]
  simp only [Cond.before, Cond.holds, Cond.value, he]
  cases v <;> simp_all [Value.isRef]
theorem vx_isRefq {C n d : String} {A : Nat → Prop} {s : State} {args : Array Value} (h : va_Zq C n d A s s.heap) : (Cond.isRef (.static C n d)).before args s = true := by
  rcases h with h | ⟨t, h⟩
  · exact vx_isRef h rfl
  · exact vx_isRef h rfl
/-- the same frame, seen from here: as if the method were called anew in this heap -/
theorem vx_rebase {T : State} (X : Stand p l e R s m args below meth c T locs cells slots) {R' : Room} (hf : R'.frames ≤ R.frames) (hl : R'.locals ≤ R.locals) (hc : cells + R'.cells ≤ R.cells) (hs : slots + R'.slots ≤ R.slots) :
    Stand p l e R' ((T.setVm s.vm).setFrames (.invoking m args :: below)) m args below meth c T [] 0 0 := by
  have htop : (T.setVm s.vm).topJava?.isSome := X.here.top
  have hF : ((T.setVm s.vm).setFrames (.invoking m args :: below)).frames = .invoking m args :: below := State.frames_setFrames _ (State.cur_lt_of_top htop)
  obtain ⟨g₀, hg0⟩ := Option.isSome_iff_exists.mp htop
  obtain ⟨r, hr⟩ := State.topJava?_eq_some.mp hg0
  have hl9 : e.platform.stackLimits (T.setVm s.vm).me = e.platform.stackLimits s.me := X.limits
  have hb9 : (T.setVm s.vm).me.stackBytes = s.me.stackBytes := X.bytes
  refine ⟨X.admits, X.cas, X.clock, hF, ?_, X.hears, X.method, X.code, X.here, X.tail, X.warmed, ?_, ?_, ?_⟩
  · have h := X.room
    have hU : ((T.setVm s.vm).setFrames (.invoking m args :: below)).localsInUse = s.localsInUse := by
      rw [State.localsInUse_invoking hF (meth := meth) (c := c) X.method X.code, State.localsInUse_invoking X.frames X.method X.code]
    simp only [State.hasRoom, Bool.and_eq_true, decide_eq_true_eq] at h ⊢
    obtain ⟨⟨⟨⟨h1, h2, h3, h4, h5, h6⟩, h7⟩, h8⟩, h9⟩ := h
    rw [X.frames, List.length_cons] at h2 h3
    have q1 := X.heapSize
    have q2 := X.used
    simp only [hF, hU, List.length_cons, State.stackLimits_setFrames, State.stackBytes_setFrames, hl9, hb9]
    refine ⟨⟨⟨⟨by omega, by omega, by omega, by omega, by omega, h6⟩, ?_⟩, ?_⟩, X.book⟩
    · show T.heap.size + R'.cells ≤ e.platform.maxCells
      omega
    · show T.slotsUsed + R'.slots ≤ e.platform.maxSlots
      omega
  · rw [State.stackLimits_setFrames]; rfl
  · rw [State.stackBytes_setFrames]; rfl
  · refine ⟨?_, Nat.le_refl _, Nat.le_refl _, ?_, ?_, fun a c9 h9 => ⟨c9, h9, rfl, rfl, fun _ _ => rfl⟩⟩
    · obtain ⟨t, ht, -⟩ := State.frames_cons hr
      show T.setVm s.vm = { ((T.setVm s.vm).setFrames (.invoking m args :: below)).setFrames (T.setVm s.vm).frames with heap := T.heap, slotsUsed := T.slotsUsed }
      rw [State.setFrames_setFrames, State.setFrames_self ht]
      rfl
    · show T.slotsUsed = T.slotsUsed + ((T.heap.toList.drop T.heap.size).map (·.slots.size)).sum
      rw [List.drop_eq_nil_of_le (Nat.le_of_eq Array.length_toList)]
      rfl
    · show ((T.heap.toList.drop T.heap.size).map (·.slots.size)).sum ≤ 0
      rw [List.drop_eq_nil_of_le (Nat.le_of_eq Array.length_toList)]
      exact Nat.le_refl _
/-- 'throw new E()': new; dup; invokespecial; athrow -/
theorem vx_throw0 {cc : ByteArray} {pc : Nat} (hexec : p.tables.exec = Jvm.exec) (hb : c.code = cc) (hl : l.stackTraces = false) {own cls : String} {names : List String} {ik ic mc ms : Nat} {A : Nat → Prop}
    (hown : s.vm.findClass own = some m.cls) (hcls : Bundle.fit cls = true) (hnames : ∀ n ∈ names, Bundle.fit n = true)
    (hk : (Cond.classLink own ik cls).before args s = true) (hini : (Cond.initialized cls).before args s = true) (hat : ∀ w ∈ vx_at0 own ic cls names, w.before args s = true)
    (hgood : ∀ w ∈ Cond.classLink own ik cls :: Cond.initialized cls :: vx_at0 own ic cls names, vx_ot w = true)
    (hU : vx_Zq Bundle.tN "UNASSIGNED_STACK" Bundle.steD A s s.heap) (hN : vx_Zq Bundle.tN "SUPPRESSED_SENTINEL" Bundle.listD A s s.heap) (hS : va_S A s.heap H locs) (hsize : ls.size = c.maxLocals)
    (d0 : decode cc pc = .ok (.new ik, 3)) (d3 : decode cc (pc + 3) = .ok (.dup, 1)) (d4 : decode cc (pc + 4) = .ok (.invokespecial ic, 3)) (d7 : decode cc (pc + 7) = .ok (.athrow, 1))
    (hout : ∀ x ∈ c.exceptionTable.toList, covers x (pc + 7) = false)
    (hRframes : names.length + 3 < R.frames) (hRlocals : (rest.map fun v => v.category).sum + (13 * (names.length + 1) + 42) ≤ R.locals) (hRcells : cells + 1 ≤ R.cells) (hRslots : slots + 6 ≤ R.slots) (hlocks : meth.locks = false)
    (hx : ∀ t : State, s.vm.Alike t.vm → H.size ≤ t.heap.size → (∀ q : Nat, q < H.size → t.heap[q]? = H[q]?) → XC cls s t)
    (hf : ∀ z ∈ locs, free z.base) (hc : cells + 1 ≤ mc) (hs : slots + 6 ≤ ms) :
    W p l e R s m args below meth c H locs cells slots (vx_MQ below Qc XC args s mc ms free) (F0 m pc ls rest) := by
  intro T hT X
  have htr : e.platform.stackTraces = false := (show e.platform.stackTraces = l.stackTraces by rw [X.admits.platform]).trans hl
  have Y := vx_rebase X (R' := { frames := R.frames, locals := R.locals, cells := 1, slots := 6 }) (Nat.le_refl _) (Nat.le_refl _) hRcells hRslots
  obtain ⟨s', hA⟩ : ∃ z, z = (T.setVm s.vm).setFrames (.invoking m args :: below) := ⟨_, rfl⟩
  rw [← hA] at Y
  have hvm : s'.vm = s.vm := by rw [hA]; rfl
  have hhp : s'.heap = H := by rw [hA]; exact hT
  have hW0 : s.WarmedH s'.vm := by rw [hvm]; exact State.WarmedH.refl s
  have hat' : ∀ w ∈ vx_at0 own ic cls names, w.before args s' = true := fun w hw => vx_ot_at hW0 hvm.symm (hgood w (List.mem_cons_of_mem _ (List.mem_cons_of_mem _ hw))) (hat w hw)
  have hk' : (Cond.classLink own ik cls).before args s' = true := vx_ot_at hW0 hvm.symm (hgood _ List.mem_cons_self) hk
  have hini' : (Cond.initialized cls).before args s' = true := vx_ot_at hW0 hvm.symm (hgood _ (List.mem_cons_of_mem _ List.mem_cons_self)) hini
  have hU' : vx_Zq Bundle.tN "UNASSIGNED_STACK" Bundle.steD A s' s'.heap := by rw [hhp]; exact vx_Zq.moved hW0.alike (hU.kept hS.2.1)
  have hN' : vx_Zq Bundle.tN "SUPPRESSED_SENTINEL" Bundle.listD A s' s'.heap := by rw [hhp]; exact vx_Zq.moved hW0.alike (hN.kept hS.2.1)
  have h : ∀ w ∈ Bundle.ownAtoms0 own ic cls names, w.before args s' = true := vx_own hat' (vx_isRefq hU'.1) (vx_isRefq hN'.1) hU'.2.word hN'.2.word
  have hown' : s'.vm.findClass own = some m.cls := by rw [hvm]; exact hown
  have hins : (Cond.instantiable cls 6).before args s' = true := h _ (by simp [Bundle.ownAtoms0])
  obtain ⟨vm₁, cX, kX, hfX, hkX, -, -, X₁, st1⟩ := Y.newCold hexec (own := own) (C := cls) (index := ik) (n := 6) hown' hk' hins hini'
    (g := F0 m pc ls rest) rfl (by rw [hb]; exact d0) (Nat.le_refl _) (Nat.le_refl _)
  generalize hT1 : (T.setVm vm₁).pushCell { cls := cX, slots := kX.instanceTypes.map defaultValue, vm := .none } = T1 at X₁ st1
  have hcat : (Value.ref T.heap.size).category = 1 := rfl
  have hcellA : T1.heap[T.heap.size]? = some (freshCell cX kX) := by rw [← hT1]; exact State.heap_pushCell_size _ _
  have d3' : decode c.code (pc + 3) = .ok (.dup, 1) := by rw [hb]; exact d3
  obtain ⟨U, hsteps, hrun, hend, hW, hsame, ce, hce, hO⟩ := X₁.ctorThrow0 hexec htr (own := own) (cls := cls) (names := names) (ic := ic) hown' hcls hnames h (fun x hx => nomatch hx) hfX hkX hcellA (by rw [hhp, hT]; exact Nat.le_refl _)
    (g := { method := m, pc := pc + 4, locals := ls, stack := .ref T.heap.size :: .ref T.heap.size :: rest, locked := none }) rfl hsize rfl rfl (rest := rest) rfl
    (by rw [hb]; exact d4) (by rw [hb]; exact d7) hout hRframes (by simp only [List.map_cons, List.sum_cons, hcat]; omega) hlocks
  obtain ⟨f1, f2⟩ := vx_frame hsame
  rw [hhp] at f1 f2
  have hWs : s.WarmedH U.vm := State.WarmedH.trans hW0 hW
  have hcl : s.vm.findClass cls = some ce.cls := by
    have h9 := hO.cls
    rw [hvm] at h9
    exact h9
  have hall : s.sameButNew ({ U with vm := s.vm } : State) locs mc ms := by
    subst hA
    obtain ⟨e1, e2⟩ := hsame
    rw [State.setFrames_setFrames] at e1
    have h2 : (T.setVm s.vm).sameButNew ({ U with vm := s.vm } : State) [] (0 + 1) (0 + 6) := ⟨e1, e2⟩
    have h3 := X.same.trans h2
    rw [List.append_nil] at h3
    exact h3.mono hc hs
  refine ⟨U, ?_, .threw T.heap.size, hrun, hend, Or.inr ⟨T.heap.size, rfl, cls, ce, locs, hx U hWs.alike f1 (fun q hq => f2 q hq (fun z hz => nomatch hz)), hce, hO.vm, hcl, hWs, hall, hf⟩⟩
  refine st1 _ ?_
  show Steps p.tables e below (T1.setTop { method := m, pc := pc + 3, locals := ls, stack := .ref T.heap.size :: rest, locked := none }) _
  jvm_step X₁.here [X₁.here.top, hexec, d3', Value.category]
  exact hsteps
/-- 'throw new E("text")': new; dup; ldc; invokespecial; athrow -/
theorem vx_throwS {cc : ByteArray} {pc : Nat} (hexec : p.tables.exec = Jvm.exec) (hb : c.code = cc) (hl : l.stackTraces = false) {own cls text : String} {names : List String} {ik is ic mc ms sa : Nat} {A : Nat → Prop}
    (hown : s.vm.findClass own = some m.cls) (hcls : Bundle.fit cls = true) (hnames : ∀ n ∈ names, Bundle.fit n = true)
    (hk : (Cond.classLink own ik cls).before args s = true) (hini : (Cond.initialized cls).before args s = true) (hstr : vk_R own is text sa s) (hat : ∀ w ∈ vx_atS own ic cls names, w.before args s = true)
    (hgood : ∀ w ∈ Cond.classLink own ik cls :: Cond.initialized cls :: vx_atS own ic cls names, vx_ot w = true)
    (hU : vx_Zq Bundle.tN "UNASSIGNED_STACK" Bundle.steD A s s.heap) (hN : vx_Zq Bundle.tN "SUPPRESSED_SENTINEL" Bundle.listD A s s.heap) (hS : va_S A s.heap H locs) (hsize : ls.size = c.maxLocals)
    (d0 : decode cc pc = .ok (.new ik, 3)) (d3 : decode cc (pc + 3) = .ok (.dup, 1)) (d4 : decode cc (pc + 4) = .ok (.ldc is, 2)) (d6 : decode cc (pc + 6) = .ok (.invokespecial ic, 3)) (d9 : decode cc (pc + 9) = .ok (.athrow, 1))
    (hout : ∀ x ∈ c.exceptionTable.toList, covers x (pc + 9) = false)
    (hRframes : names.length + 3 < R.frames) (hRlocals : (rest.map fun v => v.category).sum + (13 * (names.length + 1) + 43) ≤ R.locals) (hRcells : cells + 1 ≤ R.cells) (hRslots : slots + 6 ≤ R.slots) (hlocks : meth.locks = false)
    (hx : ∀ t : State, s.vm.Alike t.vm → H.size ≤ t.heap.size → (∀ q : Nat, q < H.size → t.heap[q]? = H[q]?) → XC cls s t)
    (hf : ∀ z ∈ locs, free z.base) (hc : cells + 1 ≤ mc) (hs : slots + 6 ≤ ms) :
    W p l e R s m args below meth c H locs cells slots (vx_MQ below Qc XC args s mc ms free) (F0 m pc ls rest) := by
  intro T hT X
  have htr : e.platform.stackTraces = false := (show e.platform.stackTraces = l.stackTraces by rw [X.admits.platform]).trans hl
  have Y := vx_rebase X (R' := { frames := R.frames, locals := R.locals, cells := 1, slots := 6 }) (Nat.le_refl _) (Nat.le_refl _) hRcells hRslots
  obtain ⟨s', hA⟩ : ∃ z, z = (T.setVm s.vm).setFrames (.invoking m args :: below) := ⟨_, rfl⟩
  rw [← hA] at Y
  have hvm : s'.vm = s.vm := by rw [hA]; rfl
  have hhp : s'.heap = H := by rw [hA]; exact hT
  have hW0 : s.WarmedH s'.vm := by rw [hvm]; exact State.WarmedH.refl s
  have hat' : ∀ w ∈ vx_atS own ic cls names, w.before args s' = true := fun w hw => vx_ot_at hW0 hvm.symm (hgood w (List.mem_cons_of_mem _ (List.mem_cons_of_mem _ hw))) (hat w hw)
  have hk' : (Cond.classLink own ik cls).before args s' = true := vx_ot_at hW0 hvm.symm (hgood _ List.mem_cons_self) hk
  have hini' : (Cond.initialized cls).before args s' = true := vx_ot_at hW0 hvm.symm (hgood _ (List.mem_cons_of_mem _ List.mem_cons_self)) hini
  have hU' : vx_Zq Bundle.tN "UNASSIGNED_STACK" Bundle.steD A s' s'.heap := by rw [hhp]; exact vx_Zq.moved hW0.alike (hU.kept hS.2.1)
  have hN' : vx_Zq Bundle.tN "SUPPRESSED_SENTINEL" Bundle.listD A s' s'.heap := by rw [hhp]; exact vx_Zq.moved hW0.alike (hN.kept hS.2.1)
  have h : ∀ w ∈ Bundle.ownAtoms own ic cls names, w.before args s' = true := vx_own hat' (vx_isRefq hU'.1) (vx_isRefq hN'.1) hU'.2.word hN'.2.word
  have hown' : s'.vm.findClass own = some m.cls := by rw [hvm]; exact hown
  have hins : (Cond.instantiable cls 6).before args s' = true := h _ (by simp [Bundle.ownAtoms])
  obtain ⟨vm₁, cX, kX, hfX, hkX, -, -, X₁, st1⟩ := Y.newCold hexec (own := own) (C := cls) (index := ik) (n := 6) hown' hk' hins hini'
    (g := F0 m pc ls rest) rfl (by rw [hb]; exact d0) (Nat.le_refl _) (Nat.le_refl _)
  generalize hT1 : (T.setVm vm₁).pushCell { cls := cX, slots := kX.instanceTypes.map defaultValue, vm := .none } = T1 at X₁ st1
  have hcat : (Value.ref T.heap.size).category = 1 := rfl
  have hcellA : T1.heap[T.heap.size]? = some (freshCell cX kX) := by rw [← hT1]; exact State.heap_pushCell_size _ _
  have d3' : decode c.code (pc + 3) = .ok (.dup, 1) := by rw [hb]; exact d3
  have d4' : decode c.code (pc + 4) = .ok (.ldc is, 2) := by rw [hb]; exact d4
  have hstr' : vk_R own is text sa s' := vk_R.warm hW0 hstr
  obtain ⟨U, hsteps, hrun, hend, hW, hsame, ce, hce, hO⟩ := X₁.ctorThrowS hexec htr (own := own) (cls := cls) (names := names) (ic := ic) hown' hcls hnames h (fun x hx => nomatch hx) hfX hkX hcellA (by rw [hhp, hT]; exact Nat.le_refl _) (msg := .ref sa) rfl
    (g := { method := m, pc := pc + 6, locals := ls, stack := .ref sa :: .ref T.heap.size :: .ref T.heap.size :: rest, locked := none }) rfl hsize rfl rfl (rest := rest) rfl
    (by rw [hb]; exact d6) (by rw [hb]; exact d9) hout hRframes (by simp only [List.map_cons, List.sum_cons, hcat]; omega) hlocks
  obtain ⟨f1, f2⟩ := vx_frame hsame
  rw [hhp] at f1 f2
  have hWs : s.WarmedH U.vm := State.WarmedH.trans hW0 hW
  have hcl : s.vm.findClass cls = some ce.cls := by
    have h9 := hO.cls
    rw [hvm] at h9
    exact h9
  have hall : s.sameButNew ({ U with vm := s.vm } : State) locs mc ms := by
    subst hA
    obtain ⟨e1, e2⟩ := hsame
    rw [State.setFrames_setFrames] at e1
    have h2 : (T.setVm s.vm).sameButNew ({ U with vm := s.vm } : State) [] (0 + 1) (0 + 6) := ⟨e1, e2⟩
    have h3 := X.same.trans h2
    rw [List.append_nil] at h3
    exact h3.mono hc hs
  refine ⟨U, ?_, .threw T.heap.size, hrun, hend, Or.inr ⟨T.heap.size, rfl, cls, ce, locs, hx U hWs.alike f1 (fun q hq => f2 q hq (fun z hz => nomatch hz)), hce, hO.vm, hcl, hWs, hall, hf⟩⟩
  refine st1 _ ?_
  show Steps p.tables e below (T1.setTop { method := m, pc := pc + 3, locals := ls, stack := .ref T.heap.size :: rest, locked := none }) _
  jvm_step X₁.here [X₁.here.top, hexec, d3', Value.category]
  exact X₁.ldcString hexec (own := own) (text := text) (index := is) (a := sa) hown' hstr'.1 hstr'.2
    (g := { method := m, pc := pc + 4, locals := ls, stack := .ref T.heap.size :: .ref T.heap.size :: rest, locked := none }) rfl d4' _ hsteps
/-- 'throw new E("text")', the text by a wide index -/
theorem vx_throwSW {cc : ByteArray} {pc : Nat} (hexec : p.tables.exec = Jvm.exec) (hb : c.code = cc) (hl : l.stackTraces = false) {own cls text : String} {names : List String} {ik is ic mc ms sa : Nat} {A : Nat → Prop}
    (hown : s.vm.findClass own = some m.cls) (hcls : Bundle.fit cls = true) (hnames : ∀ n ∈ names, Bundle.fit n = true)
    (hk : (Cond.classLink own ik cls).before args s = true) (hini : (Cond.initialized cls).before args s = true) (hstr : vk_R own is text sa s) (hat : ∀ w ∈ vx_atS own ic cls names, w.before args s = true)
    (hgood : ∀ w ∈ Cond.classLink own ik cls :: Cond.initialized cls :: vx_atS own ic cls names, vx_ot w = true)
    (hU : vx_Zq Bundle.tN "UNASSIGNED_STACK" Bundle.steD A s s.heap) (hN : vx_Zq Bundle.tN "SUPPRESSED_SENTINEL" Bundle.listD A s s.heap) (hS : va_S A s.heap H locs) (hsize : ls.size = c.maxLocals)
    (d0 : decode cc pc = .ok (.new ik, 3)) (d3 : decode cc (pc + 3) = .ok (.dup, 1)) (d4 : decode cc (pc + 4) = .ok (.ldc_w is, 3)) (d7 : decode cc (pc + 7) = .ok (.invokespecial ic, 3)) (d10 : decode cc (pc + 10) = .ok (.athrow, 1))
    (hout : ∀ x ∈ c.exceptionTable.toList, covers x (pc + 10) = false)
    (hRframes : names.length + 3 < R.frames) (hRlocals : (rest.map fun v => v.category).sum + (13 * (names.length + 1) + 43) ≤ R.locals) (hRcells : cells + 1 ≤ R.cells) (hRslots : slots + 6 ≤ R.slots) (hlocks : meth.locks = false)
    (hx : ∀ t : State, s.vm.Alike t.vm → H.size ≤ t.heap.size → (∀ q : Nat, q < H.size → t.heap[q]? = H[q]?) → XC cls s t)
    (hf : ∀ z ∈ locs, free z.base) (hc : cells + 1 ≤ mc) (hs : slots + 6 ≤ ms) :
    W p l e R s m args below meth c H locs cells slots (vx_MQ below Qc XC args s mc ms free) (F0 m pc ls rest) := by
  intro T hT X
  have htr : e.platform.stackTraces = false := (show e.platform.stackTraces = l.stackTraces by rw [X.admits.platform]).trans hl
  have Y := vx_rebase X (R' := { frames := R.frames, locals := R.locals, cells := 1, slots := 6 }) (Nat.le_refl _) (Nat.le_refl _) hRcells hRslots
  obtain ⟨s', hA⟩ : ∃ z, z = (T.setVm s.vm).setFrames (.invoking m args :: below) := ⟨_, rfl⟩
  rw [← hA] at Y
  have hvm : s'.vm = s.vm := by rw [hA]; rfl
  have hhp : s'.heap = H := by rw [hA]; exact hT
  have hW0 : s.WarmedH s'.vm := by rw [hvm]; exact State.WarmedH.refl s
  have hat' : ∀ w ∈ vx_atS own ic cls names, w.before args s' = true := fun w hw => vx_ot_at hW0 hvm.symm (hgood w (List.mem_cons_of_mem _ (List.mem_cons_of_mem _ hw))) (hat w hw)
  have hk' : (Cond.classLink own ik cls).before args s' = true := vx_ot_at hW0 hvm.symm (hgood _ List.mem_cons_self) hk
  have hini' : (Cond.initialized cls).before args s' = true := vx_ot_at hW0 hvm.symm (hgood _ (List.mem_cons_of_mem _ List.mem_cons_self)) hini
  have hU' : vx_Zq Bundle.tN "UNASSIGNED_STACK" Bundle.steD A s' s'.heap := by rw [hhp]; exact vx_Zq.moved hW0.alike (hU.kept hS.2.1)
  have hN' : vx_Zq Bundle.tN "SUPPRESSED_SENTINEL" Bundle.listD A s' s'.heap := by rw [hhp]; exact vx_Zq.moved hW0.alike (hN.kept hS.2.1)
  have h : ∀ w ∈ Bundle.ownAtoms own ic cls names, w.before args s' = true := vx_own hat' (vx_isRefq hU'.1) (vx_isRefq hN'.1) hU'.2.word hN'.2.word
  have hown' : s'.vm.findClass own = some m.cls := by rw [hvm]; exact hown
  have hins : (Cond.instantiable cls 6).before args s' = true := h _ (by simp [Bundle.ownAtoms])
  obtain ⟨vm₁, cX, kX, hfX, hkX, -, -, X₁, st1⟩ := Y.newCold hexec (own := own) (C := cls) (index := ik) (n := 6) hown' hk' hins hini'
    (g := F0 m pc ls rest) rfl (by rw [hb]; exact d0) (Nat.le_refl _) (Nat.le_refl _)
  generalize hT1 : (T.setVm vm₁).pushCell { cls := cX, slots := kX.instanceTypes.map defaultValue, vm := .none } = T1 at X₁ st1
  have hcat : (Value.ref T.heap.size).category = 1 := rfl
  have hcellA : T1.heap[T.heap.size]? = some (freshCell cX kX) := by rw [← hT1]; exact State.heap_pushCell_size _ _
  have d3' : decode c.code (pc + 3) = .ok (.dup, 1) := by rw [hb]; exact d3
  have d4' : decode c.code (pc + 4) = .ok (.ldc_w is, 3) := by rw [hb]; exact d4
  have hstr' : vk_R own is text sa s' := vk_R.warm hW0 hstr
  obtain ⟨U, hsteps, hrun, hend, hW, hsame, ce, hce, hO⟩ := X₁.ctorThrowS hexec htr (own := own) (cls := cls) (names := names) (ic := ic) hown' hcls hnames h (fun x hx => nomatch hx) hfX hkX hcellA (by rw [hhp, hT]; exact Nat.le_refl _) (msg := .ref sa) rfl
    (g := { method := m, pc := pc + 7, locals := ls, stack := .ref sa :: .ref T.heap.size :: .ref T.heap.size :: rest, locked := none }) rfl hsize rfl rfl (rest := rest) rfl
    (by rw [hb]; exact d7) (by rw [hb]; exact d10) hout hRframes (by simp only [List.map_cons, List.sum_cons, hcat]; omega) hlocks
  obtain ⟨f1, f2⟩ := vx_frame hsame
  rw [hhp] at f1 f2
  have hWs : s.WarmedH U.vm := State.WarmedH.trans hW0 hW
  have hcl : s.vm.findClass cls = some ce.cls := by
    have h9 := hO.cls
    rw [hvm] at h9
    exact h9
  have hall : s.sameButNew ({ U with vm := s.vm } : State) locs mc ms := by
    subst hA
    obtain ⟨e1, e2⟩ := hsame
    rw [State.setFrames_setFrames] at e1
    have h2 : (T.setVm s.vm).sameButNew ({ U with vm := s.vm } : State) [] (0 + 1) (0 + 6) := ⟨e1, e2⟩
    have h3 := X.same.trans h2
    rw [List.append_nil] at h3
    exact h3.mono hc hs
  refine ⟨U, ?_, .threw T.heap.size, hrun, hend, Or.inr ⟨T.heap.size, rfl, cls, ce, locs, hx U hWs.alike f1 (fun q hq => f2 q hq (fun z hz => nomatch hz)), hce, hO.vm, hcl, hWs, hall, hf⟩⟩
  refine st1 _ ?_
  show Steps p.tables e below (T1.setTop { method := m, pc := pc + 3, locals := ls, stack := .ref T.heap.size :: rest, locked := none }) _
  jvm_step X₁.here [X₁.here.top, hexec, d3', Value.category]
  exact X₁.ldcStringW hexec (own := own) (text := text) (index := is) (a := sa) hown' hstr'.1 hstr'.2
    (g := { method := m, pc := pc + 4, locals := ls, stack := .ref T.heap.size :: .ref T.heap.size :: rest, locked := none }) rfl d4' _ hsteps
end Ends
section Bodies
variable {l : Launch}
theorem vx_ofW {y : MethodName} {ws ws' : List Cond} {rm : Room} {Pc : Array Value → State → Prop} {Qc : Array Value → State → Outcome → State → Prop} {XC : String → State → State → Prop} {mc ms : Nat} {free : Addr → Prop} {cc : ByteArray} {maxL : Nat} {ret : Option FieldType}
    (hy : plainName y.cls = true) (hw : ws = Cond.code y cc maxL ret :: ws')
    (body : ∀ p e s m args below meth c s₁, BodyLoose p l y (headSpec ws rm) cc maxL ret e s m args below meth c s₁ → c.maxLocals = maxL → (∀ x ∈ c.exceptionTable.toList, False) → Pc args s →
      W p l e (headSpec ws rm).room s m args below meth c s.heap [] 0 0 (vx_MQ below Qc XC args s mc ms free) (entryFrame m args maxL)) : vx_Met l y ws rm Pc Qc XC mc ms free := by
  refine MetFree.of_bodyS (code := cc) (maxLocals := maxL) (ret := ret) hy ?_ ?_
  · intro args s m h hn
    obtain ⟨meth, c, h1, h2, h3, h4, h5, h6, -, -⟩ := Cond.code_spec hn (atoms_spec (ws := ws) h _ (by rw [hw]; exact List.mem_cons_self))
    exact ⟨meth, c, h1, h2, h3, h4, h5, h6⟩
  · intro p e s m args below meth c s₁ B hml hP _
    have hh0 : s₁.heap = s.heap := by rw [B.state]; rfl
    have ht : ∀ x ∈ c.exceptionTable.toList, False := by
      obtain ⟨meth9, c9, h1, h2, -, -, -, -, h7, -⟩ := Cond.code_spec B.named (atoms_spec (ws := ws) B.pre _ (by rw [hw]; exact List.mem_cons_self))
      cases Option.some.inj (h1.symm.trans B.method)
      cases Option.some.inj (h2.symm.trans (Stand.of_body B).code)
      intro x hx
      rw [Array.isEmpty_iff.mp h7] at hx
      cases hx
    obtain ⟨t, a1, o, b1, b2, b3⟩ := body p e s m args below meth c s₁ B hml ht hP s₁ hh0 (Stand.of_body B)
    exact ⟨t, o, a1, b1, b2, b3⟩
/-- the table of a body with handlers -/
theorem vx_table {p : Program} {x y : MethodName} {S : Spec} {cc bytes : ByteArray} {maxL maxL' : Nat} {ret ret' : Option FieldType} {e : Env} {s s₁ : State} {m : MethodId} {args : Array Value} {below : List Frame} {meth : Method} {c : Code} {hh : List (Nat × Nat × Nat × Nat)}
    (B : BodyLoose p l y S cc maxL ret e s m args below meth c s₁) (h : (Cond.codeWith y bytes maxL' ret' hh).before args s = true) : c.exceptionTable.toList = tableOf hh := by
  obtain ⟨m9, meth9, c9, hn9, h1, h2, -, -, h6, -⟩ := Cond.codeWith_spec h
  cases Option.some.inj (hn9.symm.trans B.named)
  cases Option.some.inj (h1.symm.trans B.method)
  cases Option.some.inj (h2.symm.trans (Stand.of_body B).code)
  rw [← h6, table_eq]
end Bodies
end VXA
/-! ===== END ===== -/
/-! ===== BEGIN a static call of a method with an exception table ===== -/
section VXS
variable {p : Program} {l : Launch} {e : Env} {R : Room} {s : State} {m : MethodId} {args : Array Value} {below : List Frame} {meth : Method} {c : Code} {T : State} {H : Heap} {locs : List Loc} {cells slots : Nat}
abbrev vx_CSW (R : Room) (s : State) (args : Array Value) (own : String) (index : Nat) (y : MethodName) (bytes : ByteArray) (maxL : Nat) (ret : Option FieldType) (hh : List (Nat × Nat × Nat × Nat)) (ws : List Cond) (rm : Room) (mc ms n : Nat) : Prop :=
  (rm.cells = mc ∧ rm.slots = ms ∧ rm.frames + 1 ≤ R.frames ∧ 8 + (maxL + 11) + rm.locals ≤ R.locals ∧ (∀ w ∈ ws, ∀ (a' : Array Value) (U : State), s.WarmedH U.vm → w.before a' U = true) ∧ Cond.codeWith y bytes maxL ret hh ∈ ws) ∧
  (Cond.codeWith y bytes maxL ret hh).before args s = true ∧ (Cond.initialized y.cls).before args s = true ∧ (y.cls ≠ "java/lang/invoke/MethodHandle" ∧ y.cls ≠ "java/lang/invoke/VarHandle") ∧
  (∀ sig, parseMethodDescriptor y.desc = some sig → n = sig.parameters.length) ∧ (Cond.methodLink own index y).before args s = true ∧ (Cond.static y).before args s = true
theorem vx_cwSW {own : String} {index maxL mc ms : Nat} {y : MethodName} {bytes : ByteArray} {ret : Option FieldType} {hh : List (Nat × Nat × Nat × Nat)} {Ts ws ws' : List Cond} {rm : Room} (n : Nat) (ht : ∀ w ∈ Ts, w.before args s = true) (hT : GoodIn Ts (va_wsS own index y ws)) (hw : ws = Cond.codeWith y bytes maxL ret hh :: ws') (hrc : rm.cells = mc) (hrs : rm.slots = ms)
    (hd : y.cls ≠ "java/lang/invoke/MethodHandle" ∧ y.cls ≠ "java/lang/invoke/VarHandle" ∧ (parseMethodDescriptor y.desc).map (fun d => d.parameters.length) = some n) (hR : rm.frames + 1 ≤ R.frames ∧ 8 + (maxL + 11) + rm.locals ≤ R.locals) :
    vx_CSW R s args own index y bytes maxL ret hh ws rm mc ms n := by
  have ok : ∀ w ∈ va_wsS own index y ws, w.before args s = true := fun w h => ht w (hT w h).1
  have hG : GoodIn Ts ws := fun w h => hT w (by unfold va_wsS; exact List.mem_append_right _ h)
  have hc : Cond.codeWith y bytes maxL ret hh ∈ ws := by rw [hw]; exact List.mem_cons_self
  refine ⟨⟨hrc, hrs, hR.1, hR.2, pay_in ht hG, hc⟩, ht _ (hG _ hc).1, ok _ (by simp [va_wsS]), ⟨hd.1, hd.2.1⟩, fun sig h => ?_, ok _ (by simp [va_wsS]), ok _ (by simp [va_wsS])⟩
  have h2 := hd.2.2
  rw [h] at h2
  exact (Option.some.inj h2).symm
theorem vx_callSW (X : Stand p l e R s m args below meth c T locs cells slots) (hexec : p.tables.exec = Jvm.exec) {own : String} {index : Nat} {y : MethodName} {bytes : ByteArray} {maxL : Nat} {ret : Option FieldType} {hh : List (Nat × Nat × Nat × Nat)}
    (hown : s.vm.findClass own = some m.cls) (hlink : (Cond.methodLink own index y).before args s = true) (hstat : (Cond.static y).before args s = true) (hinit : (Cond.initialized y.cls).before args s = true)
    (hcode : (Cond.codeWith y bytes maxL ret hh).before args s = true) (hy : y.cls ≠ "java/lang/invoke/MethodHandle" ∧ y.cls ≠ "java/lang/invoke/VarHandle")
    {W9 : Nat} {Pre : Pt → Array Value → Prop} {Post : Pt → Array Value → Option Value → Pt → Prop} (hK : Back l R p e below s args y 3 W9 Pre Post)
    {g : JFrame} (hg : g.method = m) (hsize : g.locals.size = c.maxLocals) {argsL rest : List Value} (hlen : ∀ sig, parseMethodDescriptor y.desc = some sig → argsL.length = sig.parameters.length)
    (hstack : g.stack = argsL.reverse ++ rest) (hW : 2 * g.monitorRoom + (rest.map fun v => v.category).sum ≤ W9) (hdg : decode c.code g.pc = .ok (.invokestatic index, 3))
    (hpre : ∀ vm₁, s.WarmedH vm₁ → Pre ⟨T.setVm vm₁, locs, cells, slots⟩ argsL.toArray) :
    ∃ (v : Option Value) (vm₁ : Vm) (B : Pt), s.WarmedH vm₁ ∧ Stand p l e R s m args below meth c B.U B.locs B.cells B.slots ∧ Post ⟨T.setVm vm₁, locs, cells, slots⟩ argsL.toArray v B ∧
      ∀ target, Steps p.tables e below (B.U.setTop { g with pc := g.pc + 3, stack := v.toList ++ rest }) target → Steps p.tables e below (T.setTop g) target := by
  obtain ⟨mk, methM, cM, hnamed, hmethM, -, -, -, -, -, -, hsigM⟩ := Cond.codeWith_spec hcode
  have hstatic : methM.isStatic = true := Cond.static_spec hnamed hmethM hstat
  obtain ⟨kP, hkP, -⟩ := className_of_methodNamed hnamed
  have hinitP : kP.init = .initialized := Cond.initialized_spec (findClass_of_methodNamed hnamed) hkP hinit
  obtain ⟨vm₁, X₁, hstep₁⟩ := X.invokestatic hexec hown hlink hnamed hmethM hstatic hkP hinitP hy (g := g) hg (argsL := argsL) (rest := rest) (hlen _ hsigM) hstack hdg
  obtain ⟨v, B, X', hpost, hsteps⟩ := hK m meth c ⟨T.setVm vm₁, locs, cells, slots⟩ { g with stack := rest } (.invokestatic index) mk argsL.toArray X₁ hg hsize hdg hW (X₁.named hnamed) (hpre vm₁ X₁.warmed)
  exact ⟨v, vm₁, B, X₁.warmed, X', hpost, fun target h => hstep₁ _ fun acts => by rw [doInvoke_state]; exact hsteps.trans h⟩
theorem vx_runSW {y : MethodName} {bytes cc : ByteArray} {maxL nL mc ms n index : Nat} {ret : Option FieldType} {hh : List (Nat × Nat × Nat × Nat)} {ws : List Cond} {rm : Room} {Pc : Array Value → State → Prop} {Qc : Array Value → State → Outcome → State → Prop} {free : Addr → Prop} {Ts : List Cond} {own : String} {As rest : List Value} {g : JFrame}
    (S : CallFix p m c cc nL s args Ts own) (hM : Met l y ws rm Pc Qc mc ms free) (cw : vx_CSW R s args own index y bytes maxL ret hh ws rm mc ms n) (hp : PreS s H Pc As)
    (hg : g.method = m) (hn : As.length = n) (hsize : g.locals.size = nL) (hstack : g.stack = As.reverse ++ rest) (hW : 2 * g.monitorRoom + (rest.map fun v => v.category).sum ≤ 8) (hdg : decode cc g.pc = .ok (.invokestatic index, 3)) (hf : cells + mc ≤ R.cells ∧ slots + ms ≤ R.slots) :
    va_Run p l e R s m args below meth c H locs cells slots mc ms g rest (Qc As.toArray) (free) := by
  obtain ⟨⟨hrc, hrs, hfr, hlo, hws, hcw⟩, hcode, hini, hy, hlen, hl, hstt⟩ := cw
  have hK : Back l R p e below s args y 3 8 (PreOf R mc ms Pc) (PostOf Qc mc ms free) := va_backW (hh := hh) (bytes := bytes) (maxL := maxL) (ret := ret) hM hp.1 hrc hrs hfr hlo hws hcw (fun a' U hW => word_at hW (Or.inl (by first | rfl | simp [Cond.onTables, Cond.keeps, Cond.steady])) hini)
  obtain ⟨hx, hb, hml, ho, -⟩ := S
  intro T hT X
  obtain ⟨v, vm₁, ⟨U', l2, c2, s2⟩, hW₁, X', ⟨g', mk, t, L, e1, e2, hq, h1, hL, h2, h3⟩, st⟩ := vx_callSW X hx (hh := hh) (bytes := bytes) (maxL := maxL) (ret := ret) ho hl hstt hini hcode hy hK hg (hsize.trans hml.symm) (argsL := As) (rest := rest) (fun sig h => hn.trans (hlen sig h)) hstack hW (by rw [hb]; exact hdg)
    (fun vm₁ hW₁ => ⟨hf.1, hf.2, hp.2 (T.setVm vm₁) hT hW₁⟩)
  dsimp only [Pt.U, Pt.locs, Pt.cells, Pt.slots] at X' e1 e2 h1 h2 h3 st
  subst h1; subst h2; subst h3
  exact ⟨v, (T.setVm vm₁).calling g' mk As.toArray, t, U', L, hT, X', hL, e1, e2, hq, st⟩
/-- not caught here, past rows that name other classes: it goes on to the caller -/
theorem vx_outP {p : Program} {l : Launch} {e : Env} {R : Room} {s : State} {m : MethodId} {args : Array Value} {below : List Frame} {meth : Method} {c : Code} {H : Heap} {locs : List Loc} {cells slots : Nat} {free : Addr → Prop} {ls : Array Slot} {rest : List Value} {Qc : Array Value → State → Outcome → State → Prop} {XC : String → State → State → Prop}
    {pc : Nat} {own E : String} {ce : Cell} {q : Addr} {mc ms : Nat} (hown : s.vm.findClass own = some m.cls) (hlocks : meth.locks = false)
    (hpass : ∀ z ∈ c.exceptionTable.toList, covers z pc = false ∨ (z.catchType ≠ 0 ∧ ∃ nm : String, (Cond.classLink own z.catchType nm).before args s = true ∧ va_Nc E nm s)) (hcell : H[q]? = some ce) (hv : ce.vm = .none) (hcl : s.vm.findClass E = some ce.cls)
    (hx : ∀ t : State, t.heap = H → s.vm.Alike t.vm → XC E s t) (hf : ∀ z ∈ locs, free z.base) (hc : cells ≤ mc) (hs : slots ≤ ms) :
    vx_W p l e R s m args below meth c H locs cells slots (vx_MQ below Qc XC args s mc ms free) (F0 m pc ls rest) q := by
  intro T hT X
  have hpl : e.platform.magicAccessors = ({} : Platform).magicAccessors := by rw [X.admits.platform]
  obtain ⟨vm', hW', X', st⟩ := X.outThrough hlocks q (g := F0 m pc ls rest) rfl rfl rfl (cell := ce) (by rw [hT]; exact hcell) (by rw [hv]; rfl)
    (by obtain ⟨k9, h9, -⟩ := Vm.findClass_spec hcl; exact ⟨k9, h9⟩) (fun z hz => by
      rcases hpass z hz with h | ⟨hz0, nm, hl1, hn1⟩
      · exact Or.inl h
      · obtain ⟨c6, hc6, hcl6⟩ := Cond.classLink_spec hown hl1 e.platform hpl
        obtain ⟨a8, b8, h1, h2, h3⟩ := hn1
        cases Option.some.inj (h1.symm.trans hcl)
        cases Option.some.inj (h2.symm.trans hc6)
        exact Or.inr ⟨hz0, _, hcl6, h3⟩)
  obtain ⟨g₀, hfr⟩ := X'.frames_eq
  have hcell9 : ((T.setVm vm').setFrames (.throwing q :: below)).heap[q]? = some ce := by
    show T.heap[q]? = some ce
    rw [hT]; exact hcell
  have hend : Ended ((T.setVm vm').setFrames (.throwing q :: below)) below (.threw q) := State.frames_setFrames _ (State.cur_lt_of_frames hfr)
  refine ⟨(T.setVm vm').setFrames (.throwing q :: below), ?_, .threw q, X'.here.running, hend, Or.inr ⟨q, rfl, E, ce, locs, hx _ hT (X'.ends _).1.alike, hcell9, hv, hcl, (X'.ends _).1, (X'.ends _).2.mono hc hs, hf⟩⟩
  rw [X.pushThrowing_eq]
  exact st
/-- a thing of a world lies in the heap -/
theorem vx_lt {D : va_G} {cl : List vw_C} {ws : va_W} {H1 : Heap} (h : va_P D cl ws H1) {k : Nat} {q : Nat × va_E} (hk : ws[k]? = some q) : q.1 < H1.size := (h k q hk).lt
end VXS
/-! ===== END ===== -/
/-! ===== BEGIN methods with a table of their own: called by a name, returning or throwing ===== -/
section VXH
/-! vx_backW, vx_callVX, vx_callSX, vx_callVW, vx_runVW, vx_runVX, vx_runSX, vx_ofWH follow the same proofs as their sisters above (Free/Laws.lean, Shelf42/LK1.lean); vx_outP calls Shelf42/NT130.lean (outThrough). -/
section
variable {l : Launch} {R : Room} {p : Program} {e : Env} {below : List Frame} {s : State} {sargs : Array Value} {y : MethodName} {len W9 : Nat}
theorem vx_backW {ws : List Cond} {rm : Room} {Pc : Array Value → State → Prop} {Qc : Array Value → State → Outcome → State → Prop} {XC : String → State → State → Prop} {mc ms : Nat} {free : Addr → Prop} {bytes : ByteArray} {maxL : Nat} {ret : Option FieldType} {hh : List (Nat × Nat × Nat × Nat)}
    (hM : vx_Met l y ws rm Pc Qc XC mc ms free) (hblind : FrameBlind Pc) (hrc : rm.cells = mc) (hrs : rm.slots = ms)
    (hframes : rm.frames + 1 ≤ R.frames) (hlocals : W9 + (maxL + 11) + rm.locals ≤ R.locals)
    (hws : ∀ w ∈ ws, ∀ a' U, s.WarmedH U.vm → w.before a' U = true) (hcode : Cond.codeWith y bytes maxL ret hh ∈ ws) (hinit : ∀ a' U, s.WarmedH U.vm → (Cond.initialized y.cls).before a' U = true) :
    vx_Back l R p e below s sargs y len W9 (PreOf R mc ms Pc) (PostOf Qc mc ms free) (vx_Post XC mc ms free) := by
  intro m meth c A g ig mk a X hg hsize hdg hW hn hp
  have h1 : (headSpec ws rm).pre.before a A.U = true := atoms_intro fun w hw => hws w hw _ _ X.warmed
  have h2 : (Cond.codeWith y bytes maxL ret hh).before a A.U = true := hws _ hcode _ _ X.warmed
  have h3 : (Cond.initialized y.cls).before a A.U = true := hinit _ _ X.warmed
  have h4 : A.cells + (headSpec ws rm).room.cells ≤ R.cells := by rw [show (headSpec ws rm).room.cells = mc from hrc]; exact hp.1
  have h5 : A.slots + (headSpec ws rm).room.slots ≤ R.slots := by rw [show (headSpec ws rm).room.slots = ms from hrs]; exact hp.2.1
  have hPc : Pc a (A.U.calling g mk a) := hblind _ _ _ _ hp.2.2
  obtain ⟨U, Ls, c0, s0⟩ := A
  dsimp only [Pt.U, Pt.locs, Pt.cells, Pt.slots] at h1 h2 h3 h4 h5 X hn hPc ⊢
  obtain ⟨m9, methY, cY, hn9, hmY, hcY, -, hlY, -⟩ := Cond.codeWith_spec h2
  cases Option.some.inj (hn9.symm.trans hn)
  obtain ⟨kY, hkY, -⟩ := className_of_methodNamed hn
  have hinitY : kY.init = .initialized := Cond.initialized_spec (findClass_of_methodNamed hn) hkY h3
  have h : At U g.method c below := by rw [hg]; exact X.here
  have hlocals9 : W9 + (maxL + 11) + (headSpec ws rm).room.locals ≤ R.locals := hlocals
  have happ : (headSpec ws rm).appliesLoose y e.platform (U.calling g mk a) = true :=
    Spec.appliesLoose_calling (g := g) h hdg hn hkY hinitY
      (X.room_calling (g := g) (R' := (headSpec ws rm).room) hsize hmY hcY hframes (by rw [hlY]; omega) h4 h5) h1
  obtain ⟨mid, hmid⟩ := h.above
  have hfr : (U.setTop g).frames = (.java g :: mid) ++ below := by rw [State.frames_setTop' g h.top, hmid]; rfl
  obtain ⟨o, s₂, hsteps, -, hend, hq⟩ := Steps.callFree hM p X.admits X.cas X.clock (acts := []) hfr happ hPc trivial
  have hq' : vx_Q Qc XC mc ms free a (U.calling g mk a) o s₂ := hq
  rw [State.frames_setTop' g h.top] at hend
  obtain ⟨g₀, hg0⟩ := Option.isSome_iff_exists.mp h.top
  obtain ⟨r, hr⟩ := State.topJava?_eq_some.mp hg0
  have hr' : (({ U with heap := s₂.heap, slotsUsed := s₂.slotsUsed } : State).setVm s₂.vm).frames = .java g₀ :: r := hr
  rcases hq' with ⟨hqc, L, hfe, hL⟩ | ⟨q, rfl, E, ce, L, hx, hce, hcv, hcl, hW₂, hsm, hL⟩
  · obtain ⟨⟨v, rfl⟩, hW₂, e2, q2, q3, q4, q5, q6⟩ := id hfe
    have e3 : s₂ = ({ (U.calling g mk a).setFrames s₂.frames with heap := s₂.heap, slotsUsed := s₂.slotsUsed } : State).setVm s₂.vm := by
      have : s₂ = ({ s₂ with vm := (U.calling g mk a).vm } : State).setVm s₂.vm := rfl
      rw [e2] at this
      exact this
    obtain ⟨c₂, i₂, len₂, hc₂, hd₂, hf₂⟩ := hend
    have hW' : U.WarmedH s₂.vm := hW₂
    have hcc : c₂ = c := by
      have h1 : s₂.code? g.method = U.code? g.method := by
        rw [State.code?_eq, State.code?_eq, hW'.alike.method?]
      exact Option.some.inj (hc₂.symm.trans (h1.trans h.code))
    subst hcc
    have hlen : len₂ = len := by rw [hdg] at hd₂; cases hd₂; rfl
    subst hlen
    have hs₂ : s₂ = (({ U with heap := s₂.heap, slotsUsed := s₂.slotsUsed } : State).setVm s₂.vm).setTop { g with pc := g.pc + len₂, stack := v.toList ++ g.stack } := by
      refine e3.trans ?_
      rw [hf₂, State.calling_eq h.top, State.setFrames_setFrames, State.setTop_of_frames _ hr', hr]
      rfl
    have hsame : U.sameButNew ({ U with heap := s₂.heap, slotsUsed := s₂.slotsUsed } : State) L mc ms := by
      refine ⟨?_, q2, q3, q4, q5, q6⟩
      obtain ⟨t, ht, -⟩ := State.frames_cons hr
      show ({ U with heap := s₂.heap, slotsUsed := s₂.slotsUsed } : State) = { U.setFrames U.frames with heap := s₂.heap, slotsUsed := s₂.slotsUsed }
      rw [State.setFrames_self ht]
    subst hg
    refine Or.inl ⟨v, ⟨(({ U with heap := s₂.heap, slotsUsed := s₂.slotsUsed } : State).setVm s₂.vm), Ls ++ L, c0 + mc, s0 + ms⟩,
      ⟨X.admits, X.cas, X.clock, X.frames, X.room, X.hears, X.method, X.code, (X.here.setHeapUsed s₂.heap s₂.slotsUsed).setVm hW'.alike, X.tail, State.WarmedH.trans X.warmed hW', X.limits, X.bytes, X.same.trans (hsame.setVm s.vm)⟩,
      ⟨g, mk, s₂, L, rfl, rfl, hqc, rfl, hL, rfl, rfl⟩, ?_⟩
    show Steps p.tables e below _ ((({ U with heap := s₂.heap, slotsUsed := s₂.slotsUsed } : State).setVm s₂.vm).setTop { g with pc := g.pc + len₂, stack := v.toList ++ g.stack })
    rw [← hs₂]
    exact hsteps
  · obtain ⟨e2, q2, q3, q4, q5, q6⟩ := id hsm
    have e3 : s₂ = ({ (U.calling g mk a).setFrames s₂.frames with heap := s₂.heap, slotsUsed := s₂.slotsUsed } : State).setVm s₂.vm := by
      have : s₂ = ({ s₂ with vm := (U.calling g mk a).vm } : State).setVm s₂.vm := rfl
      rw [e2] at this
      exact this
    have hf₂ : s₂.frames = .throwing q :: .java g :: U.frames.tail := hend
    have hW' : U.WarmedH s₂.vm := hW₂
    have hs₂ : s₂ = ((({ U with heap := s₂.heap, slotsUsed := s₂.slotsUsed } : State).setVm s₂.vm).setTop g).pushFrame (.throwing q) := by
      refine e3.trans ?_
      rw [hf₂, State.calling_eq h.top, State.setFrames_setFrames, State.pushFrame, State.frames_setTop _ hr', State.setTop_of_frames _ hr', State.setFrames_setFrames, hr]
      rfl
    have hsame : U.sameButNew ({ U with heap := s₂.heap, slotsUsed := s₂.slotsUsed } : State) L mc ms := by
      refine ⟨?_, q2, q3, q4, q5, q6⟩
      obtain ⟨t, ht, -⟩ := State.frames_cons hr
      show ({ U with heap := s₂.heap, slotsUsed := s₂.slotsUsed } : State) = { U.setFrames U.frames with heap := s₂.heap, slotsUsed := s₂.slotsUsed }
      rw [State.setFrames_self ht]
    subst hg
    refine Or.inr ⟨q, ⟨(({ U with heap := s₂.heap, slotsUsed := s₂.slotsUsed } : State).setVm s₂.vm), Ls ++ L, c0 + mc, s0 + ms⟩,
      ⟨X.admits, X.cas, X.clock, X.frames, X.room, X.hears, X.method, X.code, (X.here.setHeapUsed s₂.heap s₂.slotsUsed).setVm hW'.alike, X.tail, State.WarmedH.trans X.warmed hW', X.limits, X.bytes, X.same.trans (hsame.setVm s.vm)⟩,
      ⟨g, mk, s₂, L, E, ce, rfl, rfl, hx, hce, hcv, hcl, rfl, hL, rfl, rfl⟩, ?_⟩
    show Steps p.tables e below _ (((({ U with heap := s₂.heap, slotsUsed := s₂.slotsUsed } : State).setVm s₂.vm).setTop g).pushFrame (.throwing q))
    rw [← hs₂]
    exact hsteps
end
variable {p : Program} {l : Launch} {e : Env} {R : Room} {s : State} {m : MethodId} {args : Array Value} {below : List Frame} {meth : Method} {c : Code} {T : State} {H : Heap} {locs : List Loc} {cells slots : Nat}
theorem vx_callVX (X : Stand p l e R s m args below meth c T locs cells slots) (hexec : p.tables.exec = Jvm.exec) {own C : String} {index : Nat} {y : MethodName} {bytes : ByteArray} {maxL : Nat} {ret : Option FieldType} {hh : List (Nat × Nat × Nat × Nat)}
    (hown : s.vm.findClass own = some m.cls) (hlink : (Cond.methodLink own index y).before args s = true) (hinst : (Cond.instanceMethod y).before args s = true) (hsel : (Cond.selects C y y).before args s = true)
    (hcode : (Cond.codeWith y bytes maxL ret hh).before args s = true) (hy : y.cls ≠ "java/lang/invoke/MethodHandle" ∧ y.cls ≠ "java/lang/invoke/VarHandle")
    {W9 : Nat} {Pre : Pt → Array Value → Prop} {Post : Pt → Array Value → Option Value → Pt → Prop} {PostX : Pt → Array Value → Addr → Pt → Prop} (hK : vx_Back l R p e below s args y 3 W9 Pre Post PostX)
    {b : Addr} {cellB : Cell} (hcell : T.heap[b]? = some cellB) (hobj : cellB.vm.isStatics = false) (hcls : s.vm.findClass C = some cellB.cls)
    {g : JFrame} (hg : g.method = m) (hsize : g.locals.size = c.maxLocals) {argsL rest : List Value} (hlen : ∀ sig, parseMethodDescriptor y.desc = some sig → argsL.length = sig.parameters.length)
    (hstack : g.stack = argsL.reverse ++ .ref b :: rest) (hW : 2 * g.monitorRoom + (rest.map fun v => v.category).sum ≤ W9) (hdg : decode c.code g.pc = .ok (.invokevirtual index, 3))
    (hpre : ∀ vm₁, s.WarmedH vm₁ → Pre ⟨T.setVm vm₁, locs, cells, slots⟩ (Value.ref b :: argsL).toArray) :
    (∃ (v : Option Value) (vm₁ : Vm) (B : Pt), s.WarmedH vm₁ ∧ Stand p l e R s m args below meth c B.U B.locs B.cells B.slots ∧ Post ⟨T.setVm vm₁, locs, cells, slots⟩ (Value.ref b :: argsL).toArray v B ∧
      ∀ target, Steps p.tables e below (B.U.setTop { g with pc := g.pc + 3, stack := v.toList ++ rest }) target → Steps p.tables e below (T.setTop g) target) ∨
    (∃ (q : Addr) (vm₁ : Vm) (B : Pt), s.WarmedH vm₁ ∧ Stand p l e R s m args below meth c B.U B.locs B.cells B.slots ∧ PostX ⟨T.setVm vm₁, locs, cells, slots⟩ (Value.ref b :: argsL).toArray q B ∧
      Steps p.tables e below (T.setTop g) ((B.U.setTop { g with stack := rest }).pushFrame (.throwing q))) := by
  obtain ⟨mk, methM, hnamed, hmethM, hstM, habM⟩ := Cond.instanceMethod_spec hinst
  obtain ⟨m8, methM', cM, hn8, hmethM', -, -, -, -, -, -, hsigM⟩ := Cond.codeWith_spec hcode
  cases Option.some.inj (hn8.symm.trans hnamed)
  cases hmethM.symm.trans hmethM'
  obtain ⟨c2, r2, m2, q1, q2, q3, q4, kP, hkP, hkPi⟩ := Cond.selects_spec hsel
  cases hcls.symm.trans q1
  cases (State.methodFound?_of_named hnamed hy).symm.trans q2
  cases hnamed.symm.trans q3
  have hselP : selectMethod e.platform s.vm cellB.cls mk = .method mk := by rw [Launch.admits_selectMethod X.admits]; exact q4
  obtain ⟨vm₁, X₁, hstep₁⟩ := X.invokevirtual hexec hown hlink hnamed hmethM hstM hkP hkPi hy (a := b) (cell := cellB) hcell
    (fun z h => by rw [h] at hobj; cases hobj) hselP hmethM habM hkP hkPi (g := g) hg (argsL := argsL) (rest := rest) (hlen _ hsigM) hstack hdg
  rcases hK m meth c ⟨T.setVm vm₁, locs, cells, slots⟩ { g with stack := rest } (.invokevirtual index) mk (Value.ref b :: argsL).toArray X₁ hg hsize hdg hW (X₁.named hnamed) (hpre vm₁ X₁.warmed) with ⟨v, B, X', hpost, hsteps⟩ | ⟨q, B, X', hpost, hsteps⟩
  · exact Or.inl ⟨v, vm₁, B, X₁.warmed, X', hpost, fun target h => hstep₁ _ fun acts => by rw [doInvoke_state]; exact hsteps.trans h⟩
  · exact Or.inr ⟨q, vm₁, B, X₁.warmed, X', hpost, hstep₁ _ fun acts => by rw [doInvoke_state]; exact hsteps⟩
theorem vx_callSX (X : Stand p l e R s m args below meth c T locs cells slots) (hexec : p.tables.exec = Jvm.exec) {own : String} {index : Nat} {y : MethodName} {bytes : ByteArray} {maxL : Nat} {ret : Option FieldType} {hh : List (Nat × Nat × Nat × Nat)}
    (hown : s.vm.findClass own = some m.cls) (hlink : (Cond.methodLink own index y).before args s = true) (hstat : (Cond.static y).before args s = true) (hinit : (Cond.initialized y.cls).before args s = true)
    (hcode : (Cond.codeWith y bytes maxL ret hh).before args s = true) (hy : y.cls ≠ "java/lang/invoke/MethodHandle" ∧ y.cls ≠ "java/lang/invoke/VarHandle")
    {W9 : Nat} {Pre : Pt → Array Value → Prop} {Post : Pt → Array Value → Option Value → Pt → Prop} {PostX : Pt → Array Value → Addr → Pt → Prop} (hK : vx_Back l R p e below s args y 3 W9 Pre Post PostX)
    {g : JFrame} (hg : g.method = m) (hsize : g.locals.size = c.maxLocals) {argsL rest : List Value} (hlen : ∀ sig, parseMethodDescriptor y.desc = some sig → argsL.length = sig.parameters.length)
    (hstack : g.stack = argsL.reverse ++ rest) (hW : 2 * g.monitorRoom + (rest.map fun v => v.category).sum ≤ W9) (hdg : decode c.code g.pc = .ok (.invokestatic index, 3))
    (hpre : ∀ vm₁, s.WarmedH vm₁ → Pre ⟨T.setVm vm₁, locs, cells, slots⟩ argsL.toArray) :
    (∃ (v : Option Value) (vm₁ : Vm) (B : Pt), s.WarmedH vm₁ ∧ Stand p l e R s m args below meth c B.U B.locs B.cells B.slots ∧ Post ⟨T.setVm vm₁, locs, cells, slots⟩ argsL.toArray v B ∧
      ∀ target, Steps p.tables e below (B.U.setTop { g with pc := g.pc + 3, stack := v.toList ++ rest }) target → Steps p.tables e below (T.setTop g) target) ∨
    (∃ (q : Addr) (vm₁ : Vm) (B : Pt), s.WarmedH vm₁ ∧ Stand p l e R s m args below meth c B.U B.locs B.cells B.slots ∧ PostX ⟨T.setVm vm₁, locs, cells, slots⟩ argsL.toArray q B ∧
      Steps p.tables e below (T.setTop g) ((B.U.setTop { g with stack := rest }).pushFrame (.throwing q))) := by
  obtain ⟨mk, methM, cM, hnamed, hmethM, -, -, -, -, -, -, hsigM⟩ := Cond.codeWith_spec hcode
  have hstatic : methM.isStatic = true := Cond.static_spec hnamed hmethM hstat
  obtain ⟨kP, hkP, -⟩ := className_of_methodNamed hnamed
  have hinitP : kP.init = .initialized := Cond.initialized_spec (findClass_of_methodNamed hnamed) hkP hinit
  obtain ⟨vm₁, X₁, hstep₁⟩ := X.invokestatic hexec hown hlink hnamed hmethM hstatic hkP hinitP hy (g := g) hg (argsL := argsL) (rest := rest) (hlen _ hsigM) hstack hdg
  rcases hK m meth c ⟨T.setVm vm₁, locs, cells, slots⟩ { g with stack := rest } (.invokestatic index) mk argsL.toArray X₁ hg hsize hdg hW (X₁.named hnamed) (hpre vm₁ X₁.warmed) with ⟨v, B, X', hpost, hsteps⟩ | ⟨q, B, X', hpost, hsteps⟩
  · exact Or.inl ⟨v, vm₁, B, X₁.warmed, X', hpost, fun target h => hstep₁ _ fun acts => by rw [doInvoke_state]; exact hsteps.trans h⟩
  · exact Or.inr ⟨q, vm₁, B, X₁.warmed, X', hpost, hstep₁ _ fun acts => by rw [doInvoke_state]; exact hsteps⟩
theorem vx_callVW (X : Stand p l e R s m args below meth c T locs cells slots) (hexec : p.tables.exec = Jvm.exec) {own C : String} {index : Nat} {y : MethodName} {bytes : ByteArray} {maxL : Nat} {ret : Option FieldType} {hh : List (Nat × Nat × Nat × Nat)}
    (hown : s.vm.findClass own = some m.cls) (hlink : (Cond.methodLink own index y).before args s = true) (hinst : (Cond.instanceMethod y).before args s = true) (hsel : (Cond.selects C y y).before args s = true)
    (hcode : (Cond.codeWith y bytes maxL ret hh).before args s = true) (hy : y.cls ≠ "java/lang/invoke/MethodHandle" ∧ y.cls ≠ "java/lang/invoke/VarHandle")
    {W9 : Nat} {Pre : Pt → Array Value → Prop} {Post : Pt → Array Value → Option Value → Pt → Prop} (hK : Back l R p e below s args y 3 W9 Pre Post)
    {b : Addr} {cellB : Cell} (hcell : T.heap[b]? = some cellB) (hobj : cellB.vm.isStatics = false) (hcls : s.vm.findClass C = some cellB.cls)
    {g : JFrame} (hg : g.method = m) (hsize : g.locals.size = c.maxLocals) {argsL rest : List Value} (hlen : ∀ sig, parseMethodDescriptor y.desc = some sig → argsL.length = sig.parameters.length)
    (hstack : g.stack = argsL.reverse ++ .ref b :: rest) (hW : 2 * g.monitorRoom + (rest.map fun v => v.category).sum ≤ W9) (hdg : decode c.code g.pc = .ok (.invokevirtual index, 3))
    (hpre : ∀ vm₁, s.WarmedH vm₁ → Pre ⟨T.setVm vm₁, locs, cells, slots⟩ (Value.ref b :: argsL).toArray) :
    ∃ (v : Option Value) (vm₁ : Vm) (B : Pt), s.WarmedH vm₁ ∧ Stand p l e R s m args below meth c B.U B.locs B.cells B.slots ∧ Post ⟨T.setVm vm₁, locs, cells, slots⟩ (Value.ref b :: argsL).toArray v B ∧
      ∀ target, Steps p.tables e below (B.U.setTop { g with pc := g.pc + 3, stack := v.toList ++ rest }) target → Steps p.tables e below (T.setTop g) target := by
  obtain ⟨mk, methM, hnamed, hmethM, hstM, habM⟩ := Cond.instanceMethod_spec hinst
  obtain ⟨m8, methM', cM, hn8, hmethM', -, -, -, -, -, -, hsigM⟩ := Cond.codeWith_spec hcode
  cases Option.some.inj (hn8.symm.trans hnamed)
  cases hmethM.symm.trans hmethM'
  obtain ⟨c2, r2, m2, q1, q2, q3, q4, kP, hkP, hkPi⟩ := Cond.selects_spec hsel
  cases hcls.symm.trans q1
  cases (State.methodFound?_of_named hnamed hy).symm.trans q2
  cases hnamed.symm.trans q3
  have hselP : selectMethod e.platform s.vm cellB.cls mk = .method mk := by rw [Launch.admits_selectMethod X.admits]; exact q4
  obtain ⟨vm₁, X₁, hstep₁⟩ := X.invokevirtual hexec hown hlink hnamed hmethM hstM hkP hkPi hy (a := b) (cell := cellB) hcell
    (fun z h => by rw [h] at hobj; cases hobj) hselP hmethM habM hkP hkPi (g := g) hg (argsL := argsL) (rest := rest) (hlen _ hsigM) hstack hdg
  obtain ⟨v, B, X', hpost, hsteps⟩ := hK m meth c ⟨T.setVm vm₁, locs, cells, slots⟩ { g with stack := rest } (.invokevirtual index) mk (Value.ref b :: argsL).toArray X₁ hg hsize hdg hW (X₁.named hnamed) (hpre vm₁ X₁.warmed)
  exact ⟨v, vm₁, B, X₁.warmed, X', hpost, fun target h => hstep₁ _ fun acts => by rw [doInvoke_state]; exact hsteps.trans h⟩
abbrev vx_CVW (R : Room) (s : State) (args : Array Value) (own C : String) (index : Nat) (y : MethodName) (bytes : ByteArray) (maxL : Nat) (ret : Option FieldType) (hh : List (Nat × Nat × Nat × Nat)) (ws : List Cond) (rm : Room) (mc ms n : Nat) : Prop :=
  (rm.cells = mc ∧ rm.slots = ms ∧ rm.frames + 1 ≤ R.frames ∧ 8 + (maxL + 11) + rm.locals ≤ R.locals ∧ (∀ w ∈ ws, ∀ (a' : Array Value) (U : State), s.WarmedH U.vm → w.before a' U = true) ∧ Cond.codeWith y bytes maxL ret hh ∈ ws) ∧
  (Cond.codeWith y bytes maxL ret hh).before args s = true ∧ (Cond.initialized y.cls).before args s = true ∧ (y.cls ≠ "java/lang/invoke/MethodHandle" ∧ y.cls ≠ "java/lang/invoke/VarHandle") ∧
  (∀ sig, parseMethodDescriptor y.desc = some sig → n = sig.parameters.length) ∧ (Cond.methodLink own index y).before args s = true ∧ (Cond.instanceMethod y).before args s = true ∧ (Cond.selects C y y).before args s = true
theorem vx_cwVW {own C : String} {index maxL mc ms : Nat} {y : MethodName} {bytes : ByteArray} {ret : Option FieldType} {hh : List (Nat × Nat × Nat × Nat)} {Ts ws ws' : List Cond} {rm : Room} (n : Nat) (ht : ∀ w ∈ Ts, w.before args s = true) (hT : GoodIn Ts (wsV own index C y ws)) (hw : ws = Cond.codeWith y bytes maxL ret hh :: ws') (hrc : rm.cells = mc) (hrs : rm.slots = ms)
    (hd : y.cls = C ∧ y.cls ≠ "java/lang/invoke/MethodHandle" ∧ y.cls ≠ "java/lang/invoke/VarHandle" ∧ (parseMethodDescriptor y.desc).map (fun d => d.parameters.length) = some n) (hR : rm.frames + 1 ≤ R.frames ∧ 8 + (maxL + 11) + rm.locals ≤ R.locals) :
    vx_CVW R s args own C index y bytes maxL ret hh ws rm mc ms n := by
  obtain ⟨hC, hd⟩ := hd
  subst hC
  have ok : ∀ w ∈ wsV own index y.cls y ws, w.before args s = true := fun w h => ht w (hT w h).1
  have hG : GoodIn Ts ws := fun w h => hT w (by unfold wsV; exact List.mem_append_right _ h)
  have hc : Cond.codeWith y bytes maxL ret hh ∈ ws := by rw [hw]; exact List.mem_cons_self
  refine ⟨⟨hrc, hrs, hR.1, hR.2, pay_in ht hG, hc⟩, ht _ (hG _ hc).1, ok _ (by simp [wsV]), ⟨hd.1, hd.2.1⟩, fun sig h => ?_, ok _ (by simp [wsV]), ok _ (by simp [wsV]), ok _ (by simp [wsV])⟩
  have h2 := hd.2.2
  rw [h] at h2
  exact (Option.some.inj h2).symm
theorem vx_runVW {y : MethodName} {bytes cc : ByteArray} {maxL nL mc ms n index : Nat} {ret : Option FieldType} {hh : List (Nat × Nat × Nat × Nat)} {ws : List Cond} {rm : Room} {Pc : Array Value → State → Prop} {Qc : Array Value → State → Outcome → State → Prop} {free : Addr → Prop} {Ts : List Cond} {own C : String} {b : Addr} {As rest : List Value} {g : JFrame}
    (S : CallFix p m c cc nL s args Ts own) (hM : Met l y ws rm Pc Qc mc ms free) (cw : vx_CVW R s args own C index y bytes maxL ret hh ws rm mc ms n) (hp : PreV s H C b Pc As)
    (hg : g.method = m) (hn : As.length = n) (hsize : g.locals.size = nL) (hstack : g.stack = As.reverse ++ .ref b :: rest) (hW : 2 * g.monitorRoom + (rest.map fun v => v.category).sum ≤ 8) (hdg : decode cc g.pc = .ok (.invokevirtual index, 3)) (hf : cells + mc ≤ R.cells ∧ slots + ms ≤ R.slots) :
    va_Run p l e R s m args below meth c H locs cells slots mc ms g rest (Qc (Value.ref b :: As).toArray) free := by
  obtain ⟨⟨hrc, hrs, hfr, hlo, hws, hcw⟩, hcode, hini, hy, hlen, hl, hin, hse⟩ := cw
  have hK : Back l R p e below s args y 3 8 (PreOf R mc ms Pc) (PostOf Qc mc ms free) := va_backW (hh := hh) (bytes := bytes) (maxL := maxL) (ret := ret) hM hp.1 hrc hrs hfr hlo hws hcw (fun a' U hW => word_at hW (Or.inl (by first | rfl | simp [Cond.onTables, Cond.keeps, Cond.steady])) hini)
  obtain ⟨hx, hb, hml, ho, -⟩ := S
  obtain ⟨-, ⟨cellB, hcB, hoB, hclB⟩, hPc⟩ := hp
  intro T hT X
  obtain ⟨v, vm₁, ⟨U', l2, c2, s2⟩, hW₁, X', ⟨g', mk, t, L, e1, e2, hq, h1, hL, h2, h3⟩, st⟩ := vx_callVW X hx (C := C) (hh := hh) (bytes := bytes) (maxL := maxL) (ret := ret) ho hl hin hse hcode hy hK (by rw [hT]; exact hcB) hoB hclB hg (hsize.trans hml.symm) (argsL := As) (rest := rest) (fun sig h => hn.trans (hlen sig h)) hstack hW (by rw [hb]; exact hdg)
    (fun vm₁ hW₁ => ⟨hf.1, hf.2, hPc (T.setVm vm₁) hT hW₁⟩)
  dsimp only [Pt.U, Pt.locs, Pt.cells, Pt.slots] at X' e1 e2 h1 h2 h3 st
  subst h1; subst h2; subst h3
  exact ⟨v, (T.setVm vm₁).calling g' mk (Value.ref b :: As).toArray, t, U', L, hT, X', hL, e1, e2, hq, st⟩
section
variable {y : MethodName} {bytes cc : ByteArray} {maxL nL mc ms n index : Nat} {ret : Option FieldType} {ws : List Cond} {rm : Room} {Pc : Array Value → State → Prop} {Qc : Array Value → State → Outcome → State → Prop} {XC : String → State → State → Prop} {free : Addr → Prop} {Ts : List Cond} {own C : String} {b : Addr} {As rest : List Value} {g : JFrame}
theorem vx_runVX {hh : List (Nat × Nat × Nat × Nat)} (S : CallFix p m c cc nL s args Ts own) (hM : vx_Met l y ws rm Pc Qc XC mc ms free) (cw : vx_CVW R s args own C index y bytes maxL ret hh ws rm mc ms n) (hp : PreV s H C b Pc As)
    (hg : g.method = m) (hn : As.length = n) (hsize : g.locals.size = nL) (hstack : g.stack = As.reverse ++ .ref b :: rest) (hW : 2 * g.monitorRoom + (rest.map fun v => v.category).sum ≤ 8) (hdg : decode cc g.pc = .ok (.invokevirtual index, 3)) (hf : cells + mc ≤ R.cells ∧ slots + ms ≤ R.slots) :
    vx_Run p l e R s m args below meth c H locs cells slots mc ms g rest (Qc (Value.ref b :: As).toArray) XC free := by
  obtain ⟨⟨hrc, hrs, hfr, hlo, hws, hcw⟩, hcode, hini, hy, hlen, hl, hin, hse⟩ := cw
  have hK : vx_Back l R p e below s args y 3 8 (PreOf R mc ms Pc) (PostOf Qc mc ms free) (vx_Post XC mc ms free) := vx_backW (hh := hh) (bytes := bytes) (maxL := maxL) (ret := ret) hM hp.1 hrc hrs hfr hlo hws hcw (fun a' U hW => word_at hW (Or.inl (by first | rfl | simp [Cond.onTables, Cond.keeps, Cond.steady])) hini)
  obtain ⟨hx, hb, hml, ho, -⟩ := S
  obtain ⟨-, ⟨cellB, hcB, hoB, hclB⟩, hPc⟩ := hp
  intro T hT X
  rcases vx_callVX X hx (C := C) (hh := hh) (bytes := bytes) (maxL := maxL) (ret := ret) ho hl hin hse hcode hy hK (by rw [hT]; exact hcB) hoB hclB hg (hsize.trans hml.symm) (argsL := As) (rest := rest) (fun sig h => hn.trans (hlen sig h)) hstack hW (by rw [hb]; exact hdg)
    (fun vm₁ hW₁ => ⟨hf.1, hf.2, hPc (T.setVm vm₁) hT hW₁⟩) with ⟨v, vm₁, ⟨U', l2, c2, s2⟩, hW₁, X', ⟨g', mk, t, L, e1, e2, hq, h1, hL, h2, h3⟩, st⟩ | ⟨q, vm₁, ⟨U', l2, c2, s2⟩, hW₁, X', ⟨g', mk, t, L, E, ce, e1, e2, hq, hce, hcv, hcl, h1, hL, h2, h3⟩, st⟩
  · dsimp only [Pt.U, Pt.locs, Pt.cells, Pt.slots] at X' e1 e2 h1 h2 h3 st
    subst h1; subst h2; subst h3
    exact Or.inl ⟨v, (T.setVm vm₁).calling g' mk (Value.ref b :: As).toArray, t, U', L, hT, X', hL, e1, e2, hq, st⟩
  · dsimp only [Pt.U, Pt.locs, Pt.cells, Pt.slots] at X' e1 e2 h1 h2 h3 st hcl
    subst h1; subst h2; subst h3
    exact Or.inr ⟨q, (T.setVm vm₁).calling g' mk (Value.ref b :: As).toArray, t, U', L, E, ce, hT, X', hL, e1, e2, hq, hce, hcv, vx_cls hW₁ hcl, st⟩
theorem vx_runSX {hh : List (Nat × Nat × Nat × Nat)} (S : CallFix p m c cc nL s args Ts own) (hM : vx_Met l y ws rm Pc Qc XC mc ms free) (cw : vx_CSW R s args own index y bytes maxL ret hh ws rm mc ms n) (hp : PreS s H Pc As)
    (hg : g.method = m) (hn : As.length = n) (hsize : g.locals.size = nL) (hstack : g.stack = As.reverse ++ rest) (hW : 2 * g.monitorRoom + (rest.map fun v => v.category).sum ≤ 8) (hdg : decode cc g.pc = .ok (.invokestatic index, 3)) (hf : cells + mc ≤ R.cells ∧ slots + ms ≤ R.slots) :
    vx_Run p l e R s m args below meth c H locs cells slots mc ms g rest (Qc As.toArray) XC free := by
  obtain ⟨⟨hrc, hrs, hfr, hlo, hws, hcw⟩, hcode, hini, hy, hlen, hl, hstt⟩ := cw
  have hK : vx_Back l R p e below s args y 3 8 (PreOf R mc ms Pc) (PostOf Qc mc ms free) (vx_Post XC mc ms free) := vx_backW (hh := hh) (bytes := bytes) (maxL := maxL) (ret := ret) hM hp.1 hrc hrs hfr hlo hws hcw (fun a' U hW => word_at hW (Or.inl (by first | rfl | simp [Cond.onTables, Cond.keeps, Cond.steady])) hini)
  obtain ⟨hx, hb, hml, ho, -⟩ := S
  intro T hT X
  rcases vx_callSX X hx (hh := hh) (bytes := bytes) (maxL := maxL) (ret := ret) ho hl hstt hini hcode hy hK hg (hsize.trans hml.symm) (argsL := As) (rest := rest) (fun sig h => hn.trans (hlen sig h)) hstack hW (by rw [hb]; exact hdg)
    (fun vm₁ hW₁ => ⟨hf.1, hf.2, hp.2 (T.setVm vm₁) hT hW₁⟩) with ⟨v, vm₁, ⟨U', l2, c2, s2⟩, hW₁, X', ⟨g', mk, t, L, e1, e2, hq, h1, hL, h2, h3⟩, st⟩ | ⟨q, vm₁, ⟨U', l2, c2, s2⟩, hW₁, X', ⟨g', mk, t, L, E, ce, e1, e2, hq, hce, hcv, hcl, h1, hL, h2, h3⟩, st⟩
  · dsimp only [Pt.U, Pt.locs, Pt.cells, Pt.slots] at X' e1 e2 h1 h2 h3 st
    subst h1; subst h2; subst h3
    exact Or.inl ⟨v, (T.setVm vm₁).calling g' mk As.toArray, t, U', L, hT, X', hL, e1, e2, hq, st⟩
  · dsimp only [Pt.U, Pt.locs, Pt.cells, Pt.slots] at X' e1 e2 h1 h2 h3 st hcl
    subst h1; subst h2; subst h3
    exact Or.inr ⟨q, (T.setVm vm₁).calling g' mk As.toArray, t, U', L, E, ce, hT, X', hL, e1, e2, hq, hce, hcv, vx_cls hW₁ hcl, st⟩
end
end VXH
theorem vx_ofWH {l : Launch} {y : MethodName} {ws ws' : List Cond} {rm : Room} {Pc : Array Value → State → Prop} {Qc : Array Value → State → Outcome → State → Prop} {XC : String → State → State → Prop} {mc ms : Nat} {free : Addr → Prop} {cc : ByteArray} {maxL : Nat} {ret : Option FieldType} {hh : List (Nat × Nat × Nat × Nat)}
    (hy : plainName y.cls = true) (hw : ws = Cond.codeWith y cc maxL ret hh :: ws')
    (body : ∀ p e s m args below meth c s₁, BodyLoose p l y (headSpec ws rm) cc maxL ret e s m args below meth c s₁ → c.maxLocals = maxL → Pc args s →
      W p l e (headSpec ws rm).room s m args below meth c s.heap [] 0 0 (vx_MQ below Qc XC args s mc ms free) (entryFrame m args maxL)) : vx_Met l y ws rm Pc Qc XC mc ms free := by
  refine MetFree.of_bodyS (code := cc) (maxLocals := maxL) (ret := ret) hy ?_ ?_
  · intro args s m h hn
    obtain ⟨m9, meth, c, hn9, h1, h2, h3, h4, -, h5, h6, -⟩ := Cond.codeWith_spec (atoms_spec (ws := ws) h _ (by rw [hw]; exact List.mem_cons_self))
    cases hn.symm.trans hn9
    exact ⟨meth, c, h1, h2, h3, h4, h5, h6⟩
  · intro p e s m args below meth c s₁ B hml hP _
    have hh0 : s₁.heap = s.heap := by rw [B.state]; rfl
    obtain ⟨t, a1, o, b1, b2, b3⟩ := body p e s m args below meth c s₁ B hml hP s₁ hh0 (Stand.of_body B)
    exact ⟨t, o, a1, b1, b2, b3⟩
/-! ===== END ===== -/
end
section
/-- the good words of the tables -/
def zT : List Cond := lw_tbl.filter goodWord
theorem zT_of {w : Cond} (i : Nat) (h : lw_tbl[i]? = some w) (hg : goodWord w = true) : w ∈ zT := List.mem_filter.mpr ⟨List.mem_of_getElem? h, hg⟩
theorem zT_good : ∀ w ∈ zT, goodWord w = true := fun w h => (List.mem_filter.mp h).2
def T_AL : u_T := fun k => match k with
  | 0 => ("java/util/ArrayList", "elementData", "[Ljava/lang/Object;", false)
  | 1 => ("java/util/ArrayList", "size", "I", false)
  | _ => ("java/util/AbstractList", "modCount", "I", false)
def ty_AL : Nat → FieldType := fun k => match k with
  | 0 => .array (.object "java/lang/Object")
  | 1 => .int
  | _ => .int
theorem n_AL : ∀ a, a < 3 → ∀ b, b < 3 → a ≠ b → (T_AL a).2.1 ≠ (T_AL b).2.1 := by decide +kernel
theorem t_AL : ∀ k, k < 3 → parseFieldDescriptor (T_AL k).2.2.1 = some (ty_AL k) := by decide +kernel
theorem i_AL : ∀ w ∈ u_ws "java/util/ArrayList" T_AL 3, w ∈ zT := by
  intro w hw
  rcases List.mem_map.mp hw with ⟨k, hk, rfl⟩
  have hk := List.mem_range.mp hk
  match k, hk with
  | 0, _ => exact zT_of 93 (by decide +kernel) (by decide +kernel)
  | 1, _ => exact zT_of 95 (by decide +kernel) (by decide +kernel)
  | 2, _ => exact zT_of 97 (by decide +kernel) (by decide +kernel)
  | k + 3, hk => exact absurd hk (by omega)
def T_PE : u_T := fun k => match k with
  | 0 => ("RollCalls$Person", "sector", "I", false)
  | 1 => ("RollCalls$Person", "rollsBegunAtLeaving", "I", false)
  | _ => ("RollCalls$Person", "greatestRollCounted", "I", false)
def ty_PE : Nat → FieldType := fun k => match k with
  | 0 => .int
  | 1 => .int
  | _ => .int
theorem n_PE : ∀ a, a < 3 → ∀ b, b < 3 → a ≠ b → (T_PE a).2.1 ≠ (T_PE b).2.1 := by decide +kernel
theorem t_PE : ∀ k, k < 3 → parseFieldDescriptor (T_PE k).2.2.1 = some (ty_PE k) := by decide +kernel
theorem i_PE : ∀ w ∈ u_ws "RollCalls$Person" T_PE 3, w ∈ zT := by
  intro w hw
  rcases List.mem_map.mp hw with ⟨k, hk, rfl⟩
  have hk := List.mem_range.mp hk
  match k, hk with
  | 0, _ => exact zT_of 219 (by decide +kernel) (by decide +kernel)
  | 1, _ => exact zT_of 221 (by decide +kernel) (by decide +kernel)
  | 2, _ => exact zT_of 223 (by decide +kernel) (by decide +kernel)
  | k + 3, hk => exact absurd hk (by omega)
def T_MO : u_T := fun k => match k with
  | 0 => ("RollCalls$Move", "person", "I", true)
  | 1 => ("RollCalls$Move", "sector", "I", true)
  | _ => ("RollCalls$Move", "second", "I", true)
def ty_MO : Nat → FieldType := fun k => match k with
  | 0 => .int
  | 1 => .int
  | _ => .int
theorem n_MO : ∀ a, a < 3 → ∀ b, b < 3 → a ≠ b → (T_MO a).2.1 ≠ (T_MO b).2.1 := by decide +kernel
theorem t_MO : ∀ k, k < 3 → parseFieldDescriptor (T_MO k).2.2.1 = some (ty_MO k) := by decide +kernel
theorem i_MO : ∀ w ∈ u_ws "RollCalls$Move" T_MO 3, w ∈ zT := by
  intro w hw
  rcases List.mem_map.mp hw with ⟨k, hk, rfl⟩
  have hk := List.mem_range.mp hk
  match k, hk with
  | 0, _ => exact zT_of 366 (by decide +kernel) (by decide +kernel)
  | 1, _ => exact zT_of 368 (by decide +kernel) (by decide +kernel)
  | 2, _ => exact zT_of 370 (by decide +kernel) (by decide +kernel)
  | k + 3, hk => exact absurd hk (by omega)
def T_RO : u_T := fun k => match k with
  | 0 => ("RollCalls$Roll", "number", "I", true)
  | 1 => ("RollCalls$Roll", "sector", "I", true)
  | 2 => ("RollCalls$Roll", "counters", "[I", true)
  | 3 => ("RollCalls$Roll", "round", "I", false)
  | 4 => ("RollCalls$Roll", "personsAsked", "I", false)
  | 5 => ("RollCalls$Roll", "personsCounted", "I", false)
  | 6 => ("RollCalls$Roll", "guestsAsked", "I", false)
  | 7 => ("RollCalls$Roll", "guestsSeen", "I", false)
  | 8 => ("RollCalls$Roll", "strangers", "I", false)
  | _ => ("RollCalls$Roll", "missingAtEnd", "I", false)
def ty_RO : Nat → FieldType := fun k => match k with
  | 0 => .int
  | 1 => .int
  | 2 => .array .int
  | 3 => .int
  | 4 => .int
  | 5 => .int
  | 6 => .int
  | 7 => .int
  | 8 => .int
  | _ => .int
theorem n_RO : ∀ a, a < 10 → ∀ b, b < 10 → a ≠ b → (T_RO a).2.1 ≠ (T_RO b).2.1 := by decide +kernel
theorem t_RO : ∀ k, k < 10 → parseFieldDescriptor (T_RO k).2.2.1 = some (ty_RO k) := by decide +kernel
theorem i_RO : ∀ w ∈ u_ws "RollCalls$Roll" T_RO 10, w ∈ zT := by
  intro w hw
  rcases List.mem_map.mp hw with ⟨k, hk, rfl⟩
  have hk := List.mem_range.mp hk
  match k, hk with
  | 0, _ => exact zT_of 456 (by decide +kernel) (by decide +kernel)
  | 1, _ => exact zT_of 458 (by decide +kernel) (by decide +kernel)
  | 2, _ => exact zT_of 460 (by decide +kernel) (by decide +kernel)
  | 3, _ => exact zT_of 462 (by decide +kernel) (by decide +kernel)
  | 4, _ => exact zT_of 464 (by decide +kernel) (by decide +kernel)
  | 5, _ => exact zT_of 466 (by decide +kernel) (by decide +kernel)
  | 6, _ => exact zT_of 468 (by decide +kernel) (by decide +kernel)
  | 7, _ => exact zT_of 470 (by decide +kernel) (by decide +kernel)
  | 8, _ => exact zT_of 472 (by decide +kernel) (by decide +kernel)
  | 9, _ => exact zT_of 474 (by decide +kernel) (by decide +kernel)
  | k + 10, hk => exact absurd hk (by omega)
def T_DC : u_T := fun k => match k with
  | 0 => ("RollCalls$DoubleCount", "person", "I", true)
  | 1 => ("RollCalls$DoubleCount", "firstSector", "I", true)
  | 2 => ("RollCalls$DoubleCount", "otherSector", "I", true)
  | _ => ("RollCalls$DoubleCount", "roll", "I", true)
def ty_DC : Nat → FieldType := fun k => match k with
  | 0 => .int
  | 1 => .int
  | 2 => .int
  | _ => .int
theorem n_DC : ∀ a, a < 4 → ∀ b, b < 4 → a ≠ b → (T_DC a).2.1 ≠ (T_DC b).2.1 := by decide +kernel
theorem t_DC : ∀ k, k < 4 → parseFieldDescriptor (T_DC k).2.2.1 = some (ty_DC k) := by decide +kernel
theorem i_DC : ∀ w ∈ u_ws "RollCalls$DoubleCount" T_DC 4, w ∈ zT := by
  intro w hw
  rcases List.mem_map.mp hw with ⟨k, hk, rfl⟩
  have hk := List.mem_range.mp hk
  match k, hk with
  | 0, _ => exact zT_of 528 (by decide +kernel) (by decide +kernel)
  | 1, _ => exact zT_of 530 (by decide +kernel) (by decide +kernel)
  | 2, _ => exact zT_of 532 (by decide +kernel) (by decide +kernel)
  | 3, _ => exact zT_of 534 (by decide +kernel) (by decide +kernel)
  | k + 4, hk => exact absurd hk (by omega)
def T_MD : u_T := fun k => match k with
  | 0 => ("RollCalls$Mayday", "person", "I", true)
  | 1 => ("RollCalls$Mayday", "place", "I", true)
  | 2 => ("RollCalls$Mayday", "second", "I", true)
  | 3 => ("RollCalls$Mayday", "open", "Z", false)
  | _ => ("RollCalls$Mayday", "team", "I", false)
def ty_MD : Nat → FieldType := fun k => match k with
  | 0 => .int
  | 1 => .int
  | 2 => .int
  | 3 => .boolean
  | _ => .int
theorem n_MD : ∀ a, a < 5 → ∀ b, b < 5 → a ≠ b → (T_MD a).2.1 ≠ (T_MD b).2.1 := by decide +kernel
theorem t_MD : ∀ k, k < 5 → parseFieldDescriptor (T_MD k).2.2.1 = some (ty_MD k) := by decide +kernel
theorem i_MD : ∀ w ∈ u_ws "RollCalls$Mayday" T_MD 5, w ∈ zT := by
  intro w hw
  rcases List.mem_map.mp hw with ⟨k, hk, rfl⟩
  have hk := List.mem_range.mp hk
  match k, hk with
  | 0, _ => exact zT_of 637 (by decide +kernel) (by decide +kernel)
  | 1, _ => exact zT_of 639 (by decide +kernel) (by decide +kernel)
  | 2, _ => exact zT_of 641 (by decide +kernel) (by decide +kernel)
  | 3, _ => exact zT_of 643 (by decide +kernel) (by decide +kernel)
  | 4, _ => exact zT_of 645 (by decide +kernel) (by decide +kernel)
  | k + 5, hk => exact absurd hk (by omega)
def T_EV : u_T := fun k => match k with
  | 0 => ("RollCalls$Evacuation", "lastSecond", "I", true)
  | 1 => ("RollCalls$Evacuation", "mustConfirm", "[Z", true)
  | 2 => ("RollCalls$Evacuation", "isLate", "[Z", true)
  | 3 => ("RollCalls$Evacuation", "left", "I", false)
  | _ => ("RollCalls$Evacuation", "lateTold", "Z", false)
def ty_EV : Nat → FieldType := fun k => match k with
  | 0 => .int
  | 1 => .array .boolean
  | 2 => .array .boolean
  | 3 => .int
  | _ => .boolean
theorem n_EV : ∀ a, a < 5 → ∀ b, b < 5 → a ≠ b → (T_EV a).2.1 ≠ (T_EV b).2.1 := by decide +kernel
theorem t_EV : ∀ k, k < 5 → parseFieldDescriptor (T_EV k).2.2.1 = some (ty_EV k) := by decide +kernel
theorem i_EV : ∀ w ∈ u_ws "RollCalls$Evacuation" T_EV 5, w ∈ zT := by
  intro w hw
  rcases List.mem_map.mp hw with ⟨k, hk, rfl⟩
  have hk := List.mem_range.mp hk
  match k, hk with
  | 0, _ => exact zT_of 708 (by decide +kernel) (by decide +kernel)
  | 1, _ => exact zT_of 710 (by decide +kernel) (by decide +kernel)
  | 2, _ => exact zT_of 712 (by decide +kernel) (by decide +kernel)
  | 3, _ => exact zT_of 714 (by decide +kernel) (by decide +kernel)
  | 4, _ => exact zT_of 716 (by decide +kernel) (by decide +kernel)
  | k + 5, hk => exact absurd hk (by omega)
def T_RC : u_T := fun k => match k with
  | 0 => ("RollCalls", "guestsIn", "[I", true)
  | 1 => ("RollCalls", "persons", "Ljava/util/ArrayList;", true)
  | 2 => ("RollCalls", "moves", "Ljava/util/ArrayList;", true)
  | 3 => ("RollCalls", "rolls", "Ljava/util/ArrayList;", true)
  | 4 => ("RollCalls", "doubles", "Ljava/util/ArrayList;", true)
  | 5 => ("RollCalls", "maydays", "Ljava/util/ArrayList;", true)
  | 6 => ("RollCalls", "evacuations", "Ljava/util/ArrayList;", true)
  | _ => ("RollCalls", "second", "I", false)
def ty_RC : Nat → FieldType := fun k => match k with
  | 0 => .array .int
  | 1 => .object "java/util/ArrayList"
  | 2 => .object "java/util/ArrayList"
  | 3 => .object "java/util/ArrayList"
  | 4 => .object "java/util/ArrayList"
  | 5 => .object "java/util/ArrayList"
  | 6 => .object "java/util/ArrayList"
  | _ => .int
theorem n_RC : ∀ a, a < 8 → ∀ b, b < 8 → a ≠ b → (T_RC a).2.1 ≠ (T_RC b).2.1 := by decide +kernel
theorem t_RC : ∀ k, k < 8 → parseFieldDescriptor (T_RC k).2.2.1 = some (ty_RC k) := by decide +kernel
theorem i_RC : ∀ w ∈ u_ws "RollCalls" T_RC 8, w ∈ zT := by
  intro w hw
  rcases List.mem_map.mp hw with ⟨k, hk, rfl⟩
  have hk := List.mem_range.mp hk
  match k, hk with
  | 0, _ => exact zT_of 109 (by decide +kernel) (by decide +kernel)
  | 1, _ => exact zT_of 111 (by decide +kernel) (by decide +kernel)
  | 2, _ => exact zT_of 113 (by decide +kernel) (by decide +kernel)
  | 3, _ => exact zT_of 115 (by decide +kernel) (by decide +kernel)
  | 4, _ => exact zT_of 117 (by decide +kernel) (by decide +kernel)
  | 5, _ => exact zT_of 119 (by decide +kernel) (by decide +kernel)
  | 6, _ => exact zT_of 121 (by decide +kernel) (by decide +kernel)
  | 7, _ => exact zT_of 123 (by decide +kernel) (by decide +kernel)
  | k + 8, hk => exact absurd hk (by omega)
def T_MM : u_T := fun k => match k with
  | 0 => ("RollCallsModel", "thrown", "I", false)
  | 1 => ("RollCallsModel", "now", "I", false)
  | 2 => ("RollCallsModel", "persons", "I", false)
  | 3 => ("RollCallsModel", "guests", "[I", true)
  | 4 => ("RollCallsModel", "moves", "I", false)
  | 5 => ("RollCallsModel", "mover", "[I", true)
  | 6 => ("RollCallsModel", "moveTo", "[I", true)
  | 7 => ("RollCallsModel", "moveAt", "[I", true)
  | 8 => ("RollCallsModel", "rolls", "I", false)
  | 9 => ("RollCallsModel", "rollOf", "[I", true)
  | 10 => ("RollCallsModel", "round", "[I", true)
  | 11 => ("RollCallsModel", "firstMove", "[I", true)
  | 12 => ("RollCallsModel", "guestsAsked", "[I", true)
  | 13 => ("RollCallsModel", "guestsSeen", "[I", true)
  | 14 => ("RollCallsModel", "strangers", "[I", true)
  | 15 => ("RollCallsModel", "asked", "[Z", true)
  | 16 => ("RollCallsModel", "counted", "[I", true)
  | 17 => ("RollCallsModel", "missing", "[Z", true)
  | 18 => ("RollCallsModel", "doubles", "I", false)
  | 19 => ("RollCallsModel", "twice", "[I", true)
  | 20 => ("RollCallsModel", "maydays", "I", false)
  | 21 => ("RollCallsModel", "isOpen", "[Z", true)
  | 22 => ("RollCallsModel", "team", "[I", true)
  | 23 => ("RollCallsModel", "who", "[I", true)
  | 24 => ("RollCallsModel", "place", "[I", true)
  | 25 => ("RollCallsModel", "told", "[I", true)
  | 26 => ("RollCallsModel", "evacuations", "I", false)
  | 27 => ("RollCallsModel", "until", "[I", true)
  | _ => ("RollCallsModel", "confirmed", "[I", true)
def ty_MM : Nat → FieldType := fun k => match k with
  | 0 => .int
  | 1 => .int
  | 2 => .int
  | 3 => .array .int
  | 4 => .int
  | 5 => .array .int
  | 6 => .array .int
  | 7 => .array .int
  | 8 => .int
  | 9 => .array .int
  | 10 => .array .int
  | 11 => .array .int
  | 12 => .array .int
  | 13 => .array .int
  | 14 => .array .int
  | 15 => .array .boolean
  | 16 => .array .int
  | 17 => .array .boolean
  | 18 => .int
  | 19 => .array .int
  | 20 => .int
  | 21 => .array .boolean
  | 22 => .array .int
  | 23 => .array .int
  | 24 => .array .int
  | 25 => .array .int
  | 26 => .int
  | 27 => .array .int
  | _ => .array .int
theorem n_MM : ∀ a, a < 29 → ∀ b, b < 29 → a ≠ b → (T_MM a).2.1 ≠ (T_MM b).2.1 := by decide +kernel
theorem t_MM : ∀ k, k < 29 → parseFieldDescriptor (T_MM k).2.2.1 = some (ty_MM k) := by decide +kernel
theorem i_MM : ∀ w ∈ u_ws "RollCallsModel" T_MM 29, w ∈ zT := by
  intro w hw
  rcases List.mem_map.mp hw with ⟨k, hk, rfl⟩
  have hk := List.mem_range.mp hk
  match k, hk with
  | 0, _ => exact zT_of 817 (by decide +kernel) (by decide +kernel)
  | 1, _ => exact zT_of 819 (by decide +kernel) (by decide +kernel)
  | 2, _ => exact zT_of 821 (by decide +kernel) (by decide +kernel)
  | 3, _ => exact zT_of 823 (by decide +kernel) (by decide +kernel)
  | 4, _ => exact zT_of 825 (by decide +kernel) (by decide +kernel)
  | 5, _ => exact zT_of 827 (by decide +kernel) (by decide +kernel)
  | 6, _ => exact zT_of 829 (by decide +kernel) (by decide +kernel)
  | 7, _ => exact zT_of 831 (by decide +kernel) (by decide +kernel)
  | 8, _ => exact zT_of 833 (by decide +kernel) (by decide +kernel)
  | 9, _ => exact zT_of 835 (by decide +kernel) (by decide +kernel)
  | 10, _ => exact zT_of 837 (by decide +kernel) (by decide +kernel)
  | 11, _ => exact zT_of 839 (by decide +kernel) (by decide +kernel)
  | 12, _ => exact zT_of 841 (by decide +kernel) (by decide +kernel)
  | 13, _ => exact zT_of 843 (by decide +kernel) (by decide +kernel)
  | 14, _ => exact zT_of 845 (by decide +kernel) (by decide +kernel)
  | 15, _ => exact zT_of 847 (by decide +kernel) (by decide +kernel)
  | 16, _ => exact zT_of 849 (by decide +kernel) (by decide +kernel)
  | 17, _ => exact zT_of 851 (by decide +kernel) (by decide +kernel)
  | 18, _ => exact zT_of 853 (by decide +kernel) (by decide +kernel)
  | 19, _ => exact zT_of 855 (by decide +kernel) (by decide +kernel)
  | 20, _ => exact zT_of 857 (by decide +kernel) (by decide +kernel)
  | 21, _ => exact zT_of 859 (by decide +kernel) (by decide +kernel)
  | 22, _ => exact zT_of 861 (by decide +kernel) (by decide +kernel)
  | 23, _ => exact zT_of 863 (by decide +kernel) (by decide +kernel)
  | 24, _ => exact zT_of 865 (by decide +kernel) (by decide +kernel)
  | 25, _ => exact zT_of 867 (by decide +kernel) (by decide +kernel)
  | 26, _ => exact zT_of 869 (by decide +kernel) (by decide +kernel)
  | 27, _ => exact zT_of 871 (by decide +kernel) (by decide +kernel)
  | 28, _ => exact zT_of 873 (by decide +kernel) (by decide +kernel)
  | k + 29, hk => exact absurd hk (by omega)
abbrev zcl : List vw_C := [("java/util/ArrayList", T_AL, 3), ("RollCalls$Person", T_PE, 3), ("RollCalls$Move", T_MO, 3), ("RollCalls$Roll", T_RO, 10), ("RollCalls$DoubleCount", T_DC, 4), ("RollCalls$Mayday", T_MD, 5), ("RollCalls$Evacuation", T_EV, 5), ("RollCalls", T_RC, 8), ("RollCallsModel", T_MM, 29)]
end
section
abbrev c_RC_init : ByteArray := prog_1_method_1_code
abbrev y_RC_init : MethodName := ⟨"RollCalls", "<init>", "()V"⟩
abbrev w_RC_init : Cond := .code y_RC_init c_RC_init 1 none
abbrev c_AL_init : ByteArray := prog_25_method_2_code
abbrev y_AL_init : MethodName := ⟨"java/util/ArrayList", "<init>", "()V"⟩
abbrev w_AL_init : Cond := .code y_AL_init c_AL_init 1 none
abbrev c_AB_init : ByteArray := prog_24_method_1_code
abbrev y_AB_init : MethodName := ⟨"java/util/AbstractList", "<init>", "()V"⟩
abbrev w_AB_init : Cond := .code y_AB_init c_AB_init 1 none
abbrev c_AC_init : ByteArray := prog_23_method_1_code
abbrev y_AC_init : MethodName := ⟨"java/util/AbstractCollection", "<init>", "()V"⟩
abbrev w_AC_init : Cond := .code y_AC_init c_AC_init 1 none
abbrev c_LW_person : ByteArray := method_3_code
abbrev y_LW_person : MethodName := ⟨"RollCallsLaw", "person", "(LRollCalls;[J)I"⟩
abbrev w_LW_person : Cond := .codeWith y_LW_person c_LW_person 3 (some FieldType.int) [(0, 8, 11, 13)]
abbrev c_RC_person : ByteArray := prog_1_method_2_code
abbrev y_RC_person : MethodName := ⟨"RollCalls", "person", "()I"⟩
abbrev w_RC_person : Cond := .code y_RC_person c_RC_person 1 (some FieldType.int)
abbrev c_AL_size : ByteArray := prog_25_method_8_code
abbrev y_AL_size : MethodName := ⟨"java/util/ArrayList", "size", "()I"⟩
abbrev w_AL_size : Cond := .code y_AL_size c_AL_size 1 (some FieldType.int)
abbrev c_PE_init : ByteArray := prog_6_method_1_code
abbrev y_PE_init : MethodName := ⟨"RollCalls$Person", "<init>", "()V"⟩
abbrev w_PE_init : Cond := .code y_PE_init c_PE_init 1 none
abbrev c_AL_add : ByteArray := prog_25_method_25_code
abbrev y_AL_add : MethodName := ⟨"java/util/ArrayList", "add", "(Ljava/lang/Object;)Z"⟩
abbrev w_AL_add : Cond := .code y_AL_add c_AL_add 2 (some FieldType.boolean)
abbrev c_AL_add3 : ByteArray := prog_25_method_24_code
abbrev y_AL_add3 : MethodName := ⟨"java/util/ArrayList", "add", "(Ljava/lang/Object;[Ljava/lang/Object;I)V"⟩
abbrev w_AL_add3 : Cond := .code y_AL_add3 c_AL_add3 4 none
abbrev c_AL_grow : ByteArray := prog_25_method_7_code
abbrev y_AL_grow : MethodName := ⟨"java/util/ArrayList", "grow", "()[Ljava/lang/Object;"⟩
abbrev w_AL_grow : Cond := .code y_AL_grow c_AL_grow 1 (some (FieldType.array (FieldType.object "java/lang/Object")))
abbrev c_AL_growI : ByteArray := prog_25_method_6_code
abbrev y_AL_growI : MethodName := ⟨"java/util/ArrayList", "grow", "(I)[Ljava/lang/Object;"⟩
abbrev w_AL_growI : Cond := .code y_AL_growI c_AL_growI 4 (some (FieldType.array (FieldType.object "java/lang/Object")))
abbrev c_AS_newLength : ByteArray := prog_32_method_27_code
abbrev y_AS_newLength : MethodName := ⟨"jdk/internal/util/ArraysSupport", "newLength", "(III)I"⟩
abbrev w_AS_newLength : Cond := .code y_AS_newLength c_AS_newLength 4 (some FieldType.int)
abbrev c_MA_max : ByteArray := prog_17_method_65_code
abbrev y_MA_max : MethodName := ⟨"java/lang/Math", "max", "(II)I"⟩
abbrev w_MA_max : Cond := .code y_MA_max c_MA_max 2 (some FieldType.int)
abbrev c_AS_hugeLength : ByteArray := prog_32_method_28_code
abbrev y_AS_hugeLength : MethodName := ⟨"jdk/internal/util/ArraysSupport", "hugeLength", "(II)I"⟩
abbrev w_AS_hugeLength : Cond := .code y_AS_hugeLength c_AS_hugeLength 3 (some FieldType.int)
abbrev c_AR_copyOf : ByteArray := prog_26_method_119_code
abbrev y_AR_copyOf : MethodName := ⟨"java/util/Arrays", "copyOf", "([Ljava/lang/Object;I)[Ljava/lang/Object;"⟩
abbrev w_AR_copyOf : Cond := .code y_AR_copyOf c_AR_copyOf 2 (some (FieldType.array (FieldType.object "java/lang/Object")))
abbrev c_AR_copyOf3 : ByteArray := prog_26_method_120_code
abbrev y_AR_copyOf3 : MethodName := ⟨"java/util/Arrays", "copyOf", "([Ljava/lang/Object;ILjava/lang/Class;)[Ljava/lang/Object;"⟩
abbrev w_AR_copyOf3 : Cond := .code y_AR_copyOf3 c_AR_copyOf3 4 (some (FieldType.array (FieldType.object "java/lang/Object")))
abbrev c_MA_min : ByteArray := prog_17_method_69_code
abbrev y_MA_min : MethodName := ⟨"java/lang/Math", "min", "(II)I"⟩
abbrev w_MA_min : Cond := .code y_MA_min c_MA_min 2 (some FieldType.int)
abbrev c_LW_enter : ByteArray := method_4_code
abbrev y_LW_enter : MethodName := ⟨"RollCallsLaw", "enter", "(LRollCalls;II)I"⟩
abbrev w_LW_enter : Cond := .codeWith y_LW_enter c_LW_enter 4 (some FieldType.int) [(0, 6, 9, 19), (0, 6, 12, 21), (0, 6, 15, 13)]
abbrev c_RC_enter : ByteArray := prog_1_method_3_code
abbrev y_RC_enter : MethodName := ⟨"RollCalls", "enter", "(II)V"⟩
abbrev w_RC_enter : Cond := .code y_RC_enter c_RC_enter 4 none
abbrev c_RC_knownPerson : ByteArray := prog_1_method_7_code
abbrev y_RC_knownPerson : MethodName := ⟨"RollCalls", "knownPerson", "(I)LRollCalls$Person;"⟩
abbrev w_RC_knownPerson : Cond := .code y_RC_knownPerson c_RC_knownPerson 2 (some (FieldType.object "RollCalls$Person"))
abbrev c_AL_get : ByteArray := prog_25_method_20_code
abbrev y_AL_get : MethodName := ⟨"java/util/ArrayList", "get", "(I)Ljava/lang/Object;"⟩
abbrev w_AL_get : Cond := .code y_AL_get c_AL_get 2 (some (FieldType.object "java/lang/Object"))
abbrev c_OB_checkIndex : ByteArray := prog_29_method_17_code
abbrev y_OB_checkIndex : MethodName := ⟨"java/util/Objects", "checkIndex", "(II)I"⟩
abbrev w_OB_checkIndex : Cond := .code y_OB_checkIndex c_OB_checkIndex 2 (some FieldType.int)
abbrev c_PR_checkIndex : ByteArray := prog_33_method_11_code
abbrev y_PR_checkIndex : MethodName := ⟨"jdk/internal/util/Preconditions", "checkIndex", "(IILjava/util/function/BiFunction;)I"⟩
abbrev w_PR_checkIndex : Cond := .code y_PR_checkIndex c_PR_checkIndex 3 (some FieldType.int)
abbrev c_AL_elementData : ByteArray := prog_25_method_18_code
abbrev y_AL_elementData : MethodName := ⟨"java/util/ArrayList", "elementData", "(I)Ljava/lang/Object;"⟩
abbrev w_AL_elementData : Cond := .code y_AL_elementData c_AL_elementData 2 (some (FieldType.object "java/lang/Object"))
abbrev c_RC_checkSector : ByteArray := prog_1_method_8_code
abbrev y_RC_checkSector : MethodName := ⟨"RollCalls", "checkSector", "(I)V"⟩
abbrev w_RC_checkSector : Cond := .code y_RC_checkSector c_RC_checkSector 1 none
abbrev c_RC_addMove : ByteArray := prog_1_method_9_code
abbrev y_RC_addMove : MethodName := ⟨"RollCalls", "addMove", "(II)V"⟩
abbrev w_RC_addMove : Cond := .code y_RC_addMove c_RC_addMove 3 none
abbrev c_MO_init : ByteArray := prog_5_method_1_code
abbrev y_MO_init : MethodName := ⟨"RollCalls$Move", "<init>", "(III)V"⟩
abbrev w_MO_init : Cond := .code y_MO_init c_MO_init 4 none
abbrev c_LW_leave : ByteArray := method_5_code
abbrev y_LW_leave : MethodName := ⟨"RollCallsLaw", "leave", "(LRollCalls;I)I"⟩
abbrev w_LW_leave : Cond := .codeWith y_LW_leave c_LW_leave 3 (some FieldType.int) [(0, 5, 8, 19), (0, 5, 11, 21), (0, 5, 14, 13)]
abbrev c_RC_leave : ByteArray := prog_1_method_4_code
abbrev y_RC_leave : MethodName := ⟨"RollCalls", "leave", "(I)V"⟩
abbrev w_RC_leave : Cond := .code y_RC_leave c_RC_leave 3 none
abbrev c_LW_guests : ByteArray := method_6_code
abbrev y_LW_guests : MethodName := ⟨"RollCallsLaw", "guests", "(LRollCalls;II)I"⟩
abbrev w_LW_guests : Cond := .codeWith y_LW_guests c_LW_guests 4 (some FieldType.int) [(0, 6, 9, 19), (0, 6, 12, 30)]
abbrev c_RC_guests : ByteArray := prog_1_method_5_code
abbrev y_RC_guests : MethodName := ⟨"RollCalls", "guests", "(II)V"⟩
abbrev w_RC_guests : Cond := .code y_RC_guests c_RC_guests 3 none
abbrev c_LW_roll : ByteArray := method_7_code
abbrev y_LW_roll : MethodName := ⟨"RollCallsLaw", "roll", "(LRollCalls;I[J)I"⟩
abbrev w_LW_roll : Cond := .codeWith y_LW_roll c_LW_roll 4 (some FieldType.int) [(0, 9, 12, 19), (0, 9, 15, 21), (0, 9, 18, 13)]
abbrev c_RC_roll : ByteArray := prog_1_method_11_code
abbrev y_RC_roll : MethodName := ⟨"RollCalls", "roll", "(I)I"⟩
abbrev w_RC_roll : Cond := .code y_RC_roll c_RC_roll 3 (some FieldType.int)
abbrev c_RC_isAskedNow : ByteArray := prog_1_method_20_code
abbrev y_RC_isAskedNow : MethodName := ⟨"RollCalls", "isAskedNow", "(I)Z"⟩
abbrev w_RC_isAskedNow : Cond := .code y_RC_isAskedNow c_RC_isAskedNow 4 (some FieldType.boolean)
abbrev c_RO_isOver : ByteArray := prog_7_method_5_code
abbrev y_RO_isOver : MethodName := ⟨"RollCalls$Roll", "isOver", "()Z"⟩
abbrev w_RO_isOver : Cond := .code y_RO_isOver c_RO_isOver 1 (some FieldType.boolean)
abbrev c_RO_asksSector : ByteArray := prog_7_method_2_code
abbrev y_RO_asksSector : MethodName := ⟨"RollCalls$Roll", "asksSector", "(I)Z"⟩
abbrev w_RO_asksSector : Cond := .code y_RO_asksSector c_RO_asksSector 2 (some FieldType.boolean)
abbrev c_RC_openMaydays : ByteArray := prog_1_method_32_code
abbrev y_RC_openMaydays : MethodName := ⟨"RollCalls", "openMaydays", "()I"⟩
abbrev w_RC_openMaydays : Cond := .code y_RC_openMaydays c_RC_openMaydays 3 (some FieldType.int)
abbrev c_RO_init : ByteArray := prog_7_method_1_code
abbrev y_RO_init : MethodName := ⟨"RollCalls$Roll", "<init>", "(III)V"⟩
abbrev w_RO_init : Cond := .code y_RO_init c_RO_init 4 none
abbrev c_AR_fill : ByteArray := prog_26_method_103_code
abbrev y_AR_fill : MethodName := ⟨"java/util/Arrays", "fill", "([II)V"⟩
abbrev w_AR_fill : Cond := .code y_AR_fill c_AR_fill 4 none
abbrev c_RC_askThoseInside : ByteArray := prog_1_method_21_code
abbrev y_RC_askThoseInside : MethodName := ⟨"RollCalls", "askThoseInside", "(LRollCalls$Roll;)V"⟩
abbrev w_RC_askThoseInside : Cond := .code y_RC_askThoseInside c_RC_askThoseInside 4 none
abbrev c_RO_askPerson : ByteArray := prog_7_method_3_code
abbrev y_RO_askPerson : MethodName := ⟨"RollCalls$Roll", "askPerson", "(I)V"⟩
abbrev w_RO_askPerson : Cond := .code y_RO_askPerson c_RO_askPerson 2 none
abbrev c_RO_endIfNobodyIsAsked : ByteArray := prog_7_method_4_code
abbrev y_RO_endIfNobodyIsAsked : MethodName := ⟨"RollCalls$Roll", "endIfNobodyIsAsked", "()V"⟩
abbrev w_RO_endIfNobodyIsAsked : Cond := .code y_RO_endIfNobodyIsAsked c_RO_endIfNobodyIsAsked 1 none
abbrev c_LW_answer : ByteArray := method_8_code
abbrev y_LW_answer : MethodName := ⟨"RollCallsLaw", "answer", "(LRollCalls;III[J)I"⟩
abbrev w_LW_answer : Cond := .codeWith y_LW_answer c_LW_answer 6 (some FieldType.int) [(0, 12, 15, 19), (0, 12, 19, 21), (0, 12, 23, 13)]
abbrev c_RC_answer : ByteArray := prog_1_method_12_code
abbrev y_RC_answer : MethodName := ⟨"RollCalls", "answer", "(III)I"⟩
abbrev w_RC_answer : Cond := .code y_RC_answer c_RC_answer 7 (some FieldType.int)
abbrev c_RC_knownRoll : ByteArray := prog_1_method_18_code
abbrev y_RC_knownRoll : MethodName := ⟨"RollCalls", "knownRoll", "(I)LRollCalls$Roll;"⟩
abbrev w_RC_knownRoll : Cond := .code y_RC_knownRoll c_RC_knownRoll 2 (some (FieldType.object "RollCalls$Roll"))
abbrev c_RC_checkIsOn : ByteArray := prog_1_method_19_code
abbrev y_RC_checkIsOn : MethodName := ⟨"RollCalls", "checkIsOn", "(LRollCalls$Roll;)V"⟩
abbrev w_RC_checkIsOn : Cond := .code y_RC_checkIsOn c_RC_checkIsOn 1 none
abbrev c_RO_counterOf : ByteArray := prog_7_method_6_code
abbrev y_RO_counterOf : MethodName := ⟨"RollCalls$Roll", "counterOf", "(I)I"⟩
abbrev w_RO_counterOf : Cond := .code y_RO_counterOf c_RO_counterOf 2 (some FieldType.int)
abbrev c_RO_countPerson : ByteArray := prog_7_method_7_code
abbrev y_RO_countPerson : MethodName := ⟨"RollCalls$Roll", "countPerson", "(II)V"⟩
abbrev w_RO_countPerson : Cond := .code y_RO_countPerson c_RO_countPerson 3 none
abbrev c_DC_init : ByteArray := prog_2_method_1_code
abbrev y_DC_init : MethodName := ⟨"RollCalls$DoubleCount", "<init>", "(IIII)V"⟩
abbrev w_DC_init : Cond := .code y_DC_init c_DC_init 5 none
abbrev c_RC_addDouble : ByteArray := prog_1_method_22_code
abbrev y_RC_addDouble : MethodName := ⟨"RollCalls", "addDouble", "(LRollCalls$DoubleCount;)V"⟩
abbrev w_RC_addDouble : Cond := .code y_RC_addDouble c_RC_addDouble 2 none
abbrev c_LW_seen : ByteArray := method_9_code
abbrev y_LW_seen : MethodName := ⟨"RollCallsLaw", "seen", "(LRollCalls;II[J)I"⟩
abbrev w_LW_seen : Cond := .codeWith y_LW_seen c_LW_seen 5 (some FieldType.int) [(0, 10, 13, 19), (0, 10, 17, 30), (0, 10, 21, 21), (0, 10, 25, 13)]
abbrev c_RC_seen : ByteArray := prog_1_method_13_code
abbrev y_RC_seen : MethodName := ⟨"RollCalls", "seen", "(II)I"⟩
abbrev w_RC_seen : Cond := .code y_RC_seen c_RC_seen 4 (some FieldType.int)
abbrev c_LW_round : ByteArray := method_10_code
abbrev y_LW_round : MethodName := ⟨"RollCallsLaw", "round", "(LRollCalls;I[J)I"⟩
abbrev w_LW_round : Cond := .codeWith y_LW_round c_LW_round 4 (some FieldType.int) [(0, 9, 12, 19), (0, 9, 15, 21)]
abbrev c_RC_round : ByteArray := prog_1_method_14_code
abbrev y_RC_round : MethodName := ⟨"RollCalls", "round", "(I)I"⟩
abbrev w_RC_round : Cond := .code y_RC_round c_RC_round 4 (some FieldType.int)
abbrev c_RC_openPersons : ByteArray := prog_1_method_23_code
abbrev y_RC_openPersons : MethodName := ⟨"RollCalls", "openPersons", "(LRollCalls$Roll;)I"⟩
abbrev w_RC_openPersons : Cond := .code y_RC_openPersons c_RC_openPersons 4 (some FieldType.int)
abbrev c_RC_isOpen : ByteArray := prog_1_method_24_code
abbrev y_RC_isOpen : MethodName := ⟨"RollCalls", "isOpen", "(LRollCalls$Roll;I)Z"⟩
abbrev w_RC_isOpen : Cond := .code y_RC_isOpen c_RC_isOpen 3 (some FieldType.boolean)
abbrev c_PE_cameOutSince : ByteArray := prog_6_method_2_code
abbrev y_PE_cameOutSince : MethodName := ⟨"RollCalls$Person", "cameOutSince", "(I)Z"⟩
abbrev w_PE_cameOutSince : Cond := .code y_PE_cameOutSince c_PE_cameOutSince 2 (some FieldType.boolean)
abbrev c_LW_rollAt : ByteArray := method_11_code
abbrev y_LW_rollAt : MethodName := ⟨"RollCallsLaw", "rollAt", "(LRollCalls;II[J)I"⟩
abbrev w_LW_rollAt : Cond := .codeWith y_LW_rollAt c_LW_rollAt 5 (some FieldType.int) [(0, 10, 13, 19)]
abbrev c_RC_rollAt : ByteArray := prog_1_method_15_code
abbrev y_RC_rollAt : MethodName := ⟨"RollCalls", "rollAt", "(II)I"⟩
abbrev w_RC_rollAt : Cond := .code y_RC_rollAt c_RC_rollAt 4 (some FieldType.int)
abbrev c_LW_missing : ByteArray := method_12_code
abbrev y_LW_missing : MethodName := ⟨"RollCallsLaw", "missing", "(LRollCalls;II[J)I"⟩
abbrev w_LW_missing : Cond := .codeWith y_LW_missing c_LW_missing 5 (some FieldType.int) [(0, 10, 13, 19), (0, 10, 17, 30), (0, 10, 21, 21)]
abbrev c_RC_missing : ByteArray := prog_1_method_16_code
abbrev y_RC_missing : MethodName := ⟨"RollCalls", "missing", "(II)I"⟩
abbrev w_RC_missing : Cond := .code y_RC_missing c_RC_missing 6 (some FieldType.int)
abbrev c_RC_isMissingStill : ByteArray := prog_1_method_25_code
abbrev y_RC_isMissingStill : MethodName := ⟨"RollCalls", "isMissingStill", "(LRollCalls$Roll;I)Z"⟩
abbrev w_RC_isMissingStill : Cond := .code y_RC_isMissingStill c_RC_isMissingStill 3 (some FieldType.boolean)
abbrev c_LW_twice : ByteArray := method_13_code
abbrev y_LW_twice : MethodName := ⟨"RollCallsLaw", "twice", "(LRollCalls;II[J)I"⟩
abbrev w_LW_twice : Cond := .codeWith y_LW_twice c_LW_twice 5 (some FieldType.int) [(0, 10, 13, 19)]
abbrev c_RC_twice : ByteArray := prog_1_method_17_code
abbrev y_RC_twice : MethodName := ⟨"RollCalls", "twice", "(II)I"⟩
abbrev w_RC_twice : Cond := .code y_RC_twice c_RC_twice 4 (some FieldType.int)
abbrev c_LW_mayday : ByteArray := method_14_code
abbrev y_LW_mayday : MethodName := ⟨"RollCallsLaw", "mayday", "(LRollCalls;II[J)I"⟩
abbrev w_LW_mayday : Cond := .codeWith y_LW_mayday c_LW_mayday 5 (some FieldType.int) [(0, 10, 13, 19), (0, 10, 17, 30), (0, 10, 21, 21), (0, 10, 25, 13)]
abbrev c_RC_mayday : ByteArray := prog_1_method_27_code
abbrev y_RC_mayday : MethodName := ⟨"RollCalls", "mayday", "(II)I"⟩
abbrev w_RC_mayday : Cond := .code y_RC_mayday c_RC_mayday 4 (some FieldType.int)
abbrev c_RC_hasOpenMayday : ByteArray := prog_1_method_31_code
abbrev y_RC_hasOpenMayday : MethodName := ⟨"RollCalls", "hasOpenMayday", "(I)Z"⟩
abbrev w_RC_hasOpenMayday : Cond := .code y_RC_hasOpenMayday c_RC_hasOpenMayday 4 (some FieldType.boolean)
abbrev c_RC_lowestFreeTeam : ByteArray := prog_1_method_33_code
abbrev y_RC_lowestFreeTeam : MethodName := ⟨"RollCalls", "lowestFreeTeam", "()I"⟩
abbrev w_RC_lowestFreeTeam : Cond := .code y_RC_lowestFreeTeam c_RC_lowestFreeTeam 2 (some FieldType.int)
abbrev c_RC_isSent : ByteArray := prog_1_method_34_code
abbrev y_RC_isSent : MethodName := ⟨"RollCalls", "isSent", "(I)Z"⟩
abbrev w_RC_isSent : Cond := .code y_RC_isSent c_RC_isSent 3 (some FieldType.boolean)
abbrev c_MD_init : ByteArray := prog_4_method_1_code
abbrev y_MD_init : MethodName := ⟨"RollCalls$Mayday", "<init>", "(IIII)V"⟩
abbrev w_MD_init : Cond := .code y_MD_init c_MD_init 5 none
abbrev c_LW_answered : ByteArray := method_15_code
abbrev y_LW_answered : MethodName := ⟨"RollCallsLaw", "answered", "(LRollCalls;I)I"⟩
abbrev w_LW_answered : Cond := .codeWith y_LW_answered c_LW_answered 3 (some FieldType.int) [(0, 5, 8, 19), (0, 5, 11, 21)]
abbrev c_RC_answered : ByteArray := prog_1_method_28_code
abbrev y_RC_answered : MethodName := ⟨"RollCalls", "answered", "(I)V"⟩
abbrev w_RC_answered : Cond := .code y_RC_answered c_RC_answered 4 none
abbrev c_RC_knownMayday : ByteArray := prog_1_method_30_code
abbrev y_RC_knownMayday : MethodName := ⟨"RollCalls", "knownMayday", "(I)LRollCalls$Mayday;"⟩
abbrev w_RC_knownMayday : Cond := .code y_RC_knownMayday c_RC_knownMayday 2 (some (FieldType.object "RollCalls$Mayday"))
abbrev c_RC_sendToLowestWaiting : ByteArray := prog_1_method_35_code
abbrev y_RC_sendToLowestWaiting : MethodName := ⟨"RollCalls", "sendToLowestWaiting", "(I)V"⟩
abbrev w_RC_sendToLowestWaiting : Cond := .code y_RC_sendToLowestWaiting c_RC_sendToLowestWaiting 4 none
abbrev c_LW_maydayAt : ByteArray := method_16_code
abbrev y_LW_maydayAt : MethodName := ⟨"RollCallsLaw", "maydayAt", "(LRollCalls;II[J)I"⟩
abbrev w_LW_maydayAt : Cond := .codeWith y_LW_maydayAt c_LW_maydayAt 5 (some FieldType.int) [(0, 10, 13, 19)]
abbrev c_RC_maydayAt : ByteArray := prog_1_method_29_code
abbrev y_RC_maydayAt : MethodName := ⟨"RollCalls", "maydayAt", "(II)I"⟩
abbrev w_RC_maydayAt : Cond := .code y_RC_maydayAt c_RC_maydayAt 4 (some FieldType.int)
abbrev c_LW_evacuate : ByteArray := method_17_code
abbrev y_LW_evacuate : MethodName := ⟨"RollCallsLaw", "evacuate", "(LRollCalls;I[J)I"⟩
abbrev w_LW_evacuate : Cond := .codeWith y_LW_evacuate c_LW_evacuate 4 (some FieldType.int) [(0, 9, 12, 30), (0, 9, 15, 21), (0, 9, 18, 13)]
abbrev c_RC_evacuate : ByteArray := prog_1_method_36_code
abbrev y_RC_evacuate : MethodName := ⟨"RollCalls", "evacuate", "(I)I"⟩
abbrev w_RC_evacuate : Cond := .code y_RC_evacuate c_RC_evacuate 3 (some FieldType.int)
abbrev c_RC_isEvacuating : ByteArray := prog_1_method_40_code
abbrev y_RC_isEvacuating : MethodName := ⟨"RollCalls", "isEvacuating", "()Z"⟩
abbrev w_RC_isEvacuating : Cond := .code y_RC_isEvacuating c_RC_isEvacuating 1 (some FieldType.boolean)
abbrev c_AL_isEmpty : ByteArray := prog_25_method_9_code
abbrev y_AL_isEmpty : MethodName := ⟨"java/util/ArrayList", "isEmpty", "()Z"⟩
abbrev w_AL_isEmpty : Cond := .code y_AL_isEmpty c_AL_isEmpty 1 (some FieldType.boolean)
abbrev c_RC_knownEvacuation : ByteArray := prog_1_method_41_code
abbrev y_RC_knownEvacuation : MethodName := ⟨"RollCalls", "knownEvacuation", "(I)LRollCalls$Evacuation;"⟩
abbrev w_RC_knownEvacuation : Cond := .code y_RC_knownEvacuation c_RC_knownEvacuation 2 (some (FieldType.object "RollCalls$Evacuation"))
abbrev c_EV_init : ByteArray := prog_3_method_1_code
abbrev y_EV_init : MethodName := ⟨"RollCalls$Evacuation", "<init>", "(I)V"⟩
abbrev w_EV_init : Cond := .code y_EV_init c_EV_init 2 none
abbrev c_RC_demandConfirmations : ByteArray := prog_1_method_42_code
abbrev y_RC_demandConfirmations : MethodName := ⟨"RollCalls", "demandConfirmations", "(LRollCalls$Evacuation;)V"⟩
abbrev w_RC_demandConfirmations : Cond := .code y_RC_demandConfirmations c_RC_demandConfirmations 3 none
abbrev c_RC_isSomebodyIn : ByteArray := prog_1_method_43_code
abbrev y_RC_isSomebodyIn : MethodName := ⟨"RollCalls", "isSomebodyIn", "(I)Z"⟩
abbrev w_RC_isSomebodyIn : Cond := .code y_RC_isSomebodyIn c_RC_isSomebodyIn 3 (some FieldType.boolean)
abbrev c_LW_confirm : ByteArray := method_18_code
abbrev y_LW_confirm : MethodName := ⟨"RollCallsLaw", "confirm", "(LRollCalls;I[J)I"⟩
abbrev w_LW_confirm : Cond := .codeWith y_LW_confirm c_LW_confirm 4 (some FieldType.int) [(0, 9, 12, 19), (0, 9, 15, 21)]
abbrev c_RC_confirm : ByteArray := prog_1_method_37_code
abbrev y_RC_confirm : MethodName := ⟨"RollCalls", "confirm", "(I)I"⟩
abbrev w_RC_confirm : Cond := .code y_RC_confirm c_RC_confirm 3 (some FieldType.int)
abbrev c_LW_late : ByteArray := method_19_code
abbrev y_LW_late : MethodName := ⟨"RollCallsLaw", "late", "(LRollCalls;II[J)I"⟩
abbrev w_LW_late : Cond := .codeWith y_LW_late c_LW_late 5 (some FieldType.int) [(0, 10, 13, 19), (0, 10, 17, 30)]
abbrev c_RC_late : ByteArray := prog_1_method_38_code
abbrev y_RC_late : MethodName := ⟨"RollCalls", "late", "(II)I"⟩
abbrev w_RC_late : Cond := .code y_RC_late c_RC_late 6 (some FieldType.int)
abbrev c_LW_tick : ByteArray := method_20_code
abbrev y_LW_tick : MethodName := ⟨"RollCallsLaw", "tick", "(LRollCalls;I[J)I"⟩
abbrev w_LW_tick : Cond := .codeWith y_LW_tick c_LW_tick 4 (some FieldType.int) [(0, 9, 12, 30)]
abbrev c_RC_tick : ByteArray := prog_1_method_39_code
abbrev y_RC_tick : MethodName := ⟨"RollCalls", "tick", "(I)I"⟩
abbrev w_RC_tick : Cond := .code y_RC_tick c_RC_tick 2 (some FieldType.int)
abbrev c_EV_tellLate : ByteArray := prog_3_method_2_code
abbrev y_EV_tellLate : MethodName := ⟨"RollCalls$Evacuation", "tellLate", "(I)I"⟩
abbrev w_EV_tellLate : Cond := .code y_EV_tellLate c_EV_tellLate 3 (some FieldType.int)
abbrev c_LW_was : ByteArray := method_21_code
abbrev y_LW_was : MethodName := ⟨"RollCallsLaw", "was", "(LRollCalls;II[J)I"⟩
abbrev w_LW_was : Cond := .codeWith y_LW_was c_LW_was 5 (some FieldType.int) [(0, 10, 13, 19), (0, 10, 17, 30)]
abbrev c_RC_was : ByteArray := prog_1_method_6_code
abbrev y_RC_was : MethodName := ⟨"RollCalls", "was", "(II)I"⟩
abbrev w_RC_was : Cond := .code y_RC_was c_RC_was 5 (some FieldType.int)
abbrev c_LW_count : ByteArray := method_22_code
abbrev y_LW_count : MethodName := ⟨"RollCallsLaw", "count", "(LRollCalls;I[J)I"⟩
abbrev w_LW_count : Cond := .codeWith y_LW_count c_LW_count 4 (some FieldType.int) [(0, 9, 12, 19)]
abbrev c_RC_count : ByteArray := prog_1_method_44_code
abbrev y_RC_count : MethodName := ⟨"RollCalls", "count", "(I)I"⟩
abbrev w_RC_count : Cond := .code y_RC_count c_RC_count 2 (some FieldType.int)
abbrev c_RC_personsInside : ByteArray := prog_1_method_10_code
abbrev y_RC_personsInside : MethodName := ⟨"RollCalls", "personsInside", "()I"⟩
abbrev w_RC_personsInside : Cond := .code y_RC_personsInside c_RC_personsInside 3 (some FieldType.int)
abbrev c_RC_rollsOn : ByteArray := prog_1_method_26_code
abbrev y_RC_rollsOn : MethodName := ⟨"RollCalls", "rollsOn", "()I"⟩
abbrev w_RC_rollsOn : Cond := .code y_RC_rollsOn c_RC_rollsOn 3 (some FieldType.int)
abbrev c_MM_init : ByteArray := prog_9_method_1_code
abbrev y_MM_init : MethodName := ⟨"RollCallsModel", "<init>", "()V"⟩
abbrev w_MM_init : Cond := .code y_MM_init c_MM_init 1 none
abbrev c_MM_thrown : ByteArray := prog_9_method_2_code
abbrev y_MM_thrown : MethodName := ⟨"RollCallsModel", "thrown", "()I"⟩
abbrev w_MM_thrown : Cond := .code y_MM_thrown c_MM_thrown 1 (some FieldType.int)
abbrev c_MM_person : ByteArray := prog_9_method_10_code
abbrev y_MM_person : MethodName := ⟨"RollCallsModel", "person", "()I"⟩
abbrev w_MM_person : Cond := .code y_MM_person c_MM_person 1 (some FieldType.int)
abbrev c_MM_goes : ByteArray := prog_9_method_4_code
abbrev y_MM_goes : MethodName := ⟨"RollCallsModel", "goes", "(IZZZZ)Z"⟩
abbrev w_MM_goes : Cond := .code y_MM_goes c_MM_goes 8 (some FieldType.boolean)
abbrev c_MM_enter : ByteArray := prog_9_method_12_code
abbrev y_MM_enter : MethodName := ⟨"RollCallsModel", "enter", "(II)V"⟩
abbrev w_MM_enter : Cond := .code y_MM_enter c_MM_enter 4 none
abbrev c_MM_isPerson : ByteArray := prog_9_method_5_code
abbrev y_MM_isPerson : MethodName := ⟨"RollCallsModel", "isPerson", "(I)Z"⟩
abbrev w_MM_isPerson : Cond := .code y_MM_isPerson c_MM_isPerson 2 (some FieldType.boolean)
abbrev c_MM_in : ByteArray := prog_9_method_3_code
abbrev y_MM_in : MethodName := ⟨"RollCallsModel", "in", "(III)Z"⟩
abbrev w_MM_in : Cond := .code y_MM_in c_MM_in 3 (some FieldType.boolean)
abbrev c_MM_isSector : ByteArray := prog_9_method_6_code
abbrev y_MM_isSector : MethodName := ⟨"RollCallsModel", "isSector", "(I)Z"⟩
abbrev w_MM_isSector : Cond := .code y_MM_isSector c_MM_isSector 1 (some FieldType.boolean)
abbrev c_MM_here : ByteArray := prog_9_method_9_code
abbrev y_MM_here : MethodName := ⟨"RollCallsModel", "here", "(I)I"⟩
abbrev w_MM_here : Cond := .code y_MM_here c_MM_here 2 (some FieldType.int)
abbrev c_MM_at : ByteArray := prog_9_method_8_code
abbrev y_MM_at : MethodName := ⟨"RollCallsModel", "at", "(II)I"⟩
abbrev w_MM_at : Cond := .code y_MM_at c_MM_at 5 (some FieldType.int)
abbrev c_MM_moves : ByteArray := prog_9_method_11_code
abbrev y_MM_moves : MethodName := ⟨"RollCallsModel", "moves", "(II)V"⟩
abbrev w_MM_moves : Cond := .code y_MM_moves c_MM_moves 3 none
abbrev c_MM_leave : ByteArray := prog_9_method_13_code
abbrev y_MM_leave : MethodName := ⟨"RollCallsModel", "leave", "(I)V"⟩
abbrev w_MM_leave : Cond := .code y_MM_leave c_MM_leave 2 none
abbrev c_MM_guests : ByteArray := prog_9_method_14_code
abbrev y_MM_guests : MethodName := ⟨"RollCallsModel", "guests", "(II)V"⟩
abbrev w_MM_guests : Cond := .code y_MM_guests c_MM_guests 3 none
abbrev c_MM_roll : ByteArray := prog_9_method_16_code
abbrev y_MM_roll : MethodName := ⟨"RollCallsModel", "roll", "(I)I"⟩
abbrev w_MM_roll : Cond := .code y_MM_roll c_MM_roll 7 (some FieldType.int)
abbrev c_MM_openMaydays : ByteArray := prog_9_method_15_code
abbrev y_MM_openMaydays : MethodName := ⟨"RollCallsModel", "openMaydays", "()I"⟩
abbrev w_MM_openMaydays : Cond := .code y_MM_openMaydays c_MM_openMaydays 3 (some FieldType.int)
abbrev c_MM_answer : ByteArray := prog_9_method_17_code
abbrev y_MM_answer : MethodName := ⟨"RollCallsModel", "answer", "(III)I"⟩
abbrev w_MM_answer : Cond := .code y_MM_answer c_MM_answer 7 (some FieldType.int)
abbrev c_MM_isRoll : ByteArray := prog_9_method_7_code
abbrev y_MM_isRoll : MethodName := ⟨"RollCallsModel", "isRoll", "(I)Z"⟩
abbrev w_MM_isRoll : Cond := .code y_MM_isRoll c_MM_isRoll 2 (some FieldType.boolean)
abbrev c_MM_seen : ByteArray := prog_9_method_18_code
abbrev y_MM_seen : MethodName := ⟨"RollCallsModel", "seen", "(II)I"⟩
abbrev w_MM_seen : Cond := .code y_MM_seen c_MM_seen 4 (some FieldType.int)
abbrev c_MM_round : ByteArray := prog_9_method_22_code
abbrev y_MM_round : MethodName := ⟨"RollCallsModel", "round", "(I)I"⟩
abbrev w_MM_round : Cond := .code y_MM_round c_MM_round 5 (some FieldType.int)
abbrev c_MM_open : ByteArray := prog_9_method_21_code
abbrev y_MM_open : MethodName := ⟨"RollCallsModel", "open", "(I)I"⟩
abbrev w_MM_open : Cond := .code y_MM_open c_MM_open 4 (some FieldType.int)
abbrev c_MM_isStill : ByteArray := prog_9_method_20_code
abbrev y_MM_isStill : MethodName := ⟨"RollCallsModel", "isStill", "(II)Z"⟩
abbrev w_MM_isStill : Cond := .code y_MM_isStill c_MM_isStill 3 (some FieldType.boolean)
abbrev c_MM_cameOut : ByteArray := prog_9_method_19_code
abbrev y_MM_cameOut : MethodName := ⟨"RollCallsModel", "cameOut", "(II)Z"⟩
abbrev w_MM_cameOut : Cond := .code y_MM_cameOut c_MM_cameOut 4 (some FieldType.boolean)
abbrev c_MM_rollAt : ByteArray := prog_9_method_23_code
abbrev y_MM_rollAt : MethodName := ⟨"RollCallsModel", "rollAt", "(II)I"⟩
abbrev w_MM_rollAt : Cond := .code y_MM_rollAt c_MM_rollAt 6 (some FieldType.int)
abbrev c_MM_missing : ByteArray := prog_9_method_25_code
abbrev y_MM_missing : MethodName := ⟨"RollCallsModel", "missing", "(II)I"⟩
abbrev w_MM_missing : Cond := .code y_MM_missing c_MM_missing 6 (some FieldType.int)
abbrev c_MM_isFound : ByteArray := prog_9_method_24_code
abbrev y_MM_isFound : MethodName := ⟨"RollCallsModel", "isFound", "(II)Z"⟩
abbrev w_MM_isFound : Cond := .code y_MM_isFound c_MM_isFound 4 (some FieldType.boolean)
abbrev c_MM_twice : ByteArray := prog_9_method_26_code
abbrev y_MM_twice : MethodName := ⟨"RollCallsModel", "twice", "(II)I"⟩
abbrev w_MM_twice : Cond := .code y_MM_twice c_MM_twice 3 (some FieldType.int)
abbrev c_MM_mayday : ByteArray := prog_9_method_28_code
abbrev y_MM_mayday : MethodName := ⟨"RollCallsModel", "mayday", "(II)I"⟩
abbrev w_MM_mayday : Cond := .code y_MM_mayday c_MM_mayday 5 (some FieldType.int)
abbrev c_MM_serve : ByteArray := prog_9_method_27_code
abbrev y_MM_serve : MethodName := ⟨"RollCallsModel", "serve", "()V"⟩
abbrev w_MM_serve : Cond := .code y_MM_serve c_MM_serve 5 none
abbrev c_MM_answered : ByteArray := prog_9_method_29_code
abbrev y_MM_answered : MethodName := ⟨"RollCallsModel", "answered", "(I)V"⟩
abbrev w_MM_answered : Cond := .code y_MM_answered c_MM_answered 3 none
abbrev c_MM_maydayAt : ByteArray := prog_9_method_30_code
abbrev y_MM_maydayAt : MethodName := ⟨"RollCallsModel", "maydayAt", "(II)I"⟩
abbrev w_MM_maydayAt : Cond := .code y_MM_maydayAt c_MM_maydayAt 3 (some FieldType.int)
abbrev c_MM_evacuate : ByteArray := prog_9_method_34_code
abbrev y_MM_evacuate : MethodName := ⟨"RollCallsModel", "evacuate", "(I)I"⟩
abbrev w_MM_evacuate : Cond := .code y_MM_evacuate c_MM_evacuate 4 (some FieldType.int)
abbrev c_MM_isFull : ByteArray := prog_9_method_33_code
abbrev y_MM_isFull : MethodName := ⟨"RollCallsModel", "isFull", "(I)Z"⟩
abbrev w_MM_isFull : Cond := .code y_MM_isFull c_MM_isFull 3 (some FieldType.boolean)
abbrev c_MM_isOn : ByteArray := prog_9_method_32_code
abbrev y_MM_isOn : MethodName := ⟨"RollCallsModel", "isOn", "()Z"⟩
abbrev w_MM_isOn : Cond := .code y_MM_isOn c_MM_isOn 1 (some FieldType.boolean)
abbrev c_MM_left : ByteArray := prog_9_method_31_code
abbrev y_MM_left : MethodName := ⟨"RollCallsModel", "left", "(I)I"⟩
abbrev w_MM_left : Cond := .code y_MM_left c_MM_left 4 (some FieldType.int)
abbrev c_MM_confirm : ByteArray := prog_9_method_35_code
abbrev y_MM_confirm : MethodName := ⟨"RollCallsModel", "confirm", "(I)I"⟩
abbrev w_MM_confirm : Cond := .code y_MM_confirm c_MM_confirm 3 (some FieldType.int)
abbrev c_MM_late : ByteArray := prog_9_method_37_code
abbrev y_MM_late : MethodName := ⟨"RollCallsModel", "late", "(II)I"⟩
abbrev w_MM_late : Cond := .code y_MM_late c_MM_late 5 (some FieldType.int)
abbrev c_MM_isLate : ByteArray := prog_9_method_36_code
abbrev y_MM_isLate : MethodName := ⟨"RollCallsModel", "isLate", "(II)Z"⟩
abbrev w_MM_isLate : Cond := .code y_MM_isLate c_MM_isLate 4 (some FieldType.boolean)
abbrev c_MM_tick : ByteArray := prog_9_method_38_code
abbrev y_MM_tick : MethodName := ⟨"RollCallsModel", "tick", "(I)I"⟩
abbrev w_MM_tick : Cond := .code y_MM_tick c_MM_tick 4 (some FieldType.int)
abbrev c_MM_was : ByteArray := prog_9_method_39_code
abbrev y_MM_was : MethodName := ⟨"RollCallsModel", "was", "(II)I"⟩
abbrev w_MM_was : Cond := .code y_MM_was c_MM_was 3 (some FieldType.int)
abbrev c_MM_count : ByteArray := prog_9_method_40_code
abbrev y_MM_count : MethodName := ⟨"RollCallsModel", "count", "(I)I"⟩
abbrev w_MM_count : Cond := .code y_MM_count c_MM_count 5 (some FieldType.int)
theorem k_0 : Cond.initialized "RollCallsLaw" ∈ zT := zT_of 41 (by decide +kernel) (by decide +kernel)
theorem k_1 : Cond.initialized "RollCalls" ∈ zT := zT_of 42 (by decide +kernel) (by decide +kernel)
theorem k_2 : Cond.initialized "java/util/AbstractCollection" ∈ zT := zT_of 43 (by decide +kernel) (by decide +kernel)
theorem k_3 : Cond.initialized "java/util/AbstractList" ∈ zT := zT_of 44 (by decide +kernel) (by decide +kernel)
theorem k_4 : Cond.initialized "java/util/ArrayList" ∈ zT := zT_of 45 (by decide +kernel) (by decide +kernel)
theorem k_5 : Cond.initialized "RollCallsModel" ∈ zT := zT_of 46 (by decide +kernel) (by decide +kernel)
theorem k_6 : Cond.initialized "java/lang/Throwable" ∈ zT := zT_of 47 (by decide +kernel) (by decide +kernel)
theorem k_7 : Cond.initialized "java/lang/Exception" ∈ zT := zT_of 48 (by decide +kernel) (by decide +kernel)
theorem k_8 : Cond.initialized "java/lang/RuntimeException" ∈ zT := zT_of 49 (by decide +kernel) (by decide +kernel)
theorem k_9 : Cond.initialized "java/lang/UnsupportedOperationException" ∈ zT := zT_of 50 (by decide +kernel) (by decide +kernel)
theorem k_10 : Cond.initialized "RollCalls$Person" ∈ zT := zT_of 51 (by decide +kernel) (by decide +kernel)
theorem k_11 : Cond.initialized "jdk/internal/util/ArraysSupport" ∈ zT := zT_of 52 (by decide +kernel) (by decide +kernel)
theorem k_12 : Cond.initialized "java/lang/Math" ∈ zT := zT_of 53 (by decide +kernel) (by decide +kernel)
theorem k_13 : Cond.initialized "java/util/Arrays" ∈ zT := zT_of 54 (by decide +kernel) (by decide +kernel)
theorem k_14 : Cond.initialized "java/lang/System" ∈ zT := zT_of 55 (by decide +kernel) (by decide +kernel)
theorem k_15 : Cond.initialized "java/lang/IllegalArgumentException" ∈ zT := zT_of 56 (by decide +kernel) (by decide +kernel)
theorem k_16 : Cond.initialized "java/util/Objects" ∈ zT := zT_of 57 (by decide +kernel) (by decide +kernel)
theorem k_17 : Cond.initialized "jdk/internal/util/Preconditions" ∈ zT := zT_of 58 (by decide +kernel) (by decide +kernel)
theorem k_18 : Cond.initialized "java/lang/IllegalStateException" ∈ zT := zT_of 59 (by decide +kernel) (by decide +kernel)
theorem k_19 : Cond.initialized "RollCalls$Move" ∈ zT := zT_of 60 (by decide +kernel) (by decide +kernel)
theorem k_20 : Cond.initialized "java/lang/IndexOutOfBoundsException" ∈ zT := zT_of 61 (by decide +kernel) (by decide +kernel)
theorem k_21 : Cond.initialized "RollCalls$Roll" ∈ zT := zT_of 62 (by decide +kernel) (by decide +kernel)
theorem k_22 : Cond.initialized "RollCalls$DoubleCount" ∈ zT := zT_of 63 (by decide +kernel) (by decide +kernel)
theorem k_23 : Cond.initialized "RollCalls$Mayday" ∈ zT := zT_of 64 (by decide +kernel) (by decide +kernel)
theorem k_24 : Cond.initialized "RollCalls$Evacuation" ∈ zT := zT_of 65 (by decide +kernel) (by decide +kernel)
theorem k_25 : Cond.classLink "RollCallsLaw" 8 "RollCalls" ∈ zT := zT_of 66 (by decide +kernel) (by decide +kernel)
theorem k_26 : Cond.instantiable "RollCalls" 8 ∈ zT := zT_of 67 (by decide +kernel) (by decide +kernel)
theorem k_27 : Cond.methodLink "RollCallsLaw" 83 ⟨"RollCalls", "<init>", "()V"⟩ ∈ zT := zT_of 68 (by decide +kernel) (by decide +kernel)
theorem k_28 : Cond.instanceMethod ⟨"RollCalls", "<init>", "()V"⟩ ∈ zT := zT_of 69 (by decide +kernel) (by decide +kernel)
theorem k_29 : Cond.code ⟨"RollCalls", "<init>", "()V"⟩ prog_1_method_1_code 1 none ∈ zT := zT_of 70 (by decide +kernel) (by decide +kernel)
theorem k_30 : Cond.methodLink "RollCalls" 1 ⟨"java/lang/Object", "<init>", "()V"⟩ ∈ zT := zT_of 71 (by decide +kernel) (by decide +kernel)
theorem k_31 : Cond.instanceMethod ⟨"java/lang/Object", "<init>", "()V"⟩ ∈ zT := zT_of 72 (by decide +kernel) (by decide +kernel)
theorem k_32 : Cond.code ⟨"java/lang/Object", "<init>", "()V"⟩ object_method_1_code 1 none ∈ zT := zT_of 73 (by decide +kernel) (by decide +kernel)
theorem k_33 : Cond.classLink "RollCalls" 13 "java/util/ArrayList" ∈ zT := zT_of 74 (by decide +kernel) (by decide +kernel)
theorem k_34 : Cond.instantiable "java/util/ArrayList" 3 ∈ zT := zT_of 75 (by decide +kernel) (by decide +kernel)
theorem k_35 : Cond.methodLink "RollCalls" 15 ⟨"java/util/ArrayList", "<init>", "()V"⟩ ∈ zT := zT_of 76 (by decide +kernel) (by decide +kernel)
theorem k_36 : Cond.instanceMethod ⟨"java/util/ArrayList", "<init>", "()V"⟩ ∈ zT := zT_of 77 (by decide +kernel) (by decide +kernel)
theorem k_37 : Cond.code ⟨"java/util/ArrayList", "<init>", "()V"⟩ prog_25_method_2_code 1 none ∈ zT := zT_of 78 (by decide +kernel) (by decide +kernel)
theorem k_38 : Cond.methodLink "java/util/ArrayList" 1 ⟨"java/util/AbstractList", "<init>", "()V"⟩ ∈ zT := zT_of 79 (by decide +kernel) (by decide +kernel)
theorem k_39 : Cond.instanceMethod ⟨"java/util/AbstractList", "<init>", "()V"⟩ ∈ zT := zT_of 80 (by decide +kernel) (by decide +kernel)
theorem k_40 : Cond.code ⟨"java/util/AbstractList", "<init>", "()V"⟩ prog_24_method_1_code 1 none ∈ zT := zT_of 81 (by decide +kernel) (by decide +kernel)
theorem k_41 : Cond.methodLink "java/util/AbstractList" 1 ⟨"java/util/AbstractCollection", "<init>", "()V"⟩ ∈ zT := zT_of 82 (by decide +kernel) (by decide +kernel)
theorem k_42 : Cond.instanceMethod ⟨"java/util/AbstractCollection", "<init>", "()V"⟩ ∈ zT := zT_of 83 (by decide +kernel) (by decide +kernel)
theorem k_43 : Cond.code ⟨"java/util/AbstractCollection", "<init>", "()V"⟩ prog_23_method_1_code 1 none ∈ zT := zT_of 84 (by decide +kernel) (by decide +kernel)
theorem k_44 : Cond.methodLink "java/util/AbstractCollection" 1 ⟨"java/lang/Object", "<init>", "()V"⟩ ∈ zT := zT_of 85 (by decide +kernel) (by decide +kernel)
theorem k_45 : Cond.fieldLink "java/util/ArrayList" 39 "java/util/ArrayList" "DEFAULTCAPACITY_EMPTY_ELEMENTDATA" "[Ljava/lang/Object;" ∈ zT := zT_of 86 (by decide +kernel) (by decide +kernel)
theorem k_47 : Cond.fieldLink "java/util/ArrayList" 9 "java/util/ArrayList" "elementData" "[Ljava/lang/Object;" ∈ zT := zT_of 88 (by decide +kernel) (by decide +kernel)
theorem k_48 : Cond.fieldLink "java/util/ArrayList" 48 "java/util/ArrayList" "size" "I" ∈ zT := zT_of 89 (by decide +kernel) (by decide +kernel)
theorem k_49 : Cond.fieldLink "java/util/AbstractList" 7 "java/util/AbstractList" "modCount" "I" ∈ zT := zT_of 90 (by decide +kernel) (by decide +kernel)
theorem k_50 : Cond.fieldLink "java/util/ArrayList" 63 "java/util/ArrayList" "modCount" "I" ∈ zT := zT_of 91 (by decide +kernel) (by decide +kernel)
theorem k_51 : Cond.sameField "java/util/ArrayList" "java/util/AbstractList" "modCount" "I" ∈ zT := zT_of 92 (by decide +kernel) (by decide +kernel)
theorem k_52 : Cond.lays "java/util/ArrayList" "java/util/ArrayList" "elementData" "[Ljava/lang/Object;" ∈ zT := zT_of 93 (by decide +kernel) (by decide +kernel)
theorem k_54 : Cond.lays "java/util/ArrayList" "java/util/ArrayList" "size" "I" ∈ zT := zT_of 95 (by decide +kernel) (by decide +kernel)
theorem k_56 : Cond.lays "java/util/ArrayList" "java/util/AbstractList" "modCount" "I" ∈ zT := zT_of 97 (by decide +kernel) (by decide +kernel)
theorem k_59 : Cond.arrayClass FieldType.int ∈ zT := zT_of 100 (by decide +kernel) (by decide +kernel)
theorem k_60 : Cond.fieldLink "RollCalls" 9 "RollCalls" "guestsIn" "[I" ∈ zT := zT_of 101 (by decide +kernel) (by decide +kernel)
theorem k_61 : Cond.fieldLink "RollCalls" 16 "RollCalls" "persons" "Ljava/util/ArrayList;" ∈ zT := zT_of 102 (by decide +kernel) (by decide +kernel)
theorem k_62 : Cond.fieldLink "RollCalls" 20 "RollCalls" "moves" "Ljava/util/ArrayList;" ∈ zT := zT_of 103 (by decide +kernel) (by decide +kernel)
theorem k_63 : Cond.fieldLink "RollCalls" 23 "RollCalls" "rolls" "Ljava/util/ArrayList;" ∈ zT := zT_of 104 (by decide +kernel) (by decide +kernel)
theorem k_64 : Cond.fieldLink "RollCalls" 26 "RollCalls" "doubles" "Ljava/util/ArrayList;" ∈ zT := zT_of 105 (by decide +kernel) (by decide +kernel)
theorem k_65 : Cond.fieldLink "RollCalls" 29 "RollCalls" "maydays" "Ljava/util/ArrayList;" ∈ zT := zT_of 106 (by decide +kernel) (by decide +kernel)
theorem k_66 : Cond.fieldLink "RollCalls" 32 "RollCalls" "evacuations" "Ljava/util/ArrayList;" ∈ zT := zT_of 107 (by decide +kernel) (by decide +kernel)
theorem k_67 : Cond.fieldLink "RollCalls" 35 "RollCalls" "second" "I" ∈ zT := zT_of 108 (by decide +kernel) (by decide +kernel)
theorem k_68 : Cond.laysFinal "RollCalls" "RollCalls" "guestsIn" "[I" ∈ zT := zT_of 109 (by decide +kernel) (by decide +kernel)
theorem k_70 : Cond.laysFinal "RollCalls" "RollCalls" "persons" "Ljava/util/ArrayList;" ∈ zT := zT_of 111 (by decide +kernel) (by decide +kernel)
theorem k_72 : Cond.laysFinal "RollCalls" "RollCalls" "moves" "Ljava/util/ArrayList;" ∈ zT := zT_of 113 (by decide +kernel) (by decide +kernel)
theorem k_74 : Cond.laysFinal "RollCalls" "RollCalls" "rolls" "Ljava/util/ArrayList;" ∈ zT := zT_of 115 (by decide +kernel) (by decide +kernel)
theorem k_76 : Cond.laysFinal "RollCalls" "RollCalls" "doubles" "Ljava/util/ArrayList;" ∈ zT := zT_of 117 (by decide +kernel) (by decide +kernel)
theorem k_78 : Cond.laysFinal "RollCalls" "RollCalls" "maydays" "Ljava/util/ArrayList;" ∈ zT := zT_of 119 (by decide +kernel) (by decide +kernel)
theorem k_80 : Cond.laysFinal "RollCalls" "RollCalls" "evacuations" "Ljava/util/ArrayList;" ∈ zT := zT_of 121 (by decide +kernel) (by decide +kernel)
theorem k_82 : Cond.lays "RollCalls" "RollCalls" "second" "I" ∈ zT := zT_of 123 (by decide +kernel) (by decide +kernel)
theorem k_85 : Cond.methodLink "RollCallsLaw" 87 ⟨"RollCallsLaw", "person", "(LRollCalls;[J)I"⟩ ∈ zT := zT_of 126 (by decide +kernel) (by decide +kernel)
theorem k_86 : Cond.static ⟨"RollCallsLaw", "person", "(LRollCalls;[J)I"⟩ ∈ zT := zT_of 127 (by decide +kernel) (by decide +kernel)
theorem k_87 : Cond.codeWith ⟨"RollCallsLaw", "person", "(LRollCalls;[J)I"⟩ method_3_code 3 (some FieldType.int) [(0, 8, 11, 13)] ∈ zT := zT_of 128 (by decide +kernel) (by decide +kernel)
theorem k_88 : Cond.classLink "RollCallsLaw" 13 "java/lang/UnsupportedOperationException" ∈ zT := zT_of 129 (by decide +kernel) (by decide +kernel)
theorem k_89 : Cond.methodLink "RollCallsLaw" 7 ⟨"RollCalls", "person", "()I"⟩ ∈ zT := zT_of 130 (by decide +kernel) (by decide +kernel)
theorem k_90 : Cond.instanceMethod ⟨"RollCalls", "person", "()I"⟩ ∈ zT := zT_of 131 (by decide +kernel) (by decide +kernel)
theorem k_91 : Cond.selects "RollCalls" ⟨"RollCalls", "person", "()I"⟩ ⟨"RollCalls", "person", "()I"⟩ ∈ zT := zT_of 132 (by decide +kernel) (by decide +kernel)
theorem k_92 : Cond.code ⟨"RollCalls", "person", "()I"⟩ prog_1_method_2_code 1 (some FieldType.int) ∈ zT := zT_of 133 (by decide +kernel) (by decide +kernel)
theorem k_93 : Cond.methodLink "RollCalls" 39 ⟨"java/util/ArrayList", "size", "()I"⟩ ∈ zT := zT_of 134 (by decide +kernel) (by decide +kernel)
theorem k_94 : Cond.instanceMethod ⟨"java/util/ArrayList", "size", "()I"⟩ ∈ zT := zT_of 135 (by decide +kernel) (by decide +kernel)
theorem k_95 : Cond.selects "java/util/ArrayList" ⟨"java/util/ArrayList", "size", "()I"⟩ ⟨"java/util/ArrayList", "size", "()I"⟩ ∈ zT := zT_of 136 (by decide +kernel) (by decide +kernel)
theorem k_96 : Cond.code ⟨"java/util/ArrayList", "size", "()I"⟩ prog_25_method_8_code 1 (some FieldType.int) ∈ zT := zT_of 137 (by decide +kernel) (by decide +kernel)
theorem k_97 : Cond.classLink "RollCalls" 43 "java/lang/UnsupportedOperationException" ∈ zT := zT_of 138 (by decide +kernel) (by decide +kernel)
theorem k_98 : Cond.instantiable "java/lang/UnsupportedOperationException" 6 ∈ zT := zT_of 139 (by decide +kernel) (by decide +kernel)
theorem k_106 : Cond.selects "java/lang/UnsupportedOperationException" ⟨"java/lang/Throwable", "fillInStackTrace", "(I)Ljava/lang/Throwable;"⟩ ⟨"java/lang/Throwable", "fillInStackTrace", "(I)Ljava/lang/Throwable;"⟩ ∈ zT := zT_of 147 (by decide +kernel) (by decide +kernel)
theorem k_107 : Cond.selects "java/lang/UnsupportedOperationException" ⟨"java/lang/Throwable", "fillInStackTrace", "()Ljava/lang/Throwable;"⟩ ⟨"java/lang/Throwable", "fillInStackTrace", "()Ljava/lang/Throwable;"⟩ ∈ zT := zT_of 148 (by decide +kernel) (by decide +kernel)
theorem k_108 : Cond.lays "java/lang/UnsupportedOperationException" "java/lang/Throwable" "cause" "Ljava/lang/Throwable;" ∈ zT := zT_of 149 (by decide +kernel) (by decide +kernel)
theorem k_109 : Cond.lays "java/lang/Throwable" "java/lang/Throwable" "cause" "Ljava/lang/Throwable;" ∈ zT := zT_of 150 (by decide +kernel) (by decide +kernel)
theorem k_110 : Cond.lays "java/lang/UnsupportedOperationException" "java/lang/Throwable" "stackTrace" "[Ljava/lang/StackTraceElement;" ∈ zT := zT_of 151 (by decide +kernel) (by decide +kernel)
theorem k_111 : Cond.lays "java/lang/Throwable" "java/lang/Throwable" "stackTrace" "[Ljava/lang/StackTraceElement;" ∈ zT := zT_of 152 (by decide +kernel) (by decide +kernel)
theorem k_112 : Cond.lays "java/lang/UnsupportedOperationException" "java/lang/Throwable" "suppressedExceptions" "Ljava/util/List;" ∈ zT := zT_of 153 (by decide +kernel) (by decide +kernel)
theorem k_113 : Cond.lays "java/lang/Throwable" "java/lang/Throwable" "suppressedExceptions" "Ljava/util/List;" ∈ zT := zT_of 154 (by decide +kernel) (by decide +kernel)
theorem k_114 : Cond.lays "java/lang/UnsupportedOperationException" "java/lang/Throwable" "detailMessage" "Ljava/lang/String;" ∈ zT := zT_of 155 (by decide +kernel) (by decide +kernel)
theorem k_115 : Cond.lays "java/lang/Throwable" "java/lang/Throwable" "detailMessage" "Ljava/lang/String;" ∈ zT := zT_of 156 (by decide +kernel) (by decide +kernel)
theorem k_116 : Cond.lays "java/lang/UnsupportedOperationException" "java/lang/Throwable" "backtrace" "Ljava/lang/Object;" ∈ zT := zT_of 157 (by decide +kernel) (by decide +kernel)
theorem k_117 : Cond.lays "java/lang/Throwable" "java/lang/Throwable" "backtrace" "Ljava/lang/Object;" ∈ zT := zT_of 158 (by decide +kernel) (by decide +kernel)
theorem k_118 : Cond.fieldLink "java/lang/Throwable" 198 "java/lang/Throwable" "backtrace" "Ljava/lang/Object;" ∈ zT := zT_of 159 (by decide +kernel) (by decide +kernel)
theorem k_120 : Cond.instanceMethod ⟨"java/lang/Throwable", "<init>", "()V"⟩ ∈ zT := zT_of 161 (by decide +kernel) (by decide +kernel)
theorem k_121 : Cond.code ⟨"java/lang/Throwable", "<init>", "()V"⟩ prog_21_method_1_code 1 none ∈ zT := zT_of 162 (by decide +kernel) (by decide +kernel)
theorem k_122 : Cond.methodLink "java/lang/Throwable" 1 ⟨"java/lang/Object", "<init>", "()V"⟩ ∈ zT := zT_of 163 (by decide +kernel) (by decide +kernel)
theorem k_123 : Cond.fieldLink "java/lang/Throwable" 13 "java/lang/Throwable" "UNASSIGNED_STACK" "[Ljava/lang/StackTraceElement;" ∈ zT := zT_of 164 (by decide +kernel) (by decide +kernel)
theorem k_125 : Cond.fieldLink "java/lang/Throwable" 20 "java/lang/Throwable" "SUPPRESSED_SENTINEL" "Ljava/util/List;" ∈ zT := zT_of 166 (by decide +kernel) (by decide +kernel)
theorem k_127 : Cond.methodLink "java/lang/Throwable" 27 ⟨"java/lang/Throwable", "fillInStackTrace", "()Ljava/lang/Throwable;"⟩ ∈ zT := zT_of 168 (by decide +kernel) (by decide +kernel)
theorem k_128 : Cond.instanceMethod ⟨"java/lang/Throwable", "fillInStackTrace", "()Ljava/lang/Throwable;"⟩ ∈ zT := zT_of 169 (by decide +kernel) (by decide +kernel)
theorem k_130 : Cond.selects "java/lang/IllegalArgumentException" ⟨"java/lang/Throwable", "fillInStackTrace", "()Ljava/lang/Throwable;"⟩ ⟨"java/lang/Throwable", "fillInStackTrace", "()Ljava/lang/Throwable;"⟩ ∈ zT := zT_of 171 (by decide +kernel) (by decide +kernel)
theorem k_131 : Cond.selects "java/lang/IllegalStateException" ⟨"java/lang/Throwable", "fillInStackTrace", "()Ljava/lang/Throwable;"⟩ ⟨"java/lang/Throwable", "fillInStackTrace", "()Ljava/lang/Throwable;"⟩ ∈ zT := zT_of 172 (by decide +kernel) (by decide +kernel)
theorem k_132 : Cond.selects "java/lang/IndexOutOfBoundsException" ⟨"java/lang/Throwable", "fillInStackTrace", "()Ljava/lang/Throwable;"⟩ ⟨"java/lang/Throwable", "fillInStackTrace", "()Ljava/lang/Throwable;"⟩ ∈ zT := zT_of 173 (by decide +kernel) (by decide +kernel)
theorem k_134 : Cond.methodLink "java/lang/Throwable" 202 ⟨"java/lang/Throwable", "fillInStackTrace", "(I)Ljava/lang/Throwable;"⟩ ∈ zT := zT_of 175 (by decide +kernel) (by decide +kernel)
theorem k_136 : Cond.instanceMethod ⟨"java/lang/Throwable", "fillInStackTrace", "(I)Ljava/lang/Throwable;"⟩ ∈ zT := zT_of 177 (by decide +kernel) (by decide +kernel)
theorem k_137 : Cond.instantiable "java/lang/Throwable" 6 ∈ zT := zT_of 178 (by decide +kernel) (by decide +kernel)
theorem k_138 : Cond.native ⟨"java/lang/Throwable", "fillInStackTrace", "(I)Ljava/lang/Throwable;"⟩ ∈ zT := zT_of 179 (by decide +kernel) (by decide +kernel)
theorem k_140 : Cond.methodLink "RollCalls" 47 ⟨"java/lang/UnsupportedOperationException", "<init>", "(Ljava/lang/String;)V"⟩ ∈ zT := zT_of 181 (by decide +kernel) (by decide +kernel)
theorem k_141 : Cond.instanceMethod ⟨"java/lang/UnsupportedOperationException", "<init>", "(Ljava/lang/String;)V"⟩ ∈ zT := zT_of 182 (by decide +kernel) (by decide +kernel)
theorem k_142 : Cond.code ⟨"java/lang/UnsupportedOperationException", "<init>", "(Ljava/lang/String;)V"⟩ prog_22_method_2_code 2 none ∈ zT := zT_of 183 (by decide +kernel) (by decide +kernel)
theorem k_143 : Cond.methodLink "java/lang/UnsupportedOperationException" 7 ⟨"java/lang/RuntimeException", "<init>", "(Ljava/lang/String;)V"⟩ ∈ zT := zT_of 184 (by decide +kernel) (by decide +kernel)
theorem k_144 : Cond.instanceMethod ⟨"java/lang/RuntimeException", "<init>", "(Ljava/lang/String;)V"⟩ ∈ zT := zT_of 185 (by decide +kernel) (by decide +kernel)
theorem k_145 : Cond.code ⟨"java/lang/RuntimeException", "<init>", "(Ljava/lang/String;)V"⟩ prog_18_method_2_code 2 none ∈ zT := zT_of 186 (by decide +kernel) (by decide +kernel)
theorem k_146 : Cond.methodLink "java/lang/RuntimeException" 7 ⟨"java/lang/Exception", "<init>", "(Ljava/lang/String;)V"⟩ ∈ zT := zT_of 187 (by decide +kernel) (by decide +kernel)
theorem k_147 : Cond.instanceMethod ⟨"java/lang/Exception", "<init>", "(Ljava/lang/String;)V"⟩ ∈ zT := zT_of 188 (by decide +kernel) (by decide +kernel)
theorem k_148 : Cond.code ⟨"java/lang/Exception", "<init>", "(Ljava/lang/String;)V"⟩ prog_12_method_2_code 2 none ∈ zT := zT_of 189 (by decide +kernel) (by decide +kernel)
theorem k_149 : Cond.methodLink "java/lang/Exception" 7 ⟨"java/lang/Throwable", "<init>", "(Ljava/lang/String;)V"⟩ ∈ zT := zT_of 190 (by decide +kernel) (by decide +kernel)
theorem k_150 : Cond.instanceMethod ⟨"java/lang/Throwable", "<init>", "(Ljava/lang/String;)V"⟩ ∈ zT := zT_of 191 (by decide +kernel) (by decide +kernel)
theorem k_151 : Cond.code ⟨"java/lang/Throwable", "<init>", "(Ljava/lang/String;)V"⟩ prog_21_method_2_code 2 none ∈ zT := zT_of 192 (by decide +kernel) (by decide +kernel)
theorem k_153 : Cond.fieldLink "java/lang/Throwable" 31 "java/lang/Throwable" "detailMessage" "Ljava/lang/String;" ∈ zT := zT_of 194 (by decide +kernel) (by decide +kernel)
theorem k_154 : Cond.fieldLink "java/lang/Throwable" 7 "java/lang/Throwable" "cause" "Ljava/lang/Throwable;" ∈ zT := zT_of 195 (by decide +kernel) (by decide +kernel)
theorem k_155 : Cond.fieldLink "java/lang/Throwable" 17 "java/lang/Throwable" "stackTrace" "[Ljava/lang/StackTraceElement;" ∈ zT := zT_of 196 (by decide +kernel) (by decide +kernel)
theorem k_156 : Cond.fieldLink "java/lang/Throwable" 24 "java/lang/Throwable" "suppressedExceptions" "Ljava/util/List;" ∈ zT := zT_of 197 (by decide +kernel) (by decide +kernel)
theorem k_161 : Cond.lays "java/lang/UnsupportedOperationException" "java/lang/Throwable" "depth" "I" ∈ zT := zT_of 202 (by decide +kernel) (by decide +kernel)
theorem k_165 : Cond.arrayClass FieldType.byte ∈ zT := zT_of 206 (by decide +kernel) (by decide +kernel)
theorem k_166 : Cond.classLink "RollCalls" 50 "RollCalls$Person" ∈ zT := zT_of 207 (by decide +kernel) (by decide +kernel)
theorem k_167 : Cond.instantiable "RollCalls$Person" 3 ∈ zT := zT_of 208 (by decide +kernel) (by decide +kernel)
theorem k_168 : Cond.methodLink "RollCalls" 52 ⟨"RollCalls$Person", "<init>", "()V"⟩ ∈ zT := zT_of 209 (by decide +kernel) (by decide +kernel)
theorem k_169 : Cond.instanceMethod ⟨"RollCalls$Person", "<init>", "()V"⟩ ∈ zT := zT_of 210 (by decide +kernel) (by decide +kernel)
theorem k_170 : Cond.code ⟨"RollCalls$Person", "<init>", "()V"⟩ prog_6_method_1_code 1 none ∈ zT := zT_of 211 (by decide +kernel) (by decide +kernel)
theorem k_171 : Cond.methodLink "RollCalls$Person" 3 ⟨"java/lang/Object", "<init>", "()V"⟩ ∈ zT := zT_of 212 (by decide +kernel) (by decide +kernel)
theorem k_172 : Cond.fieldLink "RollCalls$Person" 9 "RollCalls$Person" "sector" "I" ∈ zT := zT_of 213 (by decide +kernel) (by decide +kernel)
theorem k_173 : Cond.fieldLink "RollCalls" 65 "RollCalls$Person" "sector" "I" ∈ zT := zT_of 214 (by decide +kernel) (by decide +kernel)
theorem k_174 : Cond.fieldLink "RollCalls$Person" 15 "RollCalls$Person" "rollsBegunAtLeaving" "I" ∈ zT := zT_of 215 (by decide +kernel) (by decide +kernel)
theorem k_175 : Cond.fieldLink "RollCalls" 79 "RollCalls$Person" "rollsBegunAtLeaving" "I" ∈ zT := zT_of 216 (by decide +kernel) (by decide +kernel)
theorem k_176 : Cond.fieldLink "RollCalls$Person" 18 "RollCalls$Person" "greatestRollCounted" "I" ∈ zT := zT_of 217 (by decide +kernel) (by decide +kernel)
theorem k_177 : Cond.fieldLink "RollCalls" 153 "RollCalls$Person" "greatestRollCounted" "I" ∈ zT := zT_of 218 (by decide +kernel) (by decide +kernel)
theorem k_178 : Cond.lays "RollCalls$Person" "RollCalls$Person" "sector" "I" ∈ zT := zT_of 219 (by decide +kernel) (by decide +kernel)
theorem k_180 : Cond.lays "RollCalls$Person" "RollCalls$Person" "rollsBegunAtLeaving" "I" ∈ zT := zT_of 221 (by decide +kernel) (by decide +kernel)
theorem k_182 : Cond.lays "RollCalls$Person" "RollCalls$Person" "greatestRollCounted" "I" ∈ zT := zT_of 223 (by decide +kernel) (by decide +kernel)
theorem k_185 : Cond.methodLink "RollCalls" 53 ⟨"java/util/ArrayList", "add", "(Ljava/lang/Object;)Z"⟩ ∈ zT := zT_of 226 (by decide +kernel) (by decide +kernel)
theorem k_186 : Cond.instanceMethod ⟨"java/util/ArrayList", "add", "(Ljava/lang/Object;)Z"⟩ ∈ zT := zT_of 227 (by decide +kernel) (by decide +kernel)
theorem k_187 : Cond.selects "java/util/ArrayList" ⟨"java/util/ArrayList", "add", "(Ljava/lang/Object;)Z"⟩ ⟨"java/util/ArrayList", "add", "(Ljava/lang/Object;)Z"⟩ ∈ zT := zT_of 228 (by decide +kernel) (by decide +kernel)
theorem k_188 : Cond.code ⟨"java/util/ArrayList", "add", "(Ljava/lang/Object;)Z"⟩ prog_25_method_25_code 2 (some FieldType.boolean) ∈ zT := zT_of 229 (by decide +kernel) (by decide +kernel)
theorem k_189 : Cond.methodLink "java/util/ArrayList" 131 ⟨"java/util/ArrayList", "add", "(Ljava/lang/Object;[Ljava/lang/Object;I)V"⟩ ∈ zT := zT_of 230 (by decide +kernel) (by decide +kernel)
theorem k_191 : Cond.instanceMethod ⟨"java/util/ArrayList", "add", "(Ljava/lang/Object;[Ljava/lang/Object;I)V"⟩ ∈ zT := zT_of 232 (by decide +kernel) (by decide +kernel)
theorem k_192 : Cond.code ⟨"java/util/ArrayList", "add", "(Ljava/lang/Object;[Ljava/lang/Object;I)V"⟩ prog_25_method_24_code 4 none ∈ zT := zT_of 233 (by decide +kernel) (by decide +kernel)
theorem k_193 : Cond.methodLink "java/util/ArrayList" 129 ⟨"java/util/ArrayList", "grow", "()[Ljava/lang/Object;"⟩ ∈ zT := zT_of 234 (by decide +kernel) (by decide +kernel)
theorem k_195 : Cond.instanceMethod ⟨"java/util/ArrayList", "grow", "()[Ljava/lang/Object;"⟩ ∈ zT := zT_of 236 (by decide +kernel) (by decide +kernel)
theorem k_196 : Cond.code ⟨"java/util/ArrayList", "grow", "()[Ljava/lang/Object;"⟩ prog_25_method_7_code 1 (some (FieldType.array (FieldType.object "java/lang/Object"))) ∈ zT := zT_of 237 (by decide +kernel) (by decide +kernel)
theorem k_197 : Cond.methodLink "java/util/ArrayList" 69 ⟨"java/util/ArrayList", "grow", "(I)[Ljava/lang/Object;"⟩ ∈ zT := zT_of 238 (by decide +kernel) (by decide +kernel)
theorem k_199 : Cond.instanceMethod ⟨"java/util/ArrayList", "grow", "(I)[Ljava/lang/Object;"⟩ ∈ zT := zT_of 240 (by decide +kernel) (by decide +kernel)
theorem k_200 : Cond.code ⟨"java/util/ArrayList", "grow", "(I)[Ljava/lang/Object;"⟩ prog_25_method_6_code 4 (some (FieldType.array (FieldType.object "java/lang/Object"))) ∈ zT := zT_of 241 (by decide +kernel) (by decide +kernel)
theorem k_201 : Cond.methodLink "java/util/ArrayList" 73 ⟨"jdk/internal/util/ArraysSupport", "newLength", "(III)I"⟩ ∈ zT := zT_of 242 (by decide +kernel) (by decide +kernel)
theorem k_202 : Cond.static ⟨"jdk/internal/util/ArraysSupport", "newLength", "(III)I"⟩ ∈ zT := zT_of 243 (by decide +kernel) (by decide +kernel)
theorem k_203 : Cond.code ⟨"jdk/internal/util/ArraysSupport", "newLength", "(III)I"⟩ prog_32_method_27_code 4 (some FieldType.int) ∈ zT := zT_of 244 (by decide +kernel) (by decide +kernel)
theorem k_204 : Cond.methodLink "jdk/internal/util/ArraysSupport" 194 ⟨"java/lang/Math", "max", "(II)I"⟩ ∈ zT := zT_of 245 (by decide +kernel) (by decide +kernel)
theorem k_205 : Cond.static ⟨"java/lang/Math", "max", "(II)I"⟩ ∈ zT := zT_of 246 (by decide +kernel) (by decide +kernel)
theorem k_206 : Cond.code ⟨"java/lang/Math", "max", "(II)I"⟩ prog_17_method_65_code 2 (some FieldType.int) ∈ zT := zT_of 247 (by decide +kernel) (by decide +kernel)
theorem k_207 : Cond.constant "jdk/internal/util/ArraysSupport" 200 2147483639 ∈ zT := zT_of 248 (by decide +kernel) (by decide +kernel)
theorem k_208 : Cond.methodLink "jdk/internal/util/ArraysSupport" 201 ⟨"jdk/internal/util/ArraysSupport", "hugeLength", "(II)I"⟩ ∈ zT := zT_of 249 (by decide +kernel) (by decide +kernel)
theorem k_209 : Cond.static ⟨"jdk/internal/util/ArraysSupport", "hugeLength", "(II)I"⟩ ∈ zT := zT_of 250 (by decide +kernel) (by decide +kernel)
theorem k_210 : Cond.code ⟨"jdk/internal/util/ArraysSupport", "hugeLength", "(II)I"⟩ prog_32_method_28_code 3 (some FieldType.int) ∈ zT := zT_of 251 (by decide +kernel) (by decide +kernel)
theorem k_211 : Cond.methodLink "java/util/ArrayList" 66 ⟨"java/util/Arrays", "copyOf", "([Ljava/lang/Object;I)[Ljava/lang/Object;"⟩ ∈ zT := zT_of 252 (by decide +kernel) (by decide +kernel)
theorem k_212 : Cond.static ⟨"java/util/Arrays", "copyOf", "([Ljava/lang/Object;I)[Ljava/lang/Object;"⟩ ∈ zT := zT_of 253 (by decide +kernel) (by decide +kernel)
theorem k_213 : Cond.code ⟨"java/util/Arrays", "copyOf", "([Ljava/lang/Object;I)[Ljava/lang/Object;"⟩ prog_26_method_119_code 2 (some (FieldType.array (FieldType.object "java/lang/Object"))) ∈ zT := zT_of 254 (by decide +kernel) (by decide +kernel)
theorem k_214 : Cond.methodLink "java/util/Arrays" 86 ⟨"java/lang/Object", "getClass", "()Ljava/lang/Class;"⟩ ∈ zT := zT_of 255 (by decide +kernel) (by decide +kernel)
theorem k_215 : Cond.instanceMethod ⟨"java/lang/Object", "getClass", "()Ljava/lang/Class;"⟩ ∈ zT := zT_of 256 (by decide +kernel) (by decide +kernel)
theorem k_217 : Cond.selects "RollCalls" ⟨"java/lang/Object", "getClass", "()Ljava/lang/Class;"⟩ ⟨"java/lang/Object", "getClass", "()Ljava/lang/Class;"⟩ ∈ zT := zT_of 258 (by decide +kernel) (by decide +kernel)
theorem k_218 : Cond.selects "RollCalls$DoubleCount" ⟨"java/lang/Object", "getClass", "()Ljava/lang/Class;"⟩ ⟨"java/lang/Object", "getClass", "()Ljava/lang/Class;"⟩ ∈ zT := zT_of 259 (by decide +kernel) (by decide +kernel)
theorem k_219 : Cond.selects "RollCalls$Evacuation" ⟨"java/lang/Object", "getClass", "()Ljava/lang/Class;"⟩ ⟨"java/lang/Object", "getClass", "()Ljava/lang/Class;"⟩ ∈ zT := zT_of 260 (by decide +kernel) (by decide +kernel)
theorem k_220 : Cond.selects "RollCalls$Mayday" ⟨"java/lang/Object", "getClass", "()Ljava/lang/Class;"⟩ ⟨"java/lang/Object", "getClass", "()Ljava/lang/Class;"⟩ ∈ zT := zT_of 261 (by decide +kernel) (by decide +kernel)
theorem k_221 : Cond.selects "RollCalls$Move" ⟨"java/lang/Object", "getClass", "()Ljava/lang/Class;"⟩ ⟨"java/lang/Object", "getClass", "()Ljava/lang/Class;"⟩ ∈ zT := zT_of 262 (by decide +kernel) (by decide +kernel)
theorem k_222 : Cond.selects "RollCalls$Person" ⟨"java/lang/Object", "getClass", "()Ljava/lang/Class;"⟩ ⟨"java/lang/Object", "getClass", "()Ljava/lang/Class;"⟩ ∈ zT := zT_of 263 (by decide +kernel) (by decide +kernel)
theorem k_223 : Cond.selects "RollCalls$Roll" ⟨"java/lang/Object", "getClass", "()Ljava/lang/Class;"⟩ ⟨"java/lang/Object", "getClass", "()Ljava/lang/Class;"⟩ ∈ zT := zT_of 264 (by decide +kernel) (by decide +kernel)
theorem k_224 : Cond.selects "RollCallsModel" ⟨"java/lang/Object", "getClass", "()Ljava/lang/Class;"⟩ ⟨"java/lang/Object", "getClass", "()Ljava/lang/Class;"⟩ ∈ zT := zT_of 265 (by decide +kernel) (by decide +kernel)
theorem k_225 : Cond.selects "java/lang/IllegalArgumentException" ⟨"java/lang/Object", "getClass", "()Ljava/lang/Class;"⟩ ⟨"java/lang/Object", "getClass", "()Ljava/lang/Class;"⟩ ∈ zT := zT_of 266 (by decide +kernel) (by decide +kernel)
theorem k_226 : Cond.selects "java/lang/IllegalStateException" ⟨"java/lang/Object", "getClass", "()Ljava/lang/Class;"⟩ ⟨"java/lang/Object", "getClass", "()Ljava/lang/Class;"⟩ ∈ zT := zT_of 267 (by decide +kernel) (by decide +kernel)
theorem k_227 : Cond.selects "java/lang/IndexOutOfBoundsException" ⟨"java/lang/Object", "getClass", "()Ljava/lang/Class;"⟩ ⟨"java/lang/Object", "getClass", "()Ljava/lang/Class;"⟩ ∈ zT := zT_of 268 (by decide +kernel) (by decide +kernel)
theorem k_228 : Cond.selects "java/lang/UnsupportedOperationException" ⟨"java/lang/Object", "getClass", "()Ljava/lang/Class;"⟩ ⟨"java/lang/Object", "getClass", "()Ljava/lang/Class;"⟩ ∈ zT := zT_of 269 (by decide +kernel) (by decide +kernel)
theorem k_229 : Cond.selects "java/util/ArrayList" ⟨"java/lang/Object", "getClass", "()Ljava/lang/Class;"⟩ ⟨"java/lang/Object", "getClass", "()Ljava/lang/Class;"⟩ ∈ zT := zT_of 270 (by decide +kernel) (by decide +kernel)
theorem k_230 : Cond.native ⟨"java/lang/Object", "getClass", "()Ljava/lang/Class;"⟩ ∈ zT := zT_of 271 (by decide +kernel) (by decide +kernel)
theorem k_231 : Cond.methodLink "java/util/Arrays" 300 ⟨"java/util/Arrays", "copyOf", "([Ljava/lang/Object;ILjava/lang/Class;)[Ljava/lang/Object;"⟩ ∈ zT := zT_of 272 (by decide +kernel) (by decide +kernel)
theorem k_232 : Cond.static ⟨"java/util/Arrays", "copyOf", "([Ljava/lang/Object;ILjava/lang/Class;)[Ljava/lang/Object;"⟩ ∈ zT := zT_of 273 (by decide +kernel) (by decide +kernel)
theorem k_233 : Cond.code ⟨"java/util/Arrays", "copyOf", "([Ljava/lang/Object;ILjava/lang/Class;)[Ljava/lang/Object;"⟩ prog_26_method_120_code 4 (some (FieldType.array (FieldType.object "java/lang/Object"))) ∈ zT := zT_of 274 (by decide +kernel) (by decide +kernel)
theorem k_234 : Cond.classLink "java/util/Arrays" 110 "[Ljava/lang/Object;" ∈ zT := zT_of 275 (by decide +kernel) (by decide +kernel)
theorem k_236 : Cond.classLink "java/util/Arrays" 2 "java/lang/Object" ∈ zT := zT_of 277 (by decide +kernel) (by decide +kernel)
theorem k_237 : Cond.methodLink "java/util/Arrays" 304 ⟨"java/lang/Math", "min", "(II)I"⟩ ∈ zT := zT_of 278 (by decide +kernel) (by decide +kernel)
theorem k_238 : Cond.static ⟨"java/lang/Math", "min", "(II)I"⟩ ∈ zT := zT_of 279 (by decide +kernel) (by decide +kernel)
theorem k_239 : Cond.code ⟨"java/lang/Math", "min", "(II)I"⟩ prog_17_method_69_code 2 (some FieldType.int) ∈ zT := zT_of 280 (by decide +kernel) (by decide +kernel)
theorem k_240 : Cond.methodLink "java/util/Arrays" 150 ⟨"java/lang/System", "arraycopy", "(Ljava/lang/Object;ILjava/lang/Object;II)V"⟩ ∈ zT := zT_of 281 (by decide +kernel) (by decide +kernel)
theorem k_241 : Cond.static ⟨"java/lang/System", "arraycopy", "(Ljava/lang/Object;ILjava/lang/Object;II)V"⟩ ∈ zT := zT_of 282 (by decide +kernel) (by decide +kernel)
theorem k_242 : Cond.native ⟨"java/lang/System", "arraycopy", "(Ljava/lang/Object;ILjava/lang/Object;II)V"⟩ ∈ zT := zT_of 283 (by decide +kernel) (by decide +kernel)
theorem k_243 : Cond.methodLink "java/util/ArrayList" 79 ⟨"java/lang/Math", "max", "(II)I"⟩ ∈ zT := zT_of 284 (by decide +kernel) (by decide +kernel)
theorem k_244 : Cond.classLink "java/util/ArrayList" 7 "java/lang/Object" ∈ zT := zT_of 285 (by decide +kernel) (by decide +kernel)
theorem k_245 : Cond.methodLink "RollCallsLaw" 96 ⟨"RollCallsLaw", "enter", "(LRollCalls;II)I"⟩ ∈ zT := zT_of 286 (by decide +kernel) (by decide +kernel)
theorem k_246 : Cond.static ⟨"RollCallsLaw", "enter", "(LRollCalls;II)I"⟩ ∈ zT := zT_of 287 (by decide +kernel) (by decide +kernel)
theorem k_247 : Cond.codeWith ⟨"RollCallsLaw", "enter", "(LRollCalls;II)I"⟩ method_4_code 4 (some FieldType.int) [(0, 6, 9, 19), (0, 6, 12, 21), (0, 6, 15, 13)] ∈ zT := zT_of 288 (by decide +kernel) (by decide +kernel)
theorem k_248 : Cond.classLink "RollCallsLaw" 19 "java/lang/IllegalArgumentException" ∈ zT := zT_of 289 (by decide +kernel) (by decide +kernel)
theorem k_249 : Cond.classLink "RollCallsLaw" 21 "java/lang/IllegalStateException" ∈ zT := zT_of 290 (by decide +kernel) (by decide +kernel)
theorem k_250 : Cond.methodLink "RollCallsLaw" 15 ⟨"RollCalls", "enter", "(II)V"⟩ ∈ zT := zT_of 291 (by decide +kernel) (by decide +kernel)
theorem k_251 : Cond.instanceMethod ⟨"RollCalls", "enter", "(II)V"⟩ ∈ zT := zT_of 292 (by decide +kernel) (by decide +kernel)
theorem k_252 : Cond.selects "RollCalls" ⟨"RollCalls", "enter", "(II)V"⟩ ⟨"RollCalls", "enter", "(II)V"⟩ ∈ zT := zT_of 293 (by decide +kernel) (by decide +kernel)
theorem k_253 : Cond.code ⟨"RollCalls", "enter", "(II)V"⟩ prog_1_method_3_code 4 none ∈ zT := zT_of 294 (by decide +kernel) (by decide +kernel)
theorem k_254 : Cond.methodLink "RollCalls" 57 ⟨"RollCalls", "knownPerson", "(I)LRollCalls$Person;"⟩ ∈ zT := zT_of 295 (by decide +kernel) (by decide +kernel)
theorem k_256 : Cond.instanceMethod ⟨"RollCalls", "knownPerson", "(I)LRollCalls$Person;"⟩ ∈ zT := zT_of 297 (by decide +kernel) (by decide +kernel)
theorem k_257 : Cond.code ⟨"RollCalls", "knownPerson", "(I)LRollCalls$Person;"⟩ prog_1_method_7_code 2 (some (FieldType.object "RollCalls$Person")) ∈ zT := zT_of 298 (by decide +kernel) (by decide +kernel)
theorem k_258 : Cond.classLink "RollCalls" 100 "java/lang/IllegalArgumentException" ∈ zT := zT_of 299 (by decide +kernel) (by decide +kernel)
theorem k_259 : Cond.instantiable "java/lang/IllegalArgumentException" 6 ∈ zT := zT_of 300 (by decide +kernel) (by decide +kernel)
theorem k_261 : Cond.selects "java/lang/IllegalArgumentException" ⟨"java/lang/Throwable", "fillInStackTrace", "(I)Ljava/lang/Throwable;"⟩ ⟨"java/lang/Throwable", "fillInStackTrace", "(I)Ljava/lang/Throwable;"⟩ ∈ zT := zT_of 302 (by decide +kernel) (by decide +kernel)
theorem k_262 : Cond.lays "java/lang/IllegalArgumentException" "java/lang/Throwable" "cause" "Ljava/lang/Throwable;" ∈ zT := zT_of 303 (by decide +kernel) (by decide +kernel)
theorem k_263 : Cond.lays "java/lang/IllegalArgumentException" "java/lang/Throwable" "stackTrace" "[Ljava/lang/StackTraceElement;" ∈ zT := zT_of 304 (by decide +kernel) (by decide +kernel)
theorem k_264 : Cond.lays "java/lang/IllegalArgumentException" "java/lang/Throwable" "suppressedExceptions" "Ljava/util/List;" ∈ zT := zT_of 305 (by decide +kernel) (by decide +kernel)
theorem k_265 : Cond.lays "java/lang/IllegalArgumentException" "java/lang/Throwable" "detailMessage" "Ljava/lang/String;" ∈ zT := zT_of 306 (by decide +kernel) (by decide +kernel)
theorem k_266 : Cond.lays "java/lang/IllegalArgumentException" "java/lang/Throwable" "backtrace" "Ljava/lang/Object;" ∈ zT := zT_of 307 (by decide +kernel) (by decide +kernel)
theorem k_268 : Cond.methodLink "RollCalls" 104 ⟨"java/lang/IllegalArgumentException", "<init>", "(Ljava/lang/String;)V"⟩ ∈ zT := zT_of 309 (by decide +kernel) (by decide +kernel)
theorem k_269 : Cond.instanceMethod ⟨"java/lang/IllegalArgumentException", "<init>", "(Ljava/lang/String;)V"⟩ ∈ zT := zT_of 310 (by decide +kernel) (by decide +kernel)
theorem k_270 : Cond.code ⟨"java/lang/IllegalArgumentException", "<init>", "(Ljava/lang/String;)V"⟩ prog_13_method_2_code 2 none ∈ zT := zT_of 311 (by decide +kernel) (by decide +kernel)
theorem k_271 : Cond.methodLink "java/lang/IllegalArgumentException" 7 ⟨"java/lang/RuntimeException", "<init>", "(Ljava/lang/String;)V"⟩ ∈ zT := zT_of 312 (by decide +kernel) (by decide +kernel)
theorem k_272 : Cond.lays "java/lang/IllegalArgumentException" "java/lang/Throwable" "depth" "I" ∈ zT := zT_of 313 (by decide +kernel) (by decide +kernel)
theorem k_274 : Cond.methodLink "RollCalls" 89 ⟨"java/util/ArrayList", "get", "(I)Ljava/lang/Object;"⟩ ∈ zT := zT_of 315 (by decide +kernel) (by decide +kernel)
theorem k_275 : Cond.instanceMethod ⟨"java/util/ArrayList", "get", "(I)Ljava/lang/Object;"⟩ ∈ zT := zT_of 316 (by decide +kernel) (by decide +kernel)
theorem k_276 : Cond.selects "java/util/ArrayList" ⟨"java/util/ArrayList", "get", "(I)Ljava/lang/Object;"⟩ ⟨"java/util/ArrayList", "get", "(I)Ljava/lang/Object;"⟩ ∈ zT := zT_of 317 (by decide +kernel) (by decide +kernel)
theorem k_277 : Cond.code ⟨"java/util/ArrayList", "get", "(I)Ljava/lang/Object;"⟩ prog_25_method_20_code 2 (some (FieldType.object "java/lang/Object")) ∈ zT := zT_of 318 (by decide +kernel) (by decide +kernel)
theorem k_278 : Cond.methodLink "java/util/ArrayList" 118 ⟨"java/util/Objects", "checkIndex", "(II)I"⟩ ∈ zT := zT_of 319 (by decide +kernel) (by decide +kernel)
theorem k_279 : Cond.static ⟨"java/util/Objects", "checkIndex", "(II)I"⟩ ∈ zT := zT_of 320 (by decide +kernel) (by decide +kernel)
theorem k_280 : Cond.code ⟨"java/util/Objects", "checkIndex", "(II)I"⟩ prog_29_method_17_code 2 (some FieldType.int) ∈ zT := zT_of 321 (by decide +kernel) (by decide +kernel)
theorem k_281 : Cond.methodLink "java/util/Objects" 105 ⟨"jdk/internal/util/Preconditions", "checkIndex", "(IILjava/util/function/BiFunction;)I"⟩ ∈ zT := zT_of 322 (by decide +kernel) (by decide +kernel)
theorem k_282 : Cond.static ⟨"jdk/internal/util/Preconditions", "checkIndex", "(IILjava/util/function/BiFunction;)I"⟩ ∈ zT := zT_of 323 (by decide +kernel) (by decide +kernel)
theorem k_283 : Cond.code ⟨"jdk/internal/util/Preconditions", "checkIndex", "(IILjava/util/function/BiFunction;)I"⟩ prog_33_method_11_code 3 (some FieldType.int) ∈ zT := zT_of 324 (by decide +kernel) (by decide +kernel)
theorem k_284 : Cond.methodLink "java/util/ArrayList" 123 ⟨"java/util/ArrayList", "elementData", "(I)Ljava/lang/Object;"⟩ ∈ zT := zT_of 325 (by decide +kernel) (by decide +kernel)
theorem k_285 : Cond.instanceMethod ⟨"java/util/ArrayList", "elementData", "(I)Ljava/lang/Object;"⟩ ∈ zT := zT_of 326 (by decide +kernel) (by decide +kernel)
theorem k_286 : Cond.selects "java/util/ArrayList" ⟨"java/util/ArrayList", "elementData", "(I)Ljava/lang/Object;"⟩ ⟨"java/util/ArrayList", "elementData", "(I)Ljava/lang/Object;"⟩ ∈ zT := zT_of 327 (by decide +kernel) (by decide +kernel)
theorem k_287 : Cond.code ⟨"java/util/ArrayList", "elementData", "(I)Ljava/lang/Object;"⟩ prog_25_method_18_code 2 (some (FieldType.object "java/lang/Object")) ∈ zT := zT_of 328 (by decide +kernel) (by decide +kernel)
theorem k_288 : Cond.methodLink "RollCalls" 61 ⟨"RollCalls", "checkSector", "(I)V"⟩ ∈ zT := zT_of 329 (by decide +kernel) (by decide +kernel)
theorem k_289 : Cond.static ⟨"RollCalls", "checkSector", "(I)V"⟩ ∈ zT := zT_of 330 (by decide +kernel) (by decide +kernel)
theorem k_290 : Cond.code ⟨"RollCalls", "checkSector", "(I)V"⟩ prog_1_method_8_code 1 none ∈ zT := zT_of 331 (by decide +kernel) (by decide +kernel)
theorem k_292 : Cond.classLink "RollCalls" 68 "java/lang/IllegalStateException" ∈ zT := zT_of 333 (by decide +kernel) (by decide +kernel)
theorem k_293 : Cond.instantiable "java/lang/IllegalStateException" 6 ∈ zT := zT_of 334 (by decide +kernel) (by decide +kernel)
theorem k_295 : Cond.selects "java/lang/IllegalStateException" ⟨"java/lang/Throwable", "fillInStackTrace", "(I)Ljava/lang/Throwable;"⟩ ⟨"java/lang/Throwable", "fillInStackTrace", "(I)Ljava/lang/Throwable;"⟩ ∈ zT := zT_of 336 (by decide +kernel) (by decide +kernel)
theorem k_296 : Cond.lays "java/lang/IllegalStateException" "java/lang/Throwable" "cause" "Ljava/lang/Throwable;" ∈ zT := zT_of 337 (by decide +kernel) (by decide +kernel)
theorem k_297 : Cond.lays "java/lang/IllegalStateException" "java/lang/Throwable" "stackTrace" "[Ljava/lang/StackTraceElement;" ∈ zT := zT_of 338 (by decide +kernel) (by decide +kernel)
theorem k_298 : Cond.lays "java/lang/IllegalStateException" "java/lang/Throwable" "suppressedExceptions" "Ljava/util/List;" ∈ zT := zT_of 339 (by decide +kernel) (by decide +kernel)
theorem k_299 : Cond.lays "java/lang/IllegalStateException" "java/lang/Throwable" "detailMessage" "Ljava/lang/String;" ∈ zT := zT_of 340 (by decide +kernel) (by decide +kernel)
theorem k_300 : Cond.lays "java/lang/IllegalStateException" "java/lang/Throwable" "backtrace" "Ljava/lang/Object;" ∈ zT := zT_of 341 (by decide +kernel) (by decide +kernel)
theorem k_302 : Cond.methodLink "RollCalls" 72 ⟨"java/lang/IllegalStateException", "<init>", "(Ljava/lang/String;)V"⟩ ∈ zT := zT_of 343 (by decide +kernel) (by decide +kernel)
theorem k_303 : Cond.instanceMethod ⟨"java/lang/IllegalStateException", "<init>", "(Ljava/lang/String;)V"⟩ ∈ zT := zT_of 344 (by decide +kernel) (by decide +kernel)
theorem k_304 : Cond.code ⟨"java/lang/IllegalStateException", "<init>", "(Ljava/lang/String;)V"⟩ prog_14_method_2_code 2 none ∈ zT := zT_of 345 (by decide +kernel) (by decide +kernel)
theorem k_305 : Cond.methodLink "java/lang/IllegalStateException" 7 ⟨"java/lang/RuntimeException", "<init>", "(Ljava/lang/String;)V"⟩ ∈ zT := zT_of 346 (by decide +kernel) (by decide +kernel)
theorem k_306 : Cond.lays "java/lang/IllegalStateException" "java/lang/Throwable" "depth" "I" ∈ zT := zT_of 347 (by decide +kernel) (by decide +kernel)
theorem k_308 : Cond.methodLink "RollCalls" 73 ⟨"RollCalls", "addMove", "(II)V"⟩ ∈ zT := zT_of 349 (by decide +kernel) (by decide +kernel)
theorem k_310 : Cond.instanceMethod ⟨"RollCalls", "addMove", "(II)V"⟩ ∈ zT := zT_of 351 (by decide +kernel) (by decide +kernel)
theorem k_311 : Cond.code ⟨"RollCalls", "addMove", "(II)V"⟩ prog_1_method_9_code 3 none ∈ zT := zT_of 352 (by decide +kernel) (by decide +kernel)
theorem k_313 : Cond.classLink "RollCalls" 93 "RollCalls$Move" ∈ zT := zT_of 354 (by decide +kernel) (by decide +kernel)
theorem k_314 : Cond.instantiable "RollCalls$Move" 3 ∈ zT := zT_of 355 (by decide +kernel) (by decide +kernel)
theorem k_315 : Cond.methodLink "RollCalls" 109 ⟨"RollCalls$Move", "<init>", "(III)V"⟩ ∈ zT := zT_of 356 (by decide +kernel) (by decide +kernel)
theorem k_316 : Cond.instanceMethod ⟨"RollCalls$Move", "<init>", "(III)V"⟩ ∈ zT := zT_of 357 (by decide +kernel) (by decide +kernel)
theorem k_317 : Cond.code ⟨"RollCalls$Move", "<init>", "(III)V"⟩ prog_5_method_1_code 4 none ∈ zT := zT_of 358 (by decide +kernel) (by decide +kernel)
theorem k_318 : Cond.methodLink "RollCalls$Move" 1 ⟨"java/lang/Object", "<init>", "()V"⟩ ∈ zT := zT_of 359 (by decide +kernel) (by decide +kernel)
theorem k_319 : Cond.fieldLink "RollCalls$Move" 7 "RollCalls$Move" "person" "I" ∈ zT := zT_of 360 (by decide +kernel) (by decide +kernel)
theorem k_320 : Cond.fieldLink "RollCalls" 95 "RollCalls$Move" "person" "I" ∈ zT := zT_of 361 (by decide +kernel) (by decide +kernel)
theorem k_321 : Cond.fieldLink "RollCalls$Move" 13 "RollCalls$Move" "sector" "I" ∈ zT := zT_of 362 (by decide +kernel) (by decide +kernel)
theorem k_322 : Cond.fieldLink "RollCalls" 99 "RollCalls$Move" "sector" "I" ∈ zT := zT_of 363 (by decide +kernel) (by decide +kernel)
theorem k_323 : Cond.fieldLink "RollCalls$Move" 16 "RollCalls$Move" "second" "I" ∈ zT := zT_of 364 (by decide +kernel) (by decide +kernel)
theorem k_324 : Cond.fieldLink "RollCalls" 98 "RollCalls$Move" "second" "I" ∈ zT := zT_of 365 (by decide +kernel) (by decide +kernel)
theorem k_325 : Cond.laysFinal "RollCalls$Move" "RollCalls$Move" "person" "I" ∈ zT := zT_of 366 (by decide +kernel) (by decide +kernel)
theorem k_327 : Cond.laysFinal "RollCalls$Move" "RollCalls$Move" "sector" "I" ∈ zT := zT_of 368 (by decide +kernel) (by decide +kernel)
theorem k_329 : Cond.laysFinal "RollCalls$Move" "RollCalls$Move" "second" "I" ∈ zT := zT_of 370 (by decide +kernel) (by decide +kernel)
theorem k_332 : Cond.methodLink "RollCallsLaw" 100 ⟨"RollCallsLaw", "leave", "(LRollCalls;I)I"⟩ ∈ zT := zT_of 373 (by decide +kernel) (by decide +kernel)
theorem k_333 : Cond.static ⟨"RollCallsLaw", "leave", "(LRollCalls;I)I"⟩ ∈ zT := zT_of 374 (by decide +kernel) (by decide +kernel)
theorem k_334 : Cond.codeWith ⟨"RollCallsLaw", "leave", "(LRollCalls;I)I"⟩ method_5_code 3 (some FieldType.int) [(0, 5, 8, 19), (0, 5, 11, 21), (0, 5, 14, 13)] ∈ zT := zT_of 375 (by decide +kernel) (by decide +kernel)
theorem k_335 : Cond.methodLink "RollCallsLaw" 23 ⟨"RollCalls", "leave", "(I)V"⟩ ∈ zT := zT_of 376 (by decide +kernel) (by decide +kernel)
theorem k_336 : Cond.instanceMethod ⟨"RollCalls", "leave", "(I)V"⟩ ∈ zT := zT_of 377 (by decide +kernel) (by decide +kernel)
theorem k_337 : Cond.selects "RollCalls" ⟨"RollCalls", "leave", "(I)V"⟩ ⟨"RollCalls", "leave", "(I)V"⟩ ∈ zT := zT_of 378 (by decide +kernel) (by decide +kernel)
theorem k_338 : Cond.code ⟨"RollCalls", "leave", "(I)V"⟩ prog_1_method_4_code 3 none ∈ zT := zT_of 379 (by decide +kernel) (by decide +kernel)
theorem k_340 : Cond.methodLink "RollCallsLaw" 104 ⟨"RollCallsLaw", "guests", "(LRollCalls;II)I"⟩ ∈ zT := zT_of 381 (by decide +kernel) (by decide +kernel)
theorem k_341 : Cond.static ⟨"RollCallsLaw", "guests", "(LRollCalls;II)I"⟩ ∈ zT := zT_of 382 (by decide +kernel) (by decide +kernel)
theorem k_342 : Cond.codeWith ⟨"RollCallsLaw", "guests", "(LRollCalls;II)I"⟩ method_6_code 4 (some FieldType.int) [(0, 6, 9, 19), (0, 6, 12, 30)] ∈ zT := zT_of 383 (by decide +kernel) (by decide +kernel)
theorem k_343 : Cond.classLink "RollCallsLaw" 30 "java/lang/IndexOutOfBoundsException" ∈ zT := zT_of 384 (by decide +kernel) (by decide +kernel)
theorem k_344 : Cond.methodLink "RollCallsLaw" 27 ⟨"RollCalls", "guests", "(II)V"⟩ ∈ zT := zT_of 385 (by decide +kernel) (by decide +kernel)
theorem k_345 : Cond.instanceMethod ⟨"RollCalls", "guests", "(II)V"⟩ ∈ zT := zT_of 386 (by decide +kernel) (by decide +kernel)
theorem k_346 : Cond.selects "RollCalls" ⟨"RollCalls", "guests", "(II)V"⟩ ⟨"RollCalls", "guests", "(II)V"⟩ ∈ zT := zT_of 387 (by decide +kernel) (by decide +kernel)
theorem k_347 : Cond.code ⟨"RollCalls", "guests", "(II)V"⟩ prog_1_method_5_code 3 none ∈ zT := zT_of 388 (by decide +kernel) (by decide +kernel)
theorem k_348 : Cond.classLink "RollCalls" 82 "java/lang/IndexOutOfBoundsException" ∈ zT := zT_of 389 (by decide +kernel) (by decide +kernel)
theorem k_349 : Cond.instantiable "java/lang/IndexOutOfBoundsException" 6 ∈ zT := zT_of 390 (by decide +kernel) (by decide +kernel)
theorem k_351 : Cond.selects "java/lang/IndexOutOfBoundsException" ⟨"java/lang/Throwable", "fillInStackTrace", "(I)Ljava/lang/Throwable;"⟩ ⟨"java/lang/Throwable", "fillInStackTrace", "(I)Ljava/lang/Throwable;"⟩ ∈ zT := zT_of 392 (by decide +kernel) (by decide +kernel)
theorem k_352 : Cond.lays "java/lang/IndexOutOfBoundsException" "java/lang/Throwable" "cause" "Ljava/lang/Throwable;" ∈ zT := zT_of 393 (by decide +kernel) (by decide +kernel)
theorem k_353 : Cond.lays "java/lang/IndexOutOfBoundsException" "java/lang/Throwable" "stackTrace" "[Ljava/lang/StackTraceElement;" ∈ zT := zT_of 394 (by decide +kernel) (by decide +kernel)
theorem k_354 : Cond.lays "java/lang/IndexOutOfBoundsException" "java/lang/Throwable" "suppressedExceptions" "Ljava/util/List;" ∈ zT := zT_of 395 (by decide +kernel) (by decide +kernel)
theorem k_355 : Cond.lays "java/lang/IndexOutOfBoundsException" "java/lang/Throwable" "detailMessage" "Ljava/lang/String;" ∈ zT := zT_of 396 (by decide +kernel) (by decide +kernel)
theorem k_356 : Cond.lays "java/lang/IndexOutOfBoundsException" "java/lang/Throwable" "backtrace" "Ljava/lang/Object;" ∈ zT := zT_of 397 (by decide +kernel) (by decide +kernel)
theorem k_358 : Cond.methodLink "RollCalls" 86 ⟨"java/lang/IndexOutOfBoundsException", "<init>", "(Ljava/lang/String;)V"⟩ ∈ zT := zT_of 399 (by decide +kernel) (by decide +kernel)
theorem k_359 : Cond.instanceMethod ⟨"java/lang/IndexOutOfBoundsException", "<init>", "(Ljava/lang/String;)V"⟩ ∈ zT := zT_of 400 (by decide +kernel) (by decide +kernel)
theorem k_360 : Cond.code ⟨"java/lang/IndexOutOfBoundsException", "<init>", "(Ljava/lang/String;)V"⟩ prog_15_method_2_code 2 none ∈ zT := zT_of 401 (by decide +kernel) (by decide +kernel)
theorem k_361 : Cond.methodLink "java/lang/IndexOutOfBoundsException" 7 ⟨"java/lang/RuntimeException", "<init>", "(Ljava/lang/String;)V"⟩ ∈ zT := zT_of 402 (by decide +kernel) (by decide +kernel)
theorem k_362 : Cond.lays "java/lang/IndexOutOfBoundsException" "java/lang/Throwable" "depth" "I" ∈ zT := zT_of 403 (by decide +kernel) (by decide +kernel)
theorem k_364 : Cond.methodLink "RollCallsLaw" 107 ⟨"RollCallsLaw", "roll", "(LRollCalls;I[J)I"⟩ ∈ zT := zT_of 405 (by decide +kernel) (by decide +kernel)
theorem k_365 : Cond.static ⟨"RollCallsLaw", "roll", "(LRollCalls;I[J)I"⟩ ∈ zT := zT_of 406 (by decide +kernel) (by decide +kernel)
theorem k_366 : Cond.codeWith ⟨"RollCallsLaw", "roll", "(LRollCalls;I[J)I"⟩ method_7_code 4 (some FieldType.int) [(0, 9, 12, 19), (0, 9, 15, 21), (0, 9, 18, 13)] ∈ zT := zT_of 407 (by decide +kernel) (by decide +kernel)
theorem k_367 : Cond.methodLink "RollCallsLaw" 32 ⟨"RollCalls", "roll", "(I)I"⟩ ∈ zT := zT_of 408 (by decide +kernel) (by decide +kernel)
theorem k_368 : Cond.instanceMethod ⟨"RollCalls", "roll", "(I)I"⟩ ∈ zT := zT_of 409 (by decide +kernel) (by decide +kernel)
theorem k_369 : Cond.selects "RollCalls" ⟨"RollCalls", "roll", "(I)I"⟩ ⟨"RollCalls", "roll", "(I)I"⟩ ∈ zT := zT_of 410 (by decide +kernel) (by decide +kernel)
theorem k_370 : Cond.code ⟨"RollCalls", "roll", "(I)I"⟩ prog_1_method_11_code 3 (some FieldType.int) ∈ zT := zT_of 411 (by decide +kernel) (by decide +kernel)
theorem k_371 : Cond.methodLink "RollCalls" 112 ⟨"RollCalls", "isAskedNow", "(I)Z"⟩ ∈ zT := zT_of 412 (by decide +kernel) (by decide +kernel)
theorem k_373 : Cond.instanceMethod ⟨"RollCalls", "isAskedNow", "(I)Z"⟩ ∈ zT := zT_of 414 (by decide +kernel) (by decide +kernel)
theorem k_374 : Cond.code ⟨"RollCalls", "isAskedNow", "(I)Z"⟩ prog_1_method_20_code 4 (some FieldType.boolean) ∈ zT := zT_of 415 (by decide +kernel) (by decide +kernel)
theorem k_375 : Cond.classLink "RollCalls" 123 "RollCalls$Roll" ∈ zT := zT_of 416 (by decide +kernel) (by decide +kernel)
theorem k_376 : Cond.methodLink "RollCalls" 187 ⟨"RollCalls$Roll", "isOver", "()Z"⟩ ∈ zT := zT_of 417 (by decide +kernel) (by decide +kernel)
theorem k_377 : Cond.instanceMethod ⟨"RollCalls$Roll", "isOver", "()Z"⟩ ∈ zT := zT_of 418 (by decide +kernel) (by decide +kernel)
theorem k_378 : Cond.selects "RollCalls$Roll" ⟨"RollCalls$Roll", "isOver", "()Z"⟩ ⟨"RollCalls$Roll", "isOver", "()Z"⟩ ∈ zT := zT_of 419 (by decide +kernel) (by decide +kernel)
theorem k_379 : Cond.code ⟨"RollCalls$Roll", "isOver", "()Z"⟩ prog_7_method_5_code 1 (some FieldType.boolean) ∈ zT := zT_of 420 (by decide +kernel) (by decide +kernel)
theorem k_380 : Cond.methodLink "RollCalls" 229 ⟨"RollCalls$Roll", "asksSector", "(I)Z"⟩ ∈ zT := zT_of 421 (by decide +kernel) (by decide +kernel)
theorem k_381 : Cond.instanceMethod ⟨"RollCalls$Roll", "asksSector", "(I)Z"⟩ ∈ zT := zT_of 422 (by decide +kernel) (by decide +kernel)
theorem k_382 : Cond.selects "RollCalls$Roll" ⟨"RollCalls$Roll", "asksSector", "(I)Z"⟩ ⟨"RollCalls$Roll", "asksSector", "(I)Z"⟩ ∈ zT := zT_of 423 (by decide +kernel) (by decide +kernel)
theorem k_383 : Cond.code ⟨"RollCalls$Roll", "asksSector", "(I)Z"⟩ prog_7_method_2_code 2 (some FieldType.boolean) ∈ zT := zT_of 424 (by decide +kernel) (by decide +kernel)
theorem k_384 : Cond.methodLink "RollCalls" 116 ⟨"RollCalls", "openMaydays", "()I"⟩ ∈ zT := zT_of 425 (by decide +kernel) (by decide +kernel)
theorem k_386 : Cond.instanceMethod ⟨"RollCalls", "openMaydays", "()I"⟩ ∈ zT := zT_of 427 (by decide +kernel) (by decide +kernel)
theorem k_387 : Cond.code ⟨"RollCalls", "openMaydays", "()I"⟩ prog_1_method_32_code 3 (some FieldType.int) ∈ zT := zT_of 428 (by decide +kernel) (by decide +kernel)
theorem k_388 : Cond.classLink "RollCalls" 252 "RollCalls$Mayday" ∈ zT := zT_of 429 (by decide +kernel) (by decide +kernel)
theorem k_391 : Cond.instantiable "RollCalls$Roll" 10 ∈ zT := zT_of 432 (by decide +kernel) (by decide +kernel)
theorem k_392 : Cond.methodLink "RollCalls" 125 ⟨"RollCalls$Roll", "<init>", "(III)V"⟩ ∈ zT := zT_of 433 (by decide +kernel) (by decide +kernel)
theorem k_393 : Cond.instanceMethod ⟨"RollCalls$Roll", "<init>", "(III)V"⟩ ∈ zT := zT_of 434 (by decide +kernel) (by decide +kernel)
theorem k_394 : Cond.code ⟨"RollCalls$Roll", "<init>", "(III)V"⟩ prog_7_method_1_code 4 none ∈ zT := zT_of 435 (by decide +kernel) (by decide +kernel)
theorem k_395 : Cond.methodLink "RollCalls$Roll" 3 ⟨"java/lang/Object", "<init>", "()V"⟩ ∈ zT := zT_of 436 (by decide +kernel) (by decide +kernel)
theorem k_396 : Cond.methodLink "RollCalls$Roll" 18 ⟨"java/lang/Math", "max", "(II)I"⟩ ∈ zT := zT_of 437 (by decide +kernel) (by decide +kernel)
theorem k_397 : Cond.methodLink "RollCalls$Roll" 28 ⟨"java/util/Arrays", "fill", "([II)V"⟩ ∈ zT := zT_of 438 (by decide +kernel) (by decide +kernel)
theorem k_398 : Cond.static ⟨"java/util/Arrays", "fill", "([II)V"⟩ ∈ zT := zT_of 439 (by decide +kernel) (by decide +kernel)
theorem k_399 : Cond.code ⟨"java/util/Arrays", "fill", "([II)V"⟩ prog_26_method_103_code 4 none ∈ zT := zT_of 440 (by decide +kernel) (by decide +kernel)
theorem k_400 : Cond.fieldLink "RollCalls$Roll" 9 "RollCalls$Roll" "number" "I" ∈ zT := zT_of 441 (by decide +kernel) (by decide +kernel)
theorem k_401 : Cond.fieldLink "RollCalls" 133 "RollCalls$Roll" "number" "I" ∈ zT := zT_of 442 (by decide +kernel) (by decide +kernel)
theorem k_402 : Cond.fieldLink "RollCalls$Roll" 15 "RollCalls$Roll" "sector" "I" ∈ zT := zT_of 443 (by decide +kernel) (by decide +kernel)
theorem k_403 : Cond.fieldLink "RollCalls$Roll" 24 "RollCalls$Roll" "counters" "[I" ∈ zT := zT_of 444 (by decide +kernel) (by decide +kernel)
theorem k_404 : Cond.fieldLink "RollCalls$Roll" 34 "RollCalls$Roll" "round" "I" ∈ zT := zT_of 445 (by decide +kernel) (by decide +kernel)
theorem k_405 : Cond.fieldLink "RollCalls" 184 "RollCalls$Roll" "round" "I" ∈ zT := zT_of 446 (by decide +kernel) (by decide +kernel)
theorem k_406 : Cond.fieldLink "RollCalls$Roll" 37 "RollCalls$Roll" "personsAsked" "I" ∈ zT := zT_of 447 (by decide +kernel) (by decide +kernel)
theorem k_407 : Cond.fieldLink "RollCalls" 194 "RollCalls$Roll" "personsAsked" "I" ∈ zT := zT_of 448 (by decide +kernel) (by decide +kernel)
theorem k_408 : Cond.fieldLink "RollCalls$Roll" 43 "RollCalls$Roll" "personsCounted" "I" ∈ zT := zT_of 449 (by decide +kernel) (by decide +kernel)
theorem k_409 : Cond.fieldLink "RollCalls" 197 "RollCalls$Roll" "personsCounted" "I" ∈ zT := zT_of 450 (by decide +kernel) (by decide +kernel)
theorem k_410 : Cond.fieldLink "RollCalls$Roll" 40 "RollCalls$Roll" "guestsAsked" "I" ∈ zT := zT_of 451 (by decide +kernel) (by decide +kernel)
theorem k_411 : Cond.fieldLink "RollCalls" 200 "RollCalls$Roll" "guestsAsked" "I" ∈ zT := zT_of 452 (by decide +kernel) (by decide +kernel)
theorem k_412 : Cond.fieldLink "RollCalls" 173 "RollCalls$Roll" "guestsSeen" "I" ∈ zT := zT_of 453 (by decide +kernel) (by decide +kernel)
theorem k_413 : Cond.fieldLink "RollCalls" 147 "RollCalls$Roll" "strangers" "I" ∈ zT := zT_of 454 (by decide +kernel) (by decide +kernel)
theorem k_414 : Cond.fieldLink "RollCalls" 191 "RollCalls$Roll" "missingAtEnd" "I" ∈ zT := zT_of 455 (by decide +kernel) (by decide +kernel)
theorem k_415 : Cond.laysFinal "RollCalls$Roll" "RollCalls$Roll" "number" "I" ∈ zT := zT_of 456 (by decide +kernel) (by decide +kernel)
theorem k_417 : Cond.laysFinal "RollCalls$Roll" "RollCalls$Roll" "sector" "I" ∈ zT := zT_of 458 (by decide +kernel) (by decide +kernel)
theorem k_419 : Cond.laysFinal "RollCalls$Roll" "RollCalls$Roll" "counters" "[I" ∈ zT := zT_of 460 (by decide +kernel) (by decide +kernel)
theorem k_421 : Cond.lays "RollCalls$Roll" "RollCalls$Roll" "round" "I" ∈ zT := zT_of 462 (by decide +kernel) (by decide +kernel)
theorem k_423 : Cond.lays "RollCalls$Roll" "RollCalls$Roll" "personsAsked" "I" ∈ zT := zT_of 464 (by decide +kernel) (by decide +kernel)
theorem k_425 : Cond.lays "RollCalls$Roll" "RollCalls$Roll" "personsCounted" "I" ∈ zT := zT_of 466 (by decide +kernel) (by decide +kernel)
theorem k_427 : Cond.lays "RollCalls$Roll" "RollCalls$Roll" "guestsAsked" "I" ∈ zT := zT_of 468 (by decide +kernel) (by decide +kernel)
theorem k_429 : Cond.lays "RollCalls$Roll" "RollCalls$Roll" "guestsSeen" "I" ∈ zT := zT_of 470 (by decide +kernel) (by decide +kernel)
theorem k_431 : Cond.lays "RollCalls$Roll" "RollCalls$Roll" "strangers" "I" ∈ zT := zT_of 472 (by decide +kernel) (by decide +kernel)
theorem k_433 : Cond.lays "RollCalls$Roll" "RollCalls$Roll" "missingAtEnd" "I" ∈ zT := zT_of 474 (by decide +kernel) (by decide +kernel)
theorem k_436 : Cond.methodLink "RollCalls" 126 ⟨"RollCalls", "askThoseInside", "(LRollCalls$Roll;)V"⟩ ∈ zT := zT_of 477 (by decide +kernel) (by decide +kernel)
theorem k_438 : Cond.instanceMethod ⟨"RollCalls", "askThoseInside", "(LRollCalls$Roll;)V"⟩ ∈ zT := zT_of 479 (by decide +kernel) (by decide +kernel)
theorem k_439 : Cond.code ⟨"RollCalls", "askThoseInside", "(LRollCalls$Roll;)V"⟩ prog_1_method_21_code 4 none ∈ zT := zT_of 480 (by decide +kernel) (by decide +kernel)
theorem k_440 : Cond.methodLink "RollCalls" 232 ⟨"RollCalls$Roll", "askPerson", "(I)V"⟩ ∈ zT := zT_of 481 (by decide +kernel) (by decide +kernel)
theorem k_441 : Cond.instanceMethod ⟨"RollCalls$Roll", "askPerson", "(I)V"⟩ ∈ zT := zT_of 482 (by decide +kernel) (by decide +kernel)
theorem k_442 : Cond.selects "RollCalls$Roll" ⟨"RollCalls$Roll", "askPerson", "(I)V"⟩ ⟨"RollCalls$Roll", "askPerson", "(I)V"⟩ ∈ zT := zT_of 483 (by decide +kernel) (by decide +kernel)
theorem k_443 : Cond.code ⟨"RollCalls$Roll", "askPerson", "(I)V"⟩ prog_7_method_3_code 2 none ∈ zT := zT_of 484 (by decide +kernel) (by decide +kernel)
theorem k_444 : Cond.methodLink "RollCalls" 130 ⟨"RollCalls$Roll", "endIfNobodyIsAsked", "()V"⟩ ∈ zT := zT_of 485 (by decide +kernel) (by decide +kernel)
theorem k_445 : Cond.instanceMethod ⟨"RollCalls$Roll", "endIfNobodyIsAsked", "()V"⟩ ∈ zT := zT_of 486 (by decide +kernel) (by decide +kernel)
theorem k_446 : Cond.selects "RollCalls$Roll" ⟨"RollCalls$Roll", "endIfNobodyIsAsked", "()V"⟩ ⟨"RollCalls$Roll", "endIfNobodyIsAsked", "()V"⟩ ∈ zT := zT_of 487 (by decide +kernel) (by decide +kernel)
theorem k_447 : Cond.code ⟨"RollCalls$Roll", "endIfNobodyIsAsked", "()V"⟩ prog_7_method_4_code 1 none ∈ zT := zT_of 488 (by decide +kernel) (by decide +kernel)
theorem k_448 : Cond.methodLink "RollCallsLaw" 111 ⟨"RollCallsLaw", "answer", "(LRollCalls;III[J)I"⟩ ∈ zT := zT_of 489 (by decide +kernel) (by decide +kernel)
theorem k_449 : Cond.static ⟨"RollCallsLaw", "answer", "(LRollCalls;III[J)I"⟩ ∈ zT := zT_of 490 (by decide +kernel) (by decide +kernel)
theorem k_450 : Cond.codeWith ⟨"RollCallsLaw", "answer", "(LRollCalls;III[J)I"⟩ method_8_code 6 (some FieldType.int) [(0, 12, 15, 19), (0, 12, 19, 21), (0, 12, 23, 13)] ∈ zT := zT_of 491 (by decide +kernel) (by decide +kernel)
theorem k_451 : Cond.methodLink "RollCallsLaw" 36 ⟨"RollCalls", "answer", "(III)I"⟩ ∈ zT := zT_of 492 (by decide +kernel) (by decide +kernel)
theorem k_452 : Cond.instanceMethod ⟨"RollCalls", "answer", "(III)I"⟩ ∈ zT := zT_of 493 (by decide +kernel) (by decide +kernel)
theorem k_453 : Cond.selects "RollCalls" ⟨"RollCalls", "answer", "(III)I"⟩ ⟨"RollCalls", "answer", "(III)I"⟩ ∈ zT := zT_of 494 (by decide +kernel) (by decide +kernel)
theorem k_454 : Cond.code ⟨"RollCalls", "answer", "(III)I"⟩ prog_1_method_12_code 7 (some FieldType.int) ∈ zT := zT_of 495 (by decide +kernel) (by decide +kernel)
theorem k_455 : Cond.methodLink "RollCalls" 136 ⟨"RollCalls", "knownRoll", "(I)LRollCalls$Roll;"⟩ ∈ zT := zT_of 496 (by decide +kernel) (by decide +kernel)
theorem k_457 : Cond.instanceMethod ⟨"RollCalls", "knownRoll", "(I)LRollCalls$Roll;"⟩ ∈ zT := zT_of 498 (by decide +kernel) (by decide +kernel)
theorem k_458 : Cond.code ⟨"RollCalls", "knownRoll", "(I)LRollCalls$Roll;"⟩ prog_1_method_18_code 2 (some (FieldType.object "RollCalls$Roll")) ∈ zT := zT_of 499 (by decide +kernel) (by decide +kernel)
theorem k_460 : Cond.methodLink "RollCalls" 140 ⟨"RollCalls", "checkIsOn", "(LRollCalls$Roll;)V"⟩ ∈ zT := zT_of 501 (by decide +kernel) (by decide +kernel)
theorem k_461 : Cond.static ⟨"RollCalls", "checkIsOn", "(LRollCalls$Roll;)V"⟩ ∈ zT := zT_of 502 (by decide +kernel) (by decide +kernel)
theorem k_462 : Cond.code ⟨"RollCalls", "checkIsOn", "(LRollCalls$Roll;)V"⟩ prog_1_method_19_code 1 none ∈ zT := zT_of 503 (by decide +kernel) (by decide +kernel)
theorem k_464 : Cond.methodLink "RollCalls" 143 ⟨"RollCalls$Roll", "counterOf", "(I)I"⟩ ∈ zT := zT_of 505 (by decide +kernel) (by decide +kernel)
theorem k_465 : Cond.instanceMethod ⟨"RollCalls$Roll", "counterOf", "(I)I"⟩ ∈ zT := zT_of 506 (by decide +kernel) (by decide +kernel)
theorem k_466 : Cond.selects "RollCalls$Roll" ⟨"RollCalls$Roll", "counterOf", "(I)I"⟩ ⟨"RollCalls$Roll", "counterOf", "(I)I"⟩ ∈ zT := zT_of 507 (by decide +kernel) (by decide +kernel)
theorem k_467 : Cond.code ⟨"RollCalls$Roll", "counterOf", "(I)I"⟩ prog_7_method_6_code 2 (some FieldType.int) ∈ zT := zT_of 508 (by decide +kernel) (by decide +kernel)
theorem k_468 : Cond.methodLink "RollCalls" 150 ⟨"RollCalls$Roll", "countPerson", "(II)V"⟩ ∈ zT := zT_of 509 (by decide +kernel) (by decide +kernel)
theorem k_469 : Cond.instanceMethod ⟨"RollCalls$Roll", "countPerson", "(II)V"⟩ ∈ zT := zT_of 510 (by decide +kernel) (by decide +kernel)
theorem k_470 : Cond.selects "RollCalls$Roll" ⟨"RollCalls$Roll", "countPerson", "(II)V"⟩ ⟨"RollCalls$Roll", "countPerson", "(II)V"⟩ ∈ zT := zT_of 511 (by decide +kernel) (by decide +kernel)
theorem k_471 : Cond.code ⟨"RollCalls$Roll", "countPerson", "(II)V"⟩ prog_7_method_7_code 3 none ∈ zT := zT_of 512 (by decide +kernel) (by decide +kernel)
theorem k_472 : Cond.methodLink "RollCalls" 156 ⟨"java/lang/Math", "max", "(II)I"⟩ ∈ zT := zT_of 513 (by decide +kernel) (by decide +kernel)
theorem k_473 : Cond.classLink "RollCalls" 162 "RollCalls$DoubleCount" ∈ zT := zT_of 514 (by decide +kernel) (by decide +kernel)
theorem k_474 : Cond.instantiable "RollCalls$DoubleCount" 4 ∈ zT := zT_of 515 (by decide +kernel) (by decide +kernel)
theorem k_475 : Cond.methodLink "RollCalls" 164 ⟨"RollCalls$DoubleCount", "<init>", "(IIII)V"⟩ ∈ zT := zT_of 516 (by decide +kernel) (by decide +kernel)
theorem k_476 : Cond.instanceMethod ⟨"RollCalls$DoubleCount", "<init>", "(IIII)V"⟩ ∈ zT := zT_of 517 (by decide +kernel) (by decide +kernel)
theorem k_477 : Cond.code ⟨"RollCalls$DoubleCount", "<init>", "(IIII)V"⟩ prog_2_method_1_code 5 none ∈ zT := zT_of 518 (by decide +kernel) (by decide +kernel)
theorem k_478 : Cond.methodLink "RollCalls$DoubleCount" 1 ⟨"java/lang/Object", "<init>", "()V"⟩ ∈ zT := zT_of 519 (by decide +kernel) (by decide +kernel)
theorem k_479 : Cond.fieldLink "RollCalls$DoubleCount" 7 "RollCalls$DoubleCount" "person" "I" ∈ zT := zT_of 520 (by decide +kernel) (by decide +kernel)
theorem k_480 : Cond.fieldLink "RollCalls" 215 "RollCalls$DoubleCount" "person" "I" ∈ zT := zT_of 521 (by decide +kernel) (by decide +kernel)
theorem k_481 : Cond.fieldLink "RollCalls$DoubleCount" 13 "RollCalls$DoubleCount" "firstSector" "I" ∈ zT := zT_of 522 (by decide +kernel) (by decide +kernel)
theorem k_482 : Cond.fieldLink "RollCalls" 216 "RollCalls$DoubleCount" "firstSector" "I" ∈ zT := zT_of 523 (by decide +kernel) (by decide +kernel)
theorem k_483 : Cond.fieldLink "RollCalls$DoubleCount" 16 "RollCalls$DoubleCount" "otherSector" "I" ∈ zT := zT_of 524 (by decide +kernel) (by decide +kernel)
theorem k_484 : Cond.fieldLink "RollCalls" 219 "RollCalls$DoubleCount" "otherSector" "I" ∈ zT := zT_of 525 (by decide +kernel) (by decide +kernel)
theorem k_485 : Cond.fieldLink "RollCalls$DoubleCount" 19 "RollCalls$DoubleCount" "roll" "I" ∈ zT := zT_of 526 (by decide +kernel) (by decide +kernel)
theorem k_486 : Cond.fieldLink "RollCalls" 222 "RollCalls$DoubleCount" "roll" "I" ∈ zT := zT_of 527 (by decide +kernel) (by decide +kernel)
theorem k_487 : Cond.laysFinal "RollCalls$DoubleCount" "RollCalls$DoubleCount" "person" "I" ∈ zT := zT_of 528 (by decide +kernel) (by decide +kernel)
theorem k_489 : Cond.laysFinal "RollCalls$DoubleCount" "RollCalls$DoubleCount" "firstSector" "I" ∈ zT := zT_of 530 (by decide +kernel) (by decide +kernel)
theorem k_491 : Cond.laysFinal "RollCalls$DoubleCount" "RollCalls$DoubleCount" "otherSector" "I" ∈ zT := zT_of 532 (by decide +kernel) (by decide +kernel)
theorem k_493 : Cond.laysFinal "RollCalls$DoubleCount" "RollCalls$DoubleCount" "roll" "I" ∈ zT := zT_of 534 (by decide +kernel) (by decide +kernel)
theorem k_496 : Cond.methodLink "RollCalls" 167 ⟨"RollCalls", "addDouble", "(LRollCalls$DoubleCount;)V"⟩ ∈ zT := zT_of 537 (by decide +kernel) (by decide +kernel)
theorem k_498 : Cond.instanceMethod ⟨"RollCalls", "addDouble", "(LRollCalls$DoubleCount;)V"⟩ ∈ zT := zT_of 539 (by decide +kernel) (by decide +kernel)
theorem k_499 : Cond.code ⟨"RollCalls", "addDouble", "(LRollCalls$DoubleCount;)V"⟩ prog_1_method_22_code 2 none ∈ zT := zT_of 540 (by decide +kernel) (by decide +kernel)
theorem k_501 : Cond.methodLink "RollCallsLaw" 115 ⟨"RollCallsLaw", "seen", "(LRollCalls;II[J)I"⟩ ∈ zT := zT_of 542 (by decide +kernel) (by decide +kernel)
theorem k_502 : Cond.static ⟨"RollCallsLaw", "seen", "(LRollCalls;II[J)I"⟩ ∈ zT := zT_of 543 (by decide +kernel) (by decide +kernel)
theorem k_503 : Cond.codeWith ⟨"RollCallsLaw", "seen", "(LRollCalls;II[J)I"⟩ method_9_code 5 (some FieldType.int) [(0, 10, 13, 19), (0, 10, 17, 30), (0, 10, 21, 21), (0, 10, 25, 13)] ∈ zT := zT_of 544 (by decide +kernel) (by decide +kernel)
theorem k_504 : Cond.methodLink "RollCallsLaw" 40 ⟨"RollCalls", "seen", "(II)I"⟩ ∈ zT := zT_of 545 (by decide +kernel) (by decide +kernel)
theorem k_505 : Cond.instanceMethod ⟨"RollCalls", "seen", "(II)I"⟩ ∈ zT := zT_of 546 (by decide +kernel) (by decide +kernel)
theorem k_506 : Cond.selects "RollCalls" ⟨"RollCalls", "seen", "(II)I"⟩ ⟨"RollCalls", "seen", "(II)I"⟩ ∈ zT := zT_of 547 (by decide +kernel) (by decide +kernel)
theorem k_507 : Cond.code ⟨"RollCalls", "seen", "(II)I"⟩ prog_1_method_13_code 4 (some FieldType.int) ∈ zT := zT_of 548 (by decide +kernel) (by decide +kernel)
theorem k_510 : Cond.methodLink "RollCallsLaw" 119 ⟨"RollCallsLaw", "round", "(LRollCalls;I[J)I"⟩ ∈ zT := zT_of 551 (by decide +kernel) (by decide +kernel)
theorem k_511 : Cond.static ⟨"RollCallsLaw", "round", "(LRollCalls;I[J)I"⟩ ∈ zT := zT_of 552 (by decide +kernel) (by decide +kernel)
theorem k_512 : Cond.codeWith ⟨"RollCallsLaw", "round", "(LRollCalls;I[J)I"⟩ method_10_code 4 (some FieldType.int) [(0, 9, 12, 19), (0, 9, 15, 21)] ∈ zT := zT_of 553 (by decide +kernel) (by decide +kernel)
theorem k_513 : Cond.methodLink "RollCallsLaw" 44 ⟨"RollCalls", "round", "(I)I"⟩ ∈ zT := zT_of 554 (by decide +kernel) (by decide +kernel)
theorem k_514 : Cond.instanceMethod ⟨"RollCalls", "round", "(I)I"⟩ ∈ zT := zT_of 555 (by decide +kernel) (by decide +kernel)
theorem k_515 : Cond.selects "RollCalls" ⟨"RollCalls", "round", "(I)I"⟩ ⟨"RollCalls", "round", "(I)I"⟩ ∈ zT := zT_of 556 (by decide +kernel) (by decide +kernel)
theorem k_516 : Cond.code ⟨"RollCalls", "round", "(I)I"⟩ prog_1_method_14_code 4 (some FieldType.int) ∈ zT := zT_of 557 (by decide +kernel) (by decide +kernel)
theorem k_518 : Cond.methodLink "RollCalls" 180 ⟨"RollCalls", "openPersons", "(LRollCalls$Roll;)I"⟩ ∈ zT := zT_of 559 (by decide +kernel) (by decide +kernel)
theorem k_520 : Cond.instanceMethod ⟨"RollCalls", "openPersons", "(LRollCalls$Roll;)I"⟩ ∈ zT := zT_of 561 (by decide +kernel) (by decide +kernel)
theorem k_521 : Cond.code ⟨"RollCalls", "openPersons", "(LRollCalls$Roll;)I"⟩ prog_1_method_23_code 4 (some FieldType.int) ∈ zT := zT_of 562 (by decide +kernel) (by decide +kernel)
theorem k_522 : Cond.methodLink "RollCalls" 237 ⟨"RollCalls", "isOpen", "(LRollCalls$Roll;I)Z"⟩ ∈ zT := zT_of 563 (by decide +kernel) (by decide +kernel)
theorem k_524 : Cond.instanceMethod ⟨"RollCalls", "isOpen", "(LRollCalls$Roll;I)Z"⟩ ∈ zT := zT_of 565 (by decide +kernel) (by decide +kernel)
theorem k_525 : Cond.code ⟨"RollCalls", "isOpen", "(LRollCalls$Roll;I)Z"⟩ prog_1_method_24_code 3 (some FieldType.boolean) ∈ zT := zT_of 566 (by decide +kernel) (by decide +kernel)
theorem k_526 : Cond.methodLink "RollCalls" 240 ⟨"RollCalls$Person", "cameOutSince", "(I)Z"⟩ ∈ zT := zT_of 567 (by decide +kernel) (by decide +kernel)
theorem k_527 : Cond.instanceMethod ⟨"RollCalls$Person", "cameOutSince", "(I)Z"⟩ ∈ zT := zT_of 568 (by decide +kernel) (by decide +kernel)
theorem k_528 : Cond.selects "RollCalls$Person" ⟨"RollCalls$Person", "cameOutSince", "(I)Z"⟩ ⟨"RollCalls$Person", "cameOutSince", "(I)Z"⟩ ∈ zT := zT_of 569 (by decide +kernel) (by decide +kernel)
theorem k_529 : Cond.code ⟨"RollCalls$Person", "cameOutSince", "(I)Z"⟩ prog_6_method_2_code 2 (some FieldType.boolean) ∈ zT := zT_of 570 (by decide +kernel) (by decide +kernel)
theorem k_530 : Cond.methodLink "RollCallsLaw" 122 ⟨"RollCallsLaw", "rollAt", "(LRollCalls;II[J)I"⟩ ∈ zT := zT_of 571 (by decide +kernel) (by decide +kernel)
theorem k_531 : Cond.static ⟨"RollCallsLaw", "rollAt", "(LRollCalls;II[J)I"⟩ ∈ zT := zT_of 572 (by decide +kernel) (by decide +kernel)
theorem k_532 : Cond.codeWith ⟨"RollCallsLaw", "rollAt", "(LRollCalls;II[J)I"⟩ method_11_code 5 (some FieldType.int) [(0, 10, 13, 19)] ∈ zT := zT_of 573 (by decide +kernel) (by decide +kernel)
theorem k_533 : Cond.methodLink "RollCallsLaw" 47 ⟨"RollCalls", "rollAt", "(II)I"⟩ ∈ zT := zT_of 574 (by decide +kernel) (by decide +kernel)
theorem k_534 : Cond.instanceMethod ⟨"RollCalls", "rollAt", "(II)I"⟩ ∈ zT := zT_of 575 (by decide +kernel) (by decide +kernel)
theorem k_535 : Cond.selects "RollCalls" ⟨"RollCalls", "rollAt", "(II)I"⟩ ⟨"RollCalls", "rollAt", "(II)I"⟩ ∈ zT := zT_of 576 (by decide +kernel) (by decide +kernel)
theorem k_536 : Cond.code ⟨"RollCalls", "rollAt", "(II)I"⟩ prog_1_method_15_code 4 (some FieldType.int) ∈ zT := zT_of 577 (by decide +kernel) (by decide +kernel)
theorem k_538 : Cond.methodLink "RollCallsLaw" 125 ⟨"RollCallsLaw", "missing", "(LRollCalls;II[J)I"⟩ ∈ zT := zT_of 579 (by decide +kernel) (by decide +kernel)
theorem k_539 : Cond.static ⟨"RollCallsLaw", "missing", "(LRollCalls;II[J)I"⟩ ∈ zT := zT_of 580 (by decide +kernel) (by decide +kernel)
theorem k_540 : Cond.codeWith ⟨"RollCallsLaw", "missing", "(LRollCalls;II[J)I"⟩ method_12_code 5 (some FieldType.int) [(0, 10, 13, 19), (0, 10, 17, 30), (0, 10, 21, 21)] ∈ zT := zT_of 581 (by decide +kernel) (by decide +kernel)
theorem k_541 : Cond.methodLink "RollCallsLaw" 50 ⟨"RollCalls", "missing", "(II)I"⟩ ∈ zT := zT_of 582 (by decide +kernel) (by decide +kernel)
theorem k_542 : Cond.instanceMethod ⟨"RollCalls", "missing", "(II)I"⟩ ∈ zT := zT_of 583 (by decide +kernel) (by decide +kernel)
theorem k_543 : Cond.selects "RollCalls" ⟨"RollCalls", "missing", "(II)I"⟩ ⟨"RollCalls", "missing", "(II)I"⟩ ∈ zT := zT_of 584 (by decide +kernel) (by decide +kernel)
theorem k_544 : Cond.code ⟨"RollCalls", "missing", "(II)I"⟩ prog_1_method_16_code 6 (some FieldType.int) ∈ zT := zT_of 585 (by decide +kernel) (by decide +kernel)
theorem k_547 : Cond.methodLink "RollCalls" 209 ⟨"RollCalls", "isMissingStill", "(LRollCalls$Roll;I)Z"⟩ ∈ zT := zT_of 588 (by decide +kernel) (by decide +kernel)
theorem k_549 : Cond.instanceMethod ⟨"RollCalls", "isMissingStill", "(LRollCalls$Roll;I)Z"⟩ ∈ zT := zT_of 590 (by decide +kernel) (by decide +kernel)
theorem k_550 : Cond.code ⟨"RollCalls", "isMissingStill", "(LRollCalls$Roll;I)Z"⟩ prog_1_method_25_code 3 (some FieldType.boolean) ∈ zT := zT_of 591 (by decide +kernel) (by decide +kernel)
theorem k_551 : Cond.methodLink "RollCallsLaw" 128 ⟨"RollCallsLaw", "twice", "(LRollCalls;II[J)I"⟩ ∈ zT := zT_of 592 (by decide +kernel) (by decide +kernel)
theorem k_552 : Cond.static ⟨"RollCallsLaw", "twice", "(LRollCalls;II[J)I"⟩ ∈ zT := zT_of 593 (by decide +kernel) (by decide +kernel)
theorem k_553 : Cond.codeWith ⟨"RollCallsLaw", "twice", "(LRollCalls;II[J)I"⟩ method_13_code 5 (some FieldType.int) [(0, 10, 13, 19)] ∈ zT := zT_of 594 (by decide +kernel) (by decide +kernel)
theorem k_554 : Cond.methodLink "RollCallsLaw" 53 ⟨"RollCalls", "twice", "(II)I"⟩ ∈ zT := zT_of 595 (by decide +kernel) (by decide +kernel)
theorem k_555 : Cond.instanceMethod ⟨"RollCalls", "twice", "(II)I"⟩ ∈ zT := zT_of 596 (by decide +kernel) (by decide +kernel)
theorem k_556 : Cond.selects "RollCalls" ⟨"RollCalls", "twice", "(II)I"⟩ ⟨"RollCalls", "twice", "(II)I"⟩ ∈ zT := zT_of 597 (by decide +kernel) (by decide +kernel)
theorem k_557 : Cond.code ⟨"RollCalls", "twice", "(II)I"⟩ prog_1_method_17_code 4 (some FieldType.int) ∈ zT := zT_of 598 (by decide +kernel) (by decide +kernel)
theorem k_559 : Cond.methodLink "RollCallsLaw" 131 ⟨"RollCallsLaw", "mayday", "(LRollCalls;II[J)I"⟩ ∈ zT := zT_of 600 (by decide +kernel) (by decide +kernel)
theorem k_560 : Cond.static ⟨"RollCallsLaw", "mayday", "(LRollCalls;II[J)I"⟩ ∈ zT := zT_of 601 (by decide +kernel) (by decide +kernel)
theorem k_561 : Cond.codeWith ⟨"RollCallsLaw", "mayday", "(LRollCalls;II[J)I"⟩ method_14_code 5 (some FieldType.int) [(0, 10, 13, 19), (0, 10, 17, 30), (0, 10, 21, 21), (0, 10, 25, 13)] ∈ zT := zT_of 602 (by decide +kernel) (by decide +kernel)
theorem k_562 : Cond.methodLink "RollCallsLaw" 56 ⟨"RollCalls", "mayday", "(II)I"⟩ ∈ zT := zT_of 603 (by decide +kernel) (by decide +kernel)
theorem k_563 : Cond.instanceMethod ⟨"RollCalls", "mayday", "(II)I"⟩ ∈ zT := zT_of 604 (by decide +kernel) (by decide +kernel)
theorem k_564 : Cond.selects "RollCalls" ⟨"RollCalls", "mayday", "(II)I"⟩ ⟨"RollCalls", "mayday", "(II)I"⟩ ∈ zT := zT_of 605 (by decide +kernel) (by decide +kernel)
theorem k_565 : Cond.code ⟨"RollCalls", "mayday", "(II)I"⟩ prog_1_method_27_code 4 (some FieldType.int) ∈ zT := zT_of 606 (by decide +kernel) (by decide +kernel)
theorem k_567 : Cond.methodLink "RollCalls" 245 ⟨"RollCalls", "hasOpenMayday", "(I)Z"⟩ ∈ zT := zT_of 608 (by decide +kernel) (by decide +kernel)
theorem k_569 : Cond.instanceMethod ⟨"RollCalls", "hasOpenMayday", "(I)Z"⟩ ∈ zT := zT_of 610 (by decide +kernel) (by decide +kernel)
theorem k_570 : Cond.code ⟨"RollCalls", "hasOpenMayday", "(I)Z"⟩ prog_1_method_31_code 4 (some FieldType.boolean) ∈ zT := zT_of 611 (by decide +kernel) (by decide +kernel)
theorem k_573 : Cond.instantiable "RollCalls$Mayday" 5 ∈ zT := zT_of 614 (by decide +kernel) (by decide +kernel)
theorem k_574 : Cond.methodLink "RollCalls" 254 ⟨"RollCalls", "lowestFreeTeam", "()I"⟩ ∈ zT := zT_of 615 (by decide +kernel) (by decide +kernel)
theorem k_576 : Cond.instanceMethod ⟨"RollCalls", "lowestFreeTeam", "()I"⟩ ∈ zT := zT_of 617 (by decide +kernel) (by decide +kernel)
theorem k_577 : Cond.code ⟨"RollCalls", "lowestFreeTeam", "()I"⟩ prog_1_method_33_code 2 (some FieldType.int) ∈ zT := zT_of 618 (by decide +kernel) (by decide +kernel)
theorem k_578 : Cond.methodLink "RollCalls" 281 ⟨"RollCalls", "isSent", "(I)Z"⟩ ∈ zT := zT_of 619 (by decide +kernel) (by decide +kernel)
theorem k_580 : Cond.instanceMethod ⟨"RollCalls", "isSent", "(I)Z"⟩ ∈ zT := zT_of 621 (by decide +kernel) (by decide +kernel)
theorem k_581 : Cond.code ⟨"RollCalls", "isSent", "(I)Z"⟩ prog_1_method_34_code 3 (some FieldType.boolean) ∈ zT := zT_of 622 (by decide +kernel) (by decide +kernel)
theorem k_582 : Cond.methodLink "RollCalls" 257 ⟨"RollCalls$Mayday", "<init>", "(IIII)V"⟩ ∈ zT := zT_of 623 (by decide +kernel) (by decide +kernel)
theorem k_583 : Cond.instanceMethod ⟨"RollCalls$Mayday", "<init>", "(IIII)V"⟩ ∈ zT := zT_of 624 (by decide +kernel) (by decide +kernel)
theorem k_584 : Cond.code ⟨"RollCalls$Mayday", "<init>", "(IIII)V"⟩ prog_4_method_1_code 5 none ∈ zT := zT_of 625 (by decide +kernel) (by decide +kernel)
theorem k_585 : Cond.methodLink "RollCalls$Mayday" 1 ⟨"java/lang/Object", "<init>", "()V"⟩ ∈ zT := zT_of 626 (by decide +kernel) (by decide +kernel)
theorem k_586 : Cond.fieldLink "RollCalls$Mayday" 7 "RollCalls$Mayday" "person" "I" ∈ zT := zT_of 627 (by decide +kernel) (by decide +kernel)
theorem k_587 : Cond.fieldLink "RollCalls" 274 "RollCalls$Mayday" "person" "I" ∈ zT := zT_of 628 (by decide +kernel) (by decide +kernel)
theorem k_588 : Cond.fieldLink "RollCalls$Mayday" 13 "RollCalls$Mayday" "place" "I" ∈ zT := zT_of 629 (by decide +kernel) (by decide +kernel)
theorem k_589 : Cond.fieldLink "RollCalls" 275 "RollCalls$Mayday" "place" "I" ∈ zT := zT_of 630 (by decide +kernel) (by decide +kernel)
theorem k_590 : Cond.fieldLink "RollCalls$Mayday" 16 "RollCalls$Mayday" "second" "I" ∈ zT := zT_of 631 (by decide +kernel) (by decide +kernel)
theorem k_591 : Cond.fieldLink "RollCalls" 278 "RollCalls$Mayday" "second" "I" ∈ zT := zT_of 632 (by decide +kernel) (by decide +kernel)
theorem k_592 : Cond.fieldLink "RollCalls$Mayday" 22 "RollCalls$Mayday" "open" "Z" ∈ zT := zT_of 633 (by decide +kernel) (by decide +kernel)
theorem k_593 : Cond.fieldLink "RollCalls" 262 "RollCalls$Mayday" "open" "Z" ∈ zT := zT_of 634 (by decide +kernel) (by decide +kernel)
theorem k_594 : Cond.fieldLink "RollCalls$Mayday" 19 "RollCalls$Mayday" "team" "I" ∈ zT := zT_of 635 (by decide +kernel) (by decide +kernel)
theorem k_595 : Cond.fieldLink "RollCalls" 268 "RollCalls$Mayday" "team" "I" ∈ zT := zT_of 636 (by decide +kernel) (by decide +kernel)
theorem k_596 : Cond.laysFinal "RollCalls$Mayday" "RollCalls$Mayday" "person" "I" ∈ zT := zT_of 637 (by decide +kernel) (by decide +kernel)
theorem k_598 : Cond.laysFinal "RollCalls$Mayday" "RollCalls$Mayday" "place" "I" ∈ zT := zT_of 639 (by decide +kernel) (by decide +kernel)
theorem k_600 : Cond.laysFinal "RollCalls$Mayday" "RollCalls$Mayday" "second" "I" ∈ zT := zT_of 641 (by decide +kernel) (by decide +kernel)
theorem k_602 : Cond.lays "RollCalls$Mayday" "RollCalls$Mayday" "open" "Z" ∈ zT := zT_of 643 (by decide +kernel) (by decide +kernel)
theorem k_604 : Cond.lays "RollCalls$Mayday" "RollCalls$Mayday" "team" "I" ∈ zT := zT_of 645 (by decide +kernel) (by decide +kernel)
theorem k_607 : Cond.methodLink "RollCallsLaw" 134 ⟨"RollCallsLaw", "answered", "(LRollCalls;I)I"⟩ ∈ zT := zT_of 648 (by decide +kernel) (by decide +kernel)
theorem k_608 : Cond.static ⟨"RollCallsLaw", "answered", "(LRollCalls;I)I"⟩ ∈ zT := zT_of 649 (by decide +kernel) (by decide +kernel)
theorem k_609 : Cond.codeWith ⟨"RollCallsLaw", "answered", "(LRollCalls;I)I"⟩ method_15_code 3 (some FieldType.int) [(0, 5, 8, 19), (0, 5, 11, 21)] ∈ zT := zT_of 650 (by decide +kernel) (by decide +kernel)
theorem k_610 : Cond.methodLink "RollCallsLaw" 59 ⟨"RollCalls", "answered", "(I)V"⟩ ∈ zT := zT_of 651 (by decide +kernel) (by decide +kernel)
theorem k_611 : Cond.instanceMethod ⟨"RollCalls", "answered", "(I)V"⟩ ∈ zT := zT_of 652 (by decide +kernel) (by decide +kernel)
theorem k_612 : Cond.selects "RollCalls" ⟨"RollCalls", "answered", "(I)V"⟩ ⟨"RollCalls", "answered", "(I)V"⟩ ∈ zT := zT_of 653 (by decide +kernel) (by decide +kernel)
theorem k_613 : Cond.code ⟨"RollCalls", "answered", "(I)V"⟩ prog_1_method_28_code 4 none ∈ zT := zT_of 654 (by decide +kernel) (by decide +kernel)
theorem k_614 : Cond.methodLink "RollCalls" 258 ⟨"RollCalls", "knownMayday", "(I)LRollCalls$Mayday;"⟩ ∈ zT := zT_of 655 (by decide +kernel) (by decide +kernel)
theorem k_616 : Cond.instanceMethod ⟨"RollCalls", "knownMayday", "(I)LRollCalls$Mayday;"⟩ ∈ zT := zT_of 657 (by decide +kernel) (by decide +kernel)
theorem k_617 : Cond.code ⟨"RollCalls", "knownMayday", "(I)LRollCalls$Mayday;"⟩ prog_1_method_30_code 2 (some (FieldType.object "RollCalls$Mayday")) ∈ zT := zT_of 658 (by decide +kernel) (by decide +kernel)
theorem k_620 : Cond.methodLink "RollCalls" 271 ⟨"RollCalls", "sendToLowestWaiting", "(I)V"⟩ ∈ zT := zT_of 661 (by decide +kernel) (by decide +kernel)
theorem k_622 : Cond.instanceMethod ⟨"RollCalls", "sendToLowestWaiting", "(I)V"⟩ ∈ zT := zT_of 663 (by decide +kernel) (by decide +kernel)
theorem k_623 : Cond.code ⟨"RollCalls", "sendToLowestWaiting", "(I)V"⟩ prog_1_method_35_code 4 none ∈ zT := zT_of 664 (by decide +kernel) (by decide +kernel)
theorem k_624 : Cond.methodLink "RollCallsLaw" 137 ⟨"RollCallsLaw", "maydayAt", "(LRollCalls;II[J)I"⟩ ∈ zT := zT_of 665 (by decide +kernel) (by decide +kernel)
theorem k_625 : Cond.static ⟨"RollCallsLaw", "maydayAt", "(LRollCalls;II[J)I"⟩ ∈ zT := zT_of 666 (by decide +kernel) (by decide +kernel)
theorem k_626 : Cond.codeWith ⟨"RollCallsLaw", "maydayAt", "(LRollCalls;II[J)I"⟩ method_16_code 5 (some FieldType.int) [(0, 10, 13, 19)] ∈ zT := zT_of 667 (by decide +kernel) (by decide +kernel)
theorem k_627 : Cond.methodLink "RollCallsLaw" 62 ⟨"RollCalls", "maydayAt", "(II)I"⟩ ∈ zT := zT_of 668 (by decide +kernel) (by decide +kernel)
theorem k_628 : Cond.instanceMethod ⟨"RollCalls", "maydayAt", "(II)I"⟩ ∈ zT := zT_of 669 (by decide +kernel) (by decide +kernel)
theorem k_629 : Cond.selects "RollCalls" ⟨"RollCalls", "maydayAt", "(II)I"⟩ ⟨"RollCalls", "maydayAt", "(II)I"⟩ ∈ zT := zT_of 670 (by decide +kernel) (by decide +kernel)
theorem k_630 : Cond.code ⟨"RollCalls", "maydayAt", "(II)I"⟩ prog_1_method_29_code 4 (some FieldType.int) ∈ zT := zT_of 671 (by decide +kernel) (by decide +kernel)
theorem k_631 : Cond.methodLink "RollCallsLaw" 140 ⟨"RollCallsLaw", "evacuate", "(LRollCalls;I[J)I"⟩ ∈ zT := zT_of 672 (by decide +kernel) (by decide +kernel)
theorem k_632 : Cond.static ⟨"RollCallsLaw", "evacuate", "(LRollCalls;I[J)I"⟩ ∈ zT := zT_of 673 (by decide +kernel) (by decide +kernel)
theorem k_633 : Cond.codeWith ⟨"RollCallsLaw", "evacuate", "(LRollCalls;I[J)I"⟩ method_17_code 4 (some FieldType.int) [(0, 9, 12, 30), (0, 9, 15, 21), (0, 9, 18, 13)] ∈ zT := zT_of 674 (by decide +kernel) (by decide +kernel)
theorem k_634 : Cond.methodLink "RollCallsLaw" 65 ⟨"RollCalls", "evacuate", "(I)I"⟩ ∈ zT := zT_of 675 (by decide +kernel) (by decide +kernel)
theorem k_635 : Cond.instanceMethod ⟨"RollCalls", "evacuate", "(I)I"⟩ ∈ zT := zT_of 676 (by decide +kernel) (by decide +kernel)
theorem k_636 : Cond.selects "RollCalls" ⟨"RollCalls", "evacuate", "(I)I"⟩ ⟨"RollCalls", "evacuate", "(I)I"⟩ ∈ zT := zT_of 677 (by decide +kernel) (by decide +kernel)
theorem k_637 : Cond.code ⟨"RollCalls", "evacuate", "(I)I"⟩ prog_1_method_36_code 3 (some FieldType.int) ∈ zT := zT_of 678 (by decide +kernel) (by decide +kernel)
theorem k_639 : Cond.methodLink "RollCalls" 286 ⟨"RollCalls", "isEvacuating", "()Z"⟩ ∈ zT := zT_of 680 (by decide +kernel) (by decide +kernel)
theorem k_641 : Cond.instanceMethod ⟨"RollCalls", "isEvacuating", "()Z"⟩ ∈ zT := zT_of 682 (by decide +kernel) (by decide +kernel)
theorem k_642 : Cond.code ⟨"RollCalls", "isEvacuating", "()Z"⟩ prog_1_method_40_code 1 (some FieldType.boolean) ∈ zT := zT_of 683 (by decide +kernel) (by decide +kernel)
theorem k_643 : Cond.methodLink "RollCalls" 327 ⟨"java/util/ArrayList", "isEmpty", "()Z"⟩ ∈ zT := zT_of 684 (by decide +kernel) (by decide +kernel)
theorem k_644 : Cond.instanceMethod ⟨"java/util/ArrayList", "isEmpty", "()Z"⟩ ∈ zT := zT_of 685 (by decide +kernel) (by decide +kernel)
theorem k_645 : Cond.selects "java/util/ArrayList" ⟨"java/util/ArrayList", "isEmpty", "()Z"⟩ ⟨"java/util/ArrayList", "isEmpty", "()Z"⟩ ∈ zT := zT_of 686 (by decide +kernel) (by decide +kernel)
theorem k_646 : Cond.code ⟨"java/util/ArrayList", "isEmpty", "()Z"⟩ prog_25_method_9_code 1 (some FieldType.boolean) ∈ zT := zT_of 687 (by decide +kernel) (by decide +kernel)
theorem k_647 : Cond.methodLink "RollCalls" 308 ⟨"RollCalls", "knownEvacuation", "(I)LRollCalls$Evacuation;"⟩ ∈ zT := zT_of 688 (by decide +kernel) (by decide +kernel)
theorem k_649 : Cond.instanceMethod ⟨"RollCalls", "knownEvacuation", "(I)LRollCalls$Evacuation;"⟩ ∈ zT := zT_of 690 (by decide +kernel) (by decide +kernel)
theorem k_650 : Cond.code ⟨"RollCalls", "knownEvacuation", "(I)LRollCalls$Evacuation;"⟩ prog_1_method_41_code 2 (some (FieldType.object "RollCalls$Evacuation")) ∈ zT := zT_of 691 (by decide +kernel) (by decide +kernel)
theorem k_652 : Cond.classLink "RollCalls" 291 "RollCalls$Evacuation" ∈ zT := zT_of 693 (by decide +kernel) (by decide +kernel)
theorem k_654 : Cond.instantiable "RollCalls$Evacuation" 5 ∈ zT := zT_of 695 (by decide +kernel) (by decide +kernel)
theorem k_655 : Cond.methodLink "RollCalls" 293 ⟨"RollCalls$Evacuation", "<init>", "(I)V"⟩ ∈ zT := zT_of 696 (by decide +kernel) (by decide +kernel)
theorem k_656 : Cond.instanceMethod ⟨"RollCalls$Evacuation", "<init>", "(I)V"⟩ ∈ zT := zT_of 697 (by decide +kernel) (by decide +kernel)
theorem k_657 : Cond.code ⟨"RollCalls$Evacuation", "<init>", "(I)V"⟩ prog_3_method_1_code 2 none ∈ zT := zT_of 698 (by decide +kernel) (by decide +kernel)
theorem k_658 : Cond.methodLink "RollCalls$Evacuation" 3 ⟨"java/lang/Object", "<init>", "()V"⟩ ∈ zT := zT_of 699 (by decide +kernel) (by decide +kernel)
theorem k_659 : Cond.fieldLink "RollCalls$Evacuation" 9 "RollCalls$Evacuation" "lastSecond" "I" ∈ zT := zT_of 700 (by decide +kernel) (by decide +kernel)
theorem k_660 : Cond.fieldLink "RollCalls$Evacuation" 15 "RollCalls$Evacuation" "mustConfirm" "[Z" ∈ zT := zT_of 701 (by decide +kernel) (by decide +kernel)
theorem k_661 : Cond.fieldLink "RollCalls" 312 "RollCalls$Evacuation" "mustConfirm" "[Z" ∈ zT := zT_of 702 (by decide +kernel) (by decide +kernel)
theorem k_662 : Cond.fieldLink "RollCalls$Evacuation" 19 "RollCalls$Evacuation" "isLate" "[Z" ∈ zT := zT_of 703 (by decide +kernel) (by decide +kernel)
theorem k_663 : Cond.fieldLink "RollCalls" 318 "RollCalls$Evacuation" "isLate" "[Z" ∈ zT := zT_of 704 (by decide +kernel) (by decide +kernel)
theorem k_664 : Cond.fieldLink "RollCalls$Evacuation" 26 "RollCalls$Evacuation" "left" "I" ∈ zT := zT_of 705 (by decide +kernel) (by decide +kernel)
theorem k_665 : Cond.fieldLink "RollCalls" 299 "RollCalls$Evacuation" "left" "I" ∈ zT := zT_of 706 (by decide +kernel) (by decide +kernel)
theorem k_666 : Cond.fieldLink "RollCalls$Evacuation" 22 "RollCalls$Evacuation" "lateTold" "Z" ∈ zT := zT_of 707 (by decide +kernel) (by decide +kernel)
theorem k_667 : Cond.laysFinal "RollCalls$Evacuation" "RollCalls$Evacuation" "lastSecond" "I" ∈ zT := zT_of 708 (by decide +kernel) (by decide +kernel)
theorem k_669 : Cond.laysFinal "RollCalls$Evacuation" "RollCalls$Evacuation" "mustConfirm" "[Z" ∈ zT := zT_of 710 (by decide +kernel) (by decide +kernel)
theorem k_671 : Cond.laysFinal "RollCalls$Evacuation" "RollCalls$Evacuation" "isLate" "[Z" ∈ zT := zT_of 712 (by decide +kernel) (by decide +kernel)
theorem k_673 : Cond.lays "RollCalls$Evacuation" "RollCalls$Evacuation" "left" "I" ∈ zT := zT_of 714 (by decide +kernel) (by decide +kernel)
theorem k_675 : Cond.lays "RollCalls$Evacuation" "RollCalls$Evacuation" "lateTold" "Z" ∈ zT := zT_of 716 (by decide +kernel) (by decide +kernel)
theorem k_678 : Cond.arrayClass FieldType.boolean ∈ zT := zT_of 719 (by decide +kernel) (by decide +kernel)
theorem k_679 : Cond.methodLink "RollCalls" 295 ⟨"RollCalls", "demandConfirmations", "(LRollCalls$Evacuation;)V"⟩ ∈ zT := zT_of 720 (by decide +kernel) (by decide +kernel)
theorem k_681 : Cond.instanceMethod ⟨"RollCalls", "demandConfirmations", "(LRollCalls$Evacuation;)V"⟩ ∈ zT := zT_of 722 (by decide +kernel) (by decide +kernel)
theorem k_682 : Cond.code ⟨"RollCalls", "demandConfirmations", "(LRollCalls$Evacuation;)V"⟩ prog_1_method_42_code 3 none ∈ zT := zT_of 723 (by decide +kernel) (by decide +kernel)
theorem k_683 : Cond.methodLink "RollCalls" 332 ⟨"RollCalls", "isSomebodyIn", "(I)Z"⟩ ∈ zT := zT_of 724 (by decide +kernel) (by decide +kernel)
theorem k_685 : Cond.instanceMethod ⟨"RollCalls", "isSomebodyIn", "(I)Z"⟩ ∈ zT := zT_of 726 (by decide +kernel) (by decide +kernel)
theorem k_686 : Cond.code ⟨"RollCalls", "isSomebodyIn", "(I)Z"⟩ prog_1_method_43_code 3 (some FieldType.boolean) ∈ zT := zT_of 727 (by decide +kernel) (by decide +kernel)
theorem k_689 : Cond.methodLink "RollCallsLaw" 143 ⟨"RollCallsLaw", "confirm", "(LRollCalls;I[J)I"⟩ ∈ zT := zT_of 730 (by decide +kernel) (by decide +kernel)
theorem k_690 : Cond.static ⟨"RollCallsLaw", "confirm", "(LRollCalls;I[J)I"⟩ ∈ zT := zT_of 731 (by decide +kernel) (by decide +kernel)
theorem k_691 : Cond.codeWith ⟨"RollCallsLaw", "confirm", "(LRollCalls;I[J)I"⟩ method_18_code 4 (some FieldType.int) [(0, 9, 12, 19), (0, 9, 15, 21)] ∈ zT := zT_of 732 (by decide +kernel) (by decide +kernel)
theorem k_692 : Cond.methodLink "RollCallsLaw" 68 ⟨"RollCalls", "confirm", "(I)I"⟩ ∈ zT := zT_of 733 (by decide +kernel) (by decide +kernel)
theorem k_693 : Cond.instanceMethod ⟨"RollCalls", "confirm", "(I)I"⟩ ∈ zT := zT_of 734 (by decide +kernel) (by decide +kernel)
theorem k_694 : Cond.selects "RollCalls" ⟨"RollCalls", "confirm", "(I)I"⟩ ⟨"RollCalls", "confirm", "(I)I"⟩ ∈ zT := zT_of 735 (by decide +kernel) (by decide +kernel)
theorem k_695 : Cond.code ⟨"RollCalls", "confirm", "(I)I"⟩ prog_1_method_37_code 3 (some FieldType.int) ∈ zT := zT_of 736 (by decide +kernel) (by decide +kernel)
theorem k_698 : Cond.methodLink "RollCallsLaw" 146 ⟨"RollCallsLaw", "late", "(LRollCalls;II[J)I"⟩ ∈ zT := zT_of 739 (by decide +kernel) (by decide +kernel)
theorem k_699 : Cond.static ⟨"RollCallsLaw", "late", "(LRollCalls;II[J)I"⟩ ∈ zT := zT_of 740 (by decide +kernel) (by decide +kernel)
theorem k_700 : Cond.codeWith ⟨"RollCallsLaw", "late", "(LRollCalls;II[J)I"⟩ method_19_code 5 (some FieldType.int) [(0, 10, 13, 19), (0, 10, 17, 30)] ∈ zT := zT_of 741 (by decide +kernel) (by decide +kernel)
theorem k_701 : Cond.methodLink "RollCallsLaw" 71 ⟨"RollCalls", "late", "(II)I"⟩ ∈ zT := zT_of 742 (by decide +kernel) (by decide +kernel)
theorem k_702 : Cond.instanceMethod ⟨"RollCalls", "late", "(II)I"⟩ ∈ zT := zT_of 743 (by decide +kernel) (by decide +kernel)
theorem k_703 : Cond.selects "RollCalls" ⟨"RollCalls", "late", "(II)I"⟩ ⟨"RollCalls", "late", "(II)I"⟩ ∈ zT := zT_of 744 (by decide +kernel) (by decide +kernel)
theorem k_704 : Cond.code ⟨"RollCalls", "late", "(II)I"⟩ prog_1_method_38_code 6 (some FieldType.int) ∈ zT := zT_of 745 (by decide +kernel) (by decide +kernel)
theorem k_705 : Cond.methodLink "RollCallsLaw" 149 ⟨"RollCallsLaw", "tick", "(LRollCalls;I[J)I"⟩ ∈ zT := zT_of 746 (by decide +kernel) (by decide +kernel)
theorem k_706 : Cond.static ⟨"RollCallsLaw", "tick", "(LRollCalls;I[J)I"⟩ ∈ zT := zT_of 747 (by decide +kernel) (by decide +kernel)
theorem k_707 : Cond.codeWith ⟨"RollCallsLaw", "tick", "(LRollCalls;I[J)I"⟩ method_20_code 4 (some FieldType.int) [(0, 9, 12, 30)] ∈ zT := zT_of 748 (by decide +kernel) (by decide +kernel)
theorem k_708 : Cond.methodLink "RollCallsLaw" 74 ⟨"RollCalls", "tick", "(I)I"⟩ ∈ zT := zT_of 749 (by decide +kernel) (by decide +kernel)
theorem k_709 : Cond.instanceMethod ⟨"RollCalls", "tick", "(I)I"⟩ ∈ zT := zT_of 750 (by decide +kernel) (by decide +kernel)
theorem k_710 : Cond.selects "RollCalls" ⟨"RollCalls", "tick", "(I)I"⟩ ⟨"RollCalls", "tick", "(I)I"⟩ ∈ zT := zT_of 751 (by decide +kernel) (by decide +kernel)
theorem k_711 : Cond.code ⟨"RollCalls", "tick", "(I)I"⟩ prog_1_method_39_code 2 (some FieldType.int) ∈ zT := zT_of 752 (by decide +kernel) (by decide +kernel)
theorem k_712 : Cond.constant "RollCalls" 321 99999 ∈ zT := zT_of 753 (by decide +kernel) (by decide +kernel)
theorem k_714 : Cond.methodLink "RollCalls" 324 ⟨"RollCalls$Evacuation", "tellLate", "(I)I"⟩ ∈ zT := zT_of 755 (by decide +kernel) (by decide +kernel)
theorem k_715 : Cond.instanceMethod ⟨"RollCalls$Evacuation", "tellLate", "(I)I"⟩ ∈ zT := zT_of 756 (by decide +kernel) (by decide +kernel)
theorem k_716 : Cond.selects "RollCalls$Evacuation" ⟨"RollCalls$Evacuation", "tellLate", "(I)I"⟩ ⟨"RollCalls$Evacuation", "tellLate", "(I)I"⟩ ∈ zT := zT_of 757 (by decide +kernel) (by decide +kernel)
theorem k_717 : Cond.code ⟨"RollCalls$Evacuation", "tellLate", "(I)I"⟩ prog_3_method_2_code 3 (some FieldType.int) ∈ zT := zT_of 758 (by decide +kernel) (by decide +kernel)
theorem k_718 : Cond.methodLink "RollCallsLaw" 152 ⟨"RollCallsLaw", "was", "(LRollCalls;II[J)I"⟩ ∈ zT := zT_of 759 (by decide +kernel) (by decide +kernel)
theorem k_719 : Cond.static ⟨"RollCallsLaw", "was", "(LRollCalls;II[J)I"⟩ ∈ zT := zT_of 760 (by decide +kernel) (by decide +kernel)
theorem k_720 : Cond.codeWith ⟨"RollCallsLaw", "was", "(LRollCalls;II[J)I"⟩ method_21_code 5 (some FieldType.int) [(0, 10, 13, 19), (0, 10, 17, 30)] ∈ zT := zT_of 761 (by decide +kernel) (by decide +kernel)
theorem k_721 : Cond.methodLink "RollCallsLaw" 77 ⟨"RollCalls", "was", "(II)I"⟩ ∈ zT := zT_of 762 (by decide +kernel) (by decide +kernel)
theorem k_722 : Cond.instanceMethod ⟨"RollCalls", "was", "(II)I"⟩ ∈ zT := zT_of 763 (by decide +kernel) (by decide +kernel)
theorem k_723 : Cond.selects "RollCalls" ⟨"RollCalls", "was", "(II)I"⟩ ⟨"RollCalls", "was", "(II)I"⟩ ∈ zT := zT_of 764 (by decide +kernel) (by decide +kernel)
theorem k_724 : Cond.code ⟨"RollCalls", "was", "(II)I"⟩ prog_1_method_6_code 5 (some FieldType.int) ∈ zT := zT_of 765 (by decide +kernel) (by decide +kernel)
theorem k_726 : Cond.methodLink "RollCallsLaw" 155 ⟨"RollCallsLaw", "count", "(LRollCalls;I[J)I"⟩ ∈ zT := zT_of 767 (by decide +kernel) (by decide +kernel)
theorem k_727 : Cond.static ⟨"RollCallsLaw", "count", "(LRollCalls;I[J)I"⟩ ∈ zT := zT_of 768 (by decide +kernel) (by decide +kernel)
theorem k_728 : Cond.codeWith ⟨"RollCallsLaw", "count", "(LRollCalls;I[J)I"⟩ method_22_code 4 (some FieldType.int) [(0, 9, 12, 19)] ∈ zT := zT_of 769 (by decide +kernel) (by decide +kernel)
theorem k_729 : Cond.methodLink "RollCallsLaw" 80 ⟨"RollCalls", "count", "(I)I"⟩ ∈ zT := zT_of 770 (by decide +kernel) (by decide +kernel)
theorem k_730 : Cond.instanceMethod ⟨"RollCalls", "count", "(I)I"⟩ ∈ zT := zT_of 771 (by decide +kernel) (by decide +kernel)
theorem k_731 : Cond.selects "RollCalls" ⟨"RollCalls", "count", "(I)I"⟩ ⟨"RollCalls", "count", "(I)I"⟩ ∈ zT := zT_of 772 (by decide +kernel) (by decide +kernel)
theorem k_732 : Cond.code ⟨"RollCalls", "count", "(I)I"⟩ prog_1_method_44_code 2 (some FieldType.int) ∈ zT := zT_of 773 (by decide +kernel) (by decide +kernel)
theorem k_733 : Cond.methodLink "RollCalls" 335 ⟨"RollCalls", "personsInside", "()I"⟩ ∈ zT := zT_of 774 (by decide +kernel) (by decide +kernel)
theorem k_735 : Cond.instanceMethod ⟨"RollCalls", "personsInside", "()I"⟩ ∈ zT := zT_of 776 (by decide +kernel) (by decide +kernel)
theorem k_736 : Cond.code ⟨"RollCalls", "personsInside", "()I"⟩ prog_1_method_10_code 3 (some FieldType.int) ∈ zT := zT_of 777 (by decide +kernel) (by decide +kernel)
theorem k_737 : Cond.methodLink "RollCalls" 338 ⟨"RollCalls", "rollsOn", "()I"⟩ ∈ zT := zT_of 778 (by decide +kernel) (by decide +kernel)
theorem k_739 : Cond.instanceMethod ⟨"RollCalls", "rollsOn", "()I"⟩ ∈ zT := zT_of 780 (by decide +kernel) (by decide +kernel)
theorem k_740 : Cond.code ⟨"RollCalls", "rollsOn", "()I"⟩ prog_1_method_26_code 3 (some FieldType.int) ∈ zT := zT_of 781 (by decide +kernel) (by decide +kernel)
theorem k_741 : Cond.classLink "RollCallsLaw" 84 "RollCallsModel" ∈ zT := zT_of 782 (by decide +kernel) (by decide +kernel)
theorem k_742 : Cond.instantiable "RollCallsModel" 29 ∈ zT := zT_of 783 (by decide +kernel) (by decide +kernel)
theorem k_743 : Cond.methodLink "RollCallsLaw" 86 ⟨"RollCallsModel", "<init>", "()V"⟩ ∈ zT := zT_of 784 (by decide +kernel) (by decide +kernel)
theorem k_744 : Cond.instanceMethod ⟨"RollCallsModel", "<init>", "()V"⟩ ∈ zT := zT_of 785 (by decide +kernel) (by decide +kernel)
theorem k_745 : Cond.code ⟨"RollCallsModel", "<init>", "()V"⟩ prog_9_method_1_code 1 none ∈ zT := zT_of 786 (by decide +kernel) (by decide +kernel)
theorem k_746 : Cond.methodLink "RollCallsModel" 1 ⟨"java/lang/Object", "<init>", "()V"⟩ ∈ zT := zT_of 787 (by decide +kernel) (by decide +kernel)
theorem k_747 : Cond.fieldLink "RollCallsModel" 74 "RollCallsModel" "thrown" "I" ∈ zT := zT_of 788 (by decide +kernel) (by decide +kernel)
theorem k_748 : Cond.fieldLink "RollCallsModel" 91 "RollCallsModel" "now" "I" ∈ zT := zT_of 789 (by decide +kernel) (by decide +kernel)
theorem k_749 : Cond.fieldLink "RollCallsModel" 78 "RollCallsModel" "persons" "I" ∈ zT := zT_of 790 (by decide +kernel) (by decide +kernel)
theorem k_750 : Cond.fieldLink "RollCallsModel" 7 "RollCallsModel" "guests" "[I" ∈ zT := zT_of 791 (by decide +kernel) (by decide +kernel)
theorem k_751 : Cond.fieldLink "RollCallsModel" 88 "RollCallsModel" "moves" "I" ∈ zT := zT_of 792 (by decide +kernel) (by decide +kernel)
theorem k_752 : Cond.fieldLink "RollCallsModel" 13 "RollCallsModel" "mover" "[I" ∈ zT := zT_of 793 (by decide +kernel) (by decide +kernel)
theorem k_753 : Cond.fieldLink "RollCallsModel" 16 "RollCallsModel" "moveTo" "[I" ∈ zT := zT_of 794 (by decide +kernel) (by decide +kernel)
theorem k_754 : Cond.fieldLink "RollCallsModel" 19 "RollCallsModel" "moveAt" "[I" ∈ zT := zT_of 795 (by decide +kernel) (by decide +kernel)
theorem k_755 : Cond.fieldLink "RollCallsModel" 85 "RollCallsModel" "rolls" "I" ∈ zT := zT_of 796 (by decide +kernel) (by decide +kernel)
theorem k_756 : Cond.fieldLink "RollCallsModel" 22 "RollCallsModel" "rollOf" "[I" ∈ zT := zT_of 797 (by decide +kernel) (by decide +kernel)
theorem k_757 : Cond.fieldLink "RollCallsModel" 25 "RollCallsModel" "round" "[I" ∈ zT := zT_of 798 (by decide +kernel) (by decide +kernel)
theorem k_758 : Cond.fieldLink "RollCallsModel" 28 "RollCallsModel" "firstMove" "[I" ∈ zT := zT_of 799 (by decide +kernel) (by decide +kernel)
theorem k_759 : Cond.fieldLink "RollCallsModel" 31 "RollCallsModel" "guestsAsked" "[I" ∈ zT := zT_of 800 (by decide +kernel) (by decide +kernel)
theorem k_760 : Cond.fieldLink "RollCallsModel" 34 "RollCallsModel" "guestsSeen" "[I" ∈ zT := zT_of 801 (by decide +kernel) (by decide +kernel)
theorem k_761 : Cond.fieldLink "RollCallsModel" 37 "RollCallsModel" "strangers" "[I" ∈ zT := zT_of 802 (by decide +kernel) (by decide +kernel)
theorem k_762 : Cond.fieldLink "RollCallsModel" 40 "RollCallsModel" "asked" "[Z" ∈ zT := zT_of 803 (by decide +kernel) (by decide +kernel)
theorem k_763 : Cond.fieldLink "RollCallsModel" 44 "RollCallsModel" "counted" "[I" ∈ zT := zT_of 804 (by decide +kernel) (by decide +kernel)
theorem k_764 : Cond.fieldLink "RollCallsModel" 47 "RollCallsModel" "missing" "[Z" ∈ zT := zT_of 805 (by decide +kernel) (by decide +kernel)
theorem k_765 : Cond.fieldLink "RollCallsModel" 126 "RollCallsModel" "doubles" "I" ∈ zT := zT_of 806 (by decide +kernel) (by decide +kernel)
theorem k_766 : Cond.fieldLink "RollCallsModel" 50 "RollCallsModel" "twice" "[I" ∈ zT := zT_of 807 (by decide +kernel) (by decide +kernel)
theorem k_767 : Cond.fieldLink "RollCallsModel" 116 "RollCallsModel" "maydays" "I" ∈ zT := zT_of 808 (by decide +kernel) (by decide +kernel)
theorem k_768 : Cond.fieldLink "RollCallsModel" 53 "RollCallsModel" "isOpen" "[Z" ∈ zT := zT_of 809 (by decide +kernel) (by decide +kernel)
theorem k_769 : Cond.fieldLink "RollCallsModel" 56 "RollCallsModel" "team" "[I" ∈ zT := zT_of 810 (by decide +kernel) (by decide +kernel)
theorem k_770 : Cond.fieldLink "RollCallsModel" 59 "RollCallsModel" "who" "[I" ∈ zT := zT_of 811 (by decide +kernel) (by decide +kernel)
theorem k_771 : Cond.fieldLink "RollCallsModel" 62 "RollCallsModel" "place" "[I" ∈ zT := zT_of 812 (by decide +kernel) (by decide +kernel)
theorem k_772 : Cond.fieldLink "RollCallsModel" 65 "RollCallsModel" "told" "[I" ∈ zT := zT_of 813 (by decide +kernel) (by decide +kernel)
theorem k_773 : Cond.fieldLink "RollCallsModel" 145 "RollCallsModel" "evacuations" "I" ∈ zT := zT_of 814 (by decide +kernel) (by decide +kernel)
theorem k_774 : Cond.fieldLink "RollCallsModel" 68 "RollCallsModel" "until" "[I" ∈ zT := zT_of 815 (by decide +kernel) (by decide +kernel)
theorem k_775 : Cond.fieldLink "RollCallsModel" 71 "RollCallsModel" "confirmed" "[I" ∈ zT := zT_of 816 (by decide +kernel) (by decide +kernel)
theorem k_776 : Cond.lays "RollCallsModel" "RollCallsModel" "thrown" "I" ∈ zT := zT_of 817 (by decide +kernel) (by decide +kernel)
theorem k_778 : Cond.lays "RollCallsModel" "RollCallsModel" "now" "I" ∈ zT := zT_of 819 (by decide +kernel) (by decide +kernel)
theorem k_780 : Cond.lays "RollCallsModel" "RollCallsModel" "persons" "I" ∈ zT := zT_of 821 (by decide +kernel) (by decide +kernel)
theorem k_782 : Cond.laysFinal "RollCallsModel" "RollCallsModel" "guests" "[I" ∈ zT := zT_of 823 (by decide +kernel) (by decide +kernel)
theorem k_784 : Cond.lays "RollCallsModel" "RollCallsModel" "moves" "I" ∈ zT := zT_of 825 (by decide +kernel) (by decide +kernel)
theorem k_786 : Cond.laysFinal "RollCallsModel" "RollCallsModel" "mover" "[I" ∈ zT := zT_of 827 (by decide +kernel) (by decide +kernel)
theorem k_788 : Cond.laysFinal "RollCallsModel" "RollCallsModel" "moveTo" "[I" ∈ zT := zT_of 829 (by decide +kernel) (by decide +kernel)
theorem k_790 : Cond.laysFinal "RollCallsModel" "RollCallsModel" "moveAt" "[I" ∈ zT := zT_of 831 (by decide +kernel) (by decide +kernel)
theorem k_792 : Cond.lays "RollCallsModel" "RollCallsModel" "rolls" "I" ∈ zT := zT_of 833 (by decide +kernel) (by decide +kernel)
theorem k_794 : Cond.laysFinal "RollCallsModel" "RollCallsModel" "rollOf" "[I" ∈ zT := zT_of 835 (by decide +kernel) (by decide +kernel)
theorem k_796 : Cond.laysFinal "RollCallsModel" "RollCallsModel" "round" "[I" ∈ zT := zT_of 837 (by decide +kernel) (by decide +kernel)
theorem k_798 : Cond.laysFinal "RollCallsModel" "RollCallsModel" "firstMove" "[I" ∈ zT := zT_of 839 (by decide +kernel) (by decide +kernel)
theorem k_800 : Cond.laysFinal "RollCallsModel" "RollCallsModel" "guestsAsked" "[I" ∈ zT := zT_of 841 (by decide +kernel) (by decide +kernel)
theorem k_802 : Cond.laysFinal "RollCallsModel" "RollCallsModel" "guestsSeen" "[I" ∈ zT := zT_of 843 (by decide +kernel) (by decide +kernel)
theorem k_804 : Cond.laysFinal "RollCallsModel" "RollCallsModel" "strangers" "[I" ∈ zT := zT_of 845 (by decide +kernel) (by decide +kernel)
theorem k_806 : Cond.laysFinal "RollCallsModel" "RollCallsModel" "asked" "[Z" ∈ zT := zT_of 847 (by decide +kernel) (by decide +kernel)
theorem k_808 : Cond.laysFinal "RollCallsModel" "RollCallsModel" "counted" "[I" ∈ zT := zT_of 849 (by decide +kernel) (by decide +kernel)
theorem k_810 : Cond.laysFinal "RollCallsModel" "RollCallsModel" "missing" "[Z" ∈ zT := zT_of 851 (by decide +kernel) (by decide +kernel)
theorem k_812 : Cond.lays "RollCallsModel" "RollCallsModel" "doubles" "I" ∈ zT := zT_of 853 (by decide +kernel) (by decide +kernel)
theorem k_814 : Cond.laysFinal "RollCallsModel" "RollCallsModel" "twice" "[I" ∈ zT := zT_of 855 (by decide +kernel) (by decide +kernel)
theorem k_816 : Cond.lays "RollCallsModel" "RollCallsModel" "maydays" "I" ∈ zT := zT_of 857 (by decide +kernel) (by decide +kernel)
theorem k_818 : Cond.laysFinal "RollCallsModel" "RollCallsModel" "isOpen" "[Z" ∈ zT := zT_of 859 (by decide +kernel) (by decide +kernel)
theorem k_820 : Cond.laysFinal "RollCallsModel" "RollCallsModel" "team" "[I" ∈ zT := zT_of 861 (by decide +kernel) (by decide +kernel)
theorem k_822 : Cond.laysFinal "RollCallsModel" "RollCallsModel" "who" "[I" ∈ zT := zT_of 863 (by decide +kernel) (by decide +kernel)
theorem k_824 : Cond.laysFinal "RollCallsModel" "RollCallsModel" "place" "[I" ∈ zT := zT_of 865 (by decide +kernel) (by decide +kernel)
theorem k_826 : Cond.laysFinal "RollCallsModel" "RollCallsModel" "told" "[I" ∈ zT := zT_of 867 (by decide +kernel) (by decide +kernel)
theorem k_828 : Cond.lays "RollCallsModel" "RollCallsModel" "evacuations" "I" ∈ zT := zT_of 869 (by decide +kernel) (by decide +kernel)
theorem k_830 : Cond.laysFinal "RollCallsModel" "RollCallsModel" "until" "[I" ∈ zT := zT_of 871 (by decide +kernel) (by decide +kernel)
theorem k_832 : Cond.laysFinal "RollCallsModel" "RollCallsModel" "confirmed" "[I" ∈ zT := zT_of 873 (by decide +kernel) (by decide +kernel)
theorem k_835 : Cond.methodLink "RollCallsLaw" 93 ⟨"RollCallsModel", "thrown", "()I"⟩ ∈ zT := zT_of 876 (by decide +kernel) (by decide +kernel)
theorem k_836 : Cond.instanceMethod ⟨"RollCallsModel", "thrown", "()I"⟩ ∈ zT := zT_of 877 (by decide +kernel) (by decide +kernel)
theorem k_837 : Cond.selects "RollCallsModel" ⟨"RollCallsModel", "thrown", "()I"⟩ ⟨"RollCallsModel", "thrown", "()I"⟩ ∈ zT := zT_of 878 (by decide +kernel) (by decide +kernel)
theorem k_838 : Cond.code ⟨"RollCallsModel", "thrown", "()I"⟩ prog_9_method_2_code 1 (some FieldType.int) ∈ zT := zT_of 879 (by decide +kernel) (by decide +kernel)
theorem k_839 : Cond.methodLink "RollCallsLaw" 92 ⟨"RollCallsModel", "person", "()I"⟩ ∈ zT := zT_of 880 (by decide +kernel) (by decide +kernel)
theorem k_840 : Cond.instanceMethod ⟨"RollCallsModel", "person", "()I"⟩ ∈ zT := zT_of 881 (by decide +kernel) (by decide +kernel)
theorem k_841 : Cond.selects "RollCallsModel" ⟨"RollCallsModel", "person", "()I"⟩ ⟨"RollCallsModel", "person", "()I"⟩ ∈ zT := zT_of 882 (by decide +kernel) (by decide +kernel)
theorem k_842 : Cond.code ⟨"RollCallsModel", "person", "()I"⟩ prog_9_method_10_code 1 (some FieldType.int) ∈ zT := zT_of 883 (by decide +kernel) (by decide +kernel)
theorem k_843 : Cond.methodLink "RollCallsModel" 98 ⟨"RollCallsModel", "goes", "(IZZZZ)Z"⟩ ∈ zT := zT_of 884 (by decide +kernel) (by decide +kernel)
theorem k_845 : Cond.instanceMethod ⟨"RollCallsModel", "goes", "(IZZZZ)Z"⟩ ∈ zT := zT_of 886 (by decide +kernel) (by decide +kernel)
theorem k_846 : Cond.code ⟨"RollCallsModel", "goes", "(IZZZZ)Z"⟩ prog_9_method_4_code 8 (some FieldType.boolean) ∈ zT := zT_of 887 (by decide +kernel) (by decide +kernel)
theorem k_847 : Cond.methodLink "RollCallsLaw" 99 ⟨"RollCallsModel", "enter", "(II)V"⟩ ∈ zT := zT_of 888 (by decide +kernel) (by decide +kernel)
theorem k_848 : Cond.instanceMethod ⟨"RollCallsModel", "enter", "(II)V"⟩ ∈ zT := zT_of 889 (by decide +kernel) (by decide +kernel)
theorem k_849 : Cond.selects "RollCallsModel" ⟨"RollCallsModel", "enter", "(II)V"⟩ ⟨"RollCallsModel", "enter", "(II)V"⟩ ∈ zT := zT_of 890 (by decide +kernel) (by decide +kernel)
theorem k_850 : Cond.code ⟨"RollCallsModel", "enter", "(II)V"⟩ prog_9_method_12_code 4 none ∈ zT := zT_of 891 (by decide +kernel) (by decide +kernel)
theorem k_851 : Cond.methodLink "RollCallsModel" 102 ⟨"RollCallsModel", "isPerson", "(I)Z"⟩ ∈ zT := zT_of 892 (by decide +kernel) (by decide +kernel)
theorem k_853 : Cond.instanceMethod ⟨"RollCallsModel", "isPerson", "(I)Z"⟩ ∈ zT := zT_of 894 (by decide +kernel) (by decide +kernel)
theorem k_854 : Cond.code ⟨"RollCallsModel", "isPerson", "(I)Z"⟩ prog_9_method_5_code 2 (some FieldType.boolean) ∈ zT := zT_of 895 (by decide +kernel) (by decide +kernel)
theorem k_855 : Cond.methodLink "RollCallsModel" 81 ⟨"RollCallsModel", "in", "(III)Z"⟩ ∈ zT := zT_of 896 (by decide +kernel) (by decide +kernel)
theorem k_856 : Cond.static ⟨"RollCallsModel", "in", "(III)Z"⟩ ∈ zT := zT_of 897 (by decide +kernel) (by decide +kernel)
theorem k_857 : Cond.code ⟨"RollCallsModel", "in", "(III)Z"⟩ prog_9_method_3_code 3 (some FieldType.boolean) ∈ zT := zT_of 898 (by decide +kernel) (by decide +kernel)
theorem k_858 : Cond.methodLink "RollCallsModel" 106 ⟨"RollCallsModel", "isSector", "(I)Z"⟩ ∈ zT := zT_of 899 (by decide +kernel) (by decide +kernel)
theorem k_859 : Cond.static ⟨"RollCallsModel", "isSector", "(I)Z"⟩ ∈ zT := zT_of 900 (by decide +kernel) (by decide +kernel)
theorem k_860 : Cond.code ⟨"RollCallsModel", "isSector", "(I)Z"⟩ prog_9_method_6_code 1 (some FieldType.boolean) ∈ zT := zT_of 901 (by decide +kernel) (by decide +kernel)
theorem k_861 : Cond.methodLink "RollCallsModel" 109 ⟨"RollCallsModel", "here", "(I)I"⟩ ∈ zT := zT_of 902 (by decide +kernel) (by decide +kernel)
theorem k_863 : Cond.instanceMethod ⟨"RollCallsModel", "here", "(I)I"⟩ ∈ zT := zT_of 904 (by decide +kernel) (by decide +kernel)
theorem k_864 : Cond.code ⟨"RollCallsModel", "here", "(I)I"⟩ prog_9_method_9_code 2 (some FieldType.int) ∈ zT := zT_of 905 (by decide +kernel) (by decide +kernel)
theorem k_865 : Cond.methodLink "RollCallsModel" 94 ⟨"RollCallsModel", "at", "(II)I"⟩ ∈ zT := zT_of 906 (by decide +kernel) (by decide +kernel)
theorem k_867 : Cond.instanceMethod ⟨"RollCallsModel", "at", "(II)I"⟩ ∈ zT := zT_of 908 (by decide +kernel) (by decide +kernel)
theorem k_868 : Cond.code ⟨"RollCallsModel", "at", "(II)I"⟩ prog_9_method_8_code 5 (some FieldType.int) ∈ zT := zT_of 909 (by decide +kernel) (by decide +kernel)
theorem k_869 : Cond.methodLink "RollCallsModel" 113 ⟨"RollCallsModel", "moves", "(II)V"⟩ ∈ zT := zT_of 910 (by decide +kernel) (by decide +kernel)
theorem k_871 : Cond.instanceMethod ⟨"RollCallsModel", "moves", "(II)V"⟩ ∈ zT := zT_of 912 (by decide +kernel) (by decide +kernel)
theorem k_872 : Cond.code ⟨"RollCallsModel", "moves", "(II)V"⟩ prog_9_method_11_code 3 none ∈ zT := zT_of 913 (by decide +kernel) (by decide +kernel)
theorem k_873 : Cond.methodLink "RollCallsLaw" 103 ⟨"RollCallsModel", "leave", "(I)V"⟩ ∈ zT := zT_of 914 (by decide +kernel) (by decide +kernel)
theorem k_874 : Cond.instanceMethod ⟨"RollCallsModel", "leave", "(I)V"⟩ ∈ zT := zT_of 915 (by decide +kernel) (by decide +kernel)
theorem k_875 : Cond.selects "RollCallsModel" ⟨"RollCallsModel", "leave", "(I)V"⟩ ⟨"RollCallsModel", "leave", "(I)V"⟩ ∈ zT := zT_of 916 (by decide +kernel) (by decide +kernel)
theorem k_876 : Cond.code ⟨"RollCallsModel", "leave", "(I)V"⟩ prog_9_method_13_code 2 none ∈ zT := zT_of 917 (by decide +kernel) (by decide +kernel)
theorem k_877 : Cond.methodLink "RollCallsLaw" 106 ⟨"RollCallsModel", "guests", "(II)V"⟩ ∈ zT := zT_of 918 (by decide +kernel) (by decide +kernel)
theorem k_878 : Cond.instanceMethod ⟨"RollCallsModel", "guests", "(II)V"⟩ ∈ zT := zT_of 919 (by decide +kernel) (by decide +kernel)
theorem k_879 : Cond.selects "RollCallsModel" ⟨"RollCallsModel", "guests", "(II)V"⟩ ⟨"RollCallsModel", "guests", "(II)V"⟩ ∈ zT := zT_of 920 (by decide +kernel) (by decide +kernel)
theorem k_880 : Cond.code ⟨"RollCallsModel", "guests", "(II)V"⟩ prog_9_method_14_code 3 none ∈ zT := zT_of 921 (by decide +kernel) (by decide +kernel)
theorem k_881 : Cond.methodLink "RollCallsLaw" 110 ⟨"RollCallsModel", "roll", "(I)I"⟩ ∈ zT := zT_of 922 (by decide +kernel) (by decide +kernel)
theorem k_882 : Cond.instanceMethod ⟨"RollCallsModel", "roll", "(I)I"⟩ ∈ zT := zT_of 923 (by decide +kernel) (by decide +kernel)
theorem k_883 : Cond.selects "RollCallsModel" ⟨"RollCallsModel", "roll", "(I)I"⟩ ⟨"RollCallsModel", "roll", "(I)I"⟩ ∈ zT := zT_of 924 (by decide +kernel) (by decide +kernel)
theorem k_884 : Cond.code ⟨"RollCallsModel", "roll", "(I)I"⟩ prog_9_method_16_code 7 (some FieldType.int) ∈ zT := zT_of 925 (by decide +kernel) (by decide +kernel)
theorem k_885 : Cond.methodLink "RollCallsModel" 119 ⟨"RollCallsModel", "openMaydays", "()I"⟩ ∈ zT := zT_of 926 (by decide +kernel) (by decide +kernel)
theorem k_887 : Cond.instanceMethod ⟨"RollCallsModel", "openMaydays", "()I"⟩ ∈ zT := zT_of 928 (by decide +kernel) (by decide +kernel)
theorem k_888 : Cond.code ⟨"RollCallsModel", "openMaydays", "()I"⟩ prog_9_method_15_code 3 (some FieldType.int) ∈ zT := zT_of 929 (by decide +kernel) (by decide +kernel)
theorem k_889 : Cond.methodLink "RollCallsLaw" 114 ⟨"RollCallsModel", "answer", "(III)I"⟩ ∈ zT := zT_of 930 (by decide +kernel) (by decide +kernel)
theorem k_890 : Cond.instanceMethod ⟨"RollCallsModel", "answer", "(III)I"⟩ ∈ zT := zT_of 931 (by decide +kernel) (by decide +kernel)
theorem k_891 : Cond.selects "RollCallsModel" ⟨"RollCallsModel", "answer", "(III)I"⟩ ⟨"RollCallsModel", "answer", "(III)I"⟩ ∈ zT := zT_of 932 (by decide +kernel) (by decide +kernel)
theorem k_892 : Cond.code ⟨"RollCallsModel", "answer", "(III)I"⟩ prog_9_method_17_code 7 (some FieldType.int) ∈ zT := zT_of 933 (by decide +kernel) (by decide +kernel)
theorem k_893 : Cond.methodLink "RollCallsModel" 123 ⟨"RollCallsModel", "isRoll", "(I)Z"⟩ ∈ zT := zT_of 934 (by decide +kernel) (by decide +kernel)
theorem k_895 : Cond.instanceMethod ⟨"RollCallsModel", "isRoll", "(I)Z"⟩ ∈ zT := zT_of 936 (by decide +kernel) (by decide +kernel)
theorem k_896 : Cond.code ⟨"RollCallsModel", "isRoll", "(I)Z"⟩ prog_9_method_7_code 2 (some FieldType.boolean) ∈ zT := zT_of 937 (by decide +kernel) (by decide +kernel)
theorem k_897 : Cond.methodLink "RollCallsLaw" 118 ⟨"RollCallsModel", "seen", "(II)I"⟩ ∈ zT := zT_of 938 (by decide +kernel) (by decide +kernel)
theorem k_898 : Cond.instanceMethod ⟨"RollCallsModel", "seen", "(II)I"⟩ ∈ zT := zT_of 939 (by decide +kernel) (by decide +kernel)
theorem k_899 : Cond.selects "RollCallsModel" ⟨"RollCallsModel", "seen", "(II)I"⟩ ⟨"RollCallsModel", "seen", "(II)I"⟩ ∈ zT := zT_of 940 (by decide +kernel) (by decide +kernel)
theorem k_900 : Cond.code ⟨"RollCallsModel", "seen", "(II)I"⟩ prog_9_method_18_code 4 (some FieldType.int) ∈ zT := zT_of 941 (by decide +kernel) (by decide +kernel)
theorem k_901 : Cond.methodLink "RollCallsLaw" 121 ⟨"RollCallsModel", "round", "(I)I"⟩ ∈ zT := zT_of 942 (by decide +kernel) (by decide +kernel)
theorem k_902 : Cond.instanceMethod ⟨"RollCallsModel", "round", "(I)I"⟩ ∈ zT := zT_of 943 (by decide +kernel) (by decide +kernel)
theorem k_903 : Cond.selects "RollCallsModel" ⟨"RollCallsModel", "round", "(I)I"⟩ ⟨"RollCallsModel", "round", "(I)I"⟩ ∈ zT := zT_of 944 (by decide +kernel) (by decide +kernel)
theorem k_904 : Cond.code ⟨"RollCallsModel", "round", "(I)I"⟩ prog_9_method_22_code 5 (some FieldType.int) ∈ zT := zT_of 945 (by decide +kernel) (by decide +kernel)
theorem k_905 : Cond.methodLink "RollCallsModel" 136 ⟨"RollCallsModel", "open", "(I)I"⟩ ∈ zT := zT_of 946 (by decide +kernel) (by decide +kernel)
theorem k_907 : Cond.instanceMethod ⟨"RollCallsModel", "open", "(I)I"⟩ ∈ zT := zT_of 948 (by decide +kernel) (by decide +kernel)
theorem k_908 : Cond.code ⟨"RollCallsModel", "open", "(I)I"⟩ prog_9_method_21_code 4 (some FieldType.int) ∈ zT := zT_of 949 (by decide +kernel) (by decide +kernel)
theorem k_909 : Cond.methodLink "RollCallsModel" 133 ⟨"RollCallsModel", "isStill", "(II)Z"⟩ ∈ zT := zT_of 950 (by decide +kernel) (by decide +kernel)
theorem k_911 : Cond.instanceMethod ⟨"RollCallsModel", "isStill", "(II)Z"⟩ ∈ zT := zT_of 952 (by decide +kernel) (by decide +kernel)
theorem k_912 : Cond.code ⟨"RollCallsModel", "isStill", "(II)Z"⟩ prog_9_method_20_code 3 (some FieldType.boolean) ∈ zT := zT_of 953 (by decide +kernel) (by decide +kernel)
theorem k_913 : Cond.methodLink "RollCallsModel" 129 ⟨"RollCallsModel", "cameOut", "(II)Z"⟩ ∈ zT := zT_of 954 (by decide +kernel) (by decide +kernel)
theorem k_915 : Cond.instanceMethod ⟨"RollCallsModel", "cameOut", "(II)Z"⟩ ∈ zT := zT_of 956 (by decide +kernel) (by decide +kernel)
theorem k_916 : Cond.code ⟨"RollCallsModel", "cameOut", "(II)Z"⟩ prog_9_method_19_code 4 (some FieldType.boolean) ∈ zT := zT_of 957 (by decide +kernel) (by decide +kernel)
theorem k_917 : Cond.methodLink "RollCallsLaw" 124 ⟨"RollCallsModel", "rollAt", "(II)I"⟩ ∈ zT := zT_of 958 (by decide +kernel) (by decide +kernel)
theorem k_918 : Cond.instanceMethod ⟨"RollCallsModel", "rollAt", "(II)I"⟩ ∈ zT := zT_of 959 (by decide +kernel) (by decide +kernel)
theorem k_919 : Cond.selects "RollCallsModel" ⟨"RollCallsModel", "rollAt", "(II)I"⟩ ⟨"RollCallsModel", "rollAt", "(II)I"⟩ ∈ zT := zT_of 960 (by decide +kernel) (by decide +kernel)
theorem k_920 : Cond.code ⟨"RollCallsModel", "rollAt", "(II)I"⟩ prog_9_method_23_code 6 (some FieldType.int) ∈ zT := zT_of 961 (by decide +kernel) (by decide +kernel)
theorem k_921 : Cond.methodLink "RollCallsLaw" 127 ⟨"RollCallsModel", "missing", "(II)I"⟩ ∈ zT := zT_of 962 (by decide +kernel) (by decide +kernel)
theorem k_922 : Cond.instanceMethod ⟨"RollCallsModel", "missing", "(II)I"⟩ ∈ zT := zT_of 963 (by decide +kernel) (by decide +kernel)
theorem k_923 : Cond.selects "RollCallsModel" ⟨"RollCallsModel", "missing", "(II)I"⟩ ⟨"RollCallsModel", "missing", "(II)I"⟩ ∈ zT := zT_of 964 (by decide +kernel) (by decide +kernel)
theorem k_924 : Cond.code ⟨"RollCallsModel", "missing", "(II)I"⟩ prog_9_method_25_code 6 (some FieldType.int) ∈ zT := zT_of 965 (by decide +kernel) (by decide +kernel)
theorem k_925 : Cond.methodLink "RollCallsModel" 139 ⟨"RollCallsModel", "isFound", "(II)Z"⟩ ∈ zT := zT_of 966 (by decide +kernel) (by decide +kernel)
theorem k_927 : Cond.instanceMethod ⟨"RollCallsModel", "isFound", "(II)Z"⟩ ∈ zT := zT_of 968 (by decide +kernel) (by decide +kernel)
theorem k_928 : Cond.code ⟨"RollCallsModel", "isFound", "(II)Z"⟩ prog_9_method_24_code 4 (some FieldType.boolean) ∈ zT := zT_of 969 (by decide +kernel) (by decide +kernel)
theorem k_929 : Cond.methodLink "RollCallsLaw" 130 ⟨"RollCallsModel", "twice", "(II)I"⟩ ∈ zT := zT_of 970 (by decide +kernel) (by decide +kernel)
theorem k_930 : Cond.instanceMethod ⟨"RollCallsModel", "twice", "(II)I"⟩ ∈ zT := zT_of 971 (by decide +kernel) (by decide +kernel)
theorem k_931 : Cond.selects "RollCallsModel" ⟨"RollCallsModel", "twice", "(II)I"⟩ ⟨"RollCallsModel", "twice", "(II)I"⟩ ∈ zT := zT_of 972 (by decide +kernel) (by decide +kernel)
theorem k_932 : Cond.code ⟨"RollCallsModel", "twice", "(II)I"⟩ prog_9_method_26_code 3 (some FieldType.int) ∈ zT := zT_of 973 (by decide +kernel) (by decide +kernel)
theorem k_933 : Cond.methodLink "RollCallsLaw" 133 ⟨"RollCallsModel", "mayday", "(II)I"⟩ ∈ zT := zT_of 974 (by decide +kernel) (by decide +kernel)
theorem k_934 : Cond.instanceMethod ⟨"RollCallsModel", "mayday", "(II)I"⟩ ∈ zT := zT_of 975 (by decide +kernel) (by decide +kernel)
theorem k_935 : Cond.selects "RollCallsModel" ⟨"RollCallsModel", "mayday", "(II)I"⟩ ⟨"RollCallsModel", "mayday", "(II)I"⟩ ∈ zT := zT_of 976 (by decide +kernel) (by decide +kernel)
theorem k_936 : Cond.code ⟨"RollCallsModel", "mayday", "(II)I"⟩ prog_9_method_28_code 5 (some FieldType.int) ∈ zT := zT_of 977 (by decide +kernel) (by decide +kernel)
theorem k_937 : Cond.methodLink "RollCallsModel" 142 ⟨"RollCallsModel", "serve", "()V"⟩ ∈ zT := zT_of 978 (by decide +kernel) (by decide +kernel)
theorem k_939 : Cond.instanceMethod ⟨"RollCallsModel", "serve", "()V"⟩ ∈ zT := zT_of 980 (by decide +kernel) (by decide +kernel)
theorem k_940 : Cond.code ⟨"RollCallsModel", "serve", "()V"⟩ prog_9_method_27_code 5 none ∈ zT := zT_of 981 (by decide +kernel) (by decide +kernel)
theorem k_941 : Cond.methodLink "RollCallsLaw" 136 ⟨"RollCallsModel", "answered", "(I)V"⟩ ∈ zT := zT_of 982 (by decide +kernel) (by decide +kernel)
theorem k_942 : Cond.instanceMethod ⟨"RollCallsModel", "answered", "(I)V"⟩ ∈ zT := zT_of 983 (by decide +kernel) (by decide +kernel)
theorem k_943 : Cond.selects "RollCallsModel" ⟨"RollCallsModel", "answered", "(I)V"⟩ ⟨"RollCallsModel", "answered", "(I)V"⟩ ∈ zT := zT_of 984 (by decide +kernel) (by decide +kernel)
theorem k_944 : Cond.code ⟨"RollCallsModel", "answered", "(I)V"⟩ prog_9_method_29_code 3 none ∈ zT := zT_of 985 (by decide +kernel) (by decide +kernel)
theorem k_945 : Cond.methodLink "RollCallsLaw" 139 ⟨"RollCallsModel", "maydayAt", "(II)I"⟩ ∈ zT := zT_of 986 (by decide +kernel) (by decide +kernel)
theorem k_946 : Cond.instanceMethod ⟨"RollCallsModel", "maydayAt", "(II)I"⟩ ∈ zT := zT_of 987 (by decide +kernel) (by decide +kernel)
theorem k_947 : Cond.selects "RollCallsModel" ⟨"RollCallsModel", "maydayAt", "(II)I"⟩ ⟨"RollCallsModel", "maydayAt", "(II)I"⟩ ∈ zT := zT_of 988 (by decide +kernel) (by decide +kernel)
theorem k_948 : Cond.code ⟨"RollCallsModel", "maydayAt", "(II)I"⟩ prog_9_method_30_code 3 (some FieldType.int) ∈ zT := zT_of 989 (by decide +kernel) (by decide +kernel)
theorem k_949 : Cond.methodLink "RollCallsLaw" 142 ⟨"RollCallsModel", "evacuate", "(I)I"⟩ ∈ zT := zT_of 990 (by decide +kernel) (by decide +kernel)
theorem k_950 : Cond.instanceMethod ⟨"RollCallsModel", "evacuate", "(I)I"⟩ ∈ zT := zT_of 991 (by decide +kernel) (by decide +kernel)
theorem k_951 : Cond.selects "RollCallsModel" ⟨"RollCallsModel", "evacuate", "(I)I"⟩ ⟨"RollCallsModel", "evacuate", "(I)I"⟩ ∈ zT := zT_of 992 (by decide +kernel) (by decide +kernel)
theorem k_952 : Cond.code ⟨"RollCallsModel", "evacuate", "(I)I"⟩ prog_9_method_34_code 4 (some FieldType.int) ∈ zT := zT_of 993 (by decide +kernel) (by decide +kernel)
theorem k_953 : Cond.methodLink "RollCallsModel" 151 ⟨"RollCallsModel", "isFull", "(I)Z"⟩ ∈ zT := zT_of 994 (by decide +kernel) (by decide +kernel)
theorem k_955 : Cond.instanceMethod ⟨"RollCallsModel", "isFull", "(I)Z"⟩ ∈ zT := zT_of 996 (by decide +kernel) (by decide +kernel)
theorem k_956 : Cond.code ⟨"RollCallsModel", "isFull", "(I)Z"⟩ prog_9_method_33_code 3 (some FieldType.boolean) ∈ zT := zT_of 997 (by decide +kernel) (by decide +kernel)
theorem k_957 : Cond.methodLink "RollCallsModel" 154 ⟨"RollCallsModel", "isOn", "()Z"⟩ ∈ zT := zT_of 998 (by decide +kernel) (by decide +kernel)
theorem k_959 : Cond.instanceMethod ⟨"RollCallsModel", "isOn", "()Z"⟩ ∈ zT := zT_of 1000 (by decide +kernel) (by decide +kernel)
theorem k_960 : Cond.code ⟨"RollCallsModel", "isOn", "()Z"⟩ prog_9_method_32_code 1 (some FieldType.boolean) ∈ zT := zT_of 1001 (by decide +kernel) (by decide +kernel)
theorem k_961 : Cond.methodLink "RollCallsModel" 148 ⟨"RollCallsModel", "left", "(I)I"⟩ ∈ zT := zT_of 1002 (by decide +kernel) (by decide +kernel)
theorem k_963 : Cond.instanceMethod ⟨"RollCallsModel", "left", "(I)I"⟩ ∈ zT := zT_of 1004 (by decide +kernel) (by decide +kernel)
theorem k_964 : Cond.code ⟨"RollCallsModel", "left", "(I)I"⟩ prog_9_method_31_code 4 (some FieldType.int) ∈ zT := zT_of 1005 (by decide +kernel) (by decide +kernel)
theorem k_965 : Cond.methodLink "RollCallsLaw" 145 ⟨"RollCallsModel", "confirm", "(I)I"⟩ ∈ zT := zT_of 1006 (by decide +kernel) (by decide +kernel)
theorem k_966 : Cond.instanceMethod ⟨"RollCallsModel", "confirm", "(I)I"⟩ ∈ zT := zT_of 1007 (by decide +kernel) (by decide +kernel)
theorem k_967 : Cond.selects "RollCallsModel" ⟨"RollCallsModel", "confirm", "(I)I"⟩ ⟨"RollCallsModel", "confirm", "(I)I"⟩ ∈ zT := zT_of 1008 (by decide +kernel) (by decide +kernel)
theorem k_968 : Cond.code ⟨"RollCallsModel", "confirm", "(I)I"⟩ prog_9_method_35_code 3 (some FieldType.int) ∈ zT := zT_of 1009 (by decide +kernel) (by decide +kernel)
theorem k_969 : Cond.methodLink "RollCallsLaw" 148 ⟨"RollCallsModel", "late", "(II)I"⟩ ∈ zT := zT_of 1010 (by decide +kernel) (by decide +kernel)
theorem k_970 : Cond.instanceMethod ⟨"RollCallsModel", "late", "(II)I"⟩ ∈ zT := zT_of 1011 (by decide +kernel) (by decide +kernel)
theorem k_971 : Cond.selects "RollCallsModel" ⟨"RollCallsModel", "late", "(II)I"⟩ ⟨"RollCallsModel", "late", "(II)I"⟩ ∈ zT := zT_of 1012 (by decide +kernel) (by decide +kernel)
theorem k_972 : Cond.code ⟨"RollCallsModel", "late", "(II)I"⟩ prog_9_method_37_code 5 (some FieldType.int) ∈ zT := zT_of 1013 (by decide +kernel) (by decide +kernel)
theorem k_973 : Cond.methodLink "RollCallsModel" 158 ⟨"RollCallsModel", "isLate", "(II)Z"⟩ ∈ zT := zT_of 1014 (by decide +kernel) (by decide +kernel)
theorem k_975 : Cond.instanceMethod ⟨"RollCallsModel", "isLate", "(II)Z"⟩ ∈ zT := zT_of 1016 (by decide +kernel) (by decide +kernel)
theorem k_976 : Cond.code ⟨"RollCallsModel", "isLate", "(II)Z"⟩ prog_9_method_36_code 4 (some FieldType.boolean) ∈ zT := zT_of 1017 (by decide +kernel) (by decide +kernel)
theorem k_977 : Cond.methodLink "RollCallsLaw" 151 ⟨"RollCallsModel", "tick", "(I)I"⟩ ∈ zT := zT_of 1018 (by decide +kernel) (by decide +kernel)
theorem k_978 : Cond.instanceMethod ⟨"RollCallsModel", "tick", "(I)I"⟩ ∈ zT := zT_of 1019 (by decide +kernel) (by decide +kernel)
theorem k_979 : Cond.selects "RollCallsModel" ⟨"RollCallsModel", "tick", "(I)I"⟩ ⟨"RollCallsModel", "tick", "(I)I"⟩ ∈ zT := zT_of 1020 (by decide +kernel) (by decide +kernel)
theorem k_980 : Cond.code ⟨"RollCallsModel", "tick", "(I)I"⟩ prog_9_method_38_code 4 (some FieldType.int) ∈ zT := zT_of 1021 (by decide +kernel) (by decide +kernel)
theorem k_981 : Cond.constant "RollCallsModel" 161 99999 ∈ zT := zT_of 1022 (by decide +kernel) (by decide +kernel)
theorem k_982 : Cond.methodLink "RollCallsLaw" 154 ⟨"RollCallsModel", "was", "(II)I"⟩ ∈ zT := zT_of 1023 (by decide +kernel) (by decide +kernel)
theorem k_983 : Cond.instanceMethod ⟨"RollCallsModel", "was", "(II)I"⟩ ∈ zT := zT_of 1024 (by decide +kernel) (by decide +kernel)
theorem k_984 : Cond.selects "RollCallsModel" ⟨"RollCallsModel", "was", "(II)I"⟩ ⟨"RollCallsModel", "was", "(II)I"⟩ ∈ zT := zT_of 1025 (by decide +kernel) (by decide +kernel)
theorem k_985 : Cond.code ⟨"RollCallsModel", "was", "(II)I"⟩ prog_9_method_39_code 3 (some FieldType.int) ∈ zT := zT_of 1026 (by decide +kernel) (by decide +kernel)
theorem k_986 : Cond.methodLink "RollCallsLaw" 157 ⟨"RollCallsModel", "count", "(I)I"⟩ ∈ zT := zT_of 1027 (by decide +kernel) (by decide +kernel)
theorem k_987 : Cond.instanceMethod ⟨"RollCallsModel", "count", "(I)I"⟩ ∈ zT := zT_of 1028 (by decide +kernel) (by decide +kernel)
theorem k_988 : Cond.selects "RollCallsModel" ⟨"RollCallsModel", "count", "(I)I"⟩ ⟨"RollCallsModel", "count", "(I)I"⟩ ∈ zT := zT_of 1029 (by decide +kernel) (by decide +kernel)
theorem k_989 : Cond.code ⟨"RollCallsModel", "count", "(I)I"⟩ prog_9_method_40_code 5 (some FieldType.int) ∈ zT := zT_of 1030 (by decide +kernel) (by decide +kernel)
theorem k_990 : Cond.arrayClass FieldType.long ∈ zT := zT_of 1031 (by decide +kernel) (by decide +kernel)
theorem k_999 : Cond.selects "[Ljava/lang/Object;" ⟨"java/lang/Object", "getClass", "()Ljava/lang/Class;"⟩ ⟨"java/lang/Object", "getClass", "()Ljava/lang/Class;"⟩ ∈ zT := zT_of 1040 (by decide +kernel) (by decide +kernel)
theorem ks_0 : Cond.selects "java/lang/Throwable" ⟨"java/lang/Throwable", "fillInStackTrace", "(I)Ljava/lang/Throwable;"⟩ ⟨"java/lang/Throwable", "fillInStackTrace", "(I)Ljava/lang/Throwable;"⟩ ∈ zT := zT_of 0 (by decide +kernel) (by decide +kernel)
theorem ks_1 : Cond.selects "java/util/ArrayList" ⟨"java/util/ArrayList", "add", "(Ljava/lang/Object;[Ljava/lang/Object;I)V"⟩ ⟨"java/util/ArrayList", "add", "(Ljava/lang/Object;[Ljava/lang/Object;I)V"⟩ ∈ zT := zT_of 1 (by decide +kernel) (by decide +kernel)
theorem ks_2 : Cond.selects "java/util/ArrayList" ⟨"java/util/ArrayList", "grow", "()[Ljava/lang/Object;"⟩ ⟨"java/util/ArrayList", "grow", "()[Ljava/lang/Object;"⟩ ∈ zT := zT_of 2 (by decide +kernel) (by decide +kernel)
theorem ks_3 : Cond.selects "java/util/ArrayList" ⟨"java/util/ArrayList", "grow", "(I)[Ljava/lang/Object;"⟩ ⟨"java/util/ArrayList", "grow", "(I)[Ljava/lang/Object;"⟩ ∈ zT := zT_of 3 (by decide +kernel) (by decide +kernel)
theorem ks_4 : Cond.selects "RollCalls" ⟨"RollCalls", "knownPerson", "(I)LRollCalls$Person;"⟩ ⟨"RollCalls", "knownPerson", "(I)LRollCalls$Person;"⟩ ∈ zT := zT_of 4 (by decide +kernel) (by decide +kernel)
theorem ks_5 : Cond.selects "RollCalls" ⟨"RollCalls", "addMove", "(II)V"⟩ ⟨"RollCalls", "addMove", "(II)V"⟩ ∈ zT := zT_of 5 (by decide +kernel) (by decide +kernel)
theorem ks_6 : Cond.selects "RollCalls" ⟨"RollCalls", "isAskedNow", "(I)Z"⟩ ⟨"RollCalls", "isAskedNow", "(I)Z"⟩ ∈ zT := zT_of 6 (by decide +kernel) (by decide +kernel)
theorem ks_7 : Cond.selects "RollCalls" ⟨"RollCalls", "openMaydays", "()I"⟩ ⟨"RollCalls", "openMaydays", "()I"⟩ ∈ zT := zT_of 7 (by decide +kernel) (by decide +kernel)
theorem ks_8 : Cond.selects "RollCalls" ⟨"RollCalls", "askThoseInside", "(LRollCalls$Roll;)V"⟩ ⟨"RollCalls", "askThoseInside", "(LRollCalls$Roll;)V"⟩ ∈ zT := zT_of 8 (by decide +kernel) (by decide +kernel)
theorem ks_9 : Cond.selects "RollCalls" ⟨"RollCalls", "knownRoll", "(I)LRollCalls$Roll;"⟩ ⟨"RollCalls", "knownRoll", "(I)LRollCalls$Roll;"⟩ ∈ zT := zT_of 9 (by decide +kernel) (by decide +kernel)
theorem ks_10 : Cond.selects "RollCalls" ⟨"RollCalls", "addDouble", "(LRollCalls$DoubleCount;)V"⟩ ⟨"RollCalls", "addDouble", "(LRollCalls$DoubleCount;)V"⟩ ∈ zT := zT_of 10 (by decide +kernel) (by decide +kernel)
theorem ks_11 : Cond.selects "RollCalls" ⟨"RollCalls", "openPersons", "(LRollCalls$Roll;)I"⟩ ⟨"RollCalls", "openPersons", "(LRollCalls$Roll;)I"⟩ ∈ zT := zT_of 11 (by decide +kernel) (by decide +kernel)
theorem ks_12 : Cond.selects "RollCalls" ⟨"RollCalls", "isOpen", "(LRollCalls$Roll;I)Z"⟩ ⟨"RollCalls", "isOpen", "(LRollCalls$Roll;I)Z"⟩ ∈ zT := zT_of 12 (by decide +kernel) (by decide +kernel)
theorem ks_13 : Cond.selects "RollCalls" ⟨"RollCalls", "isMissingStill", "(LRollCalls$Roll;I)Z"⟩ ⟨"RollCalls", "isMissingStill", "(LRollCalls$Roll;I)Z"⟩ ∈ zT := zT_of 13 (by decide +kernel) (by decide +kernel)
theorem ks_14 : Cond.selects "RollCalls" ⟨"RollCalls", "hasOpenMayday", "(I)Z"⟩ ⟨"RollCalls", "hasOpenMayday", "(I)Z"⟩ ∈ zT := zT_of 14 (by decide +kernel) (by decide +kernel)
theorem ks_15 : Cond.selects "RollCalls" ⟨"RollCalls", "lowestFreeTeam", "()I"⟩ ⟨"RollCalls", "lowestFreeTeam", "()I"⟩ ∈ zT := zT_of 15 (by decide +kernel) (by decide +kernel)
theorem ks_16 : Cond.selects "RollCalls" ⟨"RollCalls", "isSent", "(I)Z"⟩ ⟨"RollCalls", "isSent", "(I)Z"⟩ ∈ zT := zT_of 16 (by decide +kernel) (by decide +kernel)
theorem ks_17 : Cond.selects "RollCalls" ⟨"RollCalls", "knownMayday", "(I)LRollCalls$Mayday;"⟩ ⟨"RollCalls", "knownMayday", "(I)LRollCalls$Mayday;"⟩ ∈ zT := zT_of 17 (by decide +kernel) (by decide +kernel)
theorem ks_18 : Cond.selects "RollCalls" ⟨"RollCalls", "sendToLowestWaiting", "(I)V"⟩ ⟨"RollCalls", "sendToLowestWaiting", "(I)V"⟩ ∈ zT := zT_of 18 (by decide +kernel) (by decide +kernel)
theorem ks_19 : Cond.selects "RollCalls" ⟨"RollCalls", "isEvacuating", "()Z"⟩ ⟨"RollCalls", "isEvacuating", "()Z"⟩ ∈ zT := zT_of 19 (by decide +kernel) (by decide +kernel)
theorem ks_20 : Cond.selects "RollCalls" ⟨"RollCalls", "knownEvacuation", "(I)LRollCalls$Evacuation;"⟩ ⟨"RollCalls", "knownEvacuation", "(I)LRollCalls$Evacuation;"⟩ ∈ zT := zT_of 20 (by decide +kernel) (by decide +kernel)
theorem ks_21 : Cond.selects "RollCalls" ⟨"RollCalls", "demandConfirmations", "(LRollCalls$Evacuation;)V"⟩ ⟨"RollCalls", "demandConfirmations", "(LRollCalls$Evacuation;)V"⟩ ∈ zT := zT_of 21 (by decide +kernel) (by decide +kernel)
theorem ks_22 : Cond.selects "RollCalls" ⟨"RollCalls", "isSomebodyIn", "(I)Z"⟩ ⟨"RollCalls", "isSomebodyIn", "(I)Z"⟩ ∈ zT := zT_of 22 (by decide +kernel) (by decide +kernel)
theorem ks_23 : Cond.selects "RollCalls" ⟨"RollCalls", "personsInside", "()I"⟩ ⟨"RollCalls", "personsInside", "()I"⟩ ∈ zT := zT_of 23 (by decide +kernel) (by decide +kernel)
theorem ks_24 : Cond.selects "RollCalls" ⟨"RollCalls", "rollsOn", "()I"⟩ ⟨"RollCalls", "rollsOn", "()I"⟩ ∈ zT := zT_of 24 (by decide +kernel) (by decide +kernel)
theorem ks_25 : Cond.selects "RollCallsModel" ⟨"RollCallsModel", "goes", "(IZZZZ)Z"⟩ ⟨"RollCallsModel", "goes", "(IZZZZ)Z"⟩ ∈ zT := zT_of 25 (by decide +kernel) (by decide +kernel)
theorem ks_26 : Cond.selects "RollCallsModel" ⟨"RollCallsModel", "isPerson", "(I)Z"⟩ ⟨"RollCallsModel", "isPerson", "(I)Z"⟩ ∈ zT := zT_of 26 (by decide +kernel) (by decide +kernel)
theorem ks_27 : Cond.selects "RollCallsModel" ⟨"RollCallsModel", "here", "(I)I"⟩ ⟨"RollCallsModel", "here", "(I)I"⟩ ∈ zT := zT_of 27 (by decide +kernel) (by decide +kernel)
theorem ks_28 : Cond.selects "RollCallsModel" ⟨"RollCallsModel", "at", "(II)I"⟩ ⟨"RollCallsModel", "at", "(II)I"⟩ ∈ zT := zT_of 28 (by decide +kernel) (by decide +kernel)
theorem ks_29 : Cond.selects "RollCallsModel" ⟨"RollCallsModel", "moves", "(II)V"⟩ ⟨"RollCallsModel", "moves", "(II)V"⟩ ∈ zT := zT_of 29 (by decide +kernel) (by decide +kernel)
theorem ks_30 : Cond.selects "RollCallsModel" ⟨"RollCallsModel", "openMaydays", "()I"⟩ ⟨"RollCallsModel", "openMaydays", "()I"⟩ ∈ zT := zT_of 30 (by decide +kernel) (by decide +kernel)
theorem ks_31 : Cond.selects "RollCallsModel" ⟨"RollCallsModel", "isRoll", "(I)Z"⟩ ⟨"RollCallsModel", "isRoll", "(I)Z"⟩ ∈ zT := zT_of 31 (by decide +kernel) (by decide +kernel)
theorem ks_32 : Cond.selects "RollCallsModel" ⟨"RollCallsModel", "open", "(I)I"⟩ ⟨"RollCallsModel", "open", "(I)I"⟩ ∈ zT := zT_of 32 (by decide +kernel) (by decide +kernel)
theorem ks_33 : Cond.selects "RollCallsModel" ⟨"RollCallsModel", "isStill", "(II)Z"⟩ ⟨"RollCallsModel", "isStill", "(II)Z"⟩ ∈ zT := zT_of 33 (by decide +kernel) (by decide +kernel)
theorem ks_34 : Cond.selects "RollCallsModel" ⟨"RollCallsModel", "cameOut", "(II)Z"⟩ ⟨"RollCallsModel", "cameOut", "(II)Z"⟩ ∈ zT := zT_of 34 (by decide +kernel) (by decide +kernel)
theorem ks_35 : Cond.selects "RollCallsModel" ⟨"RollCallsModel", "isFound", "(II)Z"⟩ ⟨"RollCallsModel", "isFound", "(II)Z"⟩ ∈ zT := zT_of 35 (by decide +kernel) (by decide +kernel)
theorem ks_36 : Cond.selects "RollCallsModel" ⟨"RollCallsModel", "serve", "()V"⟩ ⟨"RollCallsModel", "serve", "()V"⟩ ∈ zT := zT_of 36 (by decide +kernel) (by decide +kernel)
theorem ks_37 : Cond.selects "RollCallsModel" ⟨"RollCallsModel", "isFull", "(I)Z"⟩ ⟨"RollCallsModel", "isFull", "(I)Z"⟩ ∈ zT := zT_of 37 (by decide +kernel) (by decide +kernel)
theorem ks_38 : Cond.selects "RollCallsModel" ⟨"RollCallsModel", "isOn", "()Z"⟩ ⟨"RollCallsModel", "isOn", "()Z"⟩ ∈ zT := zT_of 38 (by decide +kernel) (by decide +kernel)
theorem ks_39 : Cond.selects "RollCallsModel" ⟨"RollCallsModel", "left", "(I)I"⟩ ⟨"RollCallsModel", "left", "(I)I"⟩ ∈ zT := zT_of 39 (by decide +kernel) (by decide +kernel)
theorem ks_40 : Cond.selects "RollCallsModel" ⟨"RollCallsModel", "isLate", "(II)Z"⟩ ⟨"RollCallsModel", "isLate", "(II)Z"⟩ ∈ zT := zT_of 40 (by decide +kernel) (by decide +kernel)
end
section
theorem d_RC_init_0 : decode c_RC_init 0 = .ok (.aload_n 0, 1) := by decide +kernel
theorem d_RC_init_1 : decode c_RC_init 1 = .ok (.invokespecial 1, 3) := by decide +kernel
theorem d_RC_init_4 : decode c_RC_init 4 = .ok (.aload_n 0, 1) := by decide +kernel
theorem d_RC_init_5 : decode c_RC_init 5 = .ok (.bipush 10, 2) := by decide +kernel
theorem d_RC_init_7 : decode c_RC_init 7 = .ok (.newarray .int, 2) := by decide +kernel
theorem d_RC_init_9 : decode c_RC_init 9 = .ok (.putfield 9, 3) := by decide +kernel
theorem d_RC_init_12 : decode c_RC_init 12 = .ok (.aload_n 0, 1) := by decide +kernel
theorem d_RC_init_13 : decode c_RC_init 13 = .ok (.new 13, 3) := by decide +kernel
theorem d_RC_init_16 : decode c_RC_init 16 = .ok (.dup, 1) := by decide +kernel
theorem d_RC_init_17 : decode c_RC_init 17 = .ok (.invokespecial 15, 3) := by decide +kernel
theorem d_RC_init_20 : decode c_RC_init 20 = .ok (.putfield 16, 3) := by decide +kernel
theorem d_RC_init_23 : decode c_RC_init 23 = .ok (.aload_n 0, 1) := by decide +kernel
theorem d_RC_init_24 : decode c_RC_init 24 = .ok (.new 13, 3) := by decide +kernel
theorem d_RC_init_27 : decode c_RC_init 27 = .ok (.dup, 1) := by decide +kernel
theorem d_RC_init_28 : decode c_RC_init 28 = .ok (.invokespecial 15, 3) := by decide +kernel
theorem d_RC_init_31 : decode c_RC_init 31 = .ok (.putfield 20, 3) := by decide +kernel
theorem d_RC_init_34 : decode c_RC_init 34 = .ok (.aload_n 0, 1) := by decide +kernel
theorem d_RC_init_35 : decode c_RC_init 35 = .ok (.new 13, 3) := by decide +kernel
theorem d_RC_init_38 : decode c_RC_init 38 = .ok (.dup, 1) := by decide +kernel
theorem d_RC_init_39 : decode c_RC_init 39 = .ok (.invokespecial 15, 3) := by decide +kernel
theorem d_RC_init_42 : decode c_RC_init 42 = .ok (.putfield 23, 3) := by decide +kernel
theorem d_RC_init_45 : decode c_RC_init 45 = .ok (.aload_n 0, 1) := by decide +kernel
theorem d_RC_init_46 : decode c_RC_init 46 = .ok (.new 13, 3) := by decide +kernel
theorem d_RC_init_49 : decode c_RC_init 49 = .ok (.dup, 1) := by decide +kernel
theorem d_RC_init_50 : decode c_RC_init 50 = .ok (.invokespecial 15, 3) := by decide +kernel
theorem d_RC_init_53 : decode c_RC_init 53 = .ok (.putfield 26, 3) := by decide +kernel
theorem d_RC_init_56 : decode c_RC_init 56 = .ok (.aload_n 0, 1) := by decide +kernel
theorem d_RC_init_57 : decode c_RC_init 57 = .ok (.new 13, 3) := by decide +kernel
theorem d_RC_init_60 : decode c_RC_init 60 = .ok (.dup, 1) := by decide +kernel
theorem d_RC_init_61 : decode c_RC_init 61 = .ok (.invokespecial 15, 3) := by decide +kernel
theorem d_RC_init_64 : decode c_RC_init 64 = .ok (.putfield 29, 3) := by decide +kernel
theorem d_RC_init_67 : decode c_RC_init 67 = .ok (.aload_n 0, 1) := by decide +kernel
theorem d_RC_init_68 : decode c_RC_init 68 = .ok (.new 13, 3) := by decide +kernel
theorem d_RC_init_71 : decode c_RC_init 71 = .ok (.dup, 1) := by decide +kernel
theorem d_RC_init_72 : decode c_RC_init 72 = .ok (.invokespecial 15, 3) := by decide +kernel
theorem d_RC_init_75 : decode c_RC_init 75 = .ok (.putfield 32, 3) := by decide +kernel
theorem d_RC_init_78 : decode c_RC_init 78 = .ok (.aload_n 0, 1) := by decide +kernel
theorem d_RC_init_79 : decode c_RC_init 79 = .ok (.iconst 0, 1) := by decide +kernel
theorem d_RC_init_80 : decode c_RC_init 80 = .ok (.putfield 35, 3) := by decide +kernel
theorem d_RC_init_83 : decode c_RC_init 83 = .ok (.return_, 1) := by decide +kernel
theorem d_AL_init_0 : decode c_AL_init 0 = .ok (.aload_n 0, 1) := by decide +kernel
theorem d_AL_init_1 : decode c_AL_init 1 = .ok (.invokespecial 1, 3) := by decide +kernel
theorem d_AL_init_4 : decode c_AL_init 4 = .ok (.aload_n 0, 1) := by decide +kernel
theorem d_AL_init_5 : decode c_AL_init 5 = .ok (.getstatic 39, 3) := by decide +kernel
theorem d_AL_init_8 : decode c_AL_init 8 = .ok (.putfield 9, 3) := by decide +kernel
theorem d_AL_init_11 : decode c_AL_init 11 = .ok (.return_, 1) := by decide +kernel
theorem d_AB_init_0 : decode c_AB_init 0 = .ok (.aload_n 0, 1) := by decide +kernel
theorem d_AB_init_1 : decode c_AB_init 1 = .ok (.invokespecial 1, 3) := by decide +kernel
theorem d_AB_init_4 : decode c_AB_init 4 = .ok (.aload_n 0, 1) := by decide +kernel
theorem d_AB_init_5 : decode c_AB_init 5 = .ok (.iconst 0, 1) := by decide +kernel
theorem d_AB_init_6 : decode c_AB_init 6 = .ok (.putfield 7, 3) := by decide +kernel
theorem d_AB_init_9 : decode c_AB_init 9 = .ok (.return_, 1) := by decide +kernel
theorem d_AC_init_0 : decode c_AC_init 0 = .ok (.aload_n 0, 1) := by decide +kernel
theorem d_AC_init_1 : decode c_AC_init 1 = .ok (.invokespecial 1, 3) := by decide +kernel
theorem d_AC_init_4 : decode c_AC_init 4 = .ok (.return_, 1) := by decide +kernel
theorem d_LW_person_0 : decode c_LW_person 0 = .ok (.aload_n 1, 1) := by decide +kernel
theorem d_LW_person_1 : decode c_LW_person 1 = .ok (.iconst 0, 1) := by decide +kernel
theorem d_LW_person_2 : decode c_LW_person 2 = .ok (.aload_n 0, 1) := by decide +kernel
theorem d_LW_person_3 : decode c_LW_person 3 = .ok (.invokevirtual 7, 3) := by decide +kernel
theorem d_LW_person_6 : decode c_LW_person 6 = .ok (.i2l, 1) := by decide +kernel
theorem d_LW_person_7 : decode c_LW_person 7 = .ok (.lastore, 1) := by decide +kernel
theorem d_LW_person_8 : decode c_LW_person 8 = .ok (.goto 6, 3) := by decide +kernel
theorem d_LW_person_11 : decode c_LW_person 11 = .ok (.astore_n 2, 1) := by decide +kernel
theorem d_LW_person_12 : decode c_LW_person 12 = .ok (.iconst 1, 1) := by decide +kernel
theorem d_LW_person_13 : decode c_LW_person 13 = .ok (.ireturn, 1) := by decide +kernel
theorem d_LW_person_14 : decode c_LW_person 14 = .ok (.iconst 0, 1) := by decide +kernel
theorem d_LW_person_15 : decode c_LW_person 15 = .ok (.ireturn, 1) := by decide +kernel
theorem d_RC_person_0 : decode c_RC_person 0 = .ok (.aload_n 0, 1) := by decide +kernel
theorem d_RC_person_1 : decode c_RC_person 1 = .ok (.getfield 16, 3) := by decide +kernel
theorem d_RC_person_4 : decode c_RC_person 4 = .ok (.invokevirtual 39, 3) := by decide +kernel
theorem d_RC_person_7 : decode c_RC_person 7 = .ok (.bipush 60, 2) := by decide +kernel
theorem d_RC_person_9 : decode c_RC_person 9 = .ok (.if_icmp .lt 13, 3) := by decide +kernel
theorem d_RC_person_12 : decode c_RC_person 12 = .ok (.new 43, 3) := by decide +kernel
theorem d_RC_person_15 : decode c_RC_person 15 = .ok (.dup, 1) := by decide +kernel
theorem d_RC_person_16 : decode c_RC_person 16 = .ok (.ldc 45, 2) := by decide +kernel
theorem d_RC_person_18 : decode c_RC_person 18 = .ok (.invokespecial 47, 3) := by decide +kernel
theorem d_RC_person_21 : decode c_RC_person 21 = .ok (.athrow, 1) := by decide +kernel
theorem d_RC_person_22 : decode c_RC_person 22 = .ok (.aload_n 0, 1) := by decide +kernel
theorem d_RC_person_23 : decode c_RC_person 23 = .ok (.getfield 16, 3) := by decide +kernel
theorem d_RC_person_26 : decode c_RC_person 26 = .ok (.new 50, 3) := by decide +kernel
theorem d_RC_person_29 : decode c_RC_person 29 = .ok (.dup, 1) := by decide +kernel
theorem d_RC_person_30 : decode c_RC_person 30 = .ok (.invokespecial 52, 3) := by decide +kernel
theorem d_RC_person_33 : decode c_RC_person 33 = .ok (.invokevirtual 53, 3) := by decide +kernel
theorem d_RC_person_36 : decode c_RC_person 36 = .ok (.pop, 1) := by decide +kernel
theorem d_RC_person_37 : decode c_RC_person 37 = .ok (.aload_n 0, 1) := by decide +kernel
theorem d_RC_person_38 : decode c_RC_person 38 = .ok (.getfield 16, 3) := by decide +kernel
theorem d_RC_person_41 : decode c_RC_person 41 = .ok (.invokevirtual 39, 3) := by decide +kernel
theorem d_RC_person_44 : decode c_RC_person 44 = .ok (.iconst 1, 1) := by decide +kernel
theorem d_RC_person_45 : decode c_RC_person 45 = .ok (.isub, 1) := by decide +kernel
theorem d_RC_person_46 : decode c_RC_person 46 = .ok (.ireturn, 1) := by decide +kernel
theorem d_AL_size_0 : decode c_AL_size 0 = .ok (.aload_n 0, 1) := by decide +kernel
theorem d_AL_size_1 : decode c_AL_size 1 = .ok (.getfield 48, 3) := by decide +kernel
theorem d_AL_size_4 : decode c_AL_size 4 = .ok (.ireturn, 1) := by decide +kernel
theorem d_PE_init_0 : decode c_PE_init 0 = .ok (.aload_n 0, 1) := by decide +kernel
theorem d_PE_init_1 : decode c_PE_init 1 = .ok (.invokespecial 3, 3) := by decide +kernel
theorem d_PE_init_4 : decode c_PE_init 4 = .ok (.aload_n 0, 1) := by decide +kernel
theorem d_PE_init_5 : decode c_PE_init 5 = .ok (.iconst (-1), 1) := by decide +kernel
theorem d_PE_init_6 : decode c_PE_init 6 = .ok (.putfield 9, 3) := by decide +kernel
theorem d_PE_init_9 : decode c_PE_init 9 = .ok (.aload_n 0, 1) := by decide +kernel
theorem d_PE_init_10 : decode c_PE_init 10 = .ok (.iconst 0, 1) := by decide +kernel
theorem d_PE_init_11 : decode c_PE_init 11 = .ok (.putfield 15, 3) := by decide +kernel
theorem d_PE_init_14 : decode c_PE_init 14 = .ok (.aload_n 0, 1) := by decide +kernel
theorem d_PE_init_15 : decode c_PE_init 15 = .ok (.iconst (-1), 1) := by decide +kernel
theorem d_PE_init_16 : decode c_PE_init 16 = .ok (.putfield 18, 3) := by decide +kernel
theorem d_PE_init_19 : decode c_PE_init 19 = .ok (.return_, 1) := by decide +kernel
theorem d_AL_add_0 : decode c_AL_add 0 = .ok (.aload_n 0, 1) := by decide +kernel
theorem d_AL_add_1 : decode c_AL_add 1 = .ok (.dup, 1) := by decide +kernel
theorem d_AL_add_2 : decode c_AL_add 2 = .ok (.getfield 63, 3) := by decide +kernel
theorem d_AL_add_5 : decode c_AL_add 5 = .ok (.iconst 1, 1) := by decide +kernel
theorem d_AL_add_6 : decode c_AL_add 6 = .ok (.iadd, 1) := by decide +kernel
theorem d_AL_add_7 : decode c_AL_add 7 = .ok (.putfield 63, 3) := by decide +kernel
theorem d_AL_add_10 : decode c_AL_add 10 = .ok (.aload_n 0, 1) := by decide +kernel
theorem d_AL_add_11 : decode c_AL_add 11 = .ok (.aload_n 1, 1) := by decide +kernel
theorem d_AL_add_12 : decode c_AL_add 12 = .ok (.aload_n 0, 1) := by decide +kernel
theorem d_AL_add_13 : decode c_AL_add 13 = .ok (.getfield 9, 3) := by decide +kernel
theorem d_AL_add_16 : decode c_AL_add 16 = .ok (.aload_n 0, 1) := by decide +kernel
theorem d_AL_add_17 : decode c_AL_add 17 = .ok (.getfield 48, 3) := by decide +kernel
theorem d_AL_add_20 : decode c_AL_add 20 = .ok (.invokevirtual 131, 3) := by decide +kernel
theorem d_AL_add_23 : decode c_AL_add 23 = .ok (.iconst 1, 1) := by decide +kernel
theorem d_AL_add_24 : decode c_AL_add 24 = .ok (.ireturn, 1) := by decide +kernel
theorem d_AL_add3_0 : decode c_AL_add3 0 = .ok (.iload_n 3, 1) := by decide +kernel
theorem d_AL_add3_1 : decode c_AL_add3 1 = .ok (.aload_n 2, 1) := by decide +kernel
theorem d_AL_add3_2 : decode c_AL_add3 2 = .ok (.arraylength, 1) := by decide +kernel
theorem d_AL_add3_3 : decode c_AL_add3 3 = .ok (.if_icmp .ne 8, 3) := by decide +kernel
theorem d_AL_add3_6 : decode c_AL_add3 6 = .ok (.aload_n 0, 1) := by decide +kernel
theorem d_AL_add3_7 : decode c_AL_add3 7 = .ok (.invokevirtual 129, 3) := by decide +kernel
theorem d_AL_add3_10 : decode c_AL_add3 10 = .ok (.astore_n 2, 1) := by decide +kernel
theorem d_AL_add3_11 : decode c_AL_add3 11 = .ok (.aload_n 2, 1) := by decide +kernel
theorem d_AL_add3_12 : decode c_AL_add3 12 = .ok (.iload_n 3, 1) := by decide +kernel
theorem d_AL_add3_13 : decode c_AL_add3 13 = .ok (.aload_n 1, 1) := by decide +kernel
theorem d_AL_add3_14 : decode c_AL_add3 14 = .ok (.aastore, 1) := by decide +kernel
theorem d_AL_add3_15 : decode c_AL_add3 15 = .ok (.aload_n 0, 1) := by decide +kernel
theorem d_AL_add3_16 : decode c_AL_add3 16 = .ok (.iload_n 3, 1) := by decide +kernel
theorem d_AL_add3_17 : decode c_AL_add3 17 = .ok (.iconst 1, 1) := by decide +kernel
theorem d_AL_add3_18 : decode c_AL_add3 18 = .ok (.iadd, 1) := by decide +kernel
theorem d_AL_add3_19 : decode c_AL_add3 19 = .ok (.putfield 48, 3) := by decide +kernel
theorem d_AL_add3_22 : decode c_AL_add3 22 = .ok (.return_, 1) := by decide +kernel
theorem d_AL_grow_0 : decode c_AL_grow 0 = .ok (.aload_n 0, 1) := by decide +kernel
theorem d_AL_grow_1 : decode c_AL_grow 1 = .ok (.aload_n 0, 1) := by decide +kernel
theorem d_AL_grow_2 : decode c_AL_grow 2 = .ok (.getfield 48, 3) := by decide +kernel
theorem d_AL_grow_5 : decode c_AL_grow 5 = .ok (.iconst 1, 1) := by decide +kernel
theorem d_AL_grow_6 : decode c_AL_grow 6 = .ok (.iadd, 1) := by decide +kernel
theorem d_AL_grow_7 : decode c_AL_grow 7 = .ok (.invokevirtual 69, 3) := by decide +kernel
theorem d_AL_grow_10 : decode c_AL_grow 10 = .ok (.areturn, 1) := by decide +kernel
theorem d_AL_growI_0 : decode c_AL_growI 0 = .ok (.aload_n 0, 1) := by decide +kernel
theorem d_AL_growI_1 : decode c_AL_growI 1 = .ok (.getfield 9, 3) := by decide +kernel
theorem d_AL_growI_4 : decode c_AL_growI 4 = .ok (.arraylength, 1) := by decide +kernel
theorem d_AL_growI_5 : decode c_AL_growI 5 = .ok (.istore_n 2, 1) := by decide +kernel
theorem d_AL_growI_6 : decode c_AL_growI 6 = .ok (.iload_n 2, 1) := by decide +kernel
theorem d_AL_growI_7 : decode c_AL_growI 7 = .ok (.ifCond .gt 13, 3) := by decide +kernel
theorem d_AL_growI_10 : decode c_AL_growI 10 = .ok (.aload_n 0, 1) := by decide +kernel
theorem d_AL_growI_11 : decode c_AL_growI 11 = .ok (.getfield 9, 3) := by decide +kernel
theorem d_AL_growI_14 : decode c_AL_growI 14 = .ok (.getstatic 39, 3) := by decide +kernel
theorem d_AL_growI_17 : decode c_AL_growI 17 = .ok (.if_acmp .eq 28, 3) := by decide +kernel
theorem d_AL_growI_20 : decode c_AL_growI 20 = .ok (.iload_n 2, 1) := by decide +kernel
theorem d_AL_growI_21 : decode c_AL_growI 21 = .ok (.iload_n 1, 1) := by decide +kernel
theorem d_AL_growI_22 : decode c_AL_growI 22 = .ok (.iload_n 2, 1) := by decide +kernel
theorem d_AL_growI_23 : decode c_AL_growI 23 = .ok (.isub, 1) := by decide +kernel
theorem d_AL_growI_24 : decode c_AL_growI 24 = .ok (.iload_n 2, 1) := by decide +kernel
theorem d_AL_growI_25 : decode c_AL_growI 25 = .ok (.iconst 1, 1) := by decide +kernel
theorem d_AL_growI_26 : decode c_AL_growI 26 = .ok (.ishr, 1) := by decide +kernel
theorem d_AL_growI_27 : decode c_AL_growI 27 = .ok (.invokestatic 73, 3) := by decide +kernel
theorem d_AL_growI_30 : decode c_AL_growI 30 = .ok (.istore_n 3, 1) := by decide +kernel
theorem d_AL_growI_31 : decode c_AL_growI 31 = .ok (.aload_n 0, 1) := by decide +kernel
theorem d_AL_growI_32 : decode c_AL_growI 32 = .ok (.aload_n 0, 1) := by decide +kernel
theorem d_AL_growI_33 : decode c_AL_growI 33 = .ok (.getfield 9, 3) := by decide +kernel
theorem d_AL_growI_36 : decode c_AL_growI 36 = .ok (.iload_n 3, 1) := by decide +kernel
theorem d_AL_growI_37 : decode c_AL_growI 37 = .ok (.invokestatic 66, 3) := by decide +kernel
theorem d_AL_growI_40 : decode c_AL_growI 40 = .ok (.dup_x1, 1) := by decide +kernel
theorem d_AL_growI_41 : decode c_AL_growI 41 = .ok (.putfield 9, 3) := by decide +kernel
theorem d_AL_growI_44 : decode c_AL_growI 44 = .ok (.areturn, 1) := by decide +kernel
theorem d_AL_growI_45 : decode c_AL_growI 45 = .ok (.aload_n 0, 1) := by decide +kernel
theorem d_AL_growI_46 : decode c_AL_growI 46 = .ok (.bipush 10, 2) := by decide +kernel
theorem d_AL_growI_48 : decode c_AL_growI 48 = .ok (.iload_n 1, 1) := by decide +kernel
theorem d_AL_growI_49 : decode c_AL_growI 49 = .ok (.invokestatic 79, 3) := by decide +kernel
theorem d_AL_growI_52 : decode c_AL_growI 52 = .ok (.anewarray 7, 3) := by decide +kernel
theorem d_AL_growI_55 : decode c_AL_growI 55 = .ok (.dup_x1, 1) := by decide +kernel
theorem d_AL_growI_56 : decode c_AL_growI 56 = .ok (.putfield 9, 3) := by decide +kernel
theorem d_AL_growI_59 : decode c_AL_growI 59 = .ok (.areturn, 1) := by decide +kernel
theorem d_AS_newLength_0 : decode c_AS_newLength 0 = .ok (.iload_n 0, 1) := by decide +kernel
theorem d_AS_newLength_1 : decode c_AS_newLength 1 = .ok (.iload_n 1, 1) := by decide +kernel
theorem d_AS_newLength_2 : decode c_AS_newLength 2 = .ok (.iload_n 2, 1) := by decide +kernel
theorem d_AS_newLength_3 : decode c_AS_newLength 3 = .ok (.invokestatic 194, 3) := by decide +kernel
theorem d_AS_newLength_6 : decode c_AS_newLength 6 = .ok (.iadd, 1) := by decide +kernel
theorem d_AS_newLength_7 : decode c_AS_newLength 7 = .ok (.istore_n 3, 1) := by decide +kernel
theorem d_AS_newLength_8 : decode c_AS_newLength 8 = .ok (.iconst 0, 1) := by decide +kernel
theorem d_AS_newLength_9 : decode c_AS_newLength 9 = .ok (.iload_n 3, 1) := by decide +kernel
theorem d_AS_newLength_10 : decode c_AS_newLength 10 = .ok (.if_icmp .ge 11, 3) := by decide +kernel
theorem d_AS_newLength_13 : decode c_AS_newLength 13 = .ok (.iload_n 3, 1) := by decide +kernel
theorem d_AS_newLength_14 : decode c_AS_newLength 14 = .ok (.ldc 200, 2) := by decide +kernel
theorem d_AS_newLength_16 : decode c_AS_newLength 16 = .ok (.if_icmp .gt 5, 3) := by decide +kernel
theorem d_AS_newLength_19 : decode c_AS_newLength 19 = .ok (.iload_n 3, 1) := by decide +kernel
theorem d_AS_newLength_20 : decode c_AS_newLength 20 = .ok (.ireturn, 1) := by decide +kernel
theorem d_AS_newLength_21 : decode c_AS_newLength 21 = .ok (.iload_n 0, 1) := by decide +kernel
theorem d_AS_newLength_22 : decode c_AS_newLength 22 = .ok (.iload_n 1, 1) := by decide +kernel
theorem d_AS_newLength_23 : decode c_AS_newLength 23 = .ok (.invokestatic 201, 3) := by decide +kernel
theorem d_AS_newLength_26 : decode c_AS_newLength 26 = .ok (.ireturn, 1) := by decide +kernel
theorem d_MA_max_0 : decode c_MA_max 0 = .ok (.iload_n 0, 1) := by decide +kernel
theorem d_MA_max_1 : decode c_MA_max 1 = .ok (.iload_n 1, 1) := by decide +kernel
theorem d_MA_max_2 : decode c_MA_max 2 = .ok (.if_icmp .lt 7, 3) := by decide +kernel
theorem d_MA_max_5 : decode c_MA_max 5 = .ok (.iload_n 0, 1) := by decide +kernel
theorem d_MA_max_6 : decode c_MA_max 6 = .ok (.goto 4, 3) := by decide +kernel
theorem d_MA_max_9 : decode c_MA_max 9 = .ok (.iload_n 1, 1) := by decide +kernel
theorem d_MA_max_10 : decode c_MA_max 10 = .ok (.ireturn, 1) := by decide +kernel
theorem d_AS_hugeLength_0 : decode c_AS_hugeLength 0 = .ok (.iload_n 0, 1) := by decide +kernel
theorem d_AS_hugeLength_1 : decode c_AS_hugeLength 1 = .ok (.iload_n 1, 1) := by decide +kernel
theorem d_AS_hugeLength_2 : decode c_AS_hugeLength 2 = .ok (.iadd, 1) := by decide +kernel
theorem d_AS_hugeLength_3 : decode c_AS_hugeLength 3 = .ok (.istore_n 2, 1) := by decide +kernel
theorem d_AS_hugeLength_4 : decode c_AS_hugeLength 4 = .ok (.iload_n 2, 1) := by decide +kernel
theorem d_AS_hugeLength_5 : decode c_AS_hugeLength 5 = .ok (.ifCond .ge 44, 3) := by decide +kernel
theorem d_AS_hugeLength_8 : decode c_AS_hugeLength 8 = .ok (.new 204, 3) := by decide +kernel
theorem d_AS_hugeLength_11 : decode c_AS_hugeLength 11 = .ok (.dup, 1) := by decide +kernel
theorem d_AS_hugeLength_12 : decode c_AS_hugeLength 12 = .ok (.new 89, 3) := by decide +kernel
theorem d_AS_hugeLength_15 : decode c_AS_hugeLength 15 = .ok (.dup, 1) := by decide +kernel
theorem d_AS_hugeLength_16 : decode c_AS_hugeLength 16 = .ok (.invokespecial 91, 3) := by decide +kernel
theorem d_AS_hugeLength_19 : decode c_AS_hugeLength 19 = .ok (.ldc 206, 2) := by decide +kernel
theorem d_AS_hugeLength_21 : decode c_AS_hugeLength 21 = .ok (.invokevirtual 94, 3) := by decide +kernel
theorem d_AS_hugeLength_24 : decode c_AS_hugeLength 24 = .ok (.iload_n 0, 1) := by decide +kernel
theorem d_AS_hugeLength_25 : decode c_AS_hugeLength 25 = .ok (.invokevirtual 98, 3) := by decide +kernel
theorem d_AS_hugeLength_28 : decode c_AS_hugeLength 28 = .ok (.ldc 208, 2) := by decide +kernel
theorem d_AS_hugeLength_30 : decode c_AS_hugeLength 30 = .ok (.invokevirtual 94, 3) := by decide +kernel
theorem d_AS_hugeLength_33 : decode c_AS_hugeLength 33 = .ok (.iload_n 1, 1) := by decide +kernel
theorem d_AS_hugeLength_34 : decode c_AS_hugeLength 34 = .ok (.invokevirtual 98, 3) := by decide +kernel
theorem d_AS_hugeLength_37 : decode c_AS_hugeLength 37 = .ok (.ldc 210, 2) := by decide +kernel
theorem d_AS_hugeLength_39 : decode c_AS_hugeLength 39 = .ok (.invokevirtual 94, 3) := by decide +kernel
theorem d_AS_hugeLength_42 : decode c_AS_hugeLength 42 = .ok (.invokevirtual 101, 3) := by decide +kernel
theorem d_AS_hugeLength_45 : decode c_AS_hugeLength 45 = .ok (.invokespecial 212, 3) := by decide +kernel
theorem d_AS_hugeLength_48 : decode c_AS_hugeLength 48 = .ok (.athrow, 1) := by decide +kernel
theorem d_AS_hugeLength_49 : decode c_AS_hugeLength 49 = .ok (.iload_n 2, 1) := by decide +kernel
theorem d_AS_hugeLength_50 : decode c_AS_hugeLength 50 = .ok (.ldc 200, 2) := by decide +kernel
theorem d_AS_hugeLength_52 : decode c_AS_hugeLength 52 = .ok (.if_icmp .gt 6, 3) := by decide +kernel
theorem d_AS_hugeLength_55 : decode c_AS_hugeLength 55 = .ok (.ldc 200, 2) := by decide +kernel
theorem d_AS_hugeLength_57 : decode c_AS_hugeLength 57 = .ok (.ireturn, 1) := by decide +kernel
theorem d_AS_hugeLength_58 : decode c_AS_hugeLength 58 = .ok (.iload_n 2, 1) := by decide +kernel
theorem d_AS_hugeLength_59 : decode c_AS_hugeLength 59 = .ok (.ireturn, 1) := by decide +kernel
theorem d_AR_copyOf_0 : decode c_AR_copyOf 0 = .ok (.aload_n 0, 1) := by decide +kernel
theorem d_AR_copyOf_1 : decode c_AR_copyOf 1 = .ok (.iload_n 1, 1) := by decide +kernel
theorem d_AR_copyOf_2 : decode c_AR_copyOf 2 = .ok (.aload_n 0, 1) := by decide +kernel
theorem d_AR_copyOf_3 : decode c_AR_copyOf 3 = .ok (.invokevirtual 86, 3) := by decide +kernel
theorem d_AR_copyOf_6 : decode c_AR_copyOf 6 = .ok (.invokestatic 300, 3) := by decide +kernel
theorem d_AR_copyOf_9 : decode c_AR_copyOf 9 = .ok (.areturn, 1) := by decide +kernel
theorem d_AR_copyOf3_0 : decode c_AR_copyOf3 0 = .ok (.aload_n 2, 1) := by decide +kernel
theorem d_AR_copyOf3_1 : decode c_AR_copyOf3 1 = .ok (.ldc 110, 2) := by decide +kernel
theorem d_AR_copyOf3_3 : decode c_AR_copyOf3 3 = .ok (.if_acmp .ne 10, 3) := by decide +kernel
theorem d_AR_copyOf3_6 : decode c_AR_copyOf3 6 = .ok (.iload_n 1, 1) := by decide +kernel
theorem d_AR_copyOf3_7 : decode c_AR_copyOf3 7 = .ok (.anewarray 2, 3) := by decide +kernel
theorem d_AR_copyOf3_10 : decode c_AR_copyOf3 10 = .ok (.goto 14, 3) := by decide +kernel
theorem d_AR_copyOf3_13 : decode c_AR_copyOf3 13 = .ok (.aload_n 2, 1) := by decide +kernel
theorem d_AR_copyOf3_14 : decode c_AR_copyOf3 14 = .ok (.invokevirtual 90, 3) := by decide +kernel
theorem d_AR_copyOf3_17 : decode c_AR_copyOf3 17 = .ok (.iload_n 1, 1) := by decide +kernel
theorem d_AR_copyOf3_18 : decode c_AR_copyOf3 18 = .ok (.invokestatic 95, 3) := by decide +kernel
theorem d_AR_copyOf3_21 : decode c_AR_copyOf3 21 = .ok (.checkcast 110, 3) := by decide +kernel
theorem d_AR_copyOf3_24 : decode c_AR_copyOf3 24 = .ok (.astore_n 3, 1) := by decide +kernel
theorem d_AR_copyOf3_25 : decode c_AR_copyOf3 25 = .ok (.aload_n 0, 1) := by decide +kernel
theorem d_AR_copyOf3_26 : decode c_AR_copyOf3 26 = .ok (.iconst 0, 1) := by decide +kernel
theorem d_AR_copyOf3_27 : decode c_AR_copyOf3 27 = .ok (.aload_n 3, 1) := by decide +kernel
theorem d_AR_copyOf3_28 : decode c_AR_copyOf3 28 = .ok (.iconst 0, 1) := by decide +kernel
theorem d_AR_copyOf3_29 : decode c_AR_copyOf3 29 = .ok (.aload_n 0, 1) := by decide +kernel
theorem d_AR_copyOf3_30 : decode c_AR_copyOf3 30 = .ok (.arraylength, 1) := by decide +kernel
theorem d_AR_copyOf3_31 : decode c_AR_copyOf3 31 = .ok (.iload_n 1, 1) := by decide +kernel
theorem d_AR_copyOf3_32 : decode c_AR_copyOf3 32 = .ok (.invokestatic 304, 3) := by decide +kernel
theorem d_AR_copyOf3_35 : decode c_AR_copyOf3 35 = .ok (.invokestatic 150, 3) := by decide +kernel
theorem d_AR_copyOf3_38 : decode c_AR_copyOf3 38 = .ok (.aload_n 3, 1) := by decide +kernel
theorem d_AR_copyOf3_39 : decode c_AR_copyOf3 39 = .ok (.areturn, 1) := by decide +kernel
theorem d_MA_min_0 : decode c_MA_min 0 = .ok (.iload_n 0, 1) := by decide +kernel
theorem d_MA_min_1 : decode c_MA_min 1 = .ok (.iload_n 1, 1) := by decide +kernel
theorem d_MA_min_2 : decode c_MA_min 2 = .ok (.if_icmp .gt 7, 3) := by decide +kernel
theorem d_MA_min_5 : decode c_MA_min 5 = .ok (.iload_n 0, 1) := by decide +kernel
theorem d_MA_min_6 : decode c_MA_min 6 = .ok (.goto 4, 3) := by decide +kernel
theorem d_MA_min_9 : decode c_MA_min 9 = .ok (.iload_n 1, 1) := by decide +kernel
theorem d_MA_min_10 : decode c_MA_min 10 = .ok (.ireturn, 1) := by decide +kernel
theorem d_LW_enter_0 : decode c_LW_enter 0 = .ok (.aload_n 0, 1) := by decide +kernel
theorem d_LW_enter_1 : decode c_LW_enter 1 = .ok (.iload_n 1, 1) := by decide +kernel
theorem d_LW_enter_2 : decode c_LW_enter 2 = .ok (.iload_n 2, 1) := by decide +kernel
theorem d_LW_enter_3 : decode c_LW_enter 3 = .ok (.invokevirtual 15, 3) := by decide +kernel
theorem d_LW_enter_6 : decode c_LW_enter 6 = .ok (.goto 12, 3) := by decide +kernel
theorem d_LW_enter_9 : decode c_LW_enter 9 = .ok (.astore_n 3, 1) := by decide +kernel
theorem d_LW_enter_10 : decode c_LW_enter 10 = .ok (.iconst 1, 1) := by decide +kernel
theorem d_LW_enter_11 : decode c_LW_enter 11 = .ok (.ireturn, 1) := by decide +kernel
theorem d_LW_enter_12 : decode c_LW_enter 12 = .ok (.astore_n 3, 1) := by decide +kernel
theorem d_LW_enter_13 : decode c_LW_enter 13 = .ok (.iconst 2, 1) := by decide +kernel
theorem d_LW_enter_14 : decode c_LW_enter 14 = .ok (.ireturn, 1) := by decide +kernel
theorem d_LW_enter_15 : decode c_LW_enter 15 = .ok (.astore_n 3, 1) := by decide +kernel
theorem d_LW_enter_16 : decode c_LW_enter 16 = .ok (.iconst 3, 1) := by decide +kernel
theorem d_LW_enter_17 : decode c_LW_enter 17 = .ok (.ireturn, 1) := by decide +kernel
theorem d_LW_enter_18 : decode c_LW_enter 18 = .ok (.iconst 0, 1) := by decide +kernel
theorem d_LW_enter_19 : decode c_LW_enter 19 = .ok (.ireturn, 1) := by decide +kernel
theorem d_RC_enter_0 : decode c_RC_enter 0 = .ok (.aload_n 0, 1) := by decide +kernel
theorem d_RC_enter_1 : decode c_RC_enter 1 = .ok (.iload_n 1, 1) := by decide +kernel
theorem d_RC_enter_2 : decode c_RC_enter 2 = .ok (.invokevirtual 57, 3) := by decide +kernel
theorem d_RC_enter_5 : decode c_RC_enter 5 = .ok (.astore_n 3, 1) := by decide +kernel
theorem d_RC_enter_6 : decode c_RC_enter 6 = .ok (.iload_n 2, 1) := by decide +kernel
theorem d_RC_enter_7 : decode c_RC_enter 7 = .ok (.invokestatic 61, 3) := by decide +kernel
theorem d_RC_enter_10 : decode c_RC_enter 10 = .ok (.aload_n 3, 1) := by decide +kernel
theorem d_RC_enter_11 : decode c_RC_enter 11 = .ok (.getfield 65, 3) := by decide +kernel
theorem d_RC_enter_14 : decode c_RC_enter 14 = .ok (.iload_n 2, 1) := by decide +kernel
theorem d_RC_enter_15 : decode c_RC_enter 15 = .ok (.if_icmp .ne 13, 3) := by decide +kernel
theorem d_RC_enter_18 : decode c_RC_enter 18 = .ok (.new 68, 3) := by decide +kernel
theorem d_RC_enter_21 : decode c_RC_enter 21 = .ok (.dup, 1) := by decide +kernel
theorem d_RC_enter_22 : decode c_RC_enter 22 = .ok (.ldc 70, 2) := by decide +kernel
theorem d_RC_enter_24 : decode c_RC_enter 24 = .ok (.invokespecial 72, 3) := by decide +kernel
theorem d_RC_enter_27 : decode c_RC_enter 27 = .ok (.athrow, 1) := by decide +kernel
theorem d_RC_enter_28 : decode c_RC_enter 28 = .ok (.aload_n 0, 1) := by decide +kernel
theorem d_RC_enter_29 : decode c_RC_enter 29 = .ok (.iload_n 1, 1) := by decide +kernel
theorem d_RC_enter_30 : decode c_RC_enter 30 = .ok (.iload_n 2, 1) := by decide +kernel
theorem d_RC_enter_31 : decode c_RC_enter 31 = .ok (.invokevirtual 73, 3) := by decide +kernel
theorem d_RC_enter_34 : decode c_RC_enter 34 = .ok (.aload_n 3, 1) := by decide +kernel
theorem d_RC_enter_35 : decode c_RC_enter 35 = .ok (.iload_n 2, 1) := by decide +kernel
theorem d_RC_enter_36 : decode c_RC_enter 36 = .ok (.putfield 65, 3) := by decide +kernel
theorem d_RC_enter_39 : decode c_RC_enter 39 = .ok (.return_, 1) := by decide +kernel
theorem d_RC_knownPerson_0 : decode c_RC_knownPerson 0 = .ok (.iload_n 1, 1) := by decide +kernel
theorem d_RC_knownPerson_1 : decode c_RC_knownPerson 1 = .ok (.ifCond .lt 14, 3) := by decide +kernel
theorem d_RC_knownPerson_4 : decode c_RC_knownPerson 4 = .ok (.iload_n 1, 1) := by decide +kernel
theorem d_RC_knownPerson_5 : decode c_RC_knownPerson 5 = .ok (.aload_n 0, 1) := by decide +kernel
theorem d_RC_knownPerson_6 : decode c_RC_knownPerson 6 = .ok (.getfield 16, 3) := by decide +kernel
theorem d_RC_knownPerson_9 : decode c_RC_knownPerson 9 = .ok (.invokevirtual 39, 3) := by decide +kernel
theorem d_RC_knownPerson_12 : decode c_RC_knownPerson 12 = .ok (.if_icmp .lt 13, 3) := by decide +kernel
theorem d_RC_knownPerson_15 : decode c_RC_knownPerson 15 = .ok (.new 100, 3) := by decide +kernel
theorem d_RC_knownPerson_18 : decode c_RC_knownPerson 18 = .ok (.dup, 1) := by decide +kernel
theorem d_RC_knownPerson_19 : decode c_RC_knownPerson 19 = .ok (.ldc 102, 2) := by decide +kernel
theorem d_RC_knownPerson_21 : decode c_RC_knownPerson 21 = .ok (.invokespecial 104, 3) := by decide +kernel
theorem d_RC_knownPerson_24 : decode c_RC_knownPerson 24 = .ok (.athrow, 1) := by decide +kernel
theorem d_RC_knownPerson_25 : decode c_RC_knownPerson 25 = .ok (.aload_n 0, 1) := by decide +kernel
theorem d_RC_knownPerson_26 : decode c_RC_knownPerson 26 = .ok (.getfield 16, 3) := by decide +kernel
theorem d_RC_knownPerson_29 : decode c_RC_knownPerson 29 = .ok (.iload_n 1, 1) := by decide +kernel
theorem d_RC_knownPerson_30 : decode c_RC_knownPerson 30 = .ok (.invokevirtual 89, 3) := by decide +kernel
theorem d_RC_knownPerson_33 : decode c_RC_knownPerson 33 = .ok (.checkcast 50, 3) := by decide +kernel
theorem d_RC_knownPerson_36 : decode c_RC_knownPerson 36 = .ok (.areturn, 1) := by decide +kernel
theorem d_AL_get_0 : decode c_AL_get 0 = .ok (.iload_n 1, 1) := by decide +kernel
theorem d_AL_get_1 : decode c_AL_get 1 = .ok (.aload_n 0, 1) := by decide +kernel
theorem d_AL_get_2 : decode c_AL_get 2 = .ok (.getfield 48, 3) := by decide +kernel
theorem d_AL_get_5 : decode c_AL_get 5 = .ok (.invokestatic 118, 3) := by decide +kernel
theorem d_AL_get_8 : decode c_AL_get 8 = .ok (.pop, 1) := by decide +kernel
theorem d_AL_get_9 : decode c_AL_get 9 = .ok (.aload_n 0, 1) := by decide +kernel
theorem d_AL_get_10 : decode c_AL_get 10 = .ok (.iload_n 1, 1) := by decide +kernel
theorem d_AL_get_11 : decode c_AL_get 11 = .ok (.invokevirtual 123, 3) := by decide +kernel
theorem d_AL_get_14 : decode c_AL_get 14 = .ok (.areturn, 1) := by decide +kernel
theorem d_OB_checkIndex_0 : decode c_OB_checkIndex 0 = .ok (.iload_n 0, 1) := by decide +kernel
theorem d_OB_checkIndex_1 : decode c_OB_checkIndex 1 = .ok (.iload_n 1, 1) := by decide +kernel
theorem d_OB_checkIndex_2 : decode c_OB_checkIndex 2 = .ok (.aconst_null, 1) := by decide +kernel
theorem d_OB_checkIndex_3 : decode c_OB_checkIndex 3 = .ok (.invokestatic 105, 3) := by decide +kernel
theorem d_OB_checkIndex_6 : decode c_OB_checkIndex 6 = .ok (.ireturn, 1) := by decide +kernel
theorem d_PR_checkIndex_0 : decode c_PR_checkIndex 0 = .ok (.iload_n 0, 1) := by decide +kernel
theorem d_PR_checkIndex_1 : decode c_PR_checkIndex 1 = .ok (.ifCond .lt 8, 3) := by decide +kernel
theorem d_PR_checkIndex_4 : decode c_PR_checkIndex 4 = .ok (.iload_n 0, 1) := by decide +kernel
theorem d_PR_checkIndex_5 : decode c_PR_checkIndex 5 = .ok (.iload_n 1, 1) := by decide +kernel
theorem d_PR_checkIndex_6 : decode c_PR_checkIndex 6 = .ok (.if_icmp .lt 10, 3) := by decide +kernel
theorem d_PR_checkIndex_9 : decode c_PR_checkIndex 9 = .ok (.aload_n 2, 1) := by decide +kernel
theorem d_PR_checkIndex_10 : decode c_PR_checkIndex 10 = .ok (.iload_n 0, 1) := by decide +kernel
theorem d_PR_checkIndex_11 : decode c_PR_checkIndex 11 = .ok (.iload_n 1, 1) := by decide +kernel
theorem d_PR_checkIndex_12 : decode c_PR_checkIndex 12 = .ok (.invokestatic 95, 3) := by decide +kernel
theorem d_PR_checkIndex_15 : decode c_PR_checkIndex 15 = .ok (.athrow, 1) := by decide +kernel
theorem d_PR_checkIndex_16 : decode c_PR_checkIndex 16 = .ok (.iload_n 0, 1) := by decide +kernel
theorem d_PR_checkIndex_17 : decode c_PR_checkIndex 17 = .ok (.ireturn, 1) := by decide +kernel
theorem d_AL_elementData_0 : decode c_AL_elementData 0 = .ok (.aload_n 0, 1) := by decide +kernel
theorem d_AL_elementData_1 : decode c_AL_elementData 1 = .ok (.getfield 9, 3) := by decide +kernel
theorem d_AL_elementData_4 : decode c_AL_elementData 4 = .ok (.iload_n 1, 1) := by decide +kernel
theorem d_AL_elementData_5 : decode c_AL_elementData 5 = .ok (.aaload, 1) := by decide +kernel
theorem d_AL_elementData_6 : decode c_AL_elementData 6 = .ok (.areturn, 1) := by decide +kernel
theorem d_RC_checkSector_0 : decode c_RC_checkSector 0 = .ok (.iload_n 0, 1) := by decide +kernel
theorem d_RC_checkSector_1 : decode c_RC_checkSector 1 = .ok (.ifCond .lt 9, 3) := by decide +kernel
theorem d_RC_checkSector_4 : decode c_RC_checkSector 4 = .ok (.iload_n 0, 1) := by decide +kernel
theorem d_RC_checkSector_5 : decode c_RC_checkSector 5 = .ok (.bipush 10, 2) := by decide +kernel
theorem d_RC_checkSector_7 : decode c_RC_checkSector 7 = .ok (.if_icmp .lt 13, 3) := by decide +kernel
theorem d_RC_checkSector_10 : decode c_RC_checkSector 10 = .ok (.new 100, 3) := by decide +kernel
theorem d_RC_checkSector_13 : decode c_RC_checkSector 13 = .ok (.dup, 1) := by decide +kernel
theorem d_RC_checkSector_14 : decode c_RC_checkSector 14 = .ok (.ldc 105, 2) := by decide +kernel
theorem d_RC_checkSector_16 : decode c_RC_checkSector 16 = .ok (.invokespecial 104, 3) := by decide +kernel
theorem d_RC_checkSector_19 : decode c_RC_checkSector 19 = .ok (.athrow, 1) := by decide +kernel
theorem d_RC_checkSector_20 : decode c_RC_checkSector 20 = .ok (.return_, 1) := by decide +kernel
theorem d_RC_addMove_0 : decode c_RC_addMove 0 = .ok (.aload_n 0, 1) := by decide +kernel
theorem d_RC_addMove_1 : decode c_RC_addMove 1 = .ok (.getfield 20, 3) := by decide +kernel
theorem d_RC_addMove_4 : decode c_RC_addMove 4 = .ok (.invokevirtual 39, 3) := by decide +kernel
theorem d_RC_addMove_7 : decode c_RC_addMove 7 = .ok (.sipush 300, 3) := by decide +kernel
theorem d_RC_addMove_10 : decode c_RC_addMove 10 = .ok (.if_icmp .lt 13, 3) := by decide +kernel
theorem d_RC_addMove_13 : decode c_RC_addMove 13 = .ok (.new 43, 3) := by decide +kernel
theorem d_RC_addMove_16 : decode c_RC_addMove 16 = .ok (.dup, 1) := by decide +kernel
theorem d_RC_addMove_17 : decode c_RC_addMove 17 = .ok (.ldc 107, 2) := by decide +kernel
theorem d_RC_addMove_19 : decode c_RC_addMove 19 = .ok (.invokespecial 47, 3) := by decide +kernel
theorem d_RC_addMove_22 : decode c_RC_addMove 22 = .ok (.athrow, 1) := by decide +kernel
theorem d_RC_addMove_23 : decode c_RC_addMove 23 = .ok (.aload_n 0, 1) := by decide +kernel
theorem d_RC_addMove_24 : decode c_RC_addMove 24 = .ok (.getfield 20, 3) := by decide +kernel
theorem d_RC_addMove_27 : decode c_RC_addMove 27 = .ok (.new 93, 3) := by decide +kernel
theorem d_RC_addMove_30 : decode c_RC_addMove 30 = .ok (.dup, 1) := by decide +kernel
theorem d_RC_addMove_31 : decode c_RC_addMove 31 = .ok (.iload_n 1, 1) := by decide +kernel
theorem d_RC_addMove_32 : decode c_RC_addMove 32 = .ok (.iload_n 2, 1) := by decide +kernel
theorem d_RC_addMove_33 : decode c_RC_addMove 33 = .ok (.aload_n 0, 1) := by decide +kernel
theorem d_RC_addMove_34 : decode c_RC_addMove 34 = .ok (.getfield 35, 3) := by decide +kernel
theorem d_RC_addMove_37 : decode c_RC_addMove 37 = .ok (.invokespecial 109, 3) := by decide +kernel
theorem d_RC_addMove_40 : decode c_RC_addMove 40 = .ok (.invokevirtual 53, 3) := by decide +kernel
theorem d_RC_addMove_43 : decode c_RC_addMove 43 = .ok (.pop, 1) := by decide +kernel
theorem d_RC_addMove_44 : decode c_RC_addMove 44 = .ok (.return_, 1) := by decide +kernel
theorem d_MO_init_0 : decode c_MO_init 0 = .ok (.aload_n 0, 1) := by decide +kernel
theorem d_MO_init_1 : decode c_MO_init 1 = .ok (.invokespecial 1, 3) := by decide +kernel
theorem d_MO_init_4 : decode c_MO_init 4 = .ok (.aload_n 0, 1) := by decide +kernel
theorem d_MO_init_5 : decode c_MO_init 5 = .ok (.iload_n 1, 1) := by decide +kernel
theorem d_MO_init_6 : decode c_MO_init 6 = .ok (.putfield 7, 3) := by decide +kernel
theorem d_MO_init_9 : decode c_MO_init 9 = .ok (.aload_n 0, 1) := by decide +kernel
theorem d_MO_init_10 : decode c_MO_init 10 = .ok (.iload_n 2, 1) := by decide +kernel
theorem d_MO_init_11 : decode c_MO_init 11 = .ok (.putfield 13, 3) := by decide +kernel
theorem d_MO_init_14 : decode c_MO_init 14 = .ok (.aload_n 0, 1) := by decide +kernel
theorem d_MO_init_15 : decode c_MO_init 15 = .ok (.iload_n 3, 1) := by decide +kernel
theorem d_MO_init_16 : decode c_MO_init 16 = .ok (.putfield 16, 3) := by decide +kernel
theorem d_MO_init_19 : decode c_MO_init 19 = .ok (.return_, 1) := by decide +kernel
theorem d_LW_leave_0 : decode c_LW_leave 0 = .ok (.aload_n 0, 1) := by decide +kernel
theorem d_LW_leave_1 : decode c_LW_leave 1 = .ok (.iload_n 1, 1) := by decide +kernel
theorem d_LW_leave_2 : decode c_LW_leave 2 = .ok (.invokevirtual 23, 3) := by decide +kernel
theorem d_LW_leave_5 : decode c_LW_leave 5 = .ok (.goto 12, 3) := by decide +kernel
theorem d_LW_leave_8 : decode c_LW_leave 8 = .ok (.astore_n 2, 1) := by decide +kernel
theorem d_LW_leave_9 : decode c_LW_leave 9 = .ok (.iconst 1, 1) := by decide +kernel
theorem d_LW_leave_10 : decode c_LW_leave 10 = .ok (.ireturn, 1) := by decide +kernel
theorem d_LW_leave_11 : decode c_LW_leave 11 = .ok (.astore_n 2, 1) := by decide +kernel
theorem d_LW_leave_12 : decode c_LW_leave 12 = .ok (.iconst 2, 1) := by decide +kernel
theorem d_LW_leave_13 : decode c_LW_leave 13 = .ok (.ireturn, 1) := by decide +kernel
theorem d_LW_leave_14 : decode c_LW_leave 14 = .ok (.astore_n 2, 1) := by decide +kernel
theorem d_LW_leave_15 : decode c_LW_leave 15 = .ok (.iconst 3, 1) := by decide +kernel
theorem d_LW_leave_16 : decode c_LW_leave 16 = .ok (.ireturn, 1) := by decide +kernel
theorem d_LW_leave_17 : decode c_LW_leave 17 = .ok (.iconst 0, 1) := by decide +kernel
theorem d_LW_leave_18 : decode c_LW_leave 18 = .ok (.ireturn, 1) := by decide +kernel
theorem d_RC_leave_0 : decode c_RC_leave 0 = .ok (.aload_n 0, 1) := by decide +kernel
theorem d_RC_leave_1 : decode c_RC_leave 1 = .ok (.iload_n 1, 1) := by decide +kernel
theorem d_RC_leave_2 : decode c_RC_leave 2 = .ok (.invokevirtual 57, 3) := by decide +kernel
theorem d_RC_leave_5 : decode c_RC_leave 5 = .ok (.astore_n 2, 1) := by decide +kernel
theorem d_RC_leave_6 : decode c_RC_leave 6 = .ok (.aload_n 2, 1) := by decide +kernel
theorem d_RC_leave_7 : decode c_RC_leave 7 = .ok (.getfield 65, 3) := by decide +kernel
theorem d_RC_leave_10 : decode c_RC_leave 10 = .ok (.iconst (-1), 1) := by decide +kernel
theorem d_RC_leave_11 : decode c_RC_leave 11 = .ok (.if_icmp .ne 13, 3) := by decide +kernel
theorem d_RC_leave_14 : decode c_RC_leave 14 = .ok (.new 68, 3) := by decide +kernel
theorem d_RC_leave_17 : decode c_RC_leave 17 = .ok (.dup, 1) := by decide +kernel
theorem d_RC_leave_18 : decode c_RC_leave 18 = .ok (.ldc 77, 2) := by decide +kernel
theorem d_RC_leave_20 : decode c_RC_leave 20 = .ok (.invokespecial 72, 3) := by decide +kernel
theorem d_RC_leave_23 : decode c_RC_leave 23 = .ok (.athrow, 1) := by decide +kernel
theorem d_RC_leave_24 : decode c_RC_leave 24 = .ok (.aload_n 0, 1) := by decide +kernel
theorem d_RC_leave_25 : decode c_RC_leave 25 = .ok (.iload_n 1, 1) := by decide +kernel
theorem d_RC_leave_26 : decode c_RC_leave 26 = .ok (.iconst (-1), 1) := by decide +kernel
theorem d_RC_leave_27 : decode c_RC_leave 27 = .ok (.invokevirtual 73, 3) := by decide +kernel
theorem d_RC_leave_30 : decode c_RC_leave 30 = .ok (.aload_n 2, 1) := by decide +kernel
theorem d_RC_leave_31 : decode c_RC_leave 31 = .ok (.iconst (-1), 1) := by decide +kernel
theorem d_RC_leave_32 : decode c_RC_leave 32 = .ok (.putfield 65, 3) := by decide +kernel
theorem d_RC_leave_35 : decode c_RC_leave 35 = .ok (.aload_n 2, 1) := by decide +kernel
theorem d_RC_leave_36 : decode c_RC_leave 36 = .ok (.aload_n 0, 1) := by decide +kernel
theorem d_RC_leave_37 : decode c_RC_leave 37 = .ok (.getfield 23, 3) := by decide +kernel
theorem d_RC_leave_40 : decode c_RC_leave 40 = .ok (.invokevirtual 39, 3) := by decide +kernel
theorem d_RC_leave_43 : decode c_RC_leave 43 = .ok (.putfield 79, 3) := by decide +kernel
theorem d_RC_leave_46 : decode c_RC_leave 46 = .ok (.return_, 1) := by decide +kernel
theorem d_LW_guests_0 : decode c_LW_guests 0 = .ok (.aload_n 0, 1) := by decide +kernel
theorem d_LW_guests_1 : decode c_LW_guests 1 = .ok (.iload_n 1, 1) := by decide +kernel
theorem d_LW_guests_2 : decode c_LW_guests 2 = .ok (.iload_n 2, 1) := by decide +kernel
theorem d_LW_guests_3 : decode c_LW_guests 3 = .ok (.invokevirtual 27, 3) := by decide +kernel
theorem d_LW_guests_6 : decode c_LW_guests 6 = .ok (.goto 9, 3) := by decide +kernel
theorem d_LW_guests_9 : decode c_LW_guests 9 = .ok (.astore_n 3, 1) := by decide +kernel
theorem d_LW_guests_10 : decode c_LW_guests 10 = .ok (.iconst 1, 1) := by decide +kernel
theorem d_LW_guests_11 : decode c_LW_guests 11 = .ok (.ireturn, 1) := by decide +kernel
theorem d_LW_guests_12 : decode c_LW_guests 12 = .ok (.astore_n 3, 1) := by decide +kernel
theorem d_LW_guests_13 : decode c_LW_guests 13 = .ok (.iconst 2, 1) := by decide +kernel
theorem d_LW_guests_14 : decode c_LW_guests 14 = .ok (.ireturn, 1) := by decide +kernel
theorem d_LW_guests_15 : decode c_LW_guests 15 = .ok (.iconst 0, 1) := by decide +kernel
theorem d_LW_guests_16 : decode c_LW_guests 16 = .ok (.ireturn, 1) := by decide +kernel
theorem d_RC_guests_0 : decode c_RC_guests 0 = .ok (.iload_n 1, 1) := by decide +kernel
theorem d_RC_guests_1 : decode c_RC_guests 1 = .ok (.invokestatic 61, 3) := by decide +kernel
theorem d_RC_guests_4 : decode c_RC_guests 4 = .ok (.iload_n 2, 1) := by decide +kernel
theorem d_RC_guests_5 : decode c_RC_guests 5 = .ok (.ifCond .lt 10, 3) := by decide +kernel
theorem d_RC_guests_8 : decode c_RC_guests 8 = .ok (.iload_n 2, 1) := by decide +kernel
theorem d_RC_guests_9 : decode c_RC_guests 9 = .ok (.sipush 999, 3) := by decide +kernel
theorem d_RC_guests_12 : decode c_RC_guests 12 = .ok (.if_icmp .le 13, 3) := by decide +kernel
theorem d_RC_guests_15 : decode c_RC_guests 15 = .ok (.new 82, 3) := by decide +kernel
theorem d_RC_guests_18 : decode c_RC_guests 18 = .ok (.dup, 1) := by decide +kernel
theorem d_RC_guests_19 : decode c_RC_guests 19 = .ok (.ldc 84, 2) := by decide +kernel
theorem d_RC_guests_21 : decode c_RC_guests 21 = .ok (.invokespecial 86, 3) := by decide +kernel
theorem d_RC_guests_24 : decode c_RC_guests 24 = .ok (.athrow, 1) := by decide +kernel
theorem d_RC_guests_25 : decode c_RC_guests 25 = .ok (.aload_n 0, 1) := by decide +kernel
theorem d_RC_guests_26 : decode c_RC_guests 26 = .ok (.getfield 9, 3) := by decide +kernel
theorem d_RC_guests_29 : decode c_RC_guests 29 = .ok (.iload_n 1, 1) := by decide +kernel
theorem d_RC_guests_30 : decode c_RC_guests 30 = .ok (.iload_n 2, 1) := by decide +kernel
theorem d_RC_guests_31 : decode c_RC_guests 31 = .ok (.iastore, 1) := by decide +kernel
theorem d_RC_guests_32 : decode c_RC_guests 32 = .ok (.return_, 1) := by decide +kernel
theorem d_LW_roll_0 : decode c_LW_roll 0 = .ok (.aload_n 2, 1) := by decide +kernel
theorem d_LW_roll_1 : decode c_LW_roll 1 = .ok (.iconst 0, 1) := by decide +kernel
theorem d_LW_roll_2 : decode c_LW_roll 2 = .ok (.aload_n 0, 1) := by decide +kernel
theorem d_LW_roll_3 : decode c_LW_roll 3 = .ok (.iload_n 1, 1) := by decide +kernel
theorem d_LW_roll_4 : decode c_LW_roll 4 = .ok (.invokevirtual 32, 3) := by decide +kernel
theorem d_LW_roll_7 : decode c_LW_roll 7 = .ok (.i2l, 1) := by decide +kernel
theorem d_LW_roll_8 : decode c_LW_roll 8 = .ok (.lastore, 1) := by decide +kernel
theorem d_LW_roll_9 : decode c_LW_roll 9 = .ok (.goto 12, 3) := by decide +kernel
theorem d_LW_roll_12 : decode c_LW_roll 12 = .ok (.astore_n 3, 1) := by decide +kernel
theorem d_LW_roll_13 : decode c_LW_roll 13 = .ok (.iconst 1, 1) := by decide +kernel
theorem d_LW_roll_14 : decode c_LW_roll 14 = .ok (.ireturn, 1) := by decide +kernel
theorem d_LW_roll_15 : decode c_LW_roll 15 = .ok (.astore_n 3, 1) := by decide +kernel
theorem d_LW_roll_16 : decode c_LW_roll 16 = .ok (.iconst 2, 1) := by decide +kernel
theorem d_LW_roll_17 : decode c_LW_roll 17 = .ok (.ireturn, 1) := by decide +kernel
theorem d_LW_roll_18 : decode c_LW_roll 18 = .ok (.astore_n 3, 1) := by decide +kernel
theorem d_LW_roll_19 : decode c_LW_roll 19 = .ok (.iconst 3, 1) := by decide +kernel
theorem d_LW_roll_20 : decode c_LW_roll 20 = .ok (.ireturn, 1) := by decide +kernel
theorem d_LW_roll_21 : decode c_LW_roll 21 = .ok (.iconst 0, 1) := by decide +kernel
theorem d_LW_roll_22 : decode c_LW_roll 22 = .ok (.ireturn, 1) := by decide +kernel
theorem d_RC_roll_0 : decode c_RC_roll 0 = .ok (.iload_n 1, 1) := by decide +kernel
theorem d_RC_roll_1 : decode c_RC_roll 1 = .ok (.iconst (-1), 1) := by decide +kernel
theorem d_RC_roll_2 : decode c_RC_roll 2 = .ok (.if_icmp .eq 7, 3) := by decide +kernel
theorem d_RC_roll_5 : decode c_RC_roll 5 = .ok (.iload_n 1, 1) := by decide +kernel
theorem d_RC_roll_6 : decode c_RC_roll 6 = .ok (.invokestatic 61, 3) := by decide +kernel
theorem d_RC_roll_9 : decode c_RC_roll 9 = .ok (.aload_n 0, 1) := by decide +kernel
theorem d_RC_roll_10 : decode c_RC_roll 10 = .ok (.iload_n 1, 1) := by decide +kernel
theorem d_RC_roll_11 : decode c_RC_roll 11 = .ok (.invokevirtual 112, 3) := by decide +kernel
theorem d_RC_roll_14 : decode c_RC_roll 14 = .ok (.ifCond .ne 10, 3) := by decide +kernel
theorem d_RC_roll_17 : decode c_RC_roll 17 = .ok (.aload_n 0, 1) := by decide +kernel
theorem d_RC_roll_18 : decode c_RC_roll 18 = .ok (.invokevirtual 116, 3) := by decide +kernel
theorem d_RC_roll_21 : decode c_RC_roll 21 = .ok (.ifCond .le 13, 3) := by decide +kernel
theorem d_RC_roll_24 : decode c_RC_roll 24 = .ok (.new 68, 3) := by decide +kernel
theorem d_RC_roll_27 : decode c_RC_roll 27 = .ok (.dup, 1) := by decide +kernel
theorem d_RC_roll_28 : decode c_RC_roll 28 = .ok (.ldc 119, 2) := by decide +kernel
theorem d_RC_roll_30 : decode c_RC_roll 30 = .ok (.invokespecial 72, 3) := by decide +kernel
theorem d_RC_roll_33 : decode c_RC_roll 33 = .ok (.athrow, 1) := by decide +kernel
theorem d_RC_roll_34 : decode c_RC_roll 34 = .ok (.aload_n 0, 1) := by decide +kernel
theorem d_RC_roll_35 : decode c_RC_roll 35 = .ok (.getfield 23, 3) := by decide +kernel
theorem d_RC_roll_38 : decode c_RC_roll 38 = .ok (.invokevirtual 39, 3) := by decide +kernel
theorem d_RC_roll_41 : decode c_RC_roll 41 = .ok (.bipush 40, 2) := by decide +kernel
theorem d_RC_roll_43 : decode c_RC_roll 43 = .ok (.if_icmp .lt 13, 3) := by decide +kernel
theorem d_RC_roll_46 : decode c_RC_roll 46 = .ok (.new 43, 3) := by decide +kernel
theorem d_RC_roll_49 : decode c_RC_roll 49 = .ok (.dup, 1) := by decide +kernel
theorem d_RC_roll_50 : decode c_RC_roll 50 = .ok (.ldc 121, 2) := by decide +kernel
theorem d_RC_roll_52 : decode c_RC_roll 52 = .ok (.invokespecial 47, 3) := by decide +kernel
theorem d_RC_roll_55 : decode c_RC_roll 55 = .ok (.athrow, 1) := by decide +kernel
theorem d_RC_roll_56 : decode c_RC_roll 56 = .ok (.new 123, 3) := by decide +kernel
theorem d_RC_roll_59 : decode c_RC_roll 59 = .ok (.dup, 1) := by decide +kernel
theorem d_RC_roll_60 : decode c_RC_roll 60 = .ok (.aload_n 0, 1) := by decide +kernel
theorem d_RC_roll_61 : decode c_RC_roll 61 = .ok (.getfield 23, 3) := by decide +kernel
theorem d_RC_roll_64 : decode c_RC_roll 64 = .ok (.invokevirtual 39, 3) := by decide +kernel
theorem d_RC_roll_67 : decode c_RC_roll 67 = .ok (.iload_n 1, 1) := by decide +kernel
theorem d_RC_roll_68 : decode c_RC_roll 68 = .ok (.aload_n 0, 1) := by decide +kernel
theorem d_RC_roll_69 : decode c_RC_roll 69 = .ok (.getfield 16, 3) := by decide +kernel
theorem d_RC_roll_72 : decode c_RC_roll 72 = .ok (.invokevirtual 39, 3) := by decide +kernel
theorem d_RC_roll_75 : decode c_RC_roll 75 = .ok (.invokespecial 125, 3) := by decide +kernel
theorem d_RC_roll_78 : decode c_RC_roll 78 = .ok (.astore_n 2, 1) := by decide +kernel
theorem d_RC_roll_79 : decode c_RC_roll 79 = .ok (.aload_n 0, 1) := by decide +kernel
theorem d_RC_roll_80 : decode c_RC_roll 80 = .ok (.aload_n 2, 1) := by decide +kernel
theorem d_RC_roll_81 : decode c_RC_roll 81 = .ok (.invokevirtual 126, 3) := by decide +kernel
theorem d_RC_roll_84 : decode c_RC_roll 84 = .ok (.aload_n 2, 1) := by decide +kernel
theorem d_RC_roll_85 : decode c_RC_roll 85 = .ok (.invokevirtual 130, 3) := by decide +kernel
theorem d_RC_roll_88 : decode c_RC_roll 88 = .ok (.aload_n 0, 1) := by decide +kernel
theorem d_RC_roll_89 : decode c_RC_roll 89 = .ok (.getfield 23, 3) := by decide +kernel
theorem d_RC_roll_92 : decode c_RC_roll 92 = .ok (.aload_n 2, 1) := by decide +kernel
theorem d_RC_roll_93 : decode c_RC_roll 93 = .ok (.invokevirtual 53, 3) := by decide +kernel
theorem d_RC_roll_96 : decode c_RC_roll 96 = .ok (.pop, 1) := by decide +kernel
theorem d_RC_roll_97 : decode c_RC_roll 97 = .ok (.aload_n 2, 1) := by decide +kernel
theorem d_RC_roll_98 : decode c_RC_roll 98 = .ok (.getfield 133, 3) := by decide +kernel
theorem d_RC_roll_101 : decode c_RC_roll 101 = .ok (.ireturn, 1) := by decide +kernel
end
section
theorem d_RC_isAskedNow_0 : decode c_RC_isAskedNow 0 = .ok (.iconst 0, 1) := by decide +kernel
theorem d_RC_isAskedNow_1 : decode c_RC_isAskedNow 1 = .ok (.istore_n 2, 1) := by decide +kernel
theorem d_RC_isAskedNow_2 : decode c_RC_isAskedNow 2 = .ok (.iload_n 2, 1) := by decide +kernel
theorem d_RC_isAskedNow_3 : decode c_RC_isAskedNow 3 = .ok (.aload_n 0, 1) := by decide +kernel
theorem d_RC_isAskedNow_4 : decode c_RC_isAskedNow 4 = .ok (.getfield 23, 3) := by decide +kernel
theorem d_RC_isAskedNow_7 : decode c_RC_isAskedNow 7 = .ok (.invokevirtual 39, 3) := by decide +kernel
theorem d_RC_isAskedNow_10 : decode c_RC_isAskedNow 10 = .ok (.if_icmp .ge 43, 3) := by decide +kernel
theorem d_RC_isAskedNow_13 : decode c_RC_isAskedNow 13 = .ok (.aload_n 0, 1) := by decide +kernel
theorem d_RC_isAskedNow_14 : decode c_RC_isAskedNow 14 = .ok (.getfield 23, 3) := by decide +kernel
theorem d_RC_isAskedNow_17 : decode c_RC_isAskedNow 17 = .ok (.iload_n 2, 1) := by decide +kernel
theorem d_RC_isAskedNow_18 : decode c_RC_isAskedNow 18 = .ok (.invokevirtual 89, 3) := by decide +kernel
theorem d_RC_isAskedNow_21 : decode c_RC_isAskedNow 21 = .ok (.checkcast 123, 3) := by decide +kernel
theorem d_RC_isAskedNow_24 : decode c_RC_isAskedNow 24 = .ok (.astore_n 3, 1) := by decide +kernel
theorem d_RC_isAskedNow_25 : decode c_RC_isAskedNow 25 = .ok (.aload_n 3, 1) := by decide +kernel
theorem d_RC_isAskedNow_26 : decode c_RC_isAskedNow 26 = .ok (.invokevirtual 187, 3) := by decide +kernel
theorem d_RC_isAskedNow_29 : decode c_RC_isAskedNow 29 = .ok (.ifCond .ne 18, 3) := by decide +kernel
theorem d_RC_isAskedNow_32 : decode c_RC_isAskedNow 32 = .ok (.iload_n 1, 1) := by decide +kernel
theorem d_RC_isAskedNow_33 : decode c_RC_isAskedNow 33 = .ok (.iconst (-1), 1) := by decide +kernel
theorem d_RC_isAskedNow_34 : decode c_RC_isAskedNow 34 = .ok (.if_icmp .eq 11, 3) := by decide +kernel
theorem d_RC_isAskedNow_37 : decode c_RC_isAskedNow 37 = .ok (.aload_n 3, 1) := by decide +kernel
theorem d_RC_isAskedNow_38 : decode c_RC_isAskedNow 38 = .ok (.iload_n 1, 1) := by decide +kernel
theorem d_RC_isAskedNow_39 : decode c_RC_isAskedNow 39 = .ok (.invokevirtual 229, 3) := by decide +kernel
theorem d_RC_isAskedNow_42 : decode c_RC_isAskedNow 42 = .ok (.ifCond .eq 5, 3) := by decide +kernel
theorem d_RC_isAskedNow_45 : decode c_RC_isAskedNow 45 = .ok (.iconst 1, 1) := by decide +kernel
theorem d_RC_isAskedNow_46 : decode c_RC_isAskedNow 46 = .ok (.ireturn, 1) := by decide +kernel
theorem d_RC_isAskedNow_47 : decode c_RC_isAskedNow 47 = .ok (.iinc 2 1, 3) := by decide +kernel
theorem d_RC_isAskedNow_50 : decode c_RC_isAskedNow 50 = .ok (.goto (-48), 3) := by decide +kernel
theorem d_RC_isAskedNow_53 : decode c_RC_isAskedNow 53 = .ok (.iconst 0, 1) := by decide +kernel
theorem d_RC_isAskedNow_54 : decode c_RC_isAskedNow 54 = .ok (.ireturn, 1) := by decide +kernel
theorem d_RO_isOver_0 : decode c_RO_isOver 0 = .ok (.aload_n 0, 1) := by decide +kernel
theorem d_RO_isOver_1 : decode c_RO_isOver 1 = .ok (.getfield 34, 3) := by decide +kernel
theorem d_RO_isOver_4 : decode c_RO_isOver 4 = .ok (.iconst 3, 1) := by decide +kernel
theorem d_RO_isOver_5 : decode c_RO_isOver 5 = .ok (.if_icmp .lt 7, 3) := by decide +kernel
theorem d_RO_isOver_8 : decode c_RO_isOver 8 = .ok (.iconst 1, 1) := by decide +kernel
theorem d_RO_isOver_9 : decode c_RO_isOver 9 = .ok (.goto 4, 3) := by decide +kernel
theorem d_RO_isOver_12 : decode c_RO_isOver 12 = .ok (.iconst 0, 1) := by decide +kernel
theorem d_RO_isOver_13 : decode c_RO_isOver 13 = .ok (.ireturn, 1) := by decide +kernel
theorem d_RO_asksSector_0 : decode c_RO_asksSector 0 = .ok (.aload_n 0, 1) := by decide +kernel
theorem d_RO_asksSector_1 : decode c_RO_asksSector 1 = .ok (.getfield 15, 3) := by decide +kernel
theorem d_RO_asksSector_4 : decode c_RO_asksSector 4 = .ok (.iconst (-1), 1) := by decide +kernel
theorem d_RO_asksSector_5 : decode c_RO_asksSector 5 = .ok (.if_icmp .eq 11, 3) := by decide +kernel
theorem d_RO_asksSector_8 : decode c_RO_asksSector 8 = .ok (.aload_n 0, 1) := by decide +kernel
theorem d_RO_asksSector_9 : decode c_RO_asksSector 9 = .ok (.getfield 15, 3) := by decide +kernel
theorem d_RO_asksSector_12 : decode c_RO_asksSector 12 = .ok (.iload_n 1, 1) := by decide +kernel
theorem d_RO_asksSector_13 : decode c_RO_asksSector 13 = .ok (.if_icmp .ne 7, 3) := by decide +kernel
theorem d_RO_asksSector_16 : decode c_RO_asksSector 16 = .ok (.iconst 1, 1) := by decide +kernel
theorem d_RO_asksSector_17 : decode c_RO_asksSector 17 = .ok (.goto 4, 3) := by decide +kernel
theorem d_RO_asksSector_20 : decode c_RO_asksSector 20 = .ok (.iconst 0, 1) := by decide +kernel
theorem d_RO_asksSector_21 : decode c_RO_asksSector 21 = .ok (.ireturn, 1) := by decide +kernel
theorem d_RC_openMaydays_0 : decode c_RC_openMaydays 0 = .ok (.iconst 0, 1) := by decide +kernel
theorem d_RC_openMaydays_1 : decode c_RC_openMaydays 1 = .ok (.istore_n 1, 1) := by decide +kernel
theorem d_RC_openMaydays_2 : decode c_RC_openMaydays 2 = .ok (.iconst 0, 1) := by decide +kernel
theorem d_RC_openMaydays_3 : decode c_RC_openMaydays 3 = .ok (.istore_n 2, 1) := by decide +kernel
theorem d_RC_openMaydays_4 : decode c_RC_openMaydays 4 = .ok (.iload_n 2, 1) := by decide +kernel
theorem d_RC_openMaydays_5 : decode c_RC_openMaydays 5 = .ok (.aload_n 0, 1) := by decide +kernel
theorem d_RC_openMaydays_6 : decode c_RC_openMaydays 6 = .ok (.getfield 29, 3) := by decide +kernel
theorem d_RC_openMaydays_9 : decode c_RC_openMaydays 9 = .ok (.invokevirtual 39, 3) := by decide +kernel
theorem d_RC_openMaydays_12 : decode c_RC_openMaydays 12 = .ok (.if_icmp .ge 29, 3) := by decide +kernel
theorem d_RC_openMaydays_15 : decode c_RC_openMaydays 15 = .ok (.aload_n 0, 1) := by decide +kernel
theorem d_RC_openMaydays_16 : decode c_RC_openMaydays 16 = .ok (.getfield 29, 3) := by decide +kernel
theorem d_RC_openMaydays_19 : decode c_RC_openMaydays 19 = .ok (.iload_n 2, 1) := by decide +kernel
theorem d_RC_openMaydays_20 : decode c_RC_openMaydays 20 = .ok (.invokevirtual 89, 3) := by decide +kernel
theorem d_RC_openMaydays_23 : decode c_RC_openMaydays 23 = .ok (.checkcast 252, 3) := by decide +kernel
theorem d_RC_openMaydays_26 : decode c_RC_openMaydays 26 = .ok (.getfield 262, 3) := by decide +kernel
theorem d_RC_openMaydays_29 : decode c_RC_openMaydays 29 = .ok (.ifCond .eq 6, 3) := by decide +kernel
theorem d_RC_openMaydays_32 : decode c_RC_openMaydays 32 = .ok (.iinc 1 1, 3) := by decide +kernel
theorem d_RC_openMaydays_35 : decode c_RC_openMaydays 35 = .ok (.iinc 2 1, 3) := by decide +kernel
theorem d_RC_openMaydays_38 : decode c_RC_openMaydays 38 = .ok (.goto (-34), 3) := by decide +kernel
theorem d_RC_openMaydays_41 : decode c_RC_openMaydays 41 = .ok (.iload_n 1, 1) := by decide +kernel
theorem d_RC_openMaydays_42 : decode c_RC_openMaydays 42 = .ok (.ireturn, 1) := by decide +kernel
theorem d_RO_init_0 : decode c_RO_init 0 = .ok (.aload_n 0, 1) := by decide +kernel
theorem d_RO_init_1 : decode c_RO_init 1 = .ok (.invokespecial 3, 3) := by decide +kernel
theorem d_RO_init_4 : decode c_RO_init 4 = .ok (.aload_n 0, 1) := by decide +kernel
theorem d_RO_init_5 : decode c_RO_init 5 = .ok (.iload_n 1, 1) := by decide +kernel
theorem d_RO_init_6 : decode c_RO_init 6 = .ok (.putfield 9, 3) := by decide +kernel
theorem d_RO_init_9 : decode c_RO_init 9 = .ok (.aload_n 0, 1) := by decide +kernel
theorem d_RO_init_10 : decode c_RO_init 10 = .ok (.iload_n 2, 1) := by decide +kernel
theorem d_RO_init_11 : decode c_RO_init 11 = .ok (.putfield 15, 3) := by decide +kernel
theorem d_RO_init_14 : decode c_RO_init 14 = .ok (.aload_n 0, 1) := by decide +kernel
theorem d_RO_init_15 : decode c_RO_init 15 = .ok (.iconst 0, 1) := by decide +kernel
theorem d_RO_init_16 : decode c_RO_init 16 = .ok (.iload_n 3, 1) := by decide +kernel
theorem d_RO_init_17 : decode c_RO_init 17 = .ok (.invokestatic 18, 3) := by decide +kernel
theorem d_RO_init_20 : decode c_RO_init 20 = .ok (.newarray .int, 2) := by decide +kernel
theorem d_RO_init_22 : decode c_RO_init 22 = .ok (.putfield 24, 3) := by decide +kernel
theorem d_RO_init_25 : decode c_RO_init 25 = .ok (.aload_n 0, 1) := by decide +kernel
theorem d_RO_init_26 : decode c_RO_init 26 = .ok (.getfield 24, 3) := by decide +kernel
theorem d_RO_init_29 : decode c_RO_init 29 = .ok (.bipush (-2), 2) := by decide +kernel
theorem d_RO_init_31 : decode c_RO_init 31 = .ok (.invokestatic 28, 3) := by decide +kernel
theorem d_RO_init_34 : decode c_RO_init 34 = .ok (.aload_n 0, 1) := by decide +kernel
theorem d_RO_init_35 : decode c_RO_init 35 = .ok (.iconst 1, 1) := by decide +kernel
theorem d_RO_init_36 : decode c_RO_init 36 = .ok (.putfield 34, 3) := by decide +kernel
theorem d_RO_init_39 : decode c_RO_init 39 = .ok (.return_, 1) := by decide +kernel
theorem d_AR_fill_0 : decode c_AR_fill 0 = .ok (.iconst 0, 1) := by decide +kernel
theorem d_AR_fill_1 : decode c_AR_fill 1 = .ok (.istore_n 2, 1) := by decide +kernel
theorem d_AR_fill_2 : decode c_AR_fill 2 = .ok (.aload_n 0, 1) := by decide +kernel
theorem d_AR_fill_3 : decode c_AR_fill 3 = .ok (.arraylength, 1) := by decide +kernel
theorem d_AR_fill_4 : decode c_AR_fill 4 = .ok (.istore_n 3, 1) := by decide +kernel
theorem d_AR_fill_5 : decode c_AR_fill 5 = .ok (.iload_n 2, 1) := by decide +kernel
theorem d_AR_fill_6 : decode c_AR_fill 6 = .ok (.iload_n 3, 1) := by decide +kernel
theorem d_AR_fill_7 : decode c_AR_fill 7 = .ok (.if_icmp .ge 13, 3) := by decide +kernel
theorem d_AR_fill_10 : decode c_AR_fill 10 = .ok (.aload_n 0, 1) := by decide +kernel
theorem d_AR_fill_11 : decode c_AR_fill 11 = .ok (.iload_n 2, 1) := by decide +kernel
theorem d_AR_fill_12 : decode c_AR_fill 12 = .ok (.iload_n 1, 1) := by decide +kernel
theorem d_AR_fill_13 : decode c_AR_fill 13 = .ok (.iastore, 1) := by decide +kernel
theorem d_AR_fill_14 : decode c_AR_fill 14 = .ok (.iinc 2 1, 3) := by decide +kernel
theorem d_AR_fill_17 : decode c_AR_fill 17 = .ok (.goto (-12), 3) := by decide +kernel
theorem d_AR_fill_20 : decode c_AR_fill 20 = .ok (.return_, 1) := by decide +kernel
theorem d_RC_askThoseInside_0 : decode c_RC_askThoseInside 0 = .ok (.iconst 0, 1) := by decide +kernel
theorem d_RC_askThoseInside_1 : decode c_RC_askThoseInside 1 = .ok (.istore_n 2, 1) := by decide +kernel
theorem d_RC_askThoseInside_2 : decode c_RC_askThoseInside 2 = .ok (.iload_n 2, 1) := by decide +kernel
theorem d_RC_askThoseInside_3 : decode c_RC_askThoseInside 3 = .ok (.aload_n 0, 1) := by decide +kernel
theorem d_RC_askThoseInside_4 : decode c_RC_askThoseInside 4 = .ok (.getfield 16, 3) := by decide +kernel
theorem d_RC_askThoseInside_7 : decode c_RC_askThoseInside 7 = .ok (.invokevirtual 39, 3) := by decide +kernel
theorem d_RC_askThoseInside_10 : decode c_RC_askThoseInside 10 = .ok (.if_icmp .ge 42, 3) := by decide +kernel
theorem d_RC_askThoseInside_13 : decode c_RC_askThoseInside 13 = .ok (.aload_n 0, 1) := by decide +kernel
theorem d_RC_askThoseInside_14 : decode c_RC_askThoseInside 14 = .ok (.getfield 16, 3) := by decide +kernel
theorem d_RC_askThoseInside_17 : decode c_RC_askThoseInside 17 = .ok (.iload_n 2, 1) := by decide +kernel
theorem d_RC_askThoseInside_18 : decode c_RC_askThoseInside 18 = .ok (.invokevirtual 89, 3) := by decide +kernel
theorem d_RC_askThoseInside_21 : decode c_RC_askThoseInside 21 = .ok (.checkcast 50, 3) := by decide +kernel
theorem d_RC_askThoseInside_24 : decode c_RC_askThoseInside 24 = .ok (.getfield 65, 3) := by decide +kernel
theorem d_RC_askThoseInside_27 : decode c_RC_askThoseInside 27 = .ok (.istore_n 3, 1) := by decide +kernel
theorem d_RC_askThoseInside_28 : decode c_RC_askThoseInside 28 = .ok (.iload_n 3, 1) := by decide +kernel
theorem d_RC_askThoseInside_29 : decode c_RC_askThoseInside 29 = .ok (.iconst (-1), 1) := by decide +kernel
theorem d_RC_askThoseInside_30 : decode c_RC_askThoseInside 30 = .ok (.if_icmp .eq 16, 3) := by decide +kernel
theorem d_RC_askThoseInside_33 : decode c_RC_askThoseInside 33 = .ok (.aload_n 1, 1) := by decide +kernel
theorem d_RC_askThoseInside_34 : decode c_RC_askThoseInside 34 = .ok (.iload_n 3, 1) := by decide +kernel
theorem d_RC_askThoseInside_35 : decode c_RC_askThoseInside 35 = .ok (.invokevirtual 229, 3) := by decide +kernel
theorem d_RC_askThoseInside_38 : decode c_RC_askThoseInside 38 = .ok (.ifCond .eq 8, 3) := by decide +kernel
theorem d_RC_askThoseInside_41 : decode c_RC_askThoseInside 41 = .ok (.aload_n 1, 1) := by decide +kernel
theorem d_RC_askThoseInside_42 : decode c_RC_askThoseInside 42 = .ok (.iload_n 2, 1) := by decide +kernel
theorem d_RC_askThoseInside_43 : decode c_RC_askThoseInside 43 = .ok (.invokevirtual 232, 3) := by decide +kernel
theorem d_RC_askThoseInside_46 : decode c_RC_askThoseInside 46 = .ok (.iinc 2 1, 3) := by decide +kernel
theorem d_RC_askThoseInside_49 : decode c_RC_askThoseInside 49 = .ok (.goto (-47), 3) := by decide +kernel
theorem d_RC_askThoseInside_52 : decode c_RC_askThoseInside 52 = .ok (.iconst 0, 1) := by decide +kernel
theorem d_RC_askThoseInside_53 : decode c_RC_askThoseInside 53 = .ok (.istore_n 2, 1) := by decide +kernel
theorem d_RC_askThoseInside_54 : decode c_RC_askThoseInside 54 = .ok (.iload_n 2, 1) := by decide +kernel
theorem d_RC_askThoseInside_55 : decode c_RC_askThoseInside 55 = .ok (.bipush 10, 2) := by decide +kernel
theorem d_RC_askThoseInside_57 : decode c_RC_askThoseInside 57 = .ok (.if_icmp .ge 32, 3) := by decide +kernel
theorem d_RC_askThoseInside_60 : decode c_RC_askThoseInside 60 = .ok (.aload_n 1, 1) := by decide +kernel
theorem d_RC_askThoseInside_61 : decode c_RC_askThoseInside 61 = .ok (.iload_n 2, 1) := by decide +kernel
theorem d_RC_askThoseInside_62 : decode c_RC_askThoseInside 62 = .ok (.invokevirtual 229, 3) := by decide +kernel
theorem d_RC_askThoseInside_65 : decode c_RC_askThoseInside 65 = .ok (.ifCond .eq 18, 3) := by decide +kernel
theorem d_RC_askThoseInside_68 : decode c_RC_askThoseInside 68 = .ok (.aload_n 1, 1) := by decide +kernel
theorem d_RC_askThoseInside_69 : decode c_RC_askThoseInside 69 = .ok (.dup, 1) := by decide +kernel
theorem d_RC_askThoseInside_70 : decode c_RC_askThoseInside 70 = .ok (.getfield 200, 3) := by decide +kernel
theorem d_RC_askThoseInside_73 : decode c_RC_askThoseInside 73 = .ok (.aload_n 0, 1) := by decide +kernel
theorem d_RC_askThoseInside_74 : decode c_RC_askThoseInside 74 = .ok (.getfield 9, 3) := by decide +kernel
theorem d_RC_askThoseInside_77 : decode c_RC_askThoseInside 77 = .ok (.iload_n 2, 1) := by decide +kernel
theorem d_RC_askThoseInside_78 : decode c_RC_askThoseInside 78 = .ok (.iaload, 1) := by decide +kernel
theorem d_RC_askThoseInside_79 : decode c_RC_askThoseInside 79 = .ok (.iadd, 1) := by decide +kernel
theorem d_RC_askThoseInside_80 : decode c_RC_askThoseInside 80 = .ok (.putfield 200, 3) := by decide +kernel
theorem d_RC_askThoseInside_83 : decode c_RC_askThoseInside 83 = .ok (.iinc 2 1, 3) := by decide +kernel
theorem d_RC_askThoseInside_86 : decode c_RC_askThoseInside 86 = .ok (.goto (-32), 3) := by decide +kernel
theorem d_RC_askThoseInside_89 : decode c_RC_askThoseInside 89 = .ok (.return_, 1) := by decide +kernel
theorem d_RO_askPerson_0 : decode c_RO_askPerson 0 = .ok (.iload_n 1, 1) := by decide +kernel
theorem d_RO_askPerson_1 : decode c_RO_askPerson 1 = .ok (.ifCond .lt 29, 3) := by decide +kernel
theorem d_RO_askPerson_4 : decode c_RO_askPerson 4 = .ok (.iload_n 1, 1) := by decide +kernel
theorem d_RO_askPerson_5 : decode c_RO_askPerson 5 = .ok (.aload_n 0, 1) := by decide +kernel
theorem d_RO_askPerson_6 : decode c_RO_askPerson 6 = .ok (.getfield 24, 3) := by decide +kernel
theorem d_RO_askPerson_9 : decode c_RO_askPerson 9 = .ok (.arraylength, 1) := by decide +kernel
theorem d_RO_askPerson_10 : decode c_RO_askPerson 10 = .ok (.if_icmp .ge 20, 3) := by decide +kernel
theorem d_RO_askPerson_13 : decode c_RO_askPerson 13 = .ok (.aload_n 0, 1) := by decide +kernel
theorem d_RO_askPerson_14 : decode c_RO_askPerson 14 = .ok (.getfield 24, 3) := by decide +kernel
theorem d_RO_askPerson_17 : decode c_RO_askPerson 17 = .ok (.iload_n 1, 1) := by decide +kernel
theorem d_RO_askPerson_18 : decode c_RO_askPerson 18 = .ok (.iconst (-1), 1) := by decide +kernel
theorem d_RO_askPerson_19 : decode c_RO_askPerson 19 = .ok (.iastore, 1) := by decide +kernel
theorem d_RO_askPerson_20 : decode c_RO_askPerson 20 = .ok (.aload_n 0, 1) := by decide +kernel
theorem d_RO_askPerson_21 : decode c_RO_askPerson 21 = .ok (.dup, 1) := by decide +kernel
theorem d_RO_askPerson_22 : decode c_RO_askPerson 22 = .ok (.getfield 37, 3) := by decide +kernel
theorem d_RO_askPerson_25 : decode c_RO_askPerson 25 = .ok (.iconst 1, 1) := by decide +kernel
theorem d_RO_askPerson_26 : decode c_RO_askPerson 26 = .ok (.iadd, 1) := by decide +kernel
theorem d_RO_askPerson_27 : decode c_RO_askPerson 27 = .ok (.putfield 37, 3) := by decide +kernel
theorem d_RO_askPerson_30 : decode c_RO_askPerson 30 = .ok (.return_, 1) := by decide +kernel
theorem d_RO_endIfNobodyIsAsked_0 : decode c_RO_endIfNobodyIsAsked 0 = .ok (.aload_n 0, 1) := by decide +kernel
theorem d_RO_endIfNobodyIsAsked_1 : decode c_RO_endIfNobodyIsAsked 1 = .ok (.getfield 37, 3) := by decide +kernel
theorem d_RO_endIfNobodyIsAsked_4 : decode c_RO_endIfNobodyIsAsked 4 = .ok (.ifCond .ne 15, 3) := by decide +kernel
theorem d_RO_endIfNobodyIsAsked_7 : decode c_RO_endIfNobodyIsAsked 7 = .ok (.aload_n 0, 1) := by decide +kernel
theorem d_RO_endIfNobodyIsAsked_8 : decode c_RO_endIfNobodyIsAsked 8 = .ok (.getfield 40, 3) := by decide +kernel
theorem d_RO_endIfNobodyIsAsked_11 : decode c_RO_endIfNobodyIsAsked 11 = .ok (.ifCond .ne 8, 3) := by decide +kernel
theorem d_RO_endIfNobodyIsAsked_14 : decode c_RO_endIfNobodyIsAsked 14 = .ok (.aload_n 0, 1) := by decide +kernel
theorem d_RO_endIfNobodyIsAsked_15 : decode c_RO_endIfNobodyIsAsked 15 = .ok (.iconst 3, 1) := by decide +kernel
theorem d_RO_endIfNobodyIsAsked_16 : decode c_RO_endIfNobodyIsAsked 16 = .ok (.putfield 34, 3) := by decide +kernel
theorem d_RO_endIfNobodyIsAsked_19 : decode c_RO_endIfNobodyIsAsked 19 = .ok (.return_, 1) := by decide +kernel
theorem d_LW_answer_0 : decode c_LW_answer 0 = .ok (.aload 4, 2) := by decide +kernel
theorem d_LW_answer_2 : decode c_LW_answer 2 = .ok (.iconst 0, 1) := by decide +kernel
theorem d_LW_answer_3 : decode c_LW_answer 3 = .ok (.aload_n 0, 1) := by decide +kernel
theorem d_LW_answer_4 : decode c_LW_answer 4 = .ok (.iload_n 1, 1) := by decide +kernel
theorem d_LW_answer_5 : decode c_LW_answer 5 = .ok (.iload_n 2, 1) := by decide +kernel
theorem d_LW_answer_6 : decode c_LW_answer 6 = .ok (.iload_n 3, 1) := by decide +kernel
theorem d_LW_answer_7 : decode c_LW_answer 7 = .ok (.invokevirtual 36, 3) := by decide +kernel
theorem d_LW_answer_10 : decode c_LW_answer 10 = .ok (.i2l, 1) := by decide +kernel
theorem d_LW_answer_11 : decode c_LW_answer 11 = .ok (.lastore, 1) := by decide +kernel
theorem d_LW_answer_12 : decode c_LW_answer 12 = .ok (.goto 15, 3) := by decide +kernel
theorem d_LW_answer_15 : decode c_LW_answer 15 = .ok (.astore 5, 2) := by decide +kernel
theorem d_LW_answer_17 : decode c_LW_answer 17 = .ok (.iconst 1, 1) := by decide +kernel
theorem d_LW_answer_18 : decode c_LW_answer 18 = .ok (.ireturn, 1) := by decide +kernel
theorem d_LW_answer_19 : decode c_LW_answer 19 = .ok (.astore 5, 2) := by decide +kernel
theorem d_LW_answer_21 : decode c_LW_answer 21 = .ok (.iconst 2, 1) := by decide +kernel
theorem d_LW_answer_22 : decode c_LW_answer 22 = .ok (.ireturn, 1) := by decide +kernel
theorem d_LW_answer_23 : decode c_LW_answer 23 = .ok (.astore 5, 2) := by decide +kernel
theorem d_LW_answer_25 : decode c_LW_answer 25 = .ok (.iconst 3, 1) := by decide +kernel
theorem d_LW_answer_26 : decode c_LW_answer 26 = .ok (.ireturn, 1) := by decide +kernel
theorem d_LW_answer_27 : decode c_LW_answer 27 = .ok (.iconst 0, 1) := by decide +kernel
theorem d_LW_answer_28 : decode c_LW_answer 28 = .ok (.ireturn, 1) := by decide +kernel
theorem d_RC_answer_0 : decode c_RC_answer 0 = .ok (.aload_n 0, 1) := by decide +kernel
theorem d_RC_answer_1 : decode c_RC_answer 1 = .ok (.iload_n 1, 1) := by decide +kernel
theorem d_RC_answer_2 : decode c_RC_answer 2 = .ok (.invokevirtual 136, 3) := by decide +kernel
theorem d_RC_answer_5 : decode c_RC_answer 5 = .ok (.astore 4, 2) := by decide +kernel
theorem d_RC_answer_7 : decode c_RC_answer 7 = .ok (.iload_n 2, 1) := by decide +kernel
theorem d_RC_answer_8 : decode c_RC_answer 8 = .ok (.invokestatic 61, 3) := by decide +kernel
theorem d_RC_answer_11 : decode c_RC_answer 11 = .ok (.aload_n 0, 1) := by decide +kernel
theorem d_RC_answer_12 : decode c_RC_answer 12 = .ok (.iload_n 3, 1) := by decide +kernel
theorem d_RC_answer_13 : decode c_RC_answer 13 = .ok (.invokevirtual 57, 3) := by decide +kernel
theorem d_RC_answer_16 : decode c_RC_answer 16 = .ok (.astore 5, 2) := by decide +kernel
theorem d_RC_answer_18 : decode c_RC_answer 18 = .ok (.aload 4, 2) := by decide +kernel
theorem d_RC_answer_20 : decode c_RC_answer 20 = .ok (.invokestatic 140, 3) := by decide +kernel
theorem d_RC_answer_23 : decode c_RC_answer 23 = .ok (.aload 4, 2) := by decide +kernel
theorem d_RC_answer_25 : decode c_RC_answer 25 = .ok (.iload_n 3, 1) := by decide +kernel
theorem d_RC_answer_26 : decode c_RC_answer 26 = .ok (.invokevirtual 143, 3) := by decide +kernel
theorem d_RC_answer_29 : decode c_RC_answer 29 = .ok (.istore 6, 2) := by decide +kernel
theorem d_RC_answer_31 : decode c_RC_answer 31 = .ok (.iload 6, 2) := by decide +kernel
theorem d_RC_answer_33 : decode c_RC_answer 33 = .ok (.bipush (-2), 2) := by decide +kernel
theorem d_RC_answer_35 : decode c_RC_answer 35 = .ok (.if_icmp .ne 16, 3) := by decide +kernel
theorem d_RC_answer_38 : decode c_RC_answer 38 = .ok (.aload 4, 2) := by decide +kernel
theorem d_RC_answer_40 : decode c_RC_answer 40 = .ok (.dup, 1) := by decide +kernel
theorem d_RC_answer_41 : decode c_RC_answer 41 = .ok (.getfield 147, 3) := by decide +kernel
theorem d_RC_answer_44 : decode c_RC_answer 44 = .ok (.iconst 1, 1) := by decide +kernel
theorem d_RC_answer_45 : decode c_RC_answer 45 = .ok (.iadd, 1) := by decide +kernel
theorem d_RC_answer_46 : decode c_RC_answer 46 = .ok (.putfield 147, 3) := by decide +kernel
theorem d_RC_answer_49 : decode c_RC_answer 49 = .ok (.iconst 4, 1) := by decide +kernel
theorem d_RC_answer_50 : decode c_RC_answer 50 = .ok (.ireturn, 1) := by decide +kernel
theorem d_RC_answer_51 : decode c_RC_answer 51 = .ok (.iload 6, 2) := by decide +kernel
theorem d_RC_answer_53 : decode c_RC_answer 53 = .ok (.iconst (-1), 1) := by decide +kernel
theorem d_RC_answer_54 : decode c_RC_answer 54 = .ok (.if_icmp .ne 26, 3) := by decide +kernel
theorem d_RC_answer_57 : decode c_RC_answer 57 = .ok (.aload 4, 2) := by decide +kernel
theorem d_RC_answer_59 : decode c_RC_answer 59 = .ok (.iload_n 3, 1) := by decide +kernel
theorem d_RC_answer_60 : decode c_RC_answer 60 = .ok (.iload_n 2, 1) := by decide +kernel
theorem d_RC_answer_61 : decode c_RC_answer 61 = .ok (.invokevirtual 150, 3) := by decide +kernel
theorem d_RC_answer_64 : decode c_RC_answer 64 = .ok (.aload 5, 2) := by decide +kernel
theorem d_RC_answer_66 : decode c_RC_answer 66 = .ok (.aload 5, 2) := by decide +kernel
theorem d_RC_answer_68 : decode c_RC_answer 68 = .ok (.getfield 153, 3) := by decide +kernel
theorem d_RC_answer_71 : decode c_RC_answer 71 = .ok (.iload_n 1, 1) := by decide +kernel
theorem d_RC_answer_72 : decode c_RC_answer 72 = .ok (.invokestatic 156, 3) := by decide +kernel
theorem d_RC_answer_75 : decode c_RC_answer 75 = .ok (.putfield 153, 3) := by decide +kernel
theorem d_RC_answer_78 : decode c_RC_answer 78 = .ok (.iconst 1, 1) := by decide +kernel
theorem d_RC_answer_79 : decode c_RC_answer 79 = .ok (.ireturn, 1) := by decide +kernel
theorem d_RC_answer_80 : decode c_RC_answer 80 = .ok (.iload 6, 2) := by decide +kernel
theorem d_RC_answer_82 : decode c_RC_answer 82 = .ok (.iload_n 2, 1) := by decide +kernel
theorem d_RC_answer_83 : decode c_RC_answer 83 = .ok (.if_icmp .ne 5, 3) := by decide +kernel
theorem d_RC_answer_86 : decode c_RC_answer 86 = .ok (.iconst 2, 1) := by decide +kernel
theorem d_RC_answer_87 : decode c_RC_answer 87 = .ok (.ireturn, 1) := by decide +kernel
theorem d_RC_answer_88 : decode c_RC_answer 88 = .ok (.aload_n 0, 1) := by decide +kernel
theorem d_RC_answer_89 : decode c_RC_answer 89 = .ok (.new 162, 3) := by decide +kernel
theorem d_RC_answer_92 : decode c_RC_answer 92 = .ok (.dup, 1) := by decide +kernel
theorem d_RC_answer_93 : decode c_RC_answer 93 = .ok (.iload_n 3, 1) := by decide +kernel
theorem d_RC_answer_94 : decode c_RC_answer 94 = .ok (.iload 6, 2) := by decide +kernel
theorem d_RC_answer_96 : decode c_RC_answer 96 = .ok (.iload_n 2, 1) := by decide +kernel
theorem d_RC_answer_97 : decode c_RC_answer 97 = .ok (.iload_n 1, 1) := by decide +kernel
theorem d_RC_answer_98 : decode c_RC_answer 98 = .ok (.invokespecial 164, 3) := by decide +kernel
theorem d_RC_answer_101 : decode c_RC_answer 101 = .ok (.invokevirtual 167, 3) := by decide +kernel
theorem d_RC_answer_104 : decode c_RC_answer 104 = .ok (.iconst 3, 1) := by decide +kernel
theorem d_RC_answer_105 : decode c_RC_answer 105 = .ok (.ireturn, 1) := by decide +kernel
theorem d_RC_knownRoll_0 : decode c_RC_knownRoll 0 = .ok (.iload_n 1, 1) := by decide +kernel
theorem d_RC_knownRoll_1 : decode c_RC_knownRoll 1 = .ok (.ifCond .lt 14, 3) := by decide +kernel
theorem d_RC_knownRoll_4 : decode c_RC_knownRoll 4 = .ok (.iload_n 1, 1) := by decide +kernel
theorem d_RC_knownRoll_5 : decode c_RC_knownRoll 5 = .ok (.aload_n 0, 1) := by decide +kernel
theorem d_RC_knownRoll_6 : decode c_RC_knownRoll 6 = .ok (.getfield 23, 3) := by decide +kernel
theorem d_RC_knownRoll_9 : decode c_RC_knownRoll 9 = .ok (.invokevirtual 39, 3) := by decide +kernel
theorem d_RC_knownRoll_12 : decode c_RC_knownRoll 12 = .ok (.if_icmp .lt 13, 3) := by decide +kernel
theorem d_RC_knownRoll_15 : decode c_RC_knownRoll 15 = .ok (.new 100, 3) := by decide +kernel
theorem d_RC_knownRoll_18 : decode c_RC_knownRoll 18 = .ok (.dup, 1) := by decide +kernel
theorem d_RC_knownRoll_19 : decode c_RC_knownRoll 19 = .ok (.ldc 225, 2) := by decide +kernel
theorem d_RC_knownRoll_21 : decode c_RC_knownRoll 21 = .ok (.invokespecial 104, 3) := by decide +kernel
theorem d_RC_knownRoll_24 : decode c_RC_knownRoll 24 = .ok (.athrow, 1) := by decide +kernel
theorem d_RC_knownRoll_25 : decode c_RC_knownRoll 25 = .ok (.aload_n 0, 1) := by decide +kernel
theorem d_RC_knownRoll_26 : decode c_RC_knownRoll 26 = .ok (.getfield 23, 3) := by decide +kernel
theorem d_RC_knownRoll_29 : decode c_RC_knownRoll 29 = .ok (.iload_n 1, 1) := by decide +kernel
theorem d_RC_knownRoll_30 : decode c_RC_knownRoll 30 = .ok (.invokevirtual 89, 3) := by decide +kernel
theorem d_RC_knownRoll_33 : decode c_RC_knownRoll 33 = .ok (.checkcast 123, 3) := by decide +kernel
theorem d_RC_knownRoll_36 : decode c_RC_knownRoll 36 = .ok (.areturn, 1) := by decide +kernel
theorem d_RC_checkIsOn_0 : decode c_RC_checkIsOn 0 = .ok (.aload_n 0, 1) := by decide +kernel
theorem d_RC_checkIsOn_1 : decode c_RC_checkIsOn 1 = .ok (.invokevirtual 187, 3) := by decide +kernel
theorem d_RC_checkIsOn_4 : decode c_RC_checkIsOn 4 = .ok (.ifCond .eq 13, 3) := by decide +kernel
theorem d_RC_checkIsOn_7 : decode c_RC_checkIsOn 7 = .ok (.new 68, 3) := by decide +kernel
theorem d_RC_checkIsOn_10 : decode c_RC_checkIsOn 10 = .ok (.dup, 1) := by decide +kernel
theorem d_RC_checkIsOn_11 : decode c_RC_checkIsOn 11 = .ok (.ldc 227, 2) := by decide +kernel
theorem d_RC_checkIsOn_13 : decode c_RC_checkIsOn 13 = .ok (.invokespecial 72, 3) := by decide +kernel
theorem d_RC_checkIsOn_16 : decode c_RC_checkIsOn 16 = .ok (.athrow, 1) := by decide +kernel
theorem d_RC_checkIsOn_17 : decode c_RC_checkIsOn 17 = .ok (.return_, 1) := by decide +kernel
theorem d_RO_counterOf_0 : decode c_RO_counterOf 0 = .ok (.iload_n 1, 1) := by decide +kernel
theorem d_RO_counterOf_1 : decode c_RO_counterOf 1 = .ok (.ifCond .lt 21, 3) := by decide +kernel
theorem d_RO_counterOf_4 : decode c_RO_counterOf 4 = .ok (.iload_n 1, 1) := by decide +kernel
theorem d_RO_counterOf_5 : decode c_RO_counterOf 5 = .ok (.aload_n 0, 1) := by decide +kernel
theorem d_RO_counterOf_6 : decode c_RO_counterOf 6 = .ok (.getfield 24, 3) := by decide +kernel
theorem d_RO_counterOf_9 : decode c_RO_counterOf 9 = .ok (.arraylength, 1) := by decide +kernel
theorem d_RO_counterOf_10 : decode c_RO_counterOf 10 = .ok (.if_icmp .ge 12, 3) := by decide +kernel
theorem d_RO_counterOf_13 : decode c_RO_counterOf 13 = .ok (.aload_n 0, 1) := by decide +kernel
theorem d_RO_counterOf_14 : decode c_RO_counterOf 14 = .ok (.getfield 24, 3) := by decide +kernel
theorem d_RO_counterOf_17 : decode c_RO_counterOf 17 = .ok (.iload_n 1, 1) := by decide +kernel
theorem d_RO_counterOf_18 : decode c_RO_counterOf 18 = .ok (.iaload, 1) := by decide +kernel
theorem d_RO_counterOf_19 : decode c_RO_counterOf 19 = .ok (.goto 5, 3) := by decide +kernel
theorem d_RO_counterOf_22 : decode c_RO_counterOf 22 = .ok (.bipush (-2), 2) := by decide +kernel
theorem d_RO_counterOf_24 : decode c_RO_counterOf 24 = .ok (.ireturn, 1) := by decide +kernel
theorem d_RO_countPerson_0 : decode c_RO_countPerson 0 = .ok (.iload_n 1, 1) := by decide +kernel
theorem d_RO_countPerson_1 : decode c_RO_countPerson 1 = .ok (.ifCond .lt 29, 3) := by decide +kernel
theorem d_RO_countPerson_4 : decode c_RO_countPerson 4 = .ok (.iload_n 1, 1) := by decide +kernel
theorem d_RO_countPerson_5 : decode c_RO_countPerson 5 = .ok (.aload_n 0, 1) := by decide +kernel
theorem d_RO_countPerson_6 : decode c_RO_countPerson 6 = .ok (.getfield 24, 3) := by decide +kernel
theorem d_RO_countPerson_9 : decode c_RO_countPerson 9 = .ok (.arraylength, 1) := by decide +kernel
theorem d_RO_countPerson_10 : decode c_RO_countPerson 10 = .ok (.if_icmp .ge 20, 3) := by decide +kernel
theorem d_RO_countPerson_13 : decode c_RO_countPerson 13 = .ok (.aload_n 0, 1) := by decide +kernel
theorem d_RO_countPerson_14 : decode c_RO_countPerson 14 = .ok (.getfield 24, 3) := by decide +kernel
theorem d_RO_countPerson_17 : decode c_RO_countPerson 17 = .ok (.iload_n 1, 1) := by decide +kernel
theorem d_RO_countPerson_18 : decode c_RO_countPerson 18 = .ok (.iload_n 2, 1) := by decide +kernel
theorem d_RO_countPerson_19 : decode c_RO_countPerson 19 = .ok (.iastore, 1) := by decide +kernel
theorem d_RO_countPerson_20 : decode c_RO_countPerson 20 = .ok (.aload_n 0, 1) := by decide +kernel
theorem d_RO_countPerson_21 : decode c_RO_countPerson 21 = .ok (.dup, 1) := by decide +kernel
theorem d_RO_countPerson_22 : decode c_RO_countPerson 22 = .ok (.getfield 43, 3) := by decide +kernel
theorem d_RO_countPerson_25 : decode c_RO_countPerson 25 = .ok (.iconst 1, 1) := by decide +kernel
theorem d_RO_countPerson_26 : decode c_RO_countPerson 26 = .ok (.iadd, 1) := by decide +kernel
theorem d_RO_countPerson_27 : decode c_RO_countPerson 27 = .ok (.putfield 43, 3) := by decide +kernel
theorem d_RO_countPerson_30 : decode c_RO_countPerson 30 = .ok (.return_, 1) := by decide +kernel
theorem d_DC_init_0 : decode c_DC_init 0 = .ok (.aload_n 0, 1) := by decide +kernel
theorem d_DC_init_1 : decode c_DC_init 1 = .ok (.invokespecial 1, 3) := by decide +kernel
theorem d_DC_init_4 : decode c_DC_init 4 = .ok (.aload_n 0, 1) := by decide +kernel
theorem d_DC_init_5 : decode c_DC_init 5 = .ok (.iload_n 1, 1) := by decide +kernel
theorem d_DC_init_6 : decode c_DC_init 6 = .ok (.putfield 7, 3) := by decide +kernel
theorem d_DC_init_9 : decode c_DC_init 9 = .ok (.aload_n 0, 1) := by decide +kernel
theorem d_DC_init_10 : decode c_DC_init 10 = .ok (.iload_n 2, 1) := by decide +kernel
theorem d_DC_init_11 : decode c_DC_init 11 = .ok (.putfield 13, 3) := by decide +kernel
theorem d_DC_init_14 : decode c_DC_init 14 = .ok (.aload_n 0, 1) := by decide +kernel
theorem d_DC_init_15 : decode c_DC_init 15 = .ok (.iload_n 3, 1) := by decide +kernel
theorem d_DC_init_16 : decode c_DC_init 16 = .ok (.putfield 16, 3) := by decide +kernel
theorem d_DC_init_19 : decode c_DC_init 19 = .ok (.aload_n 0, 1) := by decide +kernel
theorem d_DC_init_20 : decode c_DC_init 20 = .ok (.iload 4, 2) := by decide +kernel
theorem d_DC_init_22 : decode c_DC_init 22 = .ok (.putfield 19, 3) := by decide +kernel
theorem d_DC_init_25 : decode c_DC_init 25 = .ok (.return_, 1) := by decide +kernel
theorem d_RC_addDouble_0 : decode c_RC_addDouble 0 = .ok (.aload_n 0, 1) := by decide +kernel
theorem d_RC_addDouble_1 : decode c_RC_addDouble 1 = .ok (.getfield 26, 3) := by decide +kernel
theorem d_RC_addDouble_4 : decode c_RC_addDouble 4 = .ok (.invokevirtual 39, 3) := by decide +kernel
theorem d_RC_addDouble_7 : decode c_RC_addDouble 7 = .ok (.bipush 100, 2) := by decide +kernel
theorem d_RC_addDouble_9 : decode c_RC_addDouble 9 = .ok (.if_icmp .lt 13, 3) := by decide +kernel
theorem d_RC_addDouble_12 : decode c_RC_addDouble 12 = .ok (.new 43, 3) := by decide +kernel
theorem d_RC_addDouble_15 : decode c_RC_addDouble 15 = .ok (.dup, 1) := by decide +kernel
theorem d_RC_addDouble_16 : decode c_RC_addDouble 16 = .ok (.ldc 235, 2) := by decide +kernel
theorem d_RC_addDouble_18 : decode c_RC_addDouble 18 = .ok (.invokespecial 47, 3) := by decide +kernel
theorem d_RC_addDouble_21 : decode c_RC_addDouble 21 = .ok (.athrow, 1) := by decide +kernel
theorem d_RC_addDouble_22 : decode c_RC_addDouble 22 = .ok (.aload_n 0, 1) := by decide +kernel
theorem d_RC_addDouble_23 : decode c_RC_addDouble 23 = .ok (.getfield 26, 3) := by decide +kernel
theorem d_RC_addDouble_26 : decode c_RC_addDouble 26 = .ok (.aload_n 1, 1) := by decide +kernel
theorem d_RC_addDouble_27 : decode c_RC_addDouble 27 = .ok (.invokevirtual 53, 3) := by decide +kernel
theorem d_RC_addDouble_30 : decode c_RC_addDouble 30 = .ok (.pop, 1) := by decide +kernel
theorem d_RC_addDouble_31 : decode c_RC_addDouble 31 = .ok (.return_, 1) := by decide +kernel
theorem d_LW_seen_0 : decode c_LW_seen 0 = .ok (.aload_n 3, 1) := by decide +kernel
theorem d_LW_seen_1 : decode c_LW_seen 1 = .ok (.iconst 0, 1) := by decide +kernel
theorem d_LW_seen_2 : decode c_LW_seen 2 = .ok (.aload_n 0, 1) := by decide +kernel
theorem d_LW_seen_3 : decode c_LW_seen 3 = .ok (.iload_n 1, 1) := by decide +kernel
theorem d_LW_seen_4 : decode c_LW_seen 4 = .ok (.iload_n 2, 1) := by decide +kernel
theorem d_LW_seen_5 : decode c_LW_seen 5 = .ok (.invokevirtual 40, 3) := by decide +kernel
theorem d_LW_seen_8 : decode c_LW_seen 8 = .ok (.i2l, 1) := by decide +kernel
theorem d_LW_seen_9 : decode c_LW_seen 9 = .ok (.lastore, 1) := by decide +kernel
theorem d_LW_seen_10 : decode c_LW_seen 10 = .ok (.goto 19, 3) := by decide +kernel
theorem d_LW_seen_13 : decode c_LW_seen 13 = .ok (.astore 4, 2) := by decide +kernel
theorem d_LW_seen_15 : decode c_LW_seen 15 = .ok (.iconst 1, 1) := by decide +kernel
theorem d_LW_seen_16 : decode c_LW_seen 16 = .ok (.ireturn, 1) := by decide +kernel
theorem d_LW_seen_17 : decode c_LW_seen 17 = .ok (.astore 4, 2) := by decide +kernel
theorem d_LW_seen_19 : decode c_LW_seen 19 = .ok (.iconst 2, 1) := by decide +kernel
theorem d_LW_seen_20 : decode c_LW_seen 20 = .ok (.ireturn, 1) := by decide +kernel
theorem d_LW_seen_21 : decode c_LW_seen 21 = .ok (.astore 4, 2) := by decide +kernel
theorem d_LW_seen_23 : decode c_LW_seen 23 = .ok (.iconst 3, 1) := by decide +kernel
theorem d_LW_seen_24 : decode c_LW_seen 24 = .ok (.ireturn, 1) := by decide +kernel
theorem d_LW_seen_25 : decode c_LW_seen 25 = .ok (.astore 4, 2) := by decide +kernel
theorem d_LW_seen_27 : decode c_LW_seen 27 = .ok (.iconst 4, 1) := by decide +kernel
theorem d_LW_seen_28 : decode c_LW_seen 28 = .ok (.ireturn, 1) := by decide +kernel
theorem d_LW_seen_29 : decode c_LW_seen 29 = .ok (.iconst 0, 1) := by decide +kernel
theorem d_LW_seen_30 : decode c_LW_seen 30 = .ok (.ireturn, 1) := by decide +kernel
theorem d_RC_seen_0 : decode c_RC_seen 0 = .ok (.aload_n 0, 1) := by decide +kernel
theorem d_RC_seen_1 : decode c_RC_seen 1 = .ok (.iload_n 1, 1) := by decide +kernel
theorem d_RC_seen_2 : decode c_RC_seen 2 = .ok (.invokevirtual 136, 3) := by decide +kernel
theorem d_RC_seen_5 : decode c_RC_seen 5 = .ok (.astore_n 3, 1) := by decide +kernel
theorem d_RC_seen_6 : decode c_RC_seen 6 = .ok (.iload_n 2, 1) := by decide +kernel
theorem d_RC_seen_7 : decode c_RC_seen 7 = .ok (.ifCond .lt 10, 3) := by decide +kernel
theorem d_RC_seen_10 : decode c_RC_seen 10 = .ok (.iload_n 2, 1) := by decide +kernel
theorem d_RC_seen_11 : decode c_RC_seen 11 = .ok (.sipush 999, 3) := by decide +kernel
theorem d_RC_seen_14 : decode c_RC_seen 14 = .ok (.if_icmp .le 13, 3) := by decide +kernel
theorem d_RC_seen_17 : decode c_RC_seen 17 = .ok (.new 82, 3) := by decide +kernel
theorem d_RC_seen_20 : decode c_RC_seen 20 = .ok (.dup, 1) := by decide +kernel
theorem d_RC_seen_21 : decode c_RC_seen 21 = .ok (.ldc 171, 2) := by decide +kernel
theorem d_RC_seen_23 : decode c_RC_seen 23 = .ok (.invokespecial 86, 3) := by decide +kernel
theorem d_RC_seen_26 : decode c_RC_seen 26 = .ok (.athrow, 1) := by decide +kernel
theorem d_RC_seen_27 : decode c_RC_seen 27 = .ok (.aload_n 3, 1) := by decide +kernel
theorem d_RC_seen_28 : decode c_RC_seen 28 = .ok (.invokestatic 140, 3) := by decide +kernel
theorem d_RC_seen_31 : decode c_RC_seen 31 = .ok (.aload_n 3, 1) := by decide +kernel
theorem d_RC_seen_32 : decode c_RC_seen 32 = .ok (.getfield 173, 3) := by decide +kernel
theorem d_RC_seen_35 : decode c_RC_seen 35 = .ok (.iload_n 2, 1) := by decide +kernel
theorem d_RC_seen_36 : decode c_RC_seen 36 = .ok (.iadd, 1) := by decide +kernel
theorem d_RC_seen_37 : decode c_RC_seen 37 = .ok (.sipush 9999, 3) := by decide +kernel
theorem d_RC_seen_40 : decode c_RC_seen 40 = .ok (.if_icmp .le 13, 3) := by decide +kernel
theorem d_RC_seen_43 : decode c_RC_seen 43 = .ok (.new 43, 3) := by decide +kernel
theorem d_RC_seen_46 : decode c_RC_seen 46 = .ok (.dup, 1) := by decide +kernel
theorem d_RC_seen_47 : decode c_RC_seen 47 = .ok (.ldc 176, 2) := by decide +kernel
theorem d_RC_seen_49 : decode c_RC_seen 49 = .ok (.invokespecial 47, 3) := by decide +kernel
theorem d_RC_seen_52 : decode c_RC_seen 52 = .ok (.athrow, 1) := by decide +kernel
theorem d_RC_seen_53 : decode c_RC_seen 53 = .ok (.aload_n 3, 1) := by decide +kernel
theorem d_RC_seen_54 : decode c_RC_seen 54 = .ok (.dup, 1) := by decide +kernel
theorem d_RC_seen_55 : decode c_RC_seen 55 = .ok (.getfield 173, 3) := by decide +kernel
theorem d_RC_seen_58 : decode c_RC_seen 58 = .ok (.iload_n 2, 1) := by decide +kernel
theorem d_RC_seen_59 : decode c_RC_seen 59 = .ok (.iadd, 1) := by decide +kernel
theorem d_RC_seen_60 : decode c_RC_seen 60 = .ok (.putfield 173, 3) := by decide +kernel
theorem d_RC_seen_63 : decode c_RC_seen 63 = .ok (.aload_n 3, 1) := by decide +kernel
theorem d_RC_seen_64 : decode c_RC_seen 64 = .ok (.getfield 173, 3) := by decide +kernel
theorem d_RC_seen_67 : decode c_RC_seen 67 = .ok (.ireturn, 1) := by decide +kernel
theorem d_LW_round_0 : decode c_LW_round 0 = .ok (.aload_n 2, 1) := by decide +kernel
theorem d_LW_round_1 : decode c_LW_round 1 = .ok (.iconst 0, 1) := by decide +kernel
theorem d_LW_round_2 : decode c_LW_round 2 = .ok (.aload_n 0, 1) := by decide +kernel
theorem d_LW_round_3 : decode c_LW_round 3 = .ok (.iload_n 1, 1) := by decide +kernel
theorem d_LW_round_4 : decode c_LW_round 4 = .ok (.invokevirtual 44, 3) := by decide +kernel
theorem d_LW_round_7 : decode c_LW_round 7 = .ok (.i2l, 1) := by decide +kernel
theorem d_LW_round_8 : decode c_LW_round 8 = .ok (.lastore, 1) := by decide +kernel
theorem d_LW_round_9 : decode c_LW_round 9 = .ok (.goto 9, 3) := by decide +kernel
theorem d_LW_round_12 : decode c_LW_round 12 = .ok (.astore_n 3, 1) := by decide +kernel
theorem d_LW_round_13 : decode c_LW_round 13 = .ok (.iconst 1, 1) := by decide +kernel
theorem d_LW_round_14 : decode c_LW_round 14 = .ok (.ireturn, 1) := by decide +kernel
theorem d_LW_round_15 : decode c_LW_round 15 = .ok (.astore_n 3, 1) := by decide +kernel
theorem d_LW_round_16 : decode c_LW_round 16 = .ok (.iconst 2, 1) := by decide +kernel
theorem d_LW_round_17 : decode c_LW_round 17 = .ok (.ireturn, 1) := by decide +kernel
theorem d_LW_round_18 : decode c_LW_round 18 = .ok (.iconst 0, 1) := by decide +kernel
theorem d_LW_round_19 : decode c_LW_round 19 = .ok (.ireturn, 1) := by decide +kernel
theorem d_RC_round_0 : decode c_RC_round 0 = .ok (.aload_n 0, 1) := by decide +kernel
theorem d_RC_round_1 : decode c_RC_round 1 = .ok (.iload_n 1, 1) := by decide +kernel
theorem d_RC_round_2 : decode c_RC_round 2 = .ok (.invokevirtual 136, 3) := by decide +kernel
theorem d_RC_round_5 : decode c_RC_round 5 = .ok (.astore_n 2, 1) := by decide +kernel
theorem d_RC_round_6 : decode c_RC_round 6 = .ok (.aload_n 2, 1) := by decide +kernel
theorem d_RC_round_7 : decode c_RC_round 7 = .ok (.invokestatic 140, 3) := by decide +kernel
theorem d_RC_round_10 : decode c_RC_round 10 = .ok (.aload_n 0, 1) := by decide +kernel
theorem d_RC_round_11 : decode c_RC_round 11 = .ok (.invokevirtual 116, 3) := by decide +kernel
theorem d_RC_round_14 : decode c_RC_round 14 = .ok (.ifCond .le 13, 3) := by decide +kernel
theorem d_RC_round_17 : decode c_RC_round 17 = .ok (.new 68, 3) := by decide +kernel
theorem d_RC_round_20 : decode c_RC_round 20 = .ok (.dup, 1) := by decide +kernel
theorem d_RC_round_21 : decode c_RC_round 21 = .ok (.ldc 178, 2) := by decide +kernel
theorem d_RC_round_23 : decode c_RC_round 23 = .ok (.invokespecial 72, 3) := by decide +kernel
theorem d_RC_round_26 : decode c_RC_round 26 = .ok (.athrow, 1) := by decide +kernel
theorem d_RC_round_27 : decode c_RC_round 27 = .ok (.aload_n 0, 1) := by decide +kernel
theorem d_RC_round_28 : decode c_RC_round 28 = .ok (.aload_n 2, 1) := by decide +kernel
theorem d_RC_round_29 : decode c_RC_round 29 = .ok (.invokevirtual 180, 3) := by decide +kernel
theorem d_RC_round_32 : decode c_RC_round 32 = .ok (.istore_n 3, 1) := by decide +kernel
theorem d_RC_round_33 : decode c_RC_round 33 = .ok (.aload_n 2, 1) := by decide +kernel
theorem d_RC_round_34 : decode c_RC_round 34 = .ok (.dup, 1) := by decide +kernel
theorem d_RC_round_35 : decode c_RC_round 35 = .ok (.getfield 184, 3) := by decide +kernel
theorem d_RC_round_38 : decode c_RC_round 38 = .ok (.iconst 1, 1) := by decide +kernel
theorem d_RC_round_39 : decode c_RC_round 39 = .ok (.iadd, 1) := by decide +kernel
theorem d_RC_round_40 : decode c_RC_round 40 = .ok (.putfield 184, 3) := by decide +kernel
theorem d_RC_round_43 : decode c_RC_round 43 = .ok (.aload_n 2, 1) := by decide +kernel
theorem d_RC_round_44 : decode c_RC_round 44 = .ok (.invokevirtual 187, 3) := by decide +kernel
theorem d_RC_round_47 : decode c_RC_round 47 = .ok (.ifCond .eq 8, 3) := by decide +kernel
theorem d_RC_round_50 : decode c_RC_round 50 = .ok (.aload_n 2, 1) := by decide +kernel
theorem d_RC_round_51 : decode c_RC_round 51 = .ok (.iload_n 3, 1) := by decide +kernel
theorem d_RC_round_52 : decode c_RC_round 52 = .ok (.putfield 191, 3) := by decide +kernel
theorem d_RC_round_55 : decode c_RC_round 55 = .ok (.iload_n 3, 1) := by decide +kernel
theorem d_RC_round_56 : decode c_RC_round 56 = .ok (.ireturn, 1) := by decide +kernel
theorem d_RC_openPersons_0 : decode c_RC_openPersons 0 = .ok (.iconst 0, 1) := by decide +kernel
theorem d_RC_openPersons_1 : decode c_RC_openPersons 1 = .ok (.istore_n 2, 1) := by decide +kernel
theorem d_RC_openPersons_2 : decode c_RC_openPersons 2 = .ok (.iconst 0, 1) := by decide +kernel
theorem d_RC_openPersons_3 : decode c_RC_openPersons 3 = .ok (.istore_n 3, 1) := by decide +kernel
theorem d_RC_openPersons_4 : decode c_RC_openPersons 4 = .ok (.iload_n 3, 1) := by decide +kernel
theorem d_RC_openPersons_5 : decode c_RC_openPersons 5 = .ok (.aload_n 0, 1) := by decide +kernel
theorem d_RC_openPersons_6 : decode c_RC_openPersons 6 = .ok (.getfield 16, 3) := by decide +kernel
theorem d_RC_openPersons_9 : decode c_RC_openPersons 9 = .ok (.invokevirtual 39, 3) := by decide +kernel
theorem d_RC_openPersons_12 : decode c_RC_openPersons 12 = .ok (.if_icmp .ge 21, 3) := by decide +kernel
theorem d_RC_openPersons_15 : decode c_RC_openPersons 15 = .ok (.aload_n 0, 1) := by decide +kernel
theorem d_RC_openPersons_16 : decode c_RC_openPersons 16 = .ok (.aload_n 1, 1) := by decide +kernel
theorem d_RC_openPersons_17 : decode c_RC_openPersons 17 = .ok (.iload_n 3, 1) := by decide +kernel
theorem d_RC_openPersons_18 : decode c_RC_openPersons 18 = .ok (.invokevirtual 237, 3) := by decide +kernel
theorem d_RC_openPersons_21 : decode c_RC_openPersons 21 = .ok (.ifCond .eq 6, 3) := by decide +kernel
theorem d_RC_openPersons_24 : decode c_RC_openPersons 24 = .ok (.iinc 2 1, 3) := by decide +kernel
theorem d_RC_openPersons_27 : decode c_RC_openPersons 27 = .ok (.iinc 3 1, 3) := by decide +kernel
theorem d_RC_openPersons_30 : decode c_RC_openPersons 30 = .ok (.goto (-26), 3) := by decide +kernel
theorem d_RC_openPersons_33 : decode c_RC_openPersons 33 = .ok (.iload_n 2, 1) := by decide +kernel
theorem d_RC_openPersons_34 : decode c_RC_openPersons 34 = .ok (.ireturn, 1) := by decide +kernel
theorem d_RC_isOpen_0 : decode c_RC_isOpen 0 = .ok (.aload_n 1, 1) := by decide +kernel
theorem d_RC_isOpen_1 : decode c_RC_isOpen 1 = .ok (.iload_n 2, 1) := by decide +kernel
theorem d_RC_isOpen_2 : decode c_RC_isOpen 2 = .ok (.invokevirtual 143, 3) := by decide +kernel
theorem d_RC_isOpen_5 : decode c_RC_isOpen 5 = .ok (.iconst (-1), 1) := by decide +kernel
theorem d_RC_isOpen_6 : decode c_RC_isOpen 6 = .ok (.if_icmp .ne 22, 3) := by decide +kernel
theorem d_RC_isOpen_9 : decode c_RC_isOpen 9 = .ok (.aload_n 0, 1) := by decide +kernel
theorem d_RC_isOpen_10 : decode c_RC_isOpen 10 = .ok (.iload_n 2, 1) := by decide +kernel
theorem d_RC_isOpen_11 : decode c_RC_isOpen 11 = .ok (.invokevirtual 57, 3) := by decide +kernel
theorem d_RC_isOpen_14 : decode c_RC_isOpen 14 = .ok (.aload_n 1, 1) := by decide +kernel
theorem d_RC_isOpen_15 : decode c_RC_isOpen 15 = .ok (.getfield 133, 3) := by decide +kernel
theorem d_RC_isOpen_18 : decode c_RC_isOpen 18 = .ok (.invokevirtual 240, 3) := by decide +kernel
theorem d_RC_isOpen_21 : decode c_RC_isOpen 21 = .ok (.ifCond .ne 7, 3) := by decide +kernel
theorem d_RC_isOpen_24 : decode c_RC_isOpen 24 = .ok (.iconst 1, 1) := by decide +kernel
theorem d_RC_isOpen_25 : decode c_RC_isOpen 25 = .ok (.goto 4, 3) := by decide +kernel
theorem d_RC_isOpen_28 : decode c_RC_isOpen 28 = .ok (.iconst 0, 1) := by decide +kernel
theorem d_RC_isOpen_29 : decode c_RC_isOpen 29 = .ok (.ireturn, 1) := by decide +kernel
theorem d_PE_cameOutSince_0 : decode c_PE_cameOutSince 0 = .ok (.iload_n 1, 1) := by decide +kernel
theorem d_PE_cameOutSince_1 : decode c_PE_cameOutSince 1 = .ok (.aload_n 0, 1) := by decide +kernel
theorem d_PE_cameOutSince_2 : decode c_PE_cameOutSince 2 = .ok (.getfield 15, 3) := by decide +kernel
theorem d_PE_cameOutSince_5 : decode c_PE_cameOutSince 5 = .ok (.if_icmp .ge 7, 3) := by decide +kernel
theorem d_PE_cameOutSince_8 : decode c_PE_cameOutSince 8 = .ok (.iconst 1, 1) := by decide +kernel
theorem d_PE_cameOutSince_9 : decode c_PE_cameOutSince 9 = .ok (.goto 4, 3) := by decide +kernel
theorem d_PE_cameOutSince_12 : decode c_PE_cameOutSince 12 = .ok (.iconst 0, 1) := by decide +kernel
theorem d_PE_cameOutSince_13 : decode c_PE_cameOutSince 13 = .ok (.ireturn, 1) := by decide +kernel
end
section
theorem d_LW_rollAt_0 : decode c_LW_rollAt 0 = .ok (.aload_n 3, 1) := by decide +kernel
theorem d_LW_rollAt_1 : decode c_LW_rollAt 1 = .ok (.iconst 0, 1) := by decide +kernel
theorem d_LW_rollAt_2 : decode c_LW_rollAt 2 = .ok (.aload_n 0, 1) := by decide +kernel
theorem d_LW_rollAt_3 : decode c_LW_rollAt 3 = .ok (.iload_n 1, 1) := by decide +kernel
theorem d_LW_rollAt_4 : decode c_LW_rollAt 4 = .ok (.iload_n 2, 1) := by decide +kernel
theorem d_LW_rollAt_5 : decode c_LW_rollAt 5 = .ok (.invokevirtual 47, 3) := by decide +kernel
theorem d_LW_rollAt_8 : decode c_LW_rollAt 8 = .ok (.i2l, 1) := by decide +kernel
theorem d_LW_rollAt_9 : decode c_LW_rollAt 9 = .ok (.lastore, 1) := by decide +kernel
theorem d_LW_rollAt_10 : decode c_LW_rollAt 10 = .ok (.goto 7, 3) := by decide +kernel
theorem d_LW_rollAt_13 : decode c_LW_rollAt 13 = .ok (.astore 4, 2) := by decide +kernel
theorem d_LW_rollAt_15 : decode c_LW_rollAt 15 = .ok (.iconst 1, 1) := by decide +kernel
theorem d_LW_rollAt_16 : decode c_LW_rollAt 16 = .ok (.ireturn, 1) := by decide +kernel
theorem d_LW_rollAt_17 : decode c_LW_rollAt 17 = .ok (.iconst 0, 1) := by decide +kernel
theorem d_LW_rollAt_18 : decode c_LW_rollAt 18 = .ok (.ireturn, 1) := by decide +kernel
theorem d_RC_rollAt_0 : decode c_RC_rollAt 0 = .ok (.aload_n 0, 1) := by decide +kernel
theorem d_RC_rollAt_1 : decode c_RC_rollAt 1 = .ok (.iload_n 1, 1) := by decide +kernel
theorem d_RC_rollAt_2 : decode c_RC_rollAt 2 = .ok (.invokevirtual 136, 3) := by decide +kernel
theorem d_RC_rollAt_5 : decode c_RC_rollAt 5 = .ok (.astore_n 3, 1) := by decide +kernel
theorem d_RC_rollAt_6 : decode c_RC_rollAt 6 = .ok (.iload_n 2, 1) := by decide +kernel
theorem d_RC_rollAt_7 : decode c_RC_rollAt 7 = .ok (.tableswitch 100 0 6 #[41, 46, 51, 56, 76, 81, 95], 41) := by decide +kernel
theorem d_RC_rollAt_48 : decode c_RC_rollAt 48 = .ok (.aload_n 3, 1) := by decide +kernel
theorem d_RC_rollAt_49 : decode c_RC_rollAt 49 = .ok (.getfield 184, 3) := by decide +kernel
theorem d_RC_rollAt_52 : decode c_RC_rollAt 52 = .ok (.ireturn, 1) := by decide +kernel
theorem d_RC_rollAt_53 : decode c_RC_rollAt 53 = .ok (.aload_n 3, 1) := by decide +kernel
theorem d_RC_rollAt_54 : decode c_RC_rollAt 54 = .ok (.getfield 194, 3) := by decide +kernel
theorem d_RC_rollAt_57 : decode c_RC_rollAt 57 = .ok (.ireturn, 1) := by decide +kernel
theorem d_RC_rollAt_58 : decode c_RC_rollAt 58 = .ok (.aload_n 3, 1) := by decide +kernel
theorem d_RC_rollAt_59 : decode c_RC_rollAt 59 = .ok (.getfield 197, 3) := by decide +kernel
theorem d_RC_rollAt_62 : decode c_RC_rollAt 62 = .ok (.ireturn, 1) := by decide +kernel
theorem d_RC_rollAt_63 : decode c_RC_rollAt 63 = .ok (.aload_n 3, 1) := by decide +kernel
theorem d_RC_rollAt_64 : decode c_RC_rollAt 64 = .ok (.invokevirtual 187, 3) := by decide +kernel
theorem d_RC_rollAt_67 : decode c_RC_rollAt 67 = .ok (.ifCond .eq 10, 3) := by decide +kernel
theorem d_RC_rollAt_70 : decode c_RC_rollAt 70 = .ok (.aload_n 3, 1) := by decide +kernel
theorem d_RC_rollAt_71 : decode c_RC_rollAt 71 = .ok (.getfield 191, 3) := by decide +kernel
theorem d_RC_rollAt_74 : decode c_RC_rollAt 74 = .ok (.goto 8, 3) := by decide +kernel
theorem d_RC_rollAt_77 : decode c_RC_rollAt 77 = .ok (.aload_n 0, 1) := by decide +kernel
theorem d_RC_rollAt_78 : decode c_RC_rollAt 78 = .ok (.aload_n 3, 1) := by decide +kernel
theorem d_RC_rollAt_79 : decode c_RC_rollAt 79 = .ok (.invokevirtual 180, 3) := by decide +kernel
theorem d_RC_rollAt_82 : decode c_RC_rollAt 82 = .ok (.ireturn, 1) := by decide +kernel
theorem d_RC_rollAt_83 : decode c_RC_rollAt 83 = .ok (.aload_n 3, 1) := by decide +kernel
theorem d_RC_rollAt_84 : decode c_RC_rollAt 84 = .ok (.getfield 200, 3) := by decide +kernel
theorem d_RC_rollAt_87 : decode c_RC_rollAt 87 = .ok (.ireturn, 1) := by decide +kernel
theorem d_RC_rollAt_88 : decode c_RC_rollAt 88 = .ok (.iconst 0, 1) := by decide +kernel
theorem d_RC_rollAt_89 : decode c_RC_rollAt 89 = .ok (.aload_n 3, 1) := by decide +kernel
theorem d_RC_rollAt_90 : decode c_RC_rollAt 90 = .ok (.getfield 200, 3) := by decide +kernel
theorem d_RC_rollAt_93 : decode c_RC_rollAt 93 = .ok (.aload_n 3, 1) := by decide +kernel
theorem d_RC_rollAt_94 : decode c_RC_rollAt 94 = .ok (.getfield 173, 3) := by decide +kernel
theorem d_RC_rollAt_97 : decode c_RC_rollAt 97 = .ok (.isub, 1) := by decide +kernel
theorem d_RC_rollAt_98 : decode c_RC_rollAt 98 = .ok (.invokestatic 156, 3) := by decide +kernel
theorem d_RC_rollAt_101 : decode c_RC_rollAt 101 = .ok (.ireturn, 1) := by decide +kernel
theorem d_RC_rollAt_102 : decode c_RC_rollAt 102 = .ok (.aload_n 3, 1) := by decide +kernel
theorem d_RC_rollAt_103 : decode c_RC_rollAt 103 = .ok (.getfield 147, 3) := by decide +kernel
theorem d_RC_rollAt_106 : decode c_RC_rollAt 106 = .ok (.ireturn, 1) := by decide +kernel
theorem d_RC_rollAt_107 : decode c_RC_rollAt 107 = .ok (.new 100, 3) := by decide +kernel
theorem d_RC_rollAt_110 : decode c_RC_rollAt 110 = .ok (.dup, 1) := by decide +kernel
theorem d_RC_rollAt_111 : decode c_RC_rollAt 111 = .ok (.ldc 203, 2) := by decide +kernel
theorem d_RC_rollAt_113 : decode c_RC_rollAt 113 = .ok (.invokespecial 104, 3) := by decide +kernel
theorem d_RC_rollAt_116 : decode c_RC_rollAt 116 = .ok (.athrow, 1) := by decide +kernel
theorem d_LW_missing_0 : decode c_LW_missing 0 = .ok (.aload_n 3, 1) := by decide +kernel
theorem d_LW_missing_1 : decode c_LW_missing 1 = .ok (.iconst 0, 1) := by decide +kernel
theorem d_LW_missing_2 : decode c_LW_missing 2 = .ok (.aload_n 0, 1) := by decide +kernel
theorem d_LW_missing_3 : decode c_LW_missing 3 = .ok (.iload_n 1, 1) := by decide +kernel
theorem d_LW_missing_4 : decode c_LW_missing 4 = .ok (.iload_n 2, 1) := by decide +kernel
theorem d_LW_missing_5 : decode c_LW_missing 5 = .ok (.invokevirtual 50, 3) := by decide +kernel
theorem d_LW_missing_8 : decode c_LW_missing 8 = .ok (.i2l, 1) := by decide +kernel
theorem d_LW_missing_9 : decode c_LW_missing 9 = .ok (.lastore, 1) := by decide +kernel
theorem d_LW_missing_10 : decode c_LW_missing 10 = .ok (.goto 15, 3) := by decide +kernel
theorem d_LW_missing_13 : decode c_LW_missing 13 = .ok (.astore 4, 2) := by decide +kernel
theorem d_LW_missing_15 : decode c_LW_missing 15 = .ok (.iconst 1, 1) := by decide +kernel
theorem d_LW_missing_16 : decode c_LW_missing 16 = .ok (.ireturn, 1) := by decide +kernel
theorem d_LW_missing_17 : decode c_LW_missing 17 = .ok (.astore 4, 2) := by decide +kernel
theorem d_LW_missing_19 : decode c_LW_missing 19 = .ok (.iconst 2, 1) := by decide +kernel
theorem d_LW_missing_20 : decode c_LW_missing 20 = .ok (.ireturn, 1) := by decide +kernel
theorem d_LW_missing_21 : decode c_LW_missing 21 = .ok (.astore 4, 2) := by decide +kernel
theorem d_LW_missing_23 : decode c_LW_missing 23 = .ok (.iconst 3, 1) := by decide +kernel
theorem d_LW_missing_24 : decode c_LW_missing 24 = .ok (.ireturn, 1) := by decide +kernel
theorem d_LW_missing_25 : decode c_LW_missing 25 = .ok (.iconst 0, 1) := by decide +kernel
theorem d_LW_missing_26 : decode c_LW_missing 26 = .ok (.ireturn, 1) := by decide +kernel
theorem d_RC_missing_0 : decode c_RC_missing 0 = .ok (.aload_n 0, 1) := by decide +kernel
theorem d_RC_missing_1 : decode c_RC_missing 1 = .ok (.iload_n 1, 1) := by decide +kernel
theorem d_RC_missing_2 : decode c_RC_missing 2 = .ok (.invokevirtual 136, 3) := by decide +kernel
theorem d_RC_missing_5 : decode c_RC_missing 5 = .ok (.astore_n 3, 1) := by decide +kernel
theorem d_RC_missing_6 : decode c_RC_missing 6 = .ok (.iload_n 2, 1) := by decide +kernel
theorem d_RC_missing_7 : decode c_RC_missing 7 = .ok (.ifCond .ge 13, 3) := by decide +kernel
theorem d_RC_missing_10 : decode c_RC_missing 10 = .ok (.new 82, 3) := by decide +kernel
theorem d_RC_missing_13 : decode c_RC_missing 13 = .ok (.dup, 1) := by decide +kernel
theorem d_RC_missing_14 : decode c_RC_missing 14 = .ok (.ldc 205, 2) := by decide +kernel
theorem d_RC_missing_16 : decode c_RC_missing 16 = .ok (.invokespecial 86, 3) := by decide +kernel
theorem d_RC_missing_19 : decode c_RC_missing 19 = .ok (.athrow, 1) := by decide +kernel
theorem d_RC_missing_20 : decode c_RC_missing 20 = .ok (.aload_n 3, 1) := by decide +kernel
theorem d_RC_missing_21 : decode c_RC_missing 21 = .ok (.invokevirtual 187, 3) := by decide +kernel
theorem d_RC_missing_24 : decode c_RC_missing 24 = .ok (.ifCond .ne 13, 3) := by decide +kernel
theorem d_RC_missing_27 : decode c_RC_missing 27 = .ok (.new 68, 3) := by decide +kernel
theorem d_RC_missing_30 : decode c_RC_missing 30 = .ok (.dup, 1) := by decide +kernel
theorem d_RC_missing_31 : decode c_RC_missing 31 = .ok (.ldc 207, 2) := by decide +kernel
theorem d_RC_missing_33 : decode c_RC_missing 33 = .ok (.invokespecial 72, 3) := by decide +kernel
theorem d_RC_missing_36 : decode c_RC_missing 36 = .ok (.athrow, 1) := by decide +kernel
theorem d_RC_missing_37 : decode c_RC_missing 37 = .ok (.iconst 0, 1) := by decide +kernel
theorem d_RC_missing_38 : decode c_RC_missing 38 = .ok (.istore 4, 2) := by decide +kernel
theorem d_RC_missing_40 : decode c_RC_missing 40 = .ok (.iconst 0, 1) := by decide +kernel
theorem d_RC_missing_41 : decode c_RC_missing 41 = .ok (.istore 5, 2) := by decide +kernel
theorem d_RC_missing_43 : decode c_RC_missing 43 = .ok (.iload 5, 2) := by decide +kernel
theorem d_RC_missing_45 : decode c_RC_missing 45 = .ok (.aload_n 0, 1) := by decide +kernel
theorem d_RC_missing_46 : decode c_RC_missing 46 = .ok (.getfield 16, 3) := by decide +kernel
theorem d_RC_missing_49 : decode c_RC_missing 49 = .ok (.invokevirtual 39, 3) := by decide +kernel
theorem d_RC_missing_52 : decode c_RC_missing 52 = .ok (.if_icmp .ge 31, 3) := by decide +kernel
theorem d_RC_missing_55 : decode c_RC_missing 55 = .ok (.aload_n 0, 1) := by decide +kernel
theorem d_RC_missing_56 : decode c_RC_missing 56 = .ok (.aload_n 3, 1) := by decide +kernel
theorem d_RC_missing_57 : decode c_RC_missing 57 = .ok (.iload 5, 2) := by decide +kernel
theorem d_RC_missing_59 : decode c_RC_missing 59 = .ok (.invokevirtual 209, 3) := by decide +kernel
theorem d_RC_missing_62 : decode c_RC_missing 62 = .ok (.ifCond .eq 15, 3) := by decide +kernel
theorem d_RC_missing_65 : decode c_RC_missing 65 = .ok (.iload 4, 2) := by decide +kernel
theorem d_RC_missing_67 : decode c_RC_missing 67 = .ok (.iload_n 2, 1) := by decide +kernel
theorem d_RC_missing_68 : decode c_RC_missing 68 = .ok (.if_icmp .ne 6, 3) := by decide +kernel
theorem d_RC_missing_71 : decode c_RC_missing 71 = .ok (.iload 5, 2) := by decide +kernel
theorem d_RC_missing_73 : decode c_RC_missing 73 = .ok (.ireturn, 1) := by decide +kernel
theorem d_RC_missing_74 : decode c_RC_missing 74 = .ok (.iinc 4 1, 3) := by decide +kernel
theorem d_RC_missing_77 : decode c_RC_missing 77 = .ok (.iinc 5 1, 3) := by decide +kernel
theorem d_RC_missing_80 : decode c_RC_missing 80 = .ok (.goto (-37), 3) := by decide +kernel
theorem d_RC_missing_83 : decode c_RC_missing 83 = .ok (.iconst (-1), 1) := by decide +kernel
theorem d_RC_missing_84 : decode c_RC_missing 84 = .ok (.ireturn, 1) := by decide +kernel
theorem d_RC_isMissingStill_0 : decode c_RC_isMissingStill 0 = .ok (.aload_n 0, 1) := by decide +kernel
theorem d_RC_isMissingStill_1 : decode c_RC_isMissingStill 1 = .ok (.aload_n 1, 1) := by decide +kernel
theorem d_RC_isMissingStill_2 : decode c_RC_isMissingStill 2 = .ok (.iload_n 2, 1) := by decide +kernel
theorem d_RC_isMissingStill_3 : decode c_RC_isMissingStill 3 = .ok (.invokevirtual 237, 3) := by decide +kernel
theorem d_RC_isMissingStill_6 : decode c_RC_isMissingStill 6 = .ok (.ifCond .eq 22, 3) := by decide +kernel
theorem d_RC_isMissingStill_9 : decode c_RC_isMissingStill 9 = .ok (.aload_n 0, 1) := by decide +kernel
theorem d_RC_isMissingStill_10 : decode c_RC_isMissingStill 10 = .ok (.iload_n 2, 1) := by decide +kernel
theorem d_RC_isMissingStill_11 : decode c_RC_isMissingStill 11 = .ok (.invokevirtual 57, 3) := by decide +kernel
theorem d_RC_isMissingStill_14 : decode c_RC_isMissingStill 14 = .ok (.getfield 153, 3) := by decide +kernel
theorem d_RC_isMissingStill_17 : decode c_RC_isMissingStill 17 = .ok (.aload_n 1, 1) := by decide +kernel
theorem d_RC_isMissingStill_18 : decode c_RC_isMissingStill 18 = .ok (.getfield 133, 3) := by decide +kernel
theorem d_RC_isMissingStill_21 : decode c_RC_isMissingStill 21 = .ok (.if_icmp .gt 7, 3) := by decide +kernel
theorem d_RC_isMissingStill_24 : decode c_RC_isMissingStill 24 = .ok (.iconst 1, 1) := by decide +kernel
theorem d_RC_isMissingStill_25 : decode c_RC_isMissingStill 25 = .ok (.goto 4, 3) := by decide +kernel
theorem d_RC_isMissingStill_28 : decode c_RC_isMissingStill 28 = .ok (.iconst 0, 1) := by decide +kernel
theorem d_RC_isMissingStill_29 : decode c_RC_isMissingStill 29 = .ok (.ireturn, 1) := by decide +kernel
theorem d_LW_twice_0 : decode c_LW_twice 0 = .ok (.aload_n 3, 1) := by decide +kernel
theorem d_LW_twice_1 : decode c_LW_twice 1 = .ok (.iconst 0, 1) := by decide +kernel
theorem d_LW_twice_2 : decode c_LW_twice 2 = .ok (.aload_n 0, 1) := by decide +kernel
theorem d_LW_twice_3 : decode c_LW_twice 3 = .ok (.iload_n 1, 1) := by decide +kernel
theorem d_LW_twice_4 : decode c_LW_twice 4 = .ok (.iload_n 2, 1) := by decide +kernel
theorem d_LW_twice_5 : decode c_LW_twice 5 = .ok (.invokevirtual 53, 3) := by decide +kernel
theorem d_LW_twice_8 : decode c_LW_twice 8 = .ok (.i2l, 1) := by decide +kernel
theorem d_LW_twice_9 : decode c_LW_twice 9 = .ok (.lastore, 1) := by decide +kernel
theorem d_LW_twice_10 : decode c_LW_twice 10 = .ok (.goto 7, 3) := by decide +kernel
theorem d_LW_twice_13 : decode c_LW_twice 13 = .ok (.astore 4, 2) := by decide +kernel
theorem d_LW_twice_15 : decode c_LW_twice 15 = .ok (.iconst 1, 1) := by decide +kernel
theorem d_LW_twice_16 : decode c_LW_twice 16 = .ok (.ireturn, 1) := by decide +kernel
theorem d_LW_twice_17 : decode c_LW_twice 17 = .ok (.iconst 0, 1) := by decide +kernel
theorem d_LW_twice_18 : decode c_LW_twice 18 = .ok (.ireturn, 1) := by decide +kernel
theorem d_RC_twice_0 : decode c_RC_twice 0 = .ok (.iload_n 1, 1) := by decide +kernel
theorem d_RC_twice_1 : decode c_RC_twice 1 = .ok (.ifCond .lt 14, 3) := by decide +kernel
theorem d_RC_twice_4 : decode c_RC_twice 4 = .ok (.iload_n 1, 1) := by decide +kernel
theorem d_RC_twice_5 : decode c_RC_twice 5 = .ok (.aload_n 0, 1) := by decide +kernel
theorem d_RC_twice_6 : decode c_RC_twice 6 = .ok (.getfield 26, 3) := by decide +kernel
theorem d_RC_twice_9 : decode c_RC_twice 9 = .ok (.invokevirtual 39, 3) := by decide +kernel
theorem d_RC_twice_12 : decode c_RC_twice 12 = .ok (.if_icmp .lt 13, 3) := by decide +kernel
theorem d_RC_twice_15 : decode c_RC_twice 15 = .ok (.new 100, 3) := by decide +kernel
theorem d_RC_twice_18 : decode c_RC_twice 18 = .ok (.dup, 1) := by decide +kernel
theorem d_RC_twice_19 : decode c_RC_twice 19 = .ok (.ldc 213, 2) := by decide +kernel
theorem d_RC_twice_21 : decode c_RC_twice 21 = .ok (.invokespecial 104, 3) := by decide +kernel
theorem d_RC_twice_24 : decode c_RC_twice 24 = .ok (.athrow, 1) := by decide +kernel
theorem d_RC_twice_25 : decode c_RC_twice 25 = .ok (.aload_n 0, 1) := by decide +kernel
theorem d_RC_twice_26 : decode c_RC_twice 26 = .ok (.getfield 26, 3) := by decide +kernel
theorem d_RC_twice_29 : decode c_RC_twice 29 = .ok (.iload_n 1, 1) := by decide +kernel
theorem d_RC_twice_30 : decode c_RC_twice 30 = .ok (.invokevirtual 89, 3) := by decide +kernel
theorem d_RC_twice_33 : decode c_RC_twice 33 = .ok (.checkcast 162, 3) := by decide +kernel
theorem d_RC_twice_36 : decode c_RC_twice 36 = .ok (.astore_n 3, 1) := by decide +kernel
theorem d_RC_twice_37 : decode c_RC_twice 37 = .ok (.iload_n 2, 1) := by decide +kernel
theorem d_RC_twice_38 : decode c_RC_twice 38 = .ok (.tableswitch 50 0 3 #[30, 35, 40, 45], 30) := by decide +kernel
theorem d_RC_twice_68 : decode c_RC_twice 68 = .ok (.aload_n 3, 1) := by decide +kernel
theorem d_RC_twice_69 : decode c_RC_twice 69 = .ok (.getfield 215, 3) := by decide +kernel
theorem d_RC_twice_72 : decode c_RC_twice 72 = .ok (.ireturn, 1) := by decide +kernel
theorem d_RC_twice_73 : decode c_RC_twice 73 = .ok (.aload_n 3, 1) := by decide +kernel
theorem d_RC_twice_74 : decode c_RC_twice 74 = .ok (.getfield 216, 3) := by decide +kernel
theorem d_RC_twice_77 : decode c_RC_twice 77 = .ok (.ireturn, 1) := by decide +kernel
theorem d_RC_twice_78 : decode c_RC_twice 78 = .ok (.aload_n 3, 1) := by decide +kernel
theorem d_RC_twice_79 : decode c_RC_twice 79 = .ok (.getfield 219, 3) := by decide +kernel
theorem d_RC_twice_82 : decode c_RC_twice 82 = .ok (.ireturn, 1) := by decide +kernel
theorem d_RC_twice_83 : decode c_RC_twice 83 = .ok (.aload_n 3, 1) := by decide +kernel
theorem d_RC_twice_84 : decode c_RC_twice 84 = .ok (.getfield 222, 3) := by decide +kernel
theorem d_RC_twice_87 : decode c_RC_twice 87 = .ok (.ireturn, 1) := by decide +kernel
theorem d_RC_twice_88 : decode c_RC_twice 88 = .ok (.new 100, 3) := by decide +kernel
theorem d_RC_twice_91 : decode c_RC_twice 91 = .ok (.dup, 1) := by decide +kernel
theorem d_RC_twice_92 : decode c_RC_twice 92 = .ok (.ldc 203, 2) := by decide +kernel
theorem d_RC_twice_94 : decode c_RC_twice 94 = .ok (.invokespecial 104, 3) := by decide +kernel
theorem d_RC_twice_97 : decode c_RC_twice 97 = .ok (.athrow, 1) := by decide +kernel
theorem d_LW_mayday_0 : decode c_LW_mayday 0 = .ok (.aload_n 3, 1) := by decide +kernel
theorem d_LW_mayday_1 : decode c_LW_mayday 1 = .ok (.iconst 0, 1) := by decide +kernel
theorem d_LW_mayday_2 : decode c_LW_mayday 2 = .ok (.aload_n 0, 1) := by decide +kernel
theorem d_LW_mayday_3 : decode c_LW_mayday 3 = .ok (.iload_n 1, 1) := by decide +kernel
theorem d_LW_mayday_4 : decode c_LW_mayday 4 = .ok (.iload_n 2, 1) := by decide +kernel
theorem d_LW_mayday_5 : decode c_LW_mayday 5 = .ok (.invokevirtual 56, 3) := by decide +kernel
theorem d_LW_mayday_8 : decode c_LW_mayday 8 = .ok (.i2l, 1) := by decide +kernel
theorem d_LW_mayday_9 : decode c_LW_mayday 9 = .ok (.lastore, 1) := by decide +kernel
theorem d_LW_mayday_10 : decode c_LW_mayday 10 = .ok (.goto 19, 3) := by decide +kernel
theorem d_LW_mayday_13 : decode c_LW_mayday 13 = .ok (.astore 4, 2) := by decide +kernel
theorem d_LW_mayday_15 : decode c_LW_mayday 15 = .ok (.iconst 1, 1) := by decide +kernel
theorem d_LW_mayday_16 : decode c_LW_mayday 16 = .ok (.ireturn, 1) := by decide +kernel
theorem d_LW_mayday_17 : decode c_LW_mayday 17 = .ok (.astore 4, 2) := by decide +kernel
theorem d_LW_mayday_19 : decode c_LW_mayday 19 = .ok (.iconst 2, 1) := by decide +kernel
theorem d_LW_mayday_20 : decode c_LW_mayday 20 = .ok (.ireturn, 1) := by decide +kernel
theorem d_LW_mayday_21 : decode c_LW_mayday 21 = .ok (.astore 4, 2) := by decide +kernel
theorem d_LW_mayday_23 : decode c_LW_mayday 23 = .ok (.iconst 3, 1) := by decide +kernel
theorem d_LW_mayday_24 : decode c_LW_mayday 24 = .ok (.ireturn, 1) := by decide +kernel
theorem d_LW_mayday_25 : decode c_LW_mayday 25 = .ok (.astore 4, 2) := by decide +kernel
theorem d_LW_mayday_27 : decode c_LW_mayday 27 = .ok (.iconst 4, 1) := by decide +kernel
theorem d_LW_mayday_28 : decode c_LW_mayday 28 = .ok (.ireturn, 1) := by decide +kernel
theorem d_LW_mayday_29 : decode c_LW_mayday 29 = .ok (.iconst 0, 1) := by decide +kernel
theorem d_LW_mayday_30 : decode c_LW_mayday 30 = .ok (.ireturn, 1) := by decide +kernel
theorem d_RC_mayday_0 : decode c_RC_mayday 0 = .ok (.aload_n 0, 1) := by decide +kernel
theorem d_RC_mayday_1 : decode c_RC_mayday 1 = .ok (.iload_n 1, 1) := by decide +kernel
theorem d_RC_mayday_2 : decode c_RC_mayday 2 = .ok (.invokevirtual 57, 3) := by decide +kernel
theorem d_RC_mayday_5 : decode c_RC_mayday 5 = .ok (.astore_n 3, 1) := by decide +kernel
theorem d_RC_mayday_6 : decode c_RC_mayday 6 = .ok (.iload_n 2, 1) := by decide +kernel
theorem d_RC_mayday_7 : decode c_RC_mayday 7 = .ok (.ifCond .lt 10, 3) := by decide +kernel
theorem d_RC_mayday_10 : decode c_RC_mayday 10 = .ok (.iload_n 2, 1) := by decide +kernel
theorem d_RC_mayday_11 : decode c_RC_mayday 11 = .ok (.sipush 999, 3) := by decide +kernel
theorem d_RC_mayday_14 : decode c_RC_mayday 14 = .ok (.if_icmp .le 13, 3) := by decide +kernel
theorem d_RC_mayday_17 : decode c_RC_mayday 17 = .ok (.new 82, 3) := by decide +kernel
theorem d_RC_mayday_20 : decode c_RC_mayday 20 = .ok (.dup, 1) := by decide +kernel
theorem d_RC_mayday_21 : decode c_RC_mayday 21 = .ok (.ldc 243, 2) := by decide +kernel
theorem d_RC_mayday_23 : decode c_RC_mayday 23 = .ok (.invokespecial 86, 3) := by decide +kernel
theorem d_RC_mayday_26 : decode c_RC_mayday 26 = .ok (.athrow, 1) := by decide +kernel
theorem d_RC_mayday_27 : decode c_RC_mayday 27 = .ok (.aload_n 3, 1) := by decide +kernel
theorem d_RC_mayday_28 : decode c_RC_mayday 28 = .ok (.getfield 65, 3) := by decide +kernel
theorem d_RC_mayday_31 : decode c_RC_mayday 31 = .ok (.iconst (-1), 1) := by decide +kernel
theorem d_RC_mayday_32 : decode c_RC_mayday 32 = .ok (.if_icmp .eq 11, 3) := by decide +kernel
theorem d_RC_mayday_35 : decode c_RC_mayday 35 = .ok (.aload_n 0, 1) := by decide +kernel
theorem d_RC_mayday_36 : decode c_RC_mayday 36 = .ok (.iload_n 1, 1) := by decide +kernel
theorem d_RC_mayday_37 : decode c_RC_mayday 37 = .ok (.invokevirtual 245, 3) := by decide +kernel
theorem d_RC_mayday_40 : decode c_RC_mayday 40 = .ok (.ifCond .eq 13, 3) := by decide +kernel
theorem d_RC_mayday_43 : decode c_RC_mayday 43 = .ok (.new 68, 3) := by decide +kernel
theorem d_RC_mayday_46 : decode c_RC_mayday 46 = .ok (.dup, 1) := by decide +kernel
theorem d_RC_mayday_47 : decode c_RC_mayday 47 = .ok (.ldc 248, 2) := by decide +kernel
theorem d_RC_mayday_49 : decode c_RC_mayday 49 = .ok (.invokespecial 72, 3) := by decide +kernel
theorem d_RC_mayday_52 : decode c_RC_mayday 52 = .ok (.athrow, 1) := by decide +kernel
theorem d_RC_mayday_53 : decode c_RC_mayday 53 = .ok (.aload_n 0, 1) := by decide +kernel
theorem d_RC_mayday_54 : decode c_RC_mayday 54 = .ok (.getfield 29, 3) := by decide +kernel
theorem d_RC_mayday_57 : decode c_RC_mayday 57 = .ok (.invokevirtual 39, 3) := by decide +kernel
theorem d_RC_mayday_60 : decode c_RC_mayday 60 = .ok (.bipush 30, 2) := by decide +kernel
theorem d_RC_mayday_62 : decode c_RC_mayday 62 = .ok (.if_icmp .lt 13, 3) := by decide +kernel
theorem d_RC_mayday_65 : decode c_RC_mayday 65 = .ok (.new 43, 3) := by decide +kernel
theorem d_RC_mayday_68 : decode c_RC_mayday 68 = .ok (.dup, 1) := by decide +kernel
theorem d_RC_mayday_69 : decode c_RC_mayday 69 = .ok (.ldc 250, 2) := by decide +kernel
theorem d_RC_mayday_71 : decode c_RC_mayday 71 = .ok (.invokespecial 47, 3) := by decide +kernel
theorem d_RC_mayday_74 : decode c_RC_mayday 74 = .ok (.athrow, 1) := by decide +kernel
theorem d_RC_mayday_75 : decode c_RC_mayday 75 = .ok (.aload_n 0, 1) := by decide +kernel
theorem d_RC_mayday_76 : decode c_RC_mayday 76 = .ok (.getfield 29, 3) := by decide +kernel
theorem d_RC_mayday_79 : decode c_RC_mayday 79 = .ok (.new 252, 3) := by decide +kernel
theorem d_RC_mayday_82 : decode c_RC_mayday 82 = .ok (.dup, 1) := by decide +kernel
theorem d_RC_mayday_83 : decode c_RC_mayday 83 = .ok (.iload_n 1, 1) := by decide +kernel
theorem d_RC_mayday_84 : decode c_RC_mayday 84 = .ok (.iload_n 2, 1) := by decide +kernel
theorem d_RC_mayday_85 : decode c_RC_mayday 85 = .ok (.aload_n 0, 1) := by decide +kernel
theorem d_RC_mayday_86 : decode c_RC_mayday 86 = .ok (.getfield 35, 3) := by decide +kernel
theorem d_RC_mayday_89 : decode c_RC_mayday 89 = .ok (.aload_n 0, 1) := by decide +kernel
theorem d_RC_mayday_90 : decode c_RC_mayday 90 = .ok (.invokevirtual 254, 3) := by decide +kernel
theorem d_RC_mayday_93 : decode c_RC_mayday 93 = .ok (.invokespecial 257, 3) := by decide +kernel
theorem d_RC_mayday_96 : decode c_RC_mayday 96 = .ok (.invokevirtual 53, 3) := by decide +kernel
theorem d_RC_mayday_99 : decode c_RC_mayday 99 = .ok (.pop, 1) := by decide +kernel
theorem d_RC_mayday_100 : decode c_RC_mayday 100 = .ok (.aload_n 0, 1) := by decide +kernel
theorem d_RC_mayday_101 : decode c_RC_mayday 101 = .ok (.getfield 29, 3) := by decide +kernel
theorem d_RC_mayday_104 : decode c_RC_mayday 104 = .ok (.invokevirtual 39, 3) := by decide +kernel
theorem d_RC_mayday_107 : decode c_RC_mayday 107 = .ok (.iconst 1, 1) := by decide +kernel
theorem d_RC_mayday_108 : decode c_RC_mayday 108 = .ok (.isub, 1) := by decide +kernel
theorem d_RC_mayday_109 : decode c_RC_mayday 109 = .ok (.ireturn, 1) := by decide +kernel
theorem d_RC_hasOpenMayday_0 : decode c_RC_hasOpenMayday 0 = .ok (.iconst 0, 1) := by decide +kernel
theorem d_RC_hasOpenMayday_1 : decode c_RC_hasOpenMayday 1 = .ok (.istore_n 2, 1) := by decide +kernel
theorem d_RC_hasOpenMayday_2 : decode c_RC_hasOpenMayday 2 = .ok (.iload_n 2, 1) := by decide +kernel
theorem d_RC_hasOpenMayday_3 : decode c_RC_hasOpenMayday 3 = .ok (.aload_n 0, 1) := by decide +kernel
theorem d_RC_hasOpenMayday_4 : decode c_RC_hasOpenMayday 4 = .ok (.getfield 29, 3) := by decide +kernel
theorem d_RC_hasOpenMayday_7 : decode c_RC_hasOpenMayday 7 = .ok (.invokevirtual 39, 3) := by decide +kernel
theorem d_RC_hasOpenMayday_10 : decode c_RC_hasOpenMayday 10 = .ok (.if_icmp .ge 38, 3) := by decide +kernel
theorem d_RC_hasOpenMayday_13 : decode c_RC_hasOpenMayday 13 = .ok (.aload_n 0, 1) := by decide +kernel
theorem d_RC_hasOpenMayday_14 : decode c_RC_hasOpenMayday 14 = .ok (.getfield 29, 3) := by decide +kernel
theorem d_RC_hasOpenMayday_17 : decode c_RC_hasOpenMayday 17 = .ok (.iload_n 2, 1) := by decide +kernel
theorem d_RC_hasOpenMayday_18 : decode c_RC_hasOpenMayday 18 = .ok (.invokevirtual 89, 3) := by decide +kernel
theorem d_RC_hasOpenMayday_21 : decode c_RC_hasOpenMayday 21 = .ok (.checkcast 252, 3) := by decide +kernel
theorem d_RC_hasOpenMayday_24 : decode c_RC_hasOpenMayday 24 = .ok (.astore_n 3, 1) := by decide +kernel
theorem d_RC_hasOpenMayday_25 : decode c_RC_hasOpenMayday 25 = .ok (.aload_n 3, 1) := by decide +kernel
theorem d_RC_hasOpenMayday_26 : decode c_RC_hasOpenMayday 26 = .ok (.getfield 262, 3) := by decide +kernel
theorem d_RC_hasOpenMayday_29 : decode c_RC_hasOpenMayday 29 = .ok (.ifCond .eq 13, 3) := by decide +kernel
theorem d_RC_hasOpenMayday_32 : decode c_RC_hasOpenMayday 32 = .ok (.aload_n 3, 1) := by decide +kernel
theorem d_RC_hasOpenMayday_33 : decode c_RC_hasOpenMayday 33 = .ok (.getfield 274, 3) := by decide +kernel
theorem d_RC_hasOpenMayday_36 : decode c_RC_hasOpenMayday 36 = .ok (.iload_n 1, 1) := by decide +kernel
theorem d_RC_hasOpenMayday_37 : decode c_RC_hasOpenMayday 37 = .ok (.if_icmp .ne 5, 3) := by decide +kernel
theorem d_RC_hasOpenMayday_40 : decode c_RC_hasOpenMayday 40 = .ok (.iconst 1, 1) := by decide +kernel
theorem d_RC_hasOpenMayday_41 : decode c_RC_hasOpenMayday 41 = .ok (.ireturn, 1) := by decide +kernel
theorem d_RC_hasOpenMayday_42 : decode c_RC_hasOpenMayday 42 = .ok (.iinc 2 1, 3) := by decide +kernel
theorem d_RC_hasOpenMayday_45 : decode c_RC_hasOpenMayday 45 = .ok (.goto (-43), 3) := by decide +kernel
theorem d_RC_hasOpenMayday_48 : decode c_RC_hasOpenMayday 48 = .ok (.iconst 0, 1) := by decide +kernel
theorem d_RC_hasOpenMayday_49 : decode c_RC_hasOpenMayday 49 = .ok (.ireturn, 1) := by decide +kernel
theorem d_RC_lowestFreeTeam_0 : decode c_RC_lowestFreeTeam 0 = .ok (.iconst 0, 1) := by decide +kernel
theorem d_RC_lowestFreeTeam_1 : decode c_RC_lowestFreeTeam 1 = .ok (.istore_n 1, 1) := by decide +kernel
theorem d_RC_lowestFreeTeam_2 : decode c_RC_lowestFreeTeam 2 = .ok (.iload_n 1, 1) := by decide +kernel
theorem d_RC_lowestFreeTeam_3 : decode c_RC_lowestFreeTeam 3 = .ok (.iconst 4, 1) := by decide +kernel
theorem d_RC_lowestFreeTeam_4 : decode c_RC_lowestFreeTeam 4 = .ok (.if_icmp .ge 19, 3) := by decide +kernel
theorem d_RC_lowestFreeTeam_7 : decode c_RC_lowestFreeTeam 7 = .ok (.aload_n 0, 1) := by decide +kernel
theorem d_RC_lowestFreeTeam_8 : decode c_RC_lowestFreeTeam 8 = .ok (.iload_n 1, 1) := by decide +kernel
theorem d_RC_lowestFreeTeam_9 : decode c_RC_lowestFreeTeam 9 = .ok (.invokevirtual 281, 3) := by decide +kernel
theorem d_RC_lowestFreeTeam_12 : decode c_RC_lowestFreeTeam 12 = .ok (.ifCond .ne 5, 3) := by decide +kernel
theorem d_RC_lowestFreeTeam_15 : decode c_RC_lowestFreeTeam 15 = .ok (.iload_n 1, 1) := by decide +kernel
theorem d_RC_lowestFreeTeam_16 : decode c_RC_lowestFreeTeam 16 = .ok (.ireturn, 1) := by decide +kernel
theorem d_RC_lowestFreeTeam_17 : decode c_RC_lowestFreeTeam 17 = .ok (.iinc 1 1, 3) := by decide +kernel
theorem d_RC_lowestFreeTeam_20 : decode c_RC_lowestFreeTeam 20 = .ok (.goto (-18), 3) := by decide +kernel
theorem d_RC_lowestFreeTeam_23 : decode c_RC_lowestFreeTeam 23 = .ok (.iconst (-1), 1) := by decide +kernel
theorem d_RC_lowestFreeTeam_24 : decode c_RC_lowestFreeTeam 24 = .ok (.ireturn, 1) := by decide +kernel
theorem d_RC_isSent_0 : decode c_RC_isSent 0 = .ok (.iconst 0, 1) := by decide +kernel
theorem d_RC_isSent_1 : decode c_RC_isSent 1 = .ok (.istore_n 2, 1) := by decide +kernel
theorem d_RC_isSent_2 : decode c_RC_isSent 2 = .ok (.iload_n 2, 1) := by decide +kernel
theorem d_RC_isSent_3 : decode c_RC_isSent 3 = .ok (.aload_n 0, 1) := by decide +kernel
theorem d_RC_isSent_4 : decode c_RC_isSent 4 = .ok (.getfield 29, 3) := by decide +kernel
theorem d_RC_isSent_7 : decode c_RC_isSent 7 = .ok (.invokevirtual 39, 3) := by decide +kernel
theorem d_RC_isSent_10 : decode c_RC_isSent 10 = .ok (.if_icmp .ge 29, 3) := by decide +kernel
theorem d_RC_isSent_13 : decode c_RC_isSent 13 = .ok (.aload_n 0, 1) := by decide +kernel
theorem d_RC_isSent_14 : decode c_RC_isSent 14 = .ok (.getfield 29, 3) := by decide +kernel
theorem d_RC_isSent_17 : decode c_RC_isSent 17 = .ok (.iload_n 2, 1) := by decide +kernel
theorem d_RC_isSent_18 : decode c_RC_isSent 18 = .ok (.invokevirtual 89, 3) := by decide +kernel
theorem d_RC_isSent_21 : decode c_RC_isSent 21 = .ok (.checkcast 252, 3) := by decide +kernel
theorem d_RC_isSent_24 : decode c_RC_isSent 24 = .ok (.getfield 268, 3) := by decide +kernel
theorem d_RC_isSent_27 : decode c_RC_isSent 27 = .ok (.iload_n 1, 1) := by decide +kernel
theorem d_RC_isSent_28 : decode c_RC_isSent 28 = .ok (.if_icmp .ne 5, 3) := by decide +kernel
theorem d_RC_isSent_31 : decode c_RC_isSent 31 = .ok (.iconst 1, 1) := by decide +kernel
theorem d_RC_isSent_32 : decode c_RC_isSent 32 = .ok (.ireturn, 1) := by decide +kernel
theorem d_RC_isSent_33 : decode c_RC_isSent 33 = .ok (.iinc 2 1, 3) := by decide +kernel
theorem d_RC_isSent_36 : decode c_RC_isSent 36 = .ok (.goto (-34), 3) := by decide +kernel
theorem d_RC_isSent_39 : decode c_RC_isSent 39 = .ok (.iconst 0, 1) := by decide +kernel
theorem d_RC_isSent_40 : decode c_RC_isSent 40 = .ok (.ireturn, 1) := by decide +kernel
theorem d_MD_init_0 : decode c_MD_init 0 = .ok (.aload_n 0, 1) := by decide +kernel
theorem d_MD_init_1 : decode c_MD_init 1 = .ok (.invokespecial 1, 3) := by decide +kernel
theorem d_MD_init_4 : decode c_MD_init 4 = .ok (.aload_n 0, 1) := by decide +kernel
theorem d_MD_init_5 : decode c_MD_init 5 = .ok (.iload_n 1, 1) := by decide +kernel
theorem d_MD_init_6 : decode c_MD_init 6 = .ok (.putfield 7, 3) := by decide +kernel
theorem d_MD_init_9 : decode c_MD_init 9 = .ok (.aload_n 0, 1) := by decide +kernel
theorem d_MD_init_10 : decode c_MD_init 10 = .ok (.iload_n 2, 1) := by decide +kernel
theorem d_MD_init_11 : decode c_MD_init 11 = .ok (.putfield 13, 3) := by decide +kernel
theorem d_MD_init_14 : decode c_MD_init 14 = .ok (.aload_n 0, 1) := by decide +kernel
theorem d_MD_init_15 : decode c_MD_init 15 = .ok (.iload_n 3, 1) := by decide +kernel
theorem d_MD_init_16 : decode c_MD_init 16 = .ok (.putfield 16, 3) := by decide +kernel
theorem d_MD_init_19 : decode c_MD_init 19 = .ok (.aload_n 0, 1) := by decide +kernel
theorem d_MD_init_20 : decode c_MD_init 20 = .ok (.iload 4, 2) := by decide +kernel
theorem d_MD_init_22 : decode c_MD_init 22 = .ok (.putfield 19, 3) := by decide +kernel
theorem d_MD_init_25 : decode c_MD_init 25 = .ok (.aload_n 0, 1) := by decide +kernel
theorem d_MD_init_26 : decode c_MD_init 26 = .ok (.iconst 1, 1) := by decide +kernel
theorem d_MD_init_27 : decode c_MD_init 27 = .ok (.putfield 22, 3) := by decide +kernel
theorem d_MD_init_30 : decode c_MD_init 30 = .ok (.return_, 1) := by decide +kernel
theorem d_LW_answered_0 : decode c_LW_answered 0 = .ok (.aload_n 0, 1) := by decide +kernel
theorem d_LW_answered_1 : decode c_LW_answered 1 = .ok (.iload_n 1, 1) := by decide +kernel
theorem d_LW_answered_2 : decode c_LW_answered 2 = .ok (.invokevirtual 59, 3) := by decide +kernel
theorem d_LW_answered_5 : decode c_LW_answered 5 = .ok (.goto 9, 3) := by decide +kernel
theorem d_LW_answered_8 : decode c_LW_answered 8 = .ok (.astore_n 2, 1) := by decide +kernel
theorem d_LW_answered_9 : decode c_LW_answered 9 = .ok (.iconst 1, 1) := by decide +kernel
theorem d_LW_answered_10 : decode c_LW_answered 10 = .ok (.ireturn, 1) := by decide +kernel
theorem d_LW_answered_11 : decode c_LW_answered 11 = .ok (.astore_n 2, 1) := by decide +kernel
theorem d_LW_answered_12 : decode c_LW_answered 12 = .ok (.iconst 2, 1) := by decide +kernel
theorem d_LW_answered_13 : decode c_LW_answered 13 = .ok (.ireturn, 1) := by decide +kernel
theorem d_LW_answered_14 : decode c_LW_answered 14 = .ok (.iconst 0, 1) := by decide +kernel
theorem d_LW_answered_15 : decode c_LW_answered 15 = .ok (.ireturn, 1) := by decide +kernel
theorem d_RC_answered_0 : decode c_RC_answered 0 = .ok (.aload_n 0, 1) := by decide +kernel
theorem d_RC_answered_1 : decode c_RC_answered 1 = .ok (.iload_n 1, 1) := by decide +kernel
theorem d_RC_answered_2 : decode c_RC_answered 2 = .ok (.invokevirtual 258, 3) := by decide +kernel
theorem d_RC_answered_5 : decode c_RC_answered 5 = .ok (.astore_n 2, 1) := by decide +kernel
theorem d_RC_answered_6 : decode c_RC_answered 6 = .ok (.aload_n 2, 1) := by decide +kernel
theorem d_RC_answered_7 : decode c_RC_answered 7 = .ok (.getfield 262, 3) := by decide +kernel
theorem d_RC_answered_10 : decode c_RC_answered 10 = .ok (.ifCond .ne 14, 3) := by decide +kernel
theorem d_RC_answered_13 : decode c_RC_answered 13 = .ok (.new 68, 3) := by decide +kernel
theorem d_RC_answered_16 : decode c_RC_answered 16 = .ok (.dup, 1) := by decide +kernel
theorem d_RC_answered_17 : decode c_RC_answered 17 = .ok (.ldc_w 266, 3) := by decide +kernel
theorem d_RC_answered_20 : decode c_RC_answered 20 = .ok (.invokespecial 72, 3) := by decide +kernel
theorem d_RC_answered_23 : decode c_RC_answered 23 = .ok (.athrow, 1) := by decide +kernel
theorem d_RC_answered_24 : decode c_RC_answered 24 = .ok (.aload_n 2, 1) := by decide +kernel
theorem d_RC_answered_25 : decode c_RC_answered 25 = .ok (.getfield 268, 3) := by decide +kernel
theorem d_RC_answered_28 : decode c_RC_answered 28 = .ok (.istore_n 3, 1) := by decide +kernel
theorem d_RC_answered_29 : decode c_RC_answered 29 = .ok (.aload_n 2, 1) := by decide +kernel
theorem d_RC_answered_30 : decode c_RC_answered 30 = .ok (.iconst 0, 1) := by decide +kernel
theorem d_RC_answered_31 : decode c_RC_answered 31 = .ok (.putfield 262, 3) := by decide +kernel
theorem d_RC_answered_34 : decode c_RC_answered 34 = .ok (.aload_n 2, 1) := by decide +kernel
theorem d_RC_answered_35 : decode c_RC_answered 35 = .ok (.iconst (-1), 1) := by decide +kernel
theorem d_RC_answered_36 : decode c_RC_answered 36 = .ok (.putfield 268, 3) := by decide +kernel
theorem d_RC_answered_39 : decode c_RC_answered 39 = .ok (.iload_n 3, 1) := by decide +kernel
theorem d_RC_answered_40 : decode c_RC_answered 40 = .ok (.iconst (-1), 1) := by decide +kernel
theorem d_RC_answered_41 : decode c_RC_answered 41 = .ok (.if_icmp .eq 8, 3) := by decide +kernel
theorem d_RC_answered_44 : decode c_RC_answered 44 = .ok (.aload_n 0, 1) := by decide +kernel
theorem d_RC_answered_45 : decode c_RC_answered 45 = .ok (.iload_n 3, 1) := by decide +kernel
theorem d_RC_answered_46 : decode c_RC_answered 46 = .ok (.invokevirtual 271, 3) := by decide +kernel
theorem d_RC_answered_49 : decode c_RC_answered 49 = .ok (.return_, 1) := by decide +kernel
theorem d_RC_knownMayday_0 : decode c_RC_knownMayday 0 = .ok (.iload_n 1, 1) := by decide +kernel
theorem d_RC_knownMayday_1 : decode c_RC_knownMayday 1 = .ok (.ifCond .lt 14, 3) := by decide +kernel
theorem d_RC_knownMayday_4 : decode c_RC_knownMayday 4 = .ok (.iload_n 1, 1) := by decide +kernel
theorem d_RC_knownMayday_5 : decode c_RC_knownMayday 5 = .ok (.aload_n 0, 1) := by decide +kernel
theorem d_RC_knownMayday_6 : decode c_RC_knownMayday 6 = .ok (.getfield 29, 3) := by decide +kernel
theorem d_RC_knownMayday_9 : decode c_RC_knownMayday 9 = .ok (.invokevirtual 39, 3) := by decide +kernel
theorem d_RC_knownMayday_12 : decode c_RC_knownMayday 12 = .ok (.if_icmp .lt 14, 3) := by decide +kernel
theorem d_RC_knownMayday_15 : decode c_RC_knownMayday 15 = .ok (.new 100, 3) := by decide +kernel
theorem d_RC_knownMayday_18 : decode c_RC_knownMayday 18 = .ok (.dup, 1) := by decide +kernel
theorem d_RC_knownMayday_19 : decode c_RC_knownMayday 19 = .ok (.ldc_w 279, 3) := by decide +kernel
theorem d_RC_knownMayday_22 : decode c_RC_knownMayday 22 = .ok (.invokespecial 104, 3) := by decide +kernel
theorem d_RC_knownMayday_25 : decode c_RC_knownMayday 25 = .ok (.athrow, 1) := by decide +kernel
theorem d_RC_knownMayday_26 : decode c_RC_knownMayday 26 = .ok (.aload_n 0, 1) := by decide +kernel
theorem d_RC_knownMayday_27 : decode c_RC_knownMayday 27 = .ok (.getfield 29, 3) := by decide +kernel
theorem d_RC_knownMayday_30 : decode c_RC_knownMayday 30 = .ok (.iload_n 1, 1) := by decide +kernel
theorem d_RC_knownMayday_31 : decode c_RC_knownMayday 31 = .ok (.invokevirtual 89, 3) := by decide +kernel
theorem d_RC_knownMayday_34 : decode c_RC_knownMayday 34 = .ok (.checkcast 252, 3) := by decide +kernel
theorem d_RC_knownMayday_37 : decode c_RC_knownMayday 37 = .ok (.areturn, 1) := by decide +kernel
theorem d_RC_sendToLowestWaiting_0 : decode c_RC_sendToLowestWaiting 0 = .ok (.iconst 0, 1) := by decide +kernel
theorem d_RC_sendToLowestWaiting_1 : decode c_RC_sendToLowestWaiting 1 = .ok (.istore_n 2, 1) := by decide +kernel
theorem d_RC_sendToLowestWaiting_2 : decode c_RC_sendToLowestWaiting 2 = .ok (.iload_n 2, 1) := by decide +kernel
theorem d_RC_sendToLowestWaiting_3 : decode c_RC_sendToLowestWaiting 3 = .ok (.aload_n 0, 1) := by decide +kernel
theorem d_RC_sendToLowestWaiting_4 : decode c_RC_sendToLowestWaiting 4 = .ok (.getfield 29, 3) := by decide +kernel
theorem d_RC_sendToLowestWaiting_7 : decode c_RC_sendToLowestWaiting 7 = .ok (.invokevirtual 39, 3) := by decide +kernel
theorem d_RC_sendToLowestWaiting_10 : decode c_RC_sendToLowestWaiting 10 = .ok (.if_icmp .ge 42, 3) := by decide +kernel
theorem d_RC_sendToLowestWaiting_13 : decode c_RC_sendToLowestWaiting 13 = .ok (.aload_n 0, 1) := by decide +kernel
theorem d_RC_sendToLowestWaiting_14 : decode c_RC_sendToLowestWaiting 14 = .ok (.getfield 29, 3) := by decide +kernel
theorem d_RC_sendToLowestWaiting_17 : decode c_RC_sendToLowestWaiting 17 = .ok (.iload_n 2, 1) := by decide +kernel
theorem d_RC_sendToLowestWaiting_18 : decode c_RC_sendToLowestWaiting 18 = .ok (.invokevirtual 89, 3) := by decide +kernel
theorem d_RC_sendToLowestWaiting_21 : decode c_RC_sendToLowestWaiting 21 = .ok (.checkcast 252, 3) := by decide +kernel
theorem d_RC_sendToLowestWaiting_24 : decode c_RC_sendToLowestWaiting 24 = .ok (.astore_n 3, 1) := by decide +kernel
theorem d_RC_sendToLowestWaiting_25 : decode c_RC_sendToLowestWaiting 25 = .ok (.aload_n 3, 1) := by decide +kernel
theorem d_RC_sendToLowestWaiting_26 : decode c_RC_sendToLowestWaiting 26 = .ok (.getfield 262, 3) := by decide +kernel
theorem d_RC_sendToLowestWaiting_29 : decode c_RC_sendToLowestWaiting 29 = .ok (.ifCond .eq 17, 3) := by decide +kernel
theorem d_RC_sendToLowestWaiting_32 : decode c_RC_sendToLowestWaiting 32 = .ok (.aload_n 3, 1) := by decide +kernel
theorem d_RC_sendToLowestWaiting_33 : decode c_RC_sendToLowestWaiting 33 = .ok (.getfield 268, 3) := by decide +kernel
theorem d_RC_sendToLowestWaiting_36 : decode c_RC_sendToLowestWaiting 36 = .ok (.iconst (-1), 1) := by decide +kernel
theorem d_RC_sendToLowestWaiting_37 : decode c_RC_sendToLowestWaiting 37 = .ok (.if_icmp .ne 9, 3) := by decide +kernel
theorem d_RC_sendToLowestWaiting_40 : decode c_RC_sendToLowestWaiting 40 = .ok (.aload_n 3, 1) := by decide +kernel
theorem d_RC_sendToLowestWaiting_41 : decode c_RC_sendToLowestWaiting 41 = .ok (.iload_n 1, 1) := by decide +kernel
theorem d_RC_sendToLowestWaiting_42 : decode c_RC_sendToLowestWaiting 42 = .ok (.putfield 268, 3) := by decide +kernel
theorem d_RC_sendToLowestWaiting_45 : decode c_RC_sendToLowestWaiting 45 = .ok (.return_, 1) := by decide +kernel
theorem d_RC_sendToLowestWaiting_46 : decode c_RC_sendToLowestWaiting 46 = .ok (.iinc 2 1, 3) := by decide +kernel
theorem d_RC_sendToLowestWaiting_49 : decode c_RC_sendToLowestWaiting 49 = .ok (.goto (-47), 3) := by decide +kernel
theorem d_RC_sendToLowestWaiting_52 : decode c_RC_sendToLowestWaiting 52 = .ok (.return_, 1) := by decide +kernel
theorem d_LW_maydayAt_0 : decode c_LW_maydayAt 0 = .ok (.aload_n 3, 1) := by decide +kernel
theorem d_LW_maydayAt_1 : decode c_LW_maydayAt 1 = .ok (.iconst 0, 1) := by decide +kernel
theorem d_LW_maydayAt_2 : decode c_LW_maydayAt 2 = .ok (.aload_n 0, 1) := by decide +kernel
theorem d_LW_maydayAt_3 : decode c_LW_maydayAt 3 = .ok (.iload_n 1, 1) := by decide +kernel
theorem d_LW_maydayAt_4 : decode c_LW_maydayAt 4 = .ok (.iload_n 2, 1) := by decide +kernel
theorem d_LW_maydayAt_5 : decode c_LW_maydayAt 5 = .ok (.invokevirtual 62, 3) := by decide +kernel
theorem d_LW_maydayAt_8 : decode c_LW_maydayAt 8 = .ok (.i2l, 1) := by decide +kernel
theorem d_LW_maydayAt_9 : decode c_LW_maydayAt 9 = .ok (.lastore, 1) := by decide +kernel
theorem d_LW_maydayAt_10 : decode c_LW_maydayAt 10 = .ok (.goto 7, 3) := by decide +kernel
theorem d_LW_maydayAt_13 : decode c_LW_maydayAt 13 = .ok (.astore 4, 2) := by decide +kernel
theorem d_LW_maydayAt_15 : decode c_LW_maydayAt 15 = .ok (.iconst 1, 1) := by decide +kernel
theorem d_LW_maydayAt_16 : decode c_LW_maydayAt 16 = .ok (.ireturn, 1) := by decide +kernel
theorem d_LW_maydayAt_17 : decode c_LW_maydayAt 17 = .ok (.iconst 0, 1) := by decide +kernel
theorem d_LW_maydayAt_18 : decode c_LW_maydayAt 18 = .ok (.ireturn, 1) := by decide +kernel
theorem d_RC_maydayAt_0 : decode c_RC_maydayAt 0 = .ok (.aload_n 0, 1) := by decide +kernel
theorem d_RC_maydayAt_1 : decode c_RC_maydayAt 1 = .ok (.iload_n 1, 1) := by decide +kernel
theorem d_RC_maydayAt_2 : decode c_RC_maydayAt 2 = .ok (.invokevirtual 258, 3) := by decide +kernel
theorem d_RC_maydayAt_5 : decode c_RC_maydayAt 5 = .ok (.astore_n 3, 1) := by decide +kernel
theorem d_RC_maydayAt_6 : decode c_RC_maydayAt 6 = .ok (.iload_n 2, 1) := by decide +kernel
theorem d_RC_maydayAt_7 : decode c_RC_maydayAt 7 = .ok (.tableswitch 66 0 4 #[33, 46, 51, 56, 61], 33) := by decide +kernel
theorem d_RC_maydayAt_40 : decode c_RC_maydayAt 40 = .ok (.aload_n 3, 1) := by decide +kernel
theorem d_RC_maydayAt_41 : decode c_RC_maydayAt 41 = .ok (.getfield 262, 3) := by decide +kernel
theorem d_RC_maydayAt_44 : decode c_RC_maydayAt 44 = .ok (.ifCond .eq 7, 3) := by decide +kernel
theorem d_RC_maydayAt_47 : decode c_RC_maydayAt 47 = .ok (.iconst 1, 1) := by decide +kernel
theorem d_RC_maydayAt_48 : decode c_RC_maydayAt 48 = .ok (.goto 4, 3) := by decide +kernel
theorem d_RC_maydayAt_51 : decode c_RC_maydayAt 51 = .ok (.iconst 0, 1) := by decide +kernel
theorem d_RC_maydayAt_52 : decode c_RC_maydayAt 52 = .ok (.ireturn, 1) := by decide +kernel
theorem d_RC_maydayAt_53 : decode c_RC_maydayAt 53 = .ok (.aload_n 3, 1) := by decide +kernel
theorem d_RC_maydayAt_54 : decode c_RC_maydayAt 54 = .ok (.getfield 268, 3) := by decide +kernel
theorem d_RC_maydayAt_57 : decode c_RC_maydayAt 57 = .ok (.ireturn, 1) := by decide +kernel
theorem d_RC_maydayAt_58 : decode c_RC_maydayAt 58 = .ok (.aload_n 3, 1) := by decide +kernel
theorem d_RC_maydayAt_59 : decode c_RC_maydayAt 59 = .ok (.getfield 274, 3) := by decide +kernel
theorem d_RC_maydayAt_62 : decode c_RC_maydayAt 62 = .ok (.ireturn, 1) := by decide +kernel
theorem d_RC_maydayAt_63 : decode c_RC_maydayAt 63 = .ok (.aload_n 3, 1) := by decide +kernel
theorem d_RC_maydayAt_64 : decode c_RC_maydayAt 64 = .ok (.getfield 275, 3) := by decide +kernel
theorem d_RC_maydayAt_67 : decode c_RC_maydayAt 67 = .ok (.ireturn, 1) := by decide +kernel
theorem d_RC_maydayAt_68 : decode c_RC_maydayAt 68 = .ok (.aload_n 3, 1) := by decide +kernel
theorem d_RC_maydayAt_69 : decode c_RC_maydayAt 69 = .ok (.getfield 278, 3) := by decide +kernel
theorem d_RC_maydayAt_72 : decode c_RC_maydayAt 72 = .ok (.ireturn, 1) := by decide +kernel
theorem d_RC_maydayAt_73 : decode c_RC_maydayAt 73 = .ok (.new 100, 3) := by decide +kernel
theorem d_RC_maydayAt_76 : decode c_RC_maydayAt 76 = .ok (.dup, 1) := by decide +kernel
theorem d_RC_maydayAt_77 : decode c_RC_maydayAt 77 = .ok (.ldc 203, 2) := by decide +kernel
theorem d_RC_maydayAt_79 : decode c_RC_maydayAt 79 = .ok (.invokespecial 104, 3) := by decide +kernel
theorem d_RC_maydayAt_82 : decode c_RC_maydayAt 82 = .ok (.athrow, 1) := by decide +kernel
theorem d_LW_evacuate_0 : decode c_LW_evacuate 0 = .ok (.aload_n 2, 1) := by decide +kernel
theorem d_LW_evacuate_1 : decode c_LW_evacuate 1 = .ok (.iconst 0, 1) := by decide +kernel
theorem d_LW_evacuate_2 : decode c_LW_evacuate 2 = .ok (.aload_n 0, 1) := by decide +kernel
theorem d_LW_evacuate_3 : decode c_LW_evacuate 3 = .ok (.iload_n 1, 1) := by decide +kernel
theorem d_LW_evacuate_4 : decode c_LW_evacuate 4 = .ok (.invokevirtual 65, 3) := by decide +kernel
theorem d_LW_evacuate_7 : decode c_LW_evacuate 7 = .ok (.i2l, 1) := by decide +kernel
theorem d_LW_evacuate_8 : decode c_LW_evacuate 8 = .ok (.lastore, 1) := by decide +kernel
theorem d_LW_evacuate_9 : decode c_LW_evacuate 9 = .ok (.goto 12, 3) := by decide +kernel
theorem d_LW_evacuate_12 : decode c_LW_evacuate 12 = .ok (.astore_n 3, 1) := by decide +kernel
theorem d_LW_evacuate_13 : decode c_LW_evacuate 13 = .ok (.iconst 1, 1) := by decide +kernel
theorem d_LW_evacuate_14 : decode c_LW_evacuate 14 = .ok (.ireturn, 1) := by decide +kernel
theorem d_LW_evacuate_15 : decode c_LW_evacuate 15 = .ok (.astore_n 3, 1) := by decide +kernel
theorem d_LW_evacuate_16 : decode c_LW_evacuate 16 = .ok (.iconst 2, 1) := by decide +kernel
theorem d_LW_evacuate_17 : decode c_LW_evacuate 17 = .ok (.ireturn, 1) := by decide +kernel
theorem d_LW_evacuate_18 : decode c_LW_evacuate 18 = .ok (.astore_n 3, 1) := by decide +kernel
theorem d_LW_evacuate_19 : decode c_LW_evacuate 19 = .ok (.iconst 3, 1) := by decide +kernel
theorem d_LW_evacuate_20 : decode c_LW_evacuate 20 = .ok (.ireturn, 1) := by decide +kernel
theorem d_LW_evacuate_21 : decode c_LW_evacuate 21 = .ok (.iconst 0, 1) := by decide +kernel
theorem d_LW_evacuate_22 : decode c_LW_evacuate 22 = .ok (.ireturn, 1) := by decide +kernel
theorem d_RC_evacuate_0 : decode c_RC_evacuate 0 = .ok (.iload_n 1, 1) := by decide +kernel
theorem d_RC_evacuate_1 : decode c_RC_evacuate 1 = .ok (.iconst 1, 1) := by decide +kernel
theorem d_RC_evacuate_2 : decode c_RC_evacuate 2 = .ok (.if_icmp .lt 10, 3) := by decide +kernel
theorem d_RC_evacuate_5 : decode c_RC_evacuate 5 = .ok (.iload_n 1, 1) := by decide +kernel
theorem d_RC_evacuate_6 : decode c_RC_evacuate 6 = .ok (.sipush 10000, 3) := by decide +kernel
theorem d_RC_evacuate_9 : decode c_RC_evacuate 9 = .ok (.if_icmp .le 14, 3) := by decide +kernel
theorem d_RC_evacuate_12 : decode c_RC_evacuate 12 = .ok (.new 82, 3) := by decide +kernel
theorem d_RC_evacuate_15 : decode c_RC_evacuate 15 = .ok (.dup, 1) := by decide +kernel
theorem d_RC_evacuate_16 : decode c_RC_evacuate 16 = .ok (.ldc_w 284, 3) := by decide +kernel
theorem d_RC_evacuate_19 : decode c_RC_evacuate 19 = .ok (.invokespecial 86, 3) := by decide +kernel
theorem d_RC_evacuate_22 : decode c_RC_evacuate 22 = .ok (.athrow, 1) := by decide +kernel
theorem d_RC_evacuate_23 : decode c_RC_evacuate 23 = .ok (.aload_n 0, 1) := by decide +kernel
theorem d_RC_evacuate_24 : decode c_RC_evacuate 24 = .ok (.invokevirtual 286, 3) := by decide +kernel
theorem d_RC_evacuate_27 : decode c_RC_evacuate 27 = .ok (.ifCond .eq 14, 3) := by decide +kernel
theorem d_RC_evacuate_30 : decode c_RC_evacuate 30 = .ok (.new 68, 3) := by decide +kernel
theorem d_RC_evacuate_33 : decode c_RC_evacuate 33 = .ok (.dup, 1) := by decide +kernel
theorem d_RC_evacuate_34 : decode c_RC_evacuate 34 = .ok (.ldc_w 289, 3) := by decide +kernel
theorem d_RC_evacuate_37 : decode c_RC_evacuate 37 = .ok (.invokespecial 72, 3) := by decide +kernel
theorem d_RC_evacuate_40 : decode c_RC_evacuate 40 = .ok (.athrow, 1) := by decide +kernel
theorem d_RC_evacuate_41 : decode c_RC_evacuate 41 = .ok (.new 291, 3) := by decide +kernel
theorem d_RC_evacuate_44 : decode c_RC_evacuate 44 = .ok (.dup, 1) := by decide +kernel
theorem d_RC_evacuate_45 : decode c_RC_evacuate 45 = .ok (.aload_n 0, 1) := by decide +kernel
theorem d_RC_evacuate_46 : decode c_RC_evacuate 46 = .ok (.getfield 35, 3) := by decide +kernel
theorem d_RC_evacuate_49 : decode c_RC_evacuate 49 = .ok (.iload_n 1, 1) := by decide +kernel
theorem d_RC_evacuate_50 : decode c_RC_evacuate 50 = .ok (.iadd, 1) := by decide +kernel
theorem d_RC_evacuate_51 : decode c_RC_evacuate 51 = .ok (.invokespecial 293, 3) := by decide +kernel
theorem d_RC_evacuate_54 : decode c_RC_evacuate 54 = .ok (.astore_n 2, 1) := by decide +kernel
theorem d_RC_evacuate_55 : decode c_RC_evacuate 55 = .ok (.aload_n 0, 1) := by decide +kernel
theorem d_RC_evacuate_56 : decode c_RC_evacuate 56 = .ok (.aload_n 2, 1) := by decide +kernel
theorem d_RC_evacuate_57 : decode c_RC_evacuate 57 = .ok (.invokevirtual 295, 3) := by decide +kernel
theorem d_RC_evacuate_60 : decode c_RC_evacuate 60 = .ok (.aload_n 2, 1) := by decide +kernel
theorem d_RC_evacuate_61 : decode c_RC_evacuate 61 = .ok (.getfield 299, 3) := by decide +kernel
theorem d_RC_evacuate_64 : decode c_RC_evacuate 64 = .ok (.ifCond .ne 14, 3) := by decide +kernel
theorem d_RC_evacuate_67 : decode c_RC_evacuate 67 = .ok (.new 68, 3) := by decide +kernel
theorem d_RC_evacuate_70 : decode c_RC_evacuate 70 = .ok (.dup, 1) := by decide +kernel
theorem d_RC_evacuate_71 : decode c_RC_evacuate 71 = .ok (.ldc_w 302, 3) := by decide +kernel
theorem d_RC_evacuate_74 : decode c_RC_evacuate 74 = .ok (.invokespecial 72, 3) := by decide +kernel
theorem d_RC_evacuate_77 : decode c_RC_evacuate 77 = .ok (.athrow, 1) := by decide +kernel
theorem d_RC_evacuate_78 : decode c_RC_evacuate 78 = .ok (.aload_n 0, 1) := by decide +kernel
theorem d_RC_evacuate_79 : decode c_RC_evacuate 79 = .ok (.getfield 32, 3) := by decide +kernel
theorem d_RC_evacuate_82 : decode c_RC_evacuate 82 = .ok (.invokevirtual 39, 3) := by decide +kernel
theorem d_RC_evacuate_85 : decode c_RC_evacuate 85 = .ok (.bipush 20, 2) := by decide +kernel
theorem d_RC_evacuate_87 : decode c_RC_evacuate 87 = .ok (.if_icmp .lt 14, 3) := by decide +kernel
theorem d_RC_evacuate_90 : decode c_RC_evacuate 90 = .ok (.new 43, 3) := by decide +kernel
theorem d_RC_evacuate_93 : decode c_RC_evacuate 93 = .ok (.dup, 1) := by decide +kernel
theorem d_RC_evacuate_94 : decode c_RC_evacuate 94 = .ok (.ldc_w 304, 3) := by decide +kernel
theorem d_RC_evacuate_97 : decode c_RC_evacuate 97 = .ok (.invokespecial 47, 3) := by decide +kernel
theorem d_RC_evacuate_100 : decode c_RC_evacuate 100 = .ok (.athrow, 1) := by decide +kernel
theorem d_RC_evacuate_101 : decode c_RC_evacuate 101 = .ok (.aload_n 0, 1) := by decide +kernel
theorem d_RC_evacuate_102 : decode c_RC_evacuate 102 = .ok (.getfield 32, 3) := by decide +kernel
theorem d_RC_evacuate_105 : decode c_RC_evacuate 105 = .ok (.aload_n 2, 1) := by decide +kernel
theorem d_RC_evacuate_106 : decode c_RC_evacuate 106 = .ok (.invokevirtual 53, 3) := by decide +kernel
theorem d_RC_evacuate_109 : decode c_RC_evacuate 109 = .ok (.pop, 1) := by decide +kernel
theorem d_RC_evacuate_110 : decode c_RC_evacuate 110 = .ok (.aload_n 0, 1) := by decide +kernel
theorem d_RC_evacuate_111 : decode c_RC_evacuate 111 = .ok (.getfield 32, 3) := by decide +kernel
theorem d_RC_evacuate_114 : decode c_RC_evacuate 114 = .ok (.invokevirtual 39, 3) := by decide +kernel
theorem d_RC_evacuate_117 : decode c_RC_evacuate 117 = .ok (.iconst 1, 1) := by decide +kernel
theorem d_RC_evacuate_118 : decode c_RC_evacuate 118 = .ok (.isub, 1) := by decide +kernel
theorem d_RC_evacuate_119 : decode c_RC_evacuate 119 = .ok (.ireturn, 1) := by decide +kernel
end
section
theorem d_RC_isEvacuating_0 : decode c_RC_isEvacuating 0 = .ok (.aload_n 0, 1) := by decide +kernel
theorem d_RC_isEvacuating_1 : decode c_RC_isEvacuating 1 = .ok (.getfield 32, 3) := by decide +kernel
theorem d_RC_isEvacuating_4 : decode c_RC_isEvacuating 4 = .ok (.invokevirtual 327, 3) := by decide +kernel
theorem d_RC_isEvacuating_7 : decode c_RC_isEvacuating 7 = .ok (.ifCond .ne 26, 3) := by decide +kernel
theorem d_RC_isEvacuating_10 : decode c_RC_isEvacuating 10 = .ok (.aload_n 0, 1) := by decide +kernel
theorem d_RC_isEvacuating_11 : decode c_RC_isEvacuating 11 = .ok (.aload_n 0, 1) := by decide +kernel
theorem d_RC_isEvacuating_12 : decode c_RC_isEvacuating 12 = .ok (.getfield 32, 3) := by decide +kernel
theorem d_RC_isEvacuating_15 : decode c_RC_isEvacuating 15 = .ok (.invokevirtual 39, 3) := by decide +kernel
theorem d_RC_isEvacuating_18 : decode c_RC_isEvacuating 18 = .ok (.iconst 1, 1) := by decide +kernel
theorem d_RC_isEvacuating_19 : decode c_RC_isEvacuating 19 = .ok (.isub, 1) := by decide +kernel
theorem d_RC_isEvacuating_20 : decode c_RC_isEvacuating 20 = .ok (.invokevirtual 308, 3) := by decide +kernel
theorem d_RC_isEvacuating_23 : decode c_RC_isEvacuating 23 = .ok (.getfield 299, 3) := by decide +kernel
theorem d_RC_isEvacuating_26 : decode c_RC_isEvacuating 26 = .ok (.ifCond .le 7, 3) := by decide +kernel
theorem d_RC_isEvacuating_29 : decode c_RC_isEvacuating 29 = .ok (.iconst 1, 1) := by decide +kernel
theorem d_RC_isEvacuating_30 : decode c_RC_isEvacuating 30 = .ok (.goto 4, 3) := by decide +kernel
theorem d_RC_isEvacuating_33 : decode c_RC_isEvacuating 33 = .ok (.iconst 0, 1) := by decide +kernel
theorem d_RC_isEvacuating_34 : decode c_RC_isEvacuating 34 = .ok (.ireturn, 1) := by decide +kernel
theorem d_AL_isEmpty_0 : decode c_AL_isEmpty 0 = .ok (.aload_n 0, 1) := by decide +kernel
theorem d_AL_isEmpty_1 : decode c_AL_isEmpty 1 = .ok (.getfield 48, 3) := by decide +kernel
theorem d_AL_isEmpty_4 : decode c_AL_isEmpty 4 = .ok (.ifCond .ne 7, 3) := by decide +kernel
theorem d_AL_isEmpty_7 : decode c_AL_isEmpty 7 = .ok (.iconst 1, 1) := by decide +kernel
theorem d_AL_isEmpty_8 : decode c_AL_isEmpty 8 = .ok (.goto 4, 3) := by decide +kernel
theorem d_AL_isEmpty_11 : decode c_AL_isEmpty 11 = .ok (.iconst 0, 1) := by decide +kernel
theorem d_AL_isEmpty_12 : decode c_AL_isEmpty 12 = .ok (.ireturn, 1) := by decide +kernel
theorem d_RC_knownEvacuation_0 : decode c_RC_knownEvacuation 0 = .ok (.iload_n 1, 1) := by decide +kernel
theorem d_RC_knownEvacuation_1 : decode c_RC_knownEvacuation 1 = .ok (.ifCond .lt 14, 3) := by decide +kernel
theorem d_RC_knownEvacuation_4 : decode c_RC_knownEvacuation 4 = .ok (.iload_n 1, 1) := by decide +kernel
theorem d_RC_knownEvacuation_5 : decode c_RC_knownEvacuation 5 = .ok (.aload_n 0, 1) := by decide +kernel
theorem d_RC_knownEvacuation_6 : decode c_RC_knownEvacuation 6 = .ok (.getfield 32, 3) := by decide +kernel
theorem d_RC_knownEvacuation_9 : decode c_RC_knownEvacuation 9 = .ok (.invokevirtual 39, 3) := by decide +kernel
theorem d_RC_knownEvacuation_12 : decode c_RC_knownEvacuation 12 = .ok (.if_icmp .lt 14, 3) := by decide +kernel
theorem d_RC_knownEvacuation_15 : decode c_RC_knownEvacuation 15 = .ok (.new 100, 3) := by decide +kernel
theorem d_RC_knownEvacuation_18 : decode c_RC_knownEvacuation 18 = .ok (.dup, 1) := by decide +kernel
theorem d_RC_knownEvacuation_19 : decode c_RC_knownEvacuation 19 = .ok (.ldc_w 330, 3) := by decide +kernel
theorem d_RC_knownEvacuation_22 : decode c_RC_knownEvacuation 22 = .ok (.invokespecial 104, 3) := by decide +kernel
theorem d_RC_knownEvacuation_25 : decode c_RC_knownEvacuation 25 = .ok (.athrow, 1) := by decide +kernel
theorem d_RC_knownEvacuation_26 : decode c_RC_knownEvacuation 26 = .ok (.aload_n 0, 1) := by decide +kernel
theorem d_RC_knownEvacuation_27 : decode c_RC_knownEvacuation 27 = .ok (.getfield 32, 3) := by decide +kernel
theorem d_RC_knownEvacuation_30 : decode c_RC_knownEvacuation 30 = .ok (.iload_n 1, 1) := by decide +kernel
theorem d_RC_knownEvacuation_31 : decode c_RC_knownEvacuation 31 = .ok (.invokevirtual 89, 3) := by decide +kernel
theorem d_RC_knownEvacuation_34 : decode c_RC_knownEvacuation 34 = .ok (.checkcast 291, 3) := by decide +kernel
theorem d_RC_knownEvacuation_37 : decode c_RC_knownEvacuation 37 = .ok (.areturn, 1) := by decide +kernel
theorem d_EV_init_0 : decode c_EV_init 0 = .ok (.aload_n 0, 1) := by decide +kernel
theorem d_EV_init_1 : decode c_EV_init 1 = .ok (.invokespecial 3, 3) := by decide +kernel
theorem d_EV_init_4 : decode c_EV_init 4 = .ok (.aload_n 0, 1) := by decide +kernel
theorem d_EV_init_5 : decode c_EV_init 5 = .ok (.iload_n 1, 1) := by decide +kernel
theorem d_EV_init_6 : decode c_EV_init 6 = .ok (.putfield 9, 3) := by decide +kernel
theorem d_EV_init_9 : decode c_EV_init 9 = .ok (.aload_n 0, 1) := by decide +kernel
theorem d_EV_init_10 : decode c_EV_init 10 = .ok (.bipush 10, 2) := by decide +kernel
theorem d_EV_init_12 : decode c_EV_init 12 = .ok (.newarray .boolean, 2) := by decide +kernel
theorem d_EV_init_14 : decode c_EV_init 14 = .ok (.putfield 15, 3) := by decide +kernel
theorem d_EV_init_17 : decode c_EV_init 17 = .ok (.aload_n 0, 1) := by decide +kernel
theorem d_EV_init_18 : decode c_EV_init 18 = .ok (.bipush 10, 2) := by decide +kernel
theorem d_EV_init_20 : decode c_EV_init 20 = .ok (.newarray .boolean, 2) := by decide +kernel
theorem d_EV_init_22 : decode c_EV_init 22 = .ok (.putfield 19, 3) := by decide +kernel
theorem d_EV_init_25 : decode c_EV_init 25 = .ok (.return_, 1) := by decide +kernel
theorem d_RC_demandConfirmations_0 : decode c_RC_demandConfirmations 0 = .ok (.iconst 0, 1) := by decide +kernel
theorem d_RC_demandConfirmations_1 : decode c_RC_demandConfirmations 1 = .ok (.istore_n 2, 1) := by decide +kernel
theorem d_RC_demandConfirmations_2 : decode c_RC_demandConfirmations 2 = .ok (.iload_n 2, 1) := by decide +kernel
theorem d_RC_demandConfirmations_3 : decode c_RC_demandConfirmations 3 = .ok (.bipush 10, 2) := by decide +kernel
theorem d_RC_demandConfirmations_5 : decode c_RC_demandConfirmations 5 = .ok (.if_icmp .ge 43, 3) := by decide +kernel
theorem d_RC_demandConfirmations_8 : decode c_RC_demandConfirmations 8 = .ok (.aload_n 0, 1) := by decide +kernel
theorem d_RC_demandConfirmations_9 : decode c_RC_demandConfirmations 9 = .ok (.getfield 9, 3) := by decide +kernel
theorem d_RC_demandConfirmations_12 : decode c_RC_demandConfirmations 12 = .ok (.iload_n 2, 1) := by decide +kernel
theorem d_RC_demandConfirmations_13 : decode c_RC_demandConfirmations 13 = .ok (.iaload, 1) := by decide +kernel
theorem d_RC_demandConfirmations_14 : decode c_RC_demandConfirmations 14 = .ok (.ifCond .gt 11, 3) := by decide +kernel
theorem d_RC_demandConfirmations_17 : decode c_RC_demandConfirmations 17 = .ok (.aload_n 0, 1) := by decide +kernel
theorem d_RC_demandConfirmations_18 : decode c_RC_demandConfirmations 18 = .ok (.iload_n 2, 1) := by decide +kernel
theorem d_RC_demandConfirmations_19 : decode c_RC_demandConfirmations 19 = .ok (.invokevirtual 332, 3) := by decide +kernel
theorem d_RC_demandConfirmations_22 : decode c_RC_demandConfirmations 22 = .ok (.ifCond .eq 20, 3) := by decide +kernel
theorem d_RC_demandConfirmations_25 : decode c_RC_demandConfirmations 25 = .ok (.aload_n 1, 1) := by decide +kernel
theorem d_RC_demandConfirmations_26 : decode c_RC_demandConfirmations 26 = .ok (.getfield 312, 3) := by decide +kernel
theorem d_RC_demandConfirmations_29 : decode c_RC_demandConfirmations 29 = .ok (.iload_n 2, 1) := by decide +kernel
theorem d_RC_demandConfirmations_30 : decode c_RC_demandConfirmations 30 = .ok (.iconst 1, 1) := by decide +kernel
theorem d_RC_demandConfirmations_31 : decode c_RC_demandConfirmations 31 = .ok (.bastore, 1) := by decide +kernel
theorem d_RC_demandConfirmations_32 : decode c_RC_demandConfirmations 32 = .ok (.aload_n 1, 1) := by decide +kernel
theorem d_RC_demandConfirmations_33 : decode c_RC_demandConfirmations 33 = .ok (.dup, 1) := by decide +kernel
theorem d_RC_demandConfirmations_34 : decode c_RC_demandConfirmations 34 = .ok (.getfield 299, 3) := by decide +kernel
theorem d_RC_demandConfirmations_37 : decode c_RC_demandConfirmations 37 = .ok (.iconst 1, 1) := by decide +kernel
theorem d_RC_demandConfirmations_38 : decode c_RC_demandConfirmations 38 = .ok (.iadd, 1) := by decide +kernel
theorem d_RC_demandConfirmations_39 : decode c_RC_demandConfirmations 39 = .ok (.putfield 299, 3) := by decide +kernel
theorem d_RC_demandConfirmations_42 : decode c_RC_demandConfirmations 42 = .ok (.iinc 2 1, 3) := by decide +kernel
theorem d_RC_demandConfirmations_45 : decode c_RC_demandConfirmations 45 = .ok (.goto (-43), 3) := by decide +kernel
theorem d_RC_demandConfirmations_48 : decode c_RC_demandConfirmations 48 = .ok (.return_, 1) := by decide +kernel
theorem d_RC_isSomebodyIn_0 : decode c_RC_isSomebodyIn 0 = .ok (.iconst 0, 1) := by decide +kernel
theorem d_RC_isSomebodyIn_1 : decode c_RC_isSomebodyIn 1 = .ok (.istore_n 2, 1) := by decide +kernel
theorem d_RC_isSomebodyIn_2 : decode c_RC_isSomebodyIn 2 = .ok (.iload_n 2, 1) := by decide +kernel
theorem d_RC_isSomebodyIn_3 : decode c_RC_isSomebodyIn 3 = .ok (.aload_n 0, 1) := by decide +kernel
theorem d_RC_isSomebodyIn_4 : decode c_RC_isSomebodyIn 4 = .ok (.getfield 16, 3) := by decide +kernel
theorem d_RC_isSomebodyIn_7 : decode c_RC_isSomebodyIn 7 = .ok (.invokevirtual 39, 3) := by decide +kernel
theorem d_RC_isSomebodyIn_10 : decode c_RC_isSomebodyIn 10 = .ok (.if_icmp .ge 29, 3) := by decide +kernel
theorem d_RC_isSomebodyIn_13 : decode c_RC_isSomebodyIn 13 = .ok (.aload_n 0, 1) := by decide +kernel
theorem d_RC_isSomebodyIn_14 : decode c_RC_isSomebodyIn 14 = .ok (.getfield 16, 3) := by decide +kernel
theorem d_RC_isSomebodyIn_17 : decode c_RC_isSomebodyIn 17 = .ok (.iload_n 2, 1) := by decide +kernel
theorem d_RC_isSomebodyIn_18 : decode c_RC_isSomebodyIn 18 = .ok (.invokevirtual 89, 3) := by decide +kernel
theorem d_RC_isSomebodyIn_21 : decode c_RC_isSomebodyIn 21 = .ok (.checkcast 50, 3) := by decide +kernel
theorem d_RC_isSomebodyIn_24 : decode c_RC_isSomebodyIn 24 = .ok (.getfield 65, 3) := by decide +kernel
theorem d_RC_isSomebodyIn_27 : decode c_RC_isSomebodyIn 27 = .ok (.iload_n 1, 1) := by decide +kernel
theorem d_RC_isSomebodyIn_28 : decode c_RC_isSomebodyIn 28 = .ok (.if_icmp .ne 5, 3) := by decide +kernel
theorem d_RC_isSomebodyIn_31 : decode c_RC_isSomebodyIn 31 = .ok (.iconst 1, 1) := by decide +kernel
theorem d_RC_isSomebodyIn_32 : decode c_RC_isSomebodyIn 32 = .ok (.ireturn, 1) := by decide +kernel
theorem d_RC_isSomebodyIn_33 : decode c_RC_isSomebodyIn 33 = .ok (.iinc 2 1, 3) := by decide +kernel
theorem d_RC_isSomebodyIn_36 : decode c_RC_isSomebodyIn 36 = .ok (.goto (-34), 3) := by decide +kernel
theorem d_RC_isSomebodyIn_39 : decode c_RC_isSomebodyIn 39 = .ok (.iconst 0, 1) := by decide +kernel
theorem d_RC_isSomebodyIn_40 : decode c_RC_isSomebodyIn 40 = .ok (.ireturn, 1) := by decide +kernel
theorem d_LW_confirm_0 : decode c_LW_confirm 0 = .ok (.aload_n 2, 1) := by decide +kernel
theorem d_LW_confirm_1 : decode c_LW_confirm 1 = .ok (.iconst 0, 1) := by decide +kernel
theorem d_LW_confirm_2 : decode c_LW_confirm 2 = .ok (.aload_n 0, 1) := by decide +kernel
theorem d_LW_confirm_3 : decode c_LW_confirm 3 = .ok (.iload_n 1, 1) := by decide +kernel
theorem d_LW_confirm_4 : decode c_LW_confirm 4 = .ok (.invokevirtual 68, 3) := by decide +kernel
theorem d_LW_confirm_7 : decode c_LW_confirm 7 = .ok (.i2l, 1) := by decide +kernel
theorem d_LW_confirm_8 : decode c_LW_confirm 8 = .ok (.lastore, 1) := by decide +kernel
theorem d_LW_confirm_9 : decode c_LW_confirm 9 = .ok (.goto 9, 3) := by decide +kernel
theorem d_LW_confirm_12 : decode c_LW_confirm 12 = .ok (.astore_n 3, 1) := by decide +kernel
theorem d_LW_confirm_13 : decode c_LW_confirm 13 = .ok (.iconst 1, 1) := by decide +kernel
theorem d_LW_confirm_14 : decode c_LW_confirm 14 = .ok (.ireturn, 1) := by decide +kernel
theorem d_LW_confirm_15 : decode c_LW_confirm 15 = .ok (.astore_n 3, 1) := by decide +kernel
theorem d_LW_confirm_16 : decode c_LW_confirm 16 = .ok (.iconst 2, 1) := by decide +kernel
theorem d_LW_confirm_17 : decode c_LW_confirm 17 = .ok (.ireturn, 1) := by decide +kernel
theorem d_LW_confirm_18 : decode c_LW_confirm 18 = .ok (.iconst 0, 1) := by decide +kernel
theorem d_LW_confirm_19 : decode c_LW_confirm 19 = .ok (.ireturn, 1) := by decide +kernel
theorem d_RC_confirm_0 : decode c_RC_confirm 0 = .ok (.iload_n 1, 1) := by decide +kernel
theorem d_RC_confirm_1 : decode c_RC_confirm 1 = .ok (.invokestatic 61, 3) := by decide +kernel
theorem d_RC_confirm_4 : decode c_RC_confirm 4 = .ok (.aload_n 0, 1) := by decide +kernel
theorem d_RC_confirm_5 : decode c_RC_confirm 5 = .ok (.invokevirtual 286, 3) := by decide +kernel
theorem d_RC_confirm_8 : decode c_RC_confirm 8 = .ok (.ifCond .ne 14, 3) := by decide +kernel
theorem d_RC_confirm_11 : decode c_RC_confirm 11 = .ok (.new 68, 3) := by decide +kernel
theorem d_RC_confirm_14 : decode c_RC_confirm 14 = .ok (.dup, 1) := by decide +kernel
theorem d_RC_confirm_15 : decode c_RC_confirm 15 = .ok (.ldc_w 306, 3) := by decide +kernel
theorem d_RC_confirm_18 : decode c_RC_confirm 18 = .ok (.invokespecial 72, 3) := by decide +kernel
theorem d_RC_confirm_21 : decode c_RC_confirm 21 = .ok (.athrow, 1) := by decide +kernel
theorem d_RC_confirm_22 : decode c_RC_confirm 22 = .ok (.aload_n 0, 1) := by decide +kernel
theorem d_RC_confirm_23 : decode c_RC_confirm 23 = .ok (.aload_n 0, 1) := by decide +kernel
theorem d_RC_confirm_24 : decode c_RC_confirm 24 = .ok (.getfield 32, 3) := by decide +kernel
theorem d_RC_confirm_27 : decode c_RC_confirm 27 = .ok (.invokevirtual 39, 3) := by decide +kernel
theorem d_RC_confirm_30 : decode c_RC_confirm 30 = .ok (.iconst 1, 1) := by decide +kernel
theorem d_RC_confirm_31 : decode c_RC_confirm 31 = .ok (.isub, 1) := by decide +kernel
theorem d_RC_confirm_32 : decode c_RC_confirm 32 = .ok (.invokevirtual 308, 3) := by decide +kernel
theorem d_RC_confirm_35 : decode c_RC_confirm 35 = .ok (.astore_n 2, 1) := by decide +kernel
theorem d_RC_confirm_36 : decode c_RC_confirm 36 = .ok (.aload_n 2, 1) := by decide +kernel
theorem d_RC_confirm_37 : decode c_RC_confirm 37 = .ok (.getfield 312, 3) := by decide +kernel
theorem d_RC_confirm_40 : decode c_RC_confirm 40 = .ok (.iload_n 1, 1) := by decide +kernel
theorem d_RC_confirm_41 : decode c_RC_confirm 41 = .ok (.baload, 1) := by decide +kernel
theorem d_RC_confirm_42 : decode c_RC_confirm 42 = .ok (.ifCond .ne 14, 3) := by decide +kernel
theorem d_RC_confirm_45 : decode c_RC_confirm 45 = .ok (.new 68, 3) := by decide +kernel
theorem d_RC_confirm_48 : decode c_RC_confirm 48 = .ok (.dup, 1) := by decide +kernel
theorem d_RC_confirm_49 : decode c_RC_confirm 49 = .ok (.ldc_w 316, 3) := by decide +kernel
theorem d_RC_confirm_52 : decode c_RC_confirm 52 = .ok (.invokespecial 72, 3) := by decide +kernel
theorem d_RC_confirm_55 : decode c_RC_confirm 55 = .ok (.athrow, 1) := by decide +kernel
theorem d_RC_confirm_56 : decode c_RC_confirm 56 = .ok (.aload_n 2, 1) := by decide +kernel
theorem d_RC_confirm_57 : decode c_RC_confirm 57 = .ok (.getfield 312, 3) := by decide +kernel
theorem d_RC_confirm_60 : decode c_RC_confirm 60 = .ok (.iload_n 1, 1) := by decide +kernel
theorem d_RC_confirm_61 : decode c_RC_confirm 61 = .ok (.iconst 0, 1) := by decide +kernel
theorem d_RC_confirm_62 : decode c_RC_confirm 62 = .ok (.bastore, 1) := by decide +kernel
theorem d_RC_confirm_63 : decode c_RC_confirm 63 = .ok (.aload_n 2, 1) := by decide +kernel
theorem d_RC_confirm_64 : decode c_RC_confirm 64 = .ok (.dup, 1) := by decide +kernel
theorem d_RC_confirm_65 : decode c_RC_confirm 65 = .ok (.getfield 299, 3) := by decide +kernel
theorem d_RC_confirm_68 : decode c_RC_confirm 68 = .ok (.iconst 1, 1) := by decide +kernel
theorem d_RC_confirm_69 : decode c_RC_confirm 69 = .ok (.isub, 1) := by decide +kernel
theorem d_RC_confirm_70 : decode c_RC_confirm 70 = .ok (.putfield 299, 3) := by decide +kernel
theorem d_RC_confirm_73 : decode c_RC_confirm 73 = .ok (.aload_n 2, 1) := by decide +kernel
theorem d_RC_confirm_74 : decode c_RC_confirm 74 = .ok (.getfield 299, 3) := by decide +kernel
theorem d_RC_confirm_77 : decode c_RC_confirm 77 = .ok (.ireturn, 1) := by decide +kernel
theorem d_LW_late_0 : decode c_LW_late 0 = .ok (.aload_n 3, 1) := by decide +kernel
theorem d_LW_late_1 : decode c_LW_late 1 = .ok (.iconst 0, 1) := by decide +kernel
theorem d_LW_late_2 : decode c_LW_late 2 = .ok (.aload_n 0, 1) := by decide +kernel
theorem d_LW_late_3 : decode c_LW_late 3 = .ok (.iload_n 1, 1) := by decide +kernel
theorem d_LW_late_4 : decode c_LW_late 4 = .ok (.iload_n 2, 1) := by decide +kernel
theorem d_LW_late_5 : decode c_LW_late 5 = .ok (.invokevirtual 71, 3) := by decide +kernel
theorem d_LW_late_8 : decode c_LW_late 8 = .ok (.i2l, 1) := by decide +kernel
theorem d_LW_late_9 : decode c_LW_late 9 = .ok (.lastore, 1) := by decide +kernel
theorem d_LW_late_10 : decode c_LW_late 10 = .ok (.goto 11, 3) := by decide +kernel
theorem d_LW_late_13 : decode c_LW_late 13 = .ok (.astore 4, 2) := by decide +kernel
theorem d_LW_late_15 : decode c_LW_late 15 = .ok (.iconst 1, 1) := by decide +kernel
theorem d_LW_late_16 : decode c_LW_late 16 = .ok (.ireturn, 1) := by decide +kernel
theorem d_LW_late_17 : decode c_LW_late 17 = .ok (.astore 4, 2) := by decide +kernel
theorem d_LW_late_19 : decode c_LW_late 19 = .ok (.iconst 2, 1) := by decide +kernel
theorem d_LW_late_20 : decode c_LW_late 20 = .ok (.ireturn, 1) := by decide +kernel
theorem d_LW_late_21 : decode c_LW_late 21 = .ok (.iconst 0, 1) := by decide +kernel
theorem d_LW_late_22 : decode c_LW_late 22 = .ok (.ireturn, 1) := by decide +kernel
theorem d_RC_late_0 : decode c_RC_late 0 = .ok (.aload_n 0, 1) := by decide +kernel
theorem d_RC_late_1 : decode c_RC_late 1 = .ok (.iload_n 1, 1) := by decide +kernel
theorem d_RC_late_2 : decode c_RC_late 2 = .ok (.invokevirtual 308, 3) := by decide +kernel
theorem d_RC_late_5 : decode c_RC_late 5 = .ok (.astore_n 3, 1) := by decide +kernel
theorem d_RC_late_6 : decode c_RC_late 6 = .ok (.iload_n 2, 1) := by decide +kernel
theorem d_RC_late_7 : decode c_RC_late 7 = .ok (.ifCond .ge 13, 3) := by decide +kernel
theorem d_RC_late_10 : decode c_RC_late 10 = .ok (.new 82, 3) := by decide +kernel
theorem d_RC_late_13 : decode c_RC_late 13 = .ok (.dup, 1) := by decide +kernel
theorem d_RC_late_14 : decode c_RC_late 14 = .ok (.ldc 205, 2) := by decide +kernel
theorem d_RC_late_16 : decode c_RC_late 16 = .ok (.invokespecial 86, 3) := by decide +kernel
theorem d_RC_late_19 : decode c_RC_late 19 = .ok (.athrow, 1) := by decide +kernel
theorem d_RC_late_20 : decode c_RC_late 20 = .ok (.iconst 0, 1) := by decide +kernel
theorem d_RC_late_21 : decode c_RC_late 21 = .ok (.istore 4, 2) := by decide +kernel
theorem d_RC_late_23 : decode c_RC_late 23 = .ok (.iconst 0, 1) := by decide +kernel
theorem d_RC_late_24 : decode c_RC_late 24 = .ok (.istore 5, 2) := by decide +kernel
theorem d_RC_late_26 : decode c_RC_late 26 = .ok (.iload 5, 2) := by decide +kernel
theorem d_RC_late_28 : decode c_RC_late 28 = .ok (.bipush 10, 2) := by decide +kernel
theorem d_RC_late_30 : decode c_RC_late 30 = .ok (.if_icmp .ge 31, 3) := by decide +kernel
theorem d_RC_late_33 : decode c_RC_late 33 = .ok (.aload_n 3, 1) := by decide +kernel
theorem d_RC_late_34 : decode c_RC_late 34 = .ok (.getfield 318, 3) := by decide +kernel
theorem d_RC_late_37 : decode c_RC_late 37 = .ok (.iload 5, 2) := by decide +kernel
theorem d_RC_late_39 : decode c_RC_late 39 = .ok (.baload, 1) := by decide +kernel
theorem d_RC_late_40 : decode c_RC_late 40 = .ok (.ifCond .eq 15, 3) := by decide +kernel
theorem d_RC_late_43 : decode c_RC_late 43 = .ok (.iload 4, 2) := by decide +kernel
theorem d_RC_late_45 : decode c_RC_late 45 = .ok (.iload_n 2, 1) := by decide +kernel
theorem d_RC_late_46 : decode c_RC_late 46 = .ok (.if_icmp .ne 6, 3) := by decide +kernel
theorem d_RC_late_49 : decode c_RC_late 49 = .ok (.iload 5, 2) := by decide +kernel
theorem d_RC_late_51 : decode c_RC_late 51 = .ok (.ireturn, 1) := by decide +kernel
theorem d_RC_late_52 : decode c_RC_late 52 = .ok (.iinc 4 1, 3) := by decide +kernel
theorem d_RC_late_55 : decode c_RC_late 55 = .ok (.iinc 5 1, 3) := by decide +kernel
theorem d_RC_late_58 : decode c_RC_late 58 = .ok (.goto (-32), 3) := by decide +kernel
theorem d_RC_late_61 : decode c_RC_late 61 = .ok (.iconst (-1), 1) := by decide +kernel
theorem d_RC_late_62 : decode c_RC_late 62 = .ok (.ireturn, 1) := by decide +kernel
theorem d_LW_tick_0 : decode c_LW_tick 0 = .ok (.aload_n 2, 1) := by decide +kernel
theorem d_LW_tick_1 : decode c_LW_tick 1 = .ok (.iconst 0, 1) := by decide +kernel
theorem d_LW_tick_2 : decode c_LW_tick 2 = .ok (.aload_n 0, 1) := by decide +kernel
theorem d_LW_tick_3 : decode c_LW_tick 3 = .ok (.iload_n 1, 1) := by decide +kernel
theorem d_LW_tick_4 : decode c_LW_tick 4 = .ok (.invokevirtual 74, 3) := by decide +kernel
theorem d_LW_tick_7 : decode c_LW_tick 7 = .ok (.i2l, 1) := by decide +kernel
theorem d_LW_tick_8 : decode c_LW_tick 8 = .ok (.lastore, 1) := by decide +kernel
theorem d_LW_tick_9 : decode c_LW_tick 9 = .ok (.goto 6, 3) := by decide +kernel
theorem d_LW_tick_12 : decode c_LW_tick 12 = .ok (.astore_n 3, 1) := by decide +kernel
theorem d_LW_tick_13 : decode c_LW_tick 13 = .ok (.iconst 1, 1) := by decide +kernel
theorem d_LW_tick_14 : decode c_LW_tick 14 = .ok (.ireturn, 1) := by decide +kernel
theorem d_LW_tick_15 : decode c_LW_tick 15 = .ok (.iconst 0, 1) := by decide +kernel
theorem d_LW_tick_16 : decode c_LW_tick 16 = .ok (.ireturn, 1) := by decide +kernel
theorem d_RC_tick_0 : decode c_RC_tick 0 = .ok (.iload_n 1, 1) := by decide +kernel
theorem d_RC_tick_1 : decode c_RC_tick 1 = .ok (.iconst 1, 1) := by decide +kernel
theorem d_RC_tick_2 : decode c_RC_tick 2 = .ok (.if_icmp .lt 22, 3) := by decide +kernel
theorem d_RC_tick_5 : decode c_RC_tick 5 = .ok (.iload_n 1, 1) := by decide +kernel
theorem d_RC_tick_6 : decode c_RC_tick 6 = .ok (.sipush 5000, 3) := by decide +kernel
theorem d_RC_tick_9 : decode c_RC_tick 9 = .ok (.if_icmp .gt 15, 3) := by decide +kernel
theorem d_RC_tick_12 : decode c_RC_tick 12 = .ok (.iload_n 1, 1) := by decide +kernel
theorem d_RC_tick_13 : decode c_RC_tick 13 = .ok (.ldc_w 321, 3) := by decide +kernel
theorem d_RC_tick_16 : decode c_RC_tick 16 = .ok (.aload_n 0, 1) := by decide +kernel
theorem d_RC_tick_17 : decode c_RC_tick 17 = .ok (.getfield 35, 3) := by decide +kernel
theorem d_RC_tick_20 : decode c_RC_tick 20 = .ok (.isub, 1) := by decide +kernel
theorem d_RC_tick_21 : decode c_RC_tick 21 = .ok (.if_icmp .le 14, 3) := by decide +kernel
theorem d_RC_tick_24 : decode c_RC_tick 24 = .ok (.new 82, 3) := by decide +kernel
theorem d_RC_tick_27 : decode c_RC_tick 27 = .ok (.dup, 1) := by decide +kernel
theorem d_RC_tick_28 : decode c_RC_tick 28 = .ok (.ldc_w 322, 3) := by decide +kernel
theorem d_RC_tick_31 : decode c_RC_tick 31 = .ok (.invokespecial 86, 3) := by decide +kernel
theorem d_RC_tick_34 : decode c_RC_tick 34 = .ok (.athrow, 1) := by decide +kernel
theorem d_RC_tick_35 : decode c_RC_tick 35 = .ok (.aload_n 0, 1) := by decide +kernel
theorem d_RC_tick_36 : decode c_RC_tick 36 = .ok (.dup, 1) := by decide +kernel
theorem d_RC_tick_37 : decode c_RC_tick 37 = .ok (.getfield 35, 3) := by decide +kernel
theorem d_RC_tick_40 : decode c_RC_tick 40 = .ok (.iload_n 1, 1) := by decide +kernel
theorem d_RC_tick_41 : decode c_RC_tick 41 = .ok (.iadd, 1) := by decide +kernel
theorem d_RC_tick_42 : decode c_RC_tick 42 = .ok (.putfield 35, 3) := by decide +kernel
theorem d_RC_tick_45 : decode c_RC_tick 45 = .ok (.aload_n 0, 1) := by decide +kernel
theorem d_RC_tick_46 : decode c_RC_tick 46 = .ok (.invokevirtual 286, 3) := by decide +kernel
theorem d_RC_tick_49 : decode c_RC_tick 49 = .ok (.ifCond .ne 5, 3) := by decide +kernel
theorem d_RC_tick_52 : decode c_RC_tick 52 = .ok (.iconst 0, 1) := by decide +kernel
theorem d_RC_tick_53 : decode c_RC_tick 53 = .ok (.ireturn, 1) := by decide +kernel
theorem d_RC_tick_54 : decode c_RC_tick 54 = .ok (.aload_n 0, 1) := by decide +kernel
theorem d_RC_tick_55 : decode c_RC_tick 55 = .ok (.aload_n 0, 1) := by decide +kernel
theorem d_RC_tick_56 : decode c_RC_tick 56 = .ok (.getfield 32, 3) := by decide +kernel
theorem d_RC_tick_59 : decode c_RC_tick 59 = .ok (.invokevirtual 39, 3) := by decide +kernel
theorem d_RC_tick_62 : decode c_RC_tick 62 = .ok (.iconst 1, 1) := by decide +kernel
theorem d_RC_tick_63 : decode c_RC_tick 63 = .ok (.isub, 1) := by decide +kernel
theorem d_RC_tick_64 : decode c_RC_tick 64 = .ok (.invokevirtual 308, 3) := by decide +kernel
theorem d_RC_tick_67 : decode c_RC_tick 67 = .ok (.aload_n 0, 1) := by decide +kernel
theorem d_RC_tick_68 : decode c_RC_tick 68 = .ok (.getfield 35, 3) := by decide +kernel
theorem d_RC_tick_71 : decode c_RC_tick 71 = .ok (.invokevirtual 324, 3) := by decide +kernel
theorem d_RC_tick_74 : decode c_RC_tick 74 = .ok (.ireturn, 1) := by decide +kernel
theorem d_EV_tellLate_0 : decode c_EV_tellLate 0 = .ok (.aload_n 0, 1) := by decide +kernel
theorem d_EV_tellLate_1 : decode c_EV_tellLate 1 = .ok (.getfield 22, 3) := by decide +kernel
theorem d_EV_tellLate_4 : decode c_EV_tellLate 4 = .ok (.ifCond .ne 11, 3) := by decide +kernel
theorem d_EV_tellLate_7 : decode c_EV_tellLate 7 = .ok (.iload_n 1, 1) := by decide +kernel
theorem d_EV_tellLate_8 : decode c_EV_tellLate 8 = .ok (.aload_n 0, 1) := by decide +kernel
theorem d_EV_tellLate_9 : decode c_EV_tellLate 9 = .ok (.getfield 9, 3) := by decide +kernel
theorem d_EV_tellLate_12 : decode c_EV_tellLate 12 = .ok (.if_icmp .gt 5, 3) := by decide +kernel
theorem d_EV_tellLate_15 : decode c_EV_tellLate 15 = .ok (.iconst 0, 1) := by decide +kernel
theorem d_EV_tellLate_16 : decode c_EV_tellLate 16 = .ok (.ireturn, 1) := by decide +kernel
theorem d_EV_tellLate_17 : decode c_EV_tellLate 17 = .ok (.aload_n 0, 1) := by decide +kernel
theorem d_EV_tellLate_18 : decode c_EV_tellLate 18 = .ok (.iconst 1, 1) := by decide +kernel
theorem d_EV_tellLate_19 : decode c_EV_tellLate 19 = .ok (.putfield 22, 3) := by decide +kernel
theorem d_EV_tellLate_22 : decode c_EV_tellLate 22 = .ok (.iconst 0, 1) := by decide +kernel
theorem d_EV_tellLate_23 : decode c_EV_tellLate 23 = .ok (.istore_n 2, 1) := by decide +kernel
theorem d_EV_tellLate_24 : decode c_EV_tellLate 24 = .ok (.iload_n 2, 1) := by decide +kernel
theorem d_EV_tellLate_25 : decode c_EV_tellLate 25 = .ok (.bipush 10, 2) := by decide +kernel
theorem d_EV_tellLate_27 : decode c_EV_tellLate 27 = .ok (.if_icmp .ge 21, 3) := by decide +kernel
theorem d_EV_tellLate_30 : decode c_EV_tellLate 30 = .ok (.aload_n 0, 1) := by decide +kernel
theorem d_EV_tellLate_31 : decode c_EV_tellLate 31 = .ok (.getfield 19, 3) := by decide +kernel
theorem d_EV_tellLate_34 : decode c_EV_tellLate 34 = .ok (.iload_n 2, 1) := by decide +kernel
theorem d_EV_tellLate_35 : decode c_EV_tellLate 35 = .ok (.aload_n 0, 1) := by decide +kernel
theorem d_EV_tellLate_36 : decode c_EV_tellLate 36 = .ok (.getfield 15, 3) := by decide +kernel
theorem d_EV_tellLate_39 : decode c_EV_tellLate 39 = .ok (.iload_n 2, 1) := by decide +kernel
theorem d_EV_tellLate_40 : decode c_EV_tellLate 40 = .ok (.baload, 1) := by decide +kernel
theorem d_EV_tellLate_41 : decode c_EV_tellLate 41 = .ok (.bastore, 1) := by decide +kernel
theorem d_EV_tellLate_42 : decode c_EV_tellLate 42 = .ok (.iinc 2 1, 3) := by decide +kernel
theorem d_EV_tellLate_45 : decode c_EV_tellLate 45 = .ok (.goto (-21), 3) := by decide +kernel
theorem d_EV_tellLate_48 : decode c_EV_tellLate 48 = .ok (.aload_n 0, 1) := by decide +kernel
theorem d_EV_tellLate_49 : decode c_EV_tellLate 49 = .ok (.getfield 26, 3) := by decide +kernel
theorem d_EV_tellLate_52 : decode c_EV_tellLate 52 = .ok (.ireturn, 1) := by decide +kernel
theorem d_LW_was_0 : decode c_LW_was 0 = .ok (.aload_n 3, 1) := by decide +kernel
theorem d_LW_was_1 : decode c_LW_was 1 = .ok (.iconst 0, 1) := by decide +kernel
theorem d_LW_was_2 : decode c_LW_was 2 = .ok (.aload_n 0, 1) := by decide +kernel
theorem d_LW_was_3 : decode c_LW_was 3 = .ok (.iload_n 1, 1) := by decide +kernel
theorem d_LW_was_4 : decode c_LW_was 4 = .ok (.iload_n 2, 1) := by decide +kernel
theorem d_LW_was_5 : decode c_LW_was 5 = .ok (.invokevirtual 77, 3) := by decide +kernel
theorem d_LW_was_8 : decode c_LW_was 8 = .ok (.i2l, 1) := by decide +kernel
theorem d_LW_was_9 : decode c_LW_was 9 = .ok (.lastore, 1) := by decide +kernel
theorem d_LW_was_10 : decode c_LW_was 10 = .ok (.goto 11, 3) := by decide +kernel
theorem d_LW_was_13 : decode c_LW_was 13 = .ok (.astore 4, 2) := by decide +kernel
theorem d_LW_was_15 : decode c_LW_was 15 = .ok (.iconst 1, 1) := by decide +kernel
theorem d_LW_was_16 : decode c_LW_was 16 = .ok (.ireturn, 1) := by decide +kernel
theorem d_LW_was_17 : decode c_LW_was 17 = .ok (.astore 4, 2) := by decide +kernel
theorem d_LW_was_19 : decode c_LW_was 19 = .ok (.iconst 2, 1) := by decide +kernel
theorem d_LW_was_20 : decode c_LW_was 20 = .ok (.ireturn, 1) := by decide +kernel
theorem d_LW_was_21 : decode c_LW_was 21 = .ok (.iconst 0, 1) := by decide +kernel
theorem d_LW_was_22 : decode c_LW_was 22 = .ok (.ireturn, 1) := by decide +kernel
theorem d_RC_was_0 : decode c_RC_was 0 = .ok (.aload_n 0, 1) := by decide +kernel
theorem d_RC_was_1 : decode c_RC_was 1 = .ok (.iload_n 1, 1) := by decide +kernel
theorem d_RC_was_2 : decode c_RC_was 2 = .ok (.invokevirtual 57, 3) := by decide +kernel
theorem d_RC_was_5 : decode c_RC_was 5 = .ok (.pop, 1) := by decide +kernel
theorem d_RC_was_6 : decode c_RC_was 6 = .ok (.iload_n 2, 1) := by decide +kernel
theorem d_RC_was_7 : decode c_RC_was 7 = .ok (.ifCond .lt 11, 3) := by decide +kernel
theorem d_RC_was_10 : decode c_RC_was 10 = .ok (.iload_n 2, 1) := by decide +kernel
theorem d_RC_was_11 : decode c_RC_was 11 = .ok (.aload_n 0, 1) := by decide +kernel
theorem d_RC_was_12 : decode c_RC_was 12 = .ok (.getfield 35, 3) := by decide +kernel
theorem d_RC_was_15 : decode c_RC_was 15 = .ok (.if_icmp .le 13, 3) := by decide +kernel
theorem d_RC_was_18 : decode c_RC_was 18 = .ok (.new 82, 3) := by decide +kernel
theorem d_RC_was_21 : decode c_RC_was 21 = .ok (.dup, 1) := by decide +kernel
theorem d_RC_was_22 : decode c_RC_was 22 = .ok (.ldc 87, 2) := by decide +kernel
theorem d_RC_was_24 : decode c_RC_was 24 = .ok (.invokespecial 86, 3) := by decide +kernel
theorem d_RC_was_27 : decode c_RC_was 27 = .ok (.athrow, 1) := by decide +kernel
theorem d_RC_was_28 : decode c_RC_was 28 = .ok (.aload_n 0, 1) := by decide +kernel
theorem d_RC_was_29 : decode c_RC_was 29 = .ok (.getfield 20, 3) := by decide +kernel
theorem d_RC_was_32 : decode c_RC_was 32 = .ok (.invokevirtual 39, 3) := by decide +kernel
theorem d_RC_was_35 : decode c_RC_was 35 = .ok (.iconst 1, 1) := by decide +kernel
theorem d_RC_was_36 : decode c_RC_was 36 = .ok (.isub, 1) := by decide +kernel
theorem d_RC_was_37 : decode c_RC_was 37 = .ok (.istore_n 3, 1) := by decide +kernel
theorem d_RC_was_38 : decode c_RC_was 38 = .ok (.iload_n 3, 1) := by decide +kernel
theorem d_RC_was_39 : decode c_RC_was 39 = .ok (.ifCond .lt 46, 3) := by decide +kernel
theorem d_RC_was_42 : decode c_RC_was 42 = .ok (.aload_n 0, 1) := by decide +kernel
theorem d_RC_was_43 : decode c_RC_was 43 = .ok (.getfield 20, 3) := by decide +kernel
theorem d_RC_was_46 : decode c_RC_was 46 = .ok (.iload_n 3, 1) := by decide +kernel
theorem d_RC_was_47 : decode c_RC_was 47 = .ok (.invokevirtual 89, 3) := by decide +kernel
theorem d_RC_was_50 : decode c_RC_was 50 = .ok (.checkcast 93, 3) := by decide +kernel
theorem d_RC_was_53 : decode c_RC_was 53 = .ok (.astore 4, 2) := by decide +kernel
theorem d_RC_was_55 : decode c_RC_was 55 = .ok (.aload 4, 2) := by decide +kernel
theorem d_RC_was_57 : decode c_RC_was 57 = .ok (.getfield 95, 3) := by decide +kernel
theorem d_RC_was_60 : decode c_RC_was 60 = .ok (.iload_n 1, 1) := by decide +kernel
theorem d_RC_was_61 : decode c_RC_was 61 = .ok (.if_icmp .ne 18, 3) := by decide +kernel
theorem d_RC_was_64 : decode c_RC_was 64 = .ok (.aload 4, 2) := by decide +kernel
theorem d_RC_was_66 : decode c_RC_was 66 = .ok (.getfield 98, 3) := by decide +kernel
theorem d_RC_was_69 : decode c_RC_was 69 = .ok (.iload_n 2, 1) := by decide +kernel
theorem d_RC_was_70 : decode c_RC_was 70 = .ok (.if_icmp .gt 9, 3) := by decide +kernel
theorem d_RC_was_73 : decode c_RC_was 73 = .ok (.aload 4, 2) := by decide +kernel
theorem d_RC_was_75 : decode c_RC_was 75 = .ok (.getfield 99, 3) := by decide +kernel
theorem d_RC_was_78 : decode c_RC_was 78 = .ok (.ireturn, 1) := by decide +kernel
theorem d_RC_was_79 : decode c_RC_was 79 = .ok (.iinc 3 (-1), 3) := by decide +kernel
theorem d_RC_was_82 : decode c_RC_was 82 = .ok (.goto (-44), 3) := by decide +kernel
theorem d_RC_was_85 : decode c_RC_was 85 = .ok (.iconst (-1), 1) := by decide +kernel
theorem d_RC_was_86 : decode c_RC_was 86 = .ok (.ireturn, 1) := by decide +kernel
theorem d_LW_count_0 : decode c_LW_count 0 = .ok (.aload_n 2, 1) := by decide +kernel
theorem d_LW_count_1 : decode c_LW_count 1 = .ok (.iconst 0, 1) := by decide +kernel
theorem d_LW_count_2 : decode c_LW_count 2 = .ok (.aload_n 0, 1) := by decide +kernel
theorem d_LW_count_3 : decode c_LW_count 3 = .ok (.iload_n 1, 1) := by decide +kernel
theorem d_LW_count_4 : decode c_LW_count 4 = .ok (.invokevirtual 80, 3) := by decide +kernel
theorem d_LW_count_7 : decode c_LW_count 7 = .ok (.i2l, 1) := by decide +kernel
theorem d_LW_count_8 : decode c_LW_count 8 = .ok (.lastore, 1) := by decide +kernel
theorem d_LW_count_9 : decode c_LW_count 9 = .ok (.goto 6, 3) := by decide +kernel
theorem d_LW_count_12 : decode c_LW_count 12 = .ok (.astore_n 3, 1) := by decide +kernel
theorem d_LW_count_13 : decode c_LW_count 13 = .ok (.iconst 1, 1) := by decide +kernel
theorem d_LW_count_14 : decode c_LW_count 14 = .ok (.ireturn, 1) := by decide +kernel
theorem d_LW_count_15 : decode c_LW_count 15 = .ok (.iconst 0, 1) := by decide +kernel
theorem d_LW_count_16 : decode c_LW_count 16 = .ok (.ireturn, 1) := by decide +kernel
theorem d_RC_count_0 : decode c_RC_count 0 = .ok (.iload_n 1, 1) := by decide +kernel
theorem d_RC_count_1 : decode c_RC_count 1 = .ok (.tableswitch 75 0 5 #[39, 44, 49, 54, 59, 67], 39) := by decide +kernel
theorem d_RC_count_40 : decode c_RC_count 40 = .ok (.aload_n 0, 1) := by decide +kernel
theorem d_RC_count_41 : decode c_RC_count 41 = .ok (.getfield 35, 3) := by decide +kernel
theorem d_RC_count_44 : decode c_RC_count 44 = .ok (.ireturn, 1) := by decide +kernel
theorem d_RC_count_45 : decode c_RC_count 45 = .ok (.aload_n 0, 1) := by decide +kernel
theorem d_RC_count_46 : decode c_RC_count 46 = .ok (.invokevirtual 335, 3) := by decide +kernel
theorem d_RC_count_49 : decode c_RC_count 49 = .ok (.ireturn, 1) := by decide +kernel
theorem d_RC_count_50 : decode c_RC_count 50 = .ok (.aload_n 0, 1) := by decide +kernel
theorem d_RC_count_51 : decode c_RC_count 51 = .ok (.invokevirtual 338, 3) := by decide +kernel
theorem d_RC_count_54 : decode c_RC_count 54 = .ok (.ireturn, 1) := by decide +kernel
theorem d_RC_count_55 : decode c_RC_count 55 = .ok (.aload_n 0, 1) := by decide +kernel
theorem d_RC_count_56 : decode c_RC_count 56 = .ok (.invokevirtual 116, 3) := by decide +kernel
theorem d_RC_count_59 : decode c_RC_count 59 = .ok (.ireturn, 1) := by decide +kernel
theorem d_RC_count_60 : decode c_RC_count 60 = .ok (.aload_n 0, 1) := by decide +kernel
theorem d_RC_count_61 : decode c_RC_count 61 = .ok (.getfield 26, 3) := by decide +kernel
theorem d_RC_count_64 : decode c_RC_count 64 = .ok (.invokevirtual 39, 3) := by decide +kernel
theorem d_RC_count_67 : decode c_RC_count 67 = .ok (.ireturn, 1) := by decide +kernel
theorem d_RC_count_68 : decode c_RC_count 68 = .ok (.aload_n 0, 1) := by decide +kernel
theorem d_RC_count_69 : decode c_RC_count 69 = .ok (.getfield 20, 3) := by decide +kernel
theorem d_RC_count_72 : decode c_RC_count 72 = .ok (.invokevirtual 39, 3) := by decide +kernel
theorem d_RC_count_75 : decode c_RC_count 75 = .ok (.ireturn, 1) := by decide +kernel
theorem d_RC_count_76 : decode c_RC_count 76 = .ok (.new 100, 3) := by decide +kernel
theorem d_RC_count_79 : decode c_RC_count 79 = .ok (.dup, 1) := by decide +kernel
theorem d_RC_count_80 : decode c_RC_count 80 = .ok (.ldc 203, 2) := by decide +kernel
theorem d_RC_count_82 : decode c_RC_count 82 = .ok (.invokespecial 104, 3) := by decide +kernel
theorem d_RC_count_85 : decode c_RC_count 85 = .ok (.athrow, 1) := by decide +kernel
theorem d_RC_personsInside_0 : decode c_RC_personsInside 0 = .ok (.iconst 0, 1) := by decide +kernel
theorem d_RC_personsInside_1 : decode c_RC_personsInside 1 = .ok (.istore_n 1, 1) := by decide +kernel
theorem d_RC_personsInside_2 : decode c_RC_personsInside 2 = .ok (.iconst 0, 1) := by decide +kernel
theorem d_RC_personsInside_3 : decode c_RC_personsInside 3 = .ok (.istore_n 2, 1) := by decide +kernel
theorem d_RC_personsInside_4 : decode c_RC_personsInside 4 = .ok (.iload_n 2, 1) := by decide +kernel
theorem d_RC_personsInside_5 : decode c_RC_personsInside 5 = .ok (.aload_n 0, 1) := by decide +kernel
theorem d_RC_personsInside_6 : decode c_RC_personsInside 6 = .ok (.getfield 16, 3) := by decide +kernel
theorem d_RC_personsInside_9 : decode c_RC_personsInside 9 = .ok (.invokevirtual 39, 3) := by decide +kernel
theorem d_RC_personsInside_12 : decode c_RC_personsInside 12 = .ok (.if_icmp .ge 30, 3) := by decide +kernel
theorem d_RC_personsInside_15 : decode c_RC_personsInside 15 = .ok (.aload_n 0, 1) := by decide +kernel
theorem d_RC_personsInside_16 : decode c_RC_personsInside 16 = .ok (.getfield 16, 3) := by decide +kernel
theorem d_RC_personsInside_19 : decode c_RC_personsInside 19 = .ok (.iload_n 2, 1) := by decide +kernel
theorem d_RC_personsInside_20 : decode c_RC_personsInside 20 = .ok (.invokevirtual 89, 3) := by decide +kernel
theorem d_RC_personsInside_23 : decode c_RC_personsInside 23 = .ok (.checkcast 50, 3) := by decide +kernel
theorem d_RC_personsInside_26 : decode c_RC_personsInside 26 = .ok (.getfield 65, 3) := by decide +kernel
theorem d_RC_personsInside_29 : decode c_RC_personsInside 29 = .ok (.iconst (-1), 1) := by decide +kernel
theorem d_RC_personsInside_30 : decode c_RC_personsInside 30 = .ok (.if_icmp .eq 6, 3) := by decide +kernel
theorem d_RC_personsInside_33 : decode c_RC_personsInside 33 = .ok (.iinc 1 1, 3) := by decide +kernel
theorem d_RC_personsInside_36 : decode c_RC_personsInside 36 = .ok (.iinc 2 1, 3) := by decide +kernel
theorem d_RC_personsInside_39 : decode c_RC_personsInside 39 = .ok (.goto (-35), 3) := by decide +kernel
theorem d_RC_personsInside_42 : decode c_RC_personsInside 42 = .ok (.iload_n 1, 1) := by decide +kernel
theorem d_RC_personsInside_43 : decode c_RC_personsInside 43 = .ok (.ireturn, 1) := by decide +kernel
theorem d_RC_rollsOn_0 : decode c_RC_rollsOn 0 = .ok (.iconst 0, 1) := by decide +kernel
theorem d_RC_rollsOn_1 : decode c_RC_rollsOn 1 = .ok (.istore_n 1, 1) := by decide +kernel
theorem d_RC_rollsOn_2 : decode c_RC_rollsOn 2 = .ok (.iconst 0, 1) := by decide +kernel
theorem d_RC_rollsOn_3 : decode c_RC_rollsOn 3 = .ok (.istore_n 2, 1) := by decide +kernel
theorem d_RC_rollsOn_4 : decode c_RC_rollsOn 4 = .ok (.iload_n 2, 1) := by decide +kernel
theorem d_RC_rollsOn_5 : decode c_RC_rollsOn 5 = .ok (.aload_n 0, 1) := by decide +kernel
theorem d_RC_rollsOn_6 : decode c_RC_rollsOn 6 = .ok (.getfield 23, 3) := by decide +kernel
theorem d_RC_rollsOn_9 : decode c_RC_rollsOn 9 = .ok (.invokevirtual 39, 3) := by decide +kernel
theorem d_RC_rollsOn_12 : decode c_RC_rollsOn 12 = .ok (.if_icmp .ge 29, 3) := by decide +kernel
theorem d_RC_rollsOn_15 : decode c_RC_rollsOn 15 = .ok (.aload_n 0, 1) := by decide +kernel
theorem d_RC_rollsOn_16 : decode c_RC_rollsOn 16 = .ok (.getfield 23, 3) := by decide +kernel
theorem d_RC_rollsOn_19 : decode c_RC_rollsOn 19 = .ok (.iload_n 2, 1) := by decide +kernel
theorem d_RC_rollsOn_20 : decode c_RC_rollsOn 20 = .ok (.invokevirtual 89, 3) := by decide +kernel
theorem d_RC_rollsOn_23 : decode c_RC_rollsOn 23 = .ok (.checkcast 123, 3) := by decide +kernel
theorem d_RC_rollsOn_26 : decode c_RC_rollsOn 26 = .ok (.invokevirtual 187, 3) := by decide +kernel
theorem d_RC_rollsOn_29 : decode c_RC_rollsOn 29 = .ok (.ifCond .ne 6, 3) := by decide +kernel
theorem d_RC_rollsOn_32 : decode c_RC_rollsOn 32 = .ok (.iinc 1 1, 3) := by decide +kernel
theorem d_RC_rollsOn_35 : decode c_RC_rollsOn 35 = .ok (.iinc 2 1, 3) := by decide +kernel
theorem d_RC_rollsOn_38 : decode c_RC_rollsOn 38 = .ok (.goto (-34), 3) := by decide +kernel
theorem d_RC_rollsOn_41 : decode c_RC_rollsOn 41 = .ok (.iload_n 1, 1) := by decide +kernel
theorem d_RC_rollsOn_42 : decode c_RC_rollsOn 42 = .ok (.ireturn, 1) := by decide +kernel
theorem d_MM_init_0 : decode c_MM_init 0 = .ok (.aload_n 0, 1) := by decide +kernel
theorem d_MM_init_1 : decode c_MM_init 1 = .ok (.invokespecial 1, 3) := by decide +kernel
theorem d_MM_init_4 : decode c_MM_init 4 = .ok (.aload_n 0, 1) := by decide +kernel
theorem d_MM_init_5 : decode c_MM_init 5 = .ok (.bipush 10, 2) := by decide +kernel
theorem d_MM_init_7 : decode c_MM_init 7 = .ok (.newarray .int, 2) := by decide +kernel
theorem d_MM_init_9 : decode c_MM_init 9 = .ok (.putfield 7, 3) := by decide +kernel
theorem d_MM_init_12 : decode c_MM_init 12 = .ok (.aload_n 0, 1) := by decide +kernel
theorem d_MM_init_13 : decode c_MM_init 13 = .ok (.sipush 300, 3) := by decide +kernel
theorem d_MM_init_16 : decode c_MM_init 16 = .ok (.newarray .int, 2) := by decide +kernel
theorem d_MM_init_18 : decode c_MM_init 18 = .ok (.putfield 13, 3) := by decide +kernel
theorem d_MM_init_21 : decode c_MM_init 21 = .ok (.aload_n 0, 1) := by decide +kernel
theorem d_MM_init_22 : decode c_MM_init 22 = .ok (.sipush 300, 3) := by decide +kernel
theorem d_MM_init_25 : decode c_MM_init 25 = .ok (.newarray .int, 2) := by decide +kernel
theorem d_MM_init_27 : decode c_MM_init 27 = .ok (.putfield 16, 3) := by decide +kernel
theorem d_MM_init_30 : decode c_MM_init 30 = .ok (.aload_n 0, 1) := by decide +kernel
theorem d_MM_init_31 : decode c_MM_init 31 = .ok (.sipush 300, 3) := by decide +kernel
theorem d_MM_init_34 : decode c_MM_init 34 = .ok (.newarray .int, 2) := by decide +kernel
theorem d_MM_init_36 : decode c_MM_init 36 = .ok (.putfield 19, 3) := by decide +kernel
theorem d_MM_init_39 : decode c_MM_init 39 = .ok (.aload_n 0, 1) := by decide +kernel
theorem d_MM_init_40 : decode c_MM_init 40 = .ok (.bipush 40, 2) := by decide +kernel
theorem d_MM_init_42 : decode c_MM_init 42 = .ok (.newarray .int, 2) := by decide +kernel
theorem d_MM_init_44 : decode c_MM_init 44 = .ok (.putfield 22, 3) := by decide +kernel
theorem d_MM_init_47 : decode c_MM_init 47 = .ok (.aload_n 0, 1) := by decide +kernel
theorem d_MM_init_48 : decode c_MM_init 48 = .ok (.bipush 40, 2) := by decide +kernel
theorem d_MM_init_50 : decode c_MM_init 50 = .ok (.newarray .int, 2) := by decide +kernel
theorem d_MM_init_52 : decode c_MM_init 52 = .ok (.putfield 25, 3) := by decide +kernel
theorem d_MM_init_55 : decode c_MM_init 55 = .ok (.aload_n 0, 1) := by decide +kernel
theorem d_MM_init_56 : decode c_MM_init 56 = .ok (.bipush 40, 2) := by decide +kernel
theorem d_MM_init_58 : decode c_MM_init 58 = .ok (.newarray .int, 2) := by decide +kernel
theorem d_MM_init_60 : decode c_MM_init 60 = .ok (.putfield 28, 3) := by decide +kernel
theorem d_MM_init_63 : decode c_MM_init 63 = .ok (.aload_n 0, 1) := by decide +kernel
theorem d_MM_init_64 : decode c_MM_init 64 = .ok (.bipush 40, 2) := by decide +kernel
theorem d_MM_init_66 : decode c_MM_init 66 = .ok (.newarray .int, 2) := by decide +kernel
theorem d_MM_init_68 : decode c_MM_init 68 = .ok (.putfield 31, 3) := by decide +kernel
theorem d_MM_init_71 : decode c_MM_init 71 = .ok (.aload_n 0, 1) := by decide +kernel
theorem d_MM_init_72 : decode c_MM_init 72 = .ok (.bipush 40, 2) := by decide +kernel
theorem d_MM_init_74 : decode c_MM_init 74 = .ok (.newarray .int, 2) := by decide +kernel
theorem d_MM_init_76 : decode c_MM_init 76 = .ok (.putfield 34, 3) := by decide +kernel
theorem d_MM_init_79 : decode c_MM_init 79 = .ok (.aload_n 0, 1) := by decide +kernel
theorem d_MM_init_80 : decode c_MM_init 80 = .ok (.bipush 40, 2) := by decide +kernel
theorem d_MM_init_82 : decode c_MM_init 82 = .ok (.newarray .int, 2) := by decide +kernel
theorem d_MM_init_84 : decode c_MM_init 84 = .ok (.putfield 37, 3) := by decide +kernel
theorem d_MM_init_87 : decode c_MM_init 87 = .ok (.aload_n 0, 1) := by decide +kernel
theorem d_MM_init_88 : decode c_MM_init 88 = .ok (.sipush 2400, 3) := by decide +kernel
theorem d_MM_init_91 : decode c_MM_init 91 = .ok (.newarray .boolean, 2) := by decide +kernel
theorem d_MM_init_93 : decode c_MM_init 93 = .ok (.putfield 40, 3) := by decide +kernel
theorem d_MM_init_96 : decode c_MM_init 96 = .ok (.aload_n 0, 1) := by decide +kernel
theorem d_MM_init_97 : decode c_MM_init 97 = .ok (.sipush 2400, 3) := by decide +kernel
theorem d_MM_init_100 : decode c_MM_init 100 = .ok (.newarray .int, 2) := by decide +kernel
theorem d_MM_init_102 : decode c_MM_init 102 = .ok (.putfield 44, 3) := by decide +kernel
theorem d_MM_init_105 : decode c_MM_init 105 = .ok (.aload_n 0, 1) := by decide +kernel
theorem d_MM_init_106 : decode c_MM_init 106 = .ok (.sipush 2400, 3) := by decide +kernel
theorem d_MM_init_109 : decode c_MM_init 109 = .ok (.newarray .boolean, 2) := by decide +kernel
theorem d_MM_init_111 : decode c_MM_init 111 = .ok (.putfield 47, 3) := by decide +kernel
theorem d_MM_init_114 : decode c_MM_init 114 = .ok (.aload_n 0, 1) := by decide +kernel
theorem d_MM_init_115 : decode c_MM_init 115 = .ok (.sipush 400, 3) := by decide +kernel
theorem d_MM_init_118 : decode c_MM_init 118 = .ok (.newarray .int, 2) := by decide +kernel
theorem d_MM_init_120 : decode c_MM_init 120 = .ok (.putfield 50, 3) := by decide +kernel
theorem d_MM_init_123 : decode c_MM_init 123 = .ok (.aload_n 0, 1) := by decide +kernel
theorem d_MM_init_124 : decode c_MM_init 124 = .ok (.bipush 30, 2) := by decide +kernel
theorem d_MM_init_126 : decode c_MM_init 126 = .ok (.newarray .boolean, 2) := by decide +kernel
theorem d_MM_init_128 : decode c_MM_init 128 = .ok (.putfield 53, 3) := by decide +kernel
theorem d_MM_init_131 : decode c_MM_init 131 = .ok (.aload_n 0, 1) := by decide +kernel
theorem d_MM_init_132 : decode c_MM_init 132 = .ok (.bipush 30, 2) := by decide +kernel
theorem d_MM_init_134 : decode c_MM_init 134 = .ok (.newarray .int, 2) := by decide +kernel
theorem d_MM_init_136 : decode c_MM_init 136 = .ok (.putfield 56, 3) := by decide +kernel
theorem d_MM_init_139 : decode c_MM_init 139 = .ok (.aload_n 0, 1) := by decide +kernel
theorem d_MM_init_140 : decode c_MM_init 140 = .ok (.bipush 30, 2) := by decide +kernel
theorem d_MM_init_142 : decode c_MM_init 142 = .ok (.newarray .int, 2) := by decide +kernel
theorem d_MM_init_144 : decode c_MM_init 144 = .ok (.putfield 59, 3) := by decide +kernel
theorem d_MM_init_147 : decode c_MM_init 147 = .ok (.aload_n 0, 1) := by decide +kernel
theorem d_MM_init_148 : decode c_MM_init 148 = .ok (.bipush 30, 2) := by decide +kernel
theorem d_MM_init_150 : decode c_MM_init 150 = .ok (.newarray .int, 2) := by decide +kernel
theorem d_MM_init_152 : decode c_MM_init 152 = .ok (.putfield 62, 3) := by decide +kernel
theorem d_MM_init_155 : decode c_MM_init 155 = .ok (.aload_n 0, 1) := by decide +kernel
theorem d_MM_init_156 : decode c_MM_init 156 = .ok (.bipush 30, 2) := by decide +kernel
theorem d_MM_init_158 : decode c_MM_init 158 = .ok (.newarray .int, 2) := by decide +kernel
theorem d_MM_init_160 : decode c_MM_init 160 = .ok (.putfield 65, 3) := by decide +kernel
theorem d_MM_init_163 : decode c_MM_init 163 = .ok (.aload_n 0, 1) := by decide +kernel
theorem d_MM_init_164 : decode c_MM_init 164 = .ok (.bipush 20, 2) := by decide +kernel
theorem d_MM_init_166 : decode c_MM_init 166 = .ok (.newarray .int, 2) := by decide +kernel
theorem d_MM_init_168 : decode c_MM_init 168 = .ok (.putfield 68, 3) := by decide +kernel
theorem d_MM_init_171 : decode c_MM_init 171 = .ok (.aload_n 0, 1) := by decide +kernel
theorem d_MM_init_172 : decode c_MM_init 172 = .ok (.sipush 200, 3) := by decide +kernel
theorem d_MM_init_175 : decode c_MM_init 175 = .ok (.newarray .int, 2) := by decide +kernel
theorem d_MM_init_177 : decode c_MM_init 177 = .ok (.putfield 71, 3) := by decide +kernel
theorem d_MM_init_180 : decode c_MM_init 180 = .ok (.return_, 1) := by decide +kernel
end
section
theorem d_MM_thrown_0 : decode c_MM_thrown 0 = .ok (.aload_n 0, 1) := by decide +kernel
theorem d_MM_thrown_1 : decode c_MM_thrown 1 = .ok (.getfield 74, 3) := by decide +kernel
theorem d_MM_thrown_4 : decode c_MM_thrown 4 = .ok (.ireturn, 1) := by decide +kernel
theorem d_MM_person_0 : decode c_MM_person 0 = .ok (.aload_n 0, 1) := by decide +kernel
theorem d_MM_person_1 : decode c_MM_person 1 = .ok (.bipush 8, 2) := by decide +kernel
theorem d_MM_person_3 : decode c_MM_person 3 = .ok (.iconst 1, 1) := by decide +kernel
theorem d_MM_person_4 : decode c_MM_person 4 = .ok (.iconst 1, 1) := by decide +kernel
theorem d_MM_person_5 : decode c_MM_person 5 = .ok (.iconst 1, 1) := by decide +kernel
theorem d_MM_person_6 : decode c_MM_person 6 = .ok (.aload_n 0, 1) := by decide +kernel
theorem d_MM_person_7 : decode c_MM_person 7 = .ok (.getfield 78, 3) := by decide +kernel
theorem d_MM_person_10 : decode c_MM_person 10 = .ok (.bipush 60, 2) := by decide +kernel
theorem d_MM_person_12 : decode c_MM_person 12 = .ok (.if_icmp .ge 7, 3) := by decide +kernel
theorem d_MM_person_15 : decode c_MM_person 15 = .ok (.iconst 1, 1) := by decide +kernel
theorem d_MM_person_16 : decode c_MM_person 16 = .ok (.goto 4, 3) := by decide +kernel
theorem d_MM_person_19 : decode c_MM_person 19 = .ok (.iconst 0, 1) := by decide +kernel
theorem d_MM_person_20 : decode c_MM_person 20 = .ok (.invokevirtual 98, 3) := by decide +kernel
theorem d_MM_person_23 : decode c_MM_person 23 = .ok (.ifCond .ne 5, 3) := by decide +kernel
theorem d_MM_person_26 : decode c_MM_person 26 = .ok (.iconst 0, 1) := by decide +kernel
theorem d_MM_person_27 : decode c_MM_person 27 = .ok (.ireturn, 1) := by decide +kernel
theorem d_MM_person_28 : decode c_MM_person 28 = .ok (.aload_n 0, 1) := by decide +kernel
theorem d_MM_person_29 : decode c_MM_person 29 = .ok (.dup, 1) := by decide +kernel
theorem d_MM_person_30 : decode c_MM_person 30 = .ok (.getfield 78, 3) := by decide +kernel
theorem d_MM_person_33 : decode c_MM_person 33 = .ok (.iconst 1, 1) := by decide +kernel
theorem d_MM_person_34 : decode c_MM_person 34 = .ok (.iadd, 1) := by decide +kernel
theorem d_MM_person_35 : decode c_MM_person 35 = .ok (.putfield 78, 3) := by decide +kernel
theorem d_MM_person_38 : decode c_MM_person 38 = .ok (.aload_n 0, 1) := by decide +kernel
theorem d_MM_person_39 : decode c_MM_person 39 = .ok (.getfield 78, 3) := by decide +kernel
theorem d_MM_person_42 : decode c_MM_person 42 = .ok (.iconst 1, 1) := by decide +kernel
theorem d_MM_person_43 : decode c_MM_person 43 = .ok (.isub, 1) := by decide +kernel
theorem d_MM_person_44 : decode c_MM_person 44 = .ok (.ireturn, 1) := by decide +kernel
theorem d_MM_goes_0 : decode c_MM_goes 0 = .ok (.iload_n 2, 1) := by decide +kernel
theorem d_MM_goes_1 : decode c_MM_goes 1 = .ok (.ifCond .ne 7, 3) := by decide +kernel
theorem d_MM_goes_4 : decode c_MM_goes 4 = .ok (.iconst 1, 1) := by decide +kernel
theorem d_MM_goes_5 : decode c_MM_goes 5 = .ok (.goto 31, 3) := by decide +kernel
theorem d_MM_goes_8 : decode c_MM_goes 8 = .ok (.iload_n 3, 1) := by decide +kernel
theorem d_MM_goes_9 : decode c_MM_goes 9 = .ok (.ifCond .ne 7, 3) := by decide +kernel
theorem d_MM_goes_12 : decode c_MM_goes 12 = .ok (.iconst 2, 1) := by decide +kernel
theorem d_MM_goes_13 : decode c_MM_goes 13 = .ok (.goto 23, 3) := by decide +kernel
theorem d_MM_goes_16 : decode c_MM_goes 16 = .ok (.iload 4, 2) := by decide +kernel
theorem d_MM_goes_18 : decode c_MM_goes 18 = .ok (.ifCond .ne 7, 3) := by decide +kernel
theorem d_MM_goes_21 : decode c_MM_goes 21 = .ok (.iconst 4, 1) := by decide +kernel
theorem d_MM_goes_22 : decode c_MM_goes 22 = .ok (.goto 14, 3) := by decide +kernel
theorem d_MM_goes_25 : decode c_MM_goes 25 = .ok (.iload 5, 2) := by decide +kernel
theorem d_MM_goes_27 : decode c_MM_goes 27 = .ok (.ifCond .ne 8, 3) := by decide +kernel
theorem d_MM_goes_30 : decode c_MM_goes 30 = .ok (.bipush 8, 2) := by decide +kernel
theorem d_MM_goes_32 : decode c_MM_goes 32 = .ok (.goto 4, 3) := by decide +kernel
theorem d_MM_goes_35 : decode c_MM_goes 35 = .ok (.iconst 0, 1) := by decide +kernel
theorem d_MM_goes_36 : decode c_MM_goes 36 = .ok (.istore 6, 2) := by decide +kernel
theorem d_MM_goes_38 : decode c_MM_goes 38 = .ok (.aload_n 0, 1) := by decide +kernel
theorem d_MM_goes_39 : decode c_MM_goes 39 = .ok (.iconst 0, 1) := by decide +kernel
theorem d_MM_goes_40 : decode c_MM_goes 40 = .ok (.putfield 74, 3) := by decide +kernel
theorem d_MM_goes_43 : decode c_MM_goes 43 = .ok (.iconst 1, 1) := by decide +kernel
theorem d_MM_goes_44 : decode c_MM_goes 44 = .ok (.istore 7, 2) := by decide +kernel
theorem d_MM_goes_46 : decode c_MM_goes 46 = .ok (.iload 7, 2) := by decide +kernel
theorem d_MM_goes_48 : decode c_MM_goes 48 = .ok (.iload 6, 2) := by decide +kernel
theorem d_MM_goes_50 : decode c_MM_goes 50 = .ok (.if_icmp .gt 29, 3) := by decide +kernel
theorem d_MM_goes_53 : decode c_MM_goes 53 = .ok (.iload_n 1, 1) := by decide +kernel
theorem d_MM_goes_54 : decode c_MM_goes 54 = .ok (.iload 7, 2) := by decide +kernel
theorem d_MM_goes_56 : decode c_MM_goes 56 = .ok (.iand, 1) := by decide +kernel
theorem d_MM_goes_57 : decode c_MM_goes 57 = .ok (.ifCond .le 13, 3) := by decide +kernel
theorem d_MM_goes_60 : decode c_MM_goes 60 = .ok (.aload_n 0, 1) := by decide +kernel
theorem d_MM_goes_61 : decode c_MM_goes 61 = .ok (.dup, 1) := by decide +kernel
theorem d_MM_goes_62 : decode c_MM_goes 62 = .ok (.getfield 74, 3) := by decide +kernel
theorem d_MM_goes_65 : decode c_MM_goes 65 = .ok (.iconst 1, 1) := by decide +kernel
theorem d_MM_goes_66 : decode c_MM_goes 66 = .ok (.iadd, 1) := by decide +kernel
theorem d_MM_goes_67 : decode c_MM_goes 67 = .ok (.putfield 74, 3) := by decide +kernel
theorem d_MM_goes_70 : decode c_MM_goes 70 = .ok (.iconst 2, 1) := by decide +kernel
theorem d_MM_goes_71 : decode c_MM_goes 71 = .ok (.iload 7, 2) := by decide +kernel
theorem d_MM_goes_73 : decode c_MM_goes 73 = .ok (.imul, 1) := by decide +kernel
theorem d_MM_goes_74 : decode c_MM_goes 74 = .ok (.istore 7, 2) := by decide +kernel
theorem d_MM_goes_76 : decode c_MM_goes 76 = .ok (.goto (-30), 3) := by decide +kernel
theorem d_MM_goes_79 : decode c_MM_goes 79 = .ok (.iload 6, 2) := by decide +kernel
theorem d_MM_goes_81 : decode c_MM_goes 81 = .ok (.ifCond .ne 7, 3) := by decide +kernel
theorem d_MM_goes_84 : decode c_MM_goes 84 = .ok (.iconst 1, 1) := by decide +kernel
theorem d_MM_goes_85 : decode c_MM_goes 85 = .ok (.goto 4, 3) := by decide +kernel
theorem d_MM_goes_88 : decode c_MM_goes 88 = .ok (.iconst 0, 1) := by decide +kernel
theorem d_MM_goes_89 : decode c_MM_goes 89 = .ok (.ireturn, 1) := by decide +kernel
theorem d_MM_enter_0 : decode c_MM_enter 0 = .ok (.aload_n 0, 1) := by decide +kernel
theorem d_MM_enter_1 : decode c_MM_enter 1 = .ok (.iload_n 1, 1) := by decide +kernel
theorem d_MM_enter_2 : decode c_MM_enter 2 = .ok (.invokevirtual 102, 3) := by decide +kernel
theorem d_MM_enter_5 : decode c_MM_enter 5 = .ok (.ifCond .eq 14, 3) := by decide +kernel
theorem d_MM_enter_8 : decode c_MM_enter 8 = .ok (.iload_n 2, 1) := by decide +kernel
theorem d_MM_enter_9 : decode c_MM_enter 9 = .ok (.invokestatic 106, 3) := by decide +kernel
theorem d_MM_enter_12 : decode c_MM_enter 12 = .ok (.ifCond .eq 7, 3) := by decide +kernel
theorem d_MM_enter_15 : decode c_MM_enter 15 = .ok (.iconst 1, 1) := by decide +kernel
theorem d_MM_enter_16 : decode c_MM_enter 16 = .ok (.goto 4, 3) := by decide +kernel
theorem d_MM_enter_19 : decode c_MM_enter 19 = .ok (.iconst 0, 1) := by decide +kernel
theorem d_MM_enter_20 : decode c_MM_enter 20 = .ok (.istore_n 3, 1) := by decide +kernel
theorem d_MM_enter_21 : decode c_MM_enter 21 = .ok (.aload_n 0, 1) := by decide +kernel
theorem d_MM_enter_22 : decode c_MM_enter 22 = .ok (.bipush 13, 2) := by decide +kernel
theorem d_MM_enter_24 : decode c_MM_enter 24 = .ok (.iload_n 3, 1) := by decide +kernel
theorem d_MM_enter_25 : decode c_MM_enter 25 = .ok (.iconst 1, 1) := by decide +kernel
theorem d_MM_enter_26 : decode c_MM_enter 26 = .ok (.iload_n 3, 1) := by decide +kernel
theorem d_MM_enter_27 : decode c_MM_enter 27 = .ok (.ifCond .eq 16, 3) := by decide +kernel
theorem d_MM_enter_30 : decode c_MM_enter 30 = .ok (.aload_n 0, 1) := by decide +kernel
theorem d_MM_enter_31 : decode c_MM_enter 31 = .ok (.iload_n 1, 1) := by decide +kernel
theorem d_MM_enter_32 : decode c_MM_enter 32 = .ok (.invokevirtual 109, 3) := by decide +kernel
theorem d_MM_enter_35 : decode c_MM_enter 35 = .ok (.iload_n 2, 1) := by decide +kernel
theorem d_MM_enter_36 : decode c_MM_enter 36 = .ok (.if_icmp .eq 7, 3) := by decide +kernel
theorem d_MM_enter_39 : decode c_MM_enter 39 = .ok (.iconst 1, 1) := by decide +kernel
theorem d_MM_enter_40 : decode c_MM_enter 40 = .ok (.goto 4, 3) := by decide +kernel
theorem d_MM_enter_43 : decode c_MM_enter 43 = .ok (.iconst 0, 1) := by decide +kernel
theorem d_MM_enter_44 : decode c_MM_enter 44 = .ok (.aload_n 0, 1) := by decide +kernel
theorem d_MM_enter_45 : decode c_MM_enter 45 = .ok (.getfield 88, 3) := by decide +kernel
theorem d_MM_enter_48 : decode c_MM_enter 48 = .ok (.sipush 300, 3) := by decide +kernel
theorem d_MM_enter_51 : decode c_MM_enter 51 = .ok (.if_icmp .ge 7, 3) := by decide +kernel
theorem d_MM_enter_54 : decode c_MM_enter 54 = .ok (.iconst 1, 1) := by decide +kernel
theorem d_MM_enter_55 : decode c_MM_enter 55 = .ok (.goto 4, 3) := by decide +kernel
theorem d_MM_enter_58 : decode c_MM_enter 58 = .ok (.iconst 0, 1) := by decide +kernel
theorem d_MM_enter_59 : decode c_MM_enter 59 = .ok (.invokevirtual 98, 3) := by decide +kernel
theorem d_MM_enter_62 : decode c_MM_enter 62 = .ok (.ifCond .eq 9, 3) := by decide +kernel
theorem d_MM_enter_65 : decode c_MM_enter 65 = .ok (.aload_n 0, 1) := by decide +kernel
theorem d_MM_enter_66 : decode c_MM_enter 66 = .ok (.iload_n 1, 1) := by decide +kernel
theorem d_MM_enter_67 : decode c_MM_enter 67 = .ok (.iload_n 2, 1) := by decide +kernel
theorem d_MM_enter_68 : decode c_MM_enter 68 = .ok (.invokevirtual 113, 3) := by decide +kernel
theorem d_MM_enter_71 : decode c_MM_enter 71 = .ok (.return_, 1) := by decide +kernel
theorem d_MM_isPerson_0 : decode c_MM_isPerson 0 = .ok (.iload_n 1, 1) := by decide +kernel
theorem d_MM_isPerson_1 : decode c_MM_isPerson 1 = .ok (.iconst 0, 1) := by decide +kernel
theorem d_MM_isPerson_2 : decode c_MM_isPerson 2 = .ok (.aload_n 0, 1) := by decide +kernel
theorem d_MM_isPerson_3 : decode c_MM_isPerson 3 = .ok (.getfield 78, 3) := by decide +kernel
theorem d_MM_isPerson_6 : decode c_MM_isPerson 6 = .ok (.iconst 1, 1) := by decide +kernel
theorem d_MM_isPerson_7 : decode c_MM_isPerson 7 = .ok (.isub, 1) := by decide +kernel
theorem d_MM_isPerson_8 : decode c_MM_isPerson 8 = .ok (.invokestatic 81, 3) := by decide +kernel
theorem d_MM_isPerson_11 : decode c_MM_isPerson 11 = .ok (.ireturn, 1) := by decide +kernel
theorem d_MM_in_0 : decode c_MM_in 0 = .ok (.iload_n 0, 1) := by decide +kernel
theorem d_MM_in_1 : decode c_MM_in 1 = .ok (.iload_n 1, 1) := by decide +kernel
theorem d_MM_in_2 : decode c_MM_in 2 = .ok (.if_icmp .lt 12, 3) := by decide +kernel
theorem d_MM_in_5 : decode c_MM_in 5 = .ok (.iload_n 0, 1) := by decide +kernel
theorem d_MM_in_6 : decode c_MM_in 6 = .ok (.iload_n 2, 1) := by decide +kernel
theorem d_MM_in_7 : decode c_MM_in 7 = .ok (.if_icmp .gt 7, 3) := by decide +kernel
theorem d_MM_in_10 : decode c_MM_in 10 = .ok (.iconst 1, 1) := by decide +kernel
theorem d_MM_in_11 : decode c_MM_in 11 = .ok (.goto 4, 3) := by decide +kernel
theorem d_MM_in_14 : decode c_MM_in 14 = .ok (.iconst 0, 1) := by decide +kernel
theorem d_MM_in_15 : decode c_MM_in 15 = .ok (.ireturn, 1) := by decide +kernel
theorem d_MM_isSector_0 : decode c_MM_isSector 0 = .ok (.iload_n 0, 1) := by decide +kernel
theorem d_MM_isSector_1 : decode c_MM_isSector 1 = .ok (.iconst 0, 1) := by decide +kernel
theorem d_MM_isSector_2 : decode c_MM_isSector 2 = .ok (.bipush 9, 2) := by decide +kernel
theorem d_MM_isSector_4 : decode c_MM_isSector 4 = .ok (.invokestatic 81, 3) := by decide +kernel
theorem d_MM_isSector_7 : decode c_MM_isSector 7 = .ok (.ireturn, 1) := by decide +kernel
theorem d_MM_here_0 : decode c_MM_here 0 = .ok (.aload_n 0, 1) := by decide +kernel
theorem d_MM_here_1 : decode c_MM_here 1 = .ok (.iload_n 1, 1) := by decide +kernel
theorem d_MM_here_2 : decode c_MM_here 2 = .ok (.aload_n 0, 1) := by decide +kernel
theorem d_MM_here_3 : decode c_MM_here 3 = .ok (.getfield 91, 3) := by decide +kernel
theorem d_MM_here_6 : decode c_MM_here 6 = .ok (.invokevirtual 94, 3) := by decide +kernel
theorem d_MM_here_9 : decode c_MM_here 9 = .ok (.ireturn, 1) := by decide +kernel
theorem d_MM_at_0 : decode c_MM_at 0 = .ok (.iconst (-1), 1) := by decide +kernel
theorem d_MM_at_1 : decode c_MM_at 1 = .ok (.istore_n 3, 1) := by decide +kernel
theorem d_MM_at_2 : decode c_MM_at 2 = .ok (.iconst 0, 1) := by decide +kernel
theorem d_MM_at_3 : decode c_MM_at 3 = .ok (.istore 4, 2) := by decide +kernel
theorem d_MM_at_5 : decode c_MM_at 5 = .ok (.iload 4, 2) := by decide +kernel
theorem d_MM_at_7 : decode c_MM_at 7 = .ok (.aload_n 0, 1) := by decide +kernel
theorem d_MM_at_8 : decode c_MM_at 8 = .ok (.getfield 88, 3) := by decide +kernel
theorem d_MM_at_11 : decode c_MM_at 11 = .ok (.if_icmp .ge 39, 3) := by decide +kernel
theorem d_MM_at_14 : decode c_MM_at 14 = .ok (.aload_n 0, 1) := by decide +kernel
theorem d_MM_at_15 : decode c_MM_at 15 = .ok (.getfield 13, 3) := by decide +kernel
theorem d_MM_at_18 : decode c_MM_at 18 = .ok (.iload 4, 2) := by decide +kernel
theorem d_MM_at_20 : decode c_MM_at 20 = .ok (.iaload, 1) := by decide +kernel
theorem d_MM_at_21 : decode c_MM_at 21 = .ok (.iload_n 1, 1) := by decide +kernel
theorem d_MM_at_22 : decode c_MM_at 22 = .ok (.if_icmp .ne 22, 3) := by decide +kernel
theorem d_MM_at_25 : decode c_MM_at 25 = .ok (.aload_n 0, 1) := by decide +kernel
theorem d_MM_at_26 : decode c_MM_at 26 = .ok (.getfield 19, 3) := by decide +kernel
theorem d_MM_at_29 : decode c_MM_at 29 = .ok (.iload 4, 2) := by decide +kernel
theorem d_MM_at_31 : decode c_MM_at 31 = .ok (.iaload, 1) := by decide +kernel
theorem d_MM_at_32 : decode c_MM_at 32 = .ok (.iload_n 2, 1) := by decide +kernel
theorem d_MM_at_33 : decode c_MM_at 33 = .ok (.if_icmp .gt 11, 3) := by decide +kernel
theorem d_MM_at_36 : decode c_MM_at 36 = .ok (.aload_n 0, 1) := by decide +kernel
theorem d_MM_at_37 : decode c_MM_at 37 = .ok (.getfield 16, 3) := by decide +kernel
theorem d_MM_at_40 : decode c_MM_at 40 = .ok (.iload 4, 2) := by decide +kernel
theorem d_MM_at_42 : decode c_MM_at 42 = .ok (.iaload, 1) := by decide +kernel
theorem d_MM_at_43 : decode c_MM_at 43 = .ok (.istore_n 3, 1) := by decide +kernel
theorem d_MM_at_44 : decode c_MM_at 44 = .ok (.iinc 4 1, 3) := by decide +kernel
theorem d_MM_at_47 : decode c_MM_at 47 = .ok (.goto (-42), 3) := by decide +kernel
theorem d_MM_at_50 : decode c_MM_at 50 = .ok (.iload_n 3, 1) := by decide +kernel
theorem d_MM_at_51 : decode c_MM_at 51 = .ok (.ireturn, 1) := by decide +kernel
theorem d_MM_moves_0 : decode c_MM_moves 0 = .ok (.aload_n 0, 1) := by decide +kernel
theorem d_MM_moves_1 : decode c_MM_moves 1 = .ok (.getfield 13, 3) := by decide +kernel
theorem d_MM_moves_4 : decode c_MM_moves 4 = .ok (.aload_n 0, 1) := by decide +kernel
theorem d_MM_moves_5 : decode c_MM_moves 5 = .ok (.getfield 88, 3) := by decide +kernel
theorem d_MM_moves_8 : decode c_MM_moves 8 = .ok (.iload_n 1, 1) := by decide +kernel
theorem d_MM_moves_9 : decode c_MM_moves 9 = .ok (.iastore, 1) := by decide +kernel
theorem d_MM_moves_10 : decode c_MM_moves 10 = .ok (.aload_n 0, 1) := by decide +kernel
theorem d_MM_moves_11 : decode c_MM_moves 11 = .ok (.getfield 16, 3) := by decide +kernel
theorem d_MM_moves_14 : decode c_MM_moves 14 = .ok (.aload_n 0, 1) := by decide +kernel
theorem d_MM_moves_15 : decode c_MM_moves 15 = .ok (.getfield 88, 3) := by decide +kernel
theorem d_MM_moves_18 : decode c_MM_moves 18 = .ok (.iload_n 2, 1) := by decide +kernel
theorem d_MM_moves_19 : decode c_MM_moves 19 = .ok (.iastore, 1) := by decide +kernel
theorem d_MM_moves_20 : decode c_MM_moves 20 = .ok (.aload_n 0, 1) := by decide +kernel
theorem d_MM_moves_21 : decode c_MM_moves 21 = .ok (.getfield 19, 3) := by decide +kernel
theorem d_MM_moves_24 : decode c_MM_moves 24 = .ok (.aload_n 0, 1) := by decide +kernel
theorem d_MM_moves_25 : decode c_MM_moves 25 = .ok (.getfield 88, 3) := by decide +kernel
theorem d_MM_moves_28 : decode c_MM_moves 28 = .ok (.aload_n 0, 1) := by decide +kernel
theorem d_MM_moves_29 : decode c_MM_moves 29 = .ok (.getfield 91, 3) := by decide +kernel
theorem d_MM_moves_32 : decode c_MM_moves 32 = .ok (.iastore, 1) := by decide +kernel
theorem d_MM_moves_33 : decode c_MM_moves 33 = .ok (.aload_n 0, 1) := by decide +kernel
theorem d_MM_moves_34 : decode c_MM_moves 34 = .ok (.dup, 1) := by decide +kernel
theorem d_MM_moves_35 : decode c_MM_moves 35 = .ok (.getfield 88, 3) := by decide +kernel
theorem d_MM_moves_38 : decode c_MM_moves 38 = .ok (.iconst 1, 1) := by decide +kernel
theorem d_MM_moves_39 : decode c_MM_moves 39 = .ok (.iadd, 1) := by decide +kernel
theorem d_MM_moves_40 : decode c_MM_moves 40 = .ok (.putfield 88, 3) := by decide +kernel
theorem d_MM_moves_43 : decode c_MM_moves 43 = .ok (.return_, 1) := by decide +kernel
theorem d_MM_leave_0 : decode c_MM_leave 0 = .ok (.aload_n 0, 1) := by decide +kernel
theorem d_MM_leave_1 : decode c_MM_leave 1 = .ok (.bipush 13, 2) := by decide +kernel
theorem d_MM_leave_3 : decode c_MM_leave 3 = .ok (.aload_n 0, 1) := by decide +kernel
theorem d_MM_leave_4 : decode c_MM_leave 4 = .ok (.iload_n 1, 1) := by decide +kernel
theorem d_MM_leave_5 : decode c_MM_leave 5 = .ok (.invokevirtual 102, 3) := by decide +kernel
theorem d_MM_leave_8 : decode c_MM_leave 8 = .ok (.iconst 1, 1) := by decide +kernel
theorem d_MM_leave_9 : decode c_MM_leave 9 = .ok (.aload_n 0, 1) := by decide +kernel
theorem d_MM_leave_10 : decode c_MM_leave 10 = .ok (.iload_n 1, 1) := by decide +kernel
theorem d_MM_leave_11 : decode c_MM_leave 11 = .ok (.invokevirtual 102, 3) := by decide +kernel
theorem d_MM_leave_14 : decode c_MM_leave 14 = .ok (.ifCond .eq 15, 3) := by decide +kernel
theorem d_MM_leave_17 : decode c_MM_leave 17 = .ok (.aload_n 0, 1) := by decide +kernel
theorem d_MM_leave_18 : decode c_MM_leave 18 = .ok (.iload_n 1, 1) := by decide +kernel
theorem d_MM_leave_19 : decode c_MM_leave 19 = .ok (.invokevirtual 109, 3) := by decide +kernel
theorem d_MM_leave_22 : decode c_MM_leave 22 = .ok (.ifCond .lt 7, 3) := by decide +kernel
theorem d_MM_leave_25 : decode c_MM_leave 25 = .ok (.iconst 1, 1) := by decide +kernel
theorem d_MM_leave_26 : decode c_MM_leave 26 = .ok (.goto 4, 3) := by decide +kernel
theorem d_MM_leave_29 : decode c_MM_leave 29 = .ok (.iconst 0, 1) := by decide +kernel
theorem d_MM_leave_30 : decode c_MM_leave 30 = .ok (.aload_n 0, 1) := by decide +kernel
theorem d_MM_leave_31 : decode c_MM_leave 31 = .ok (.getfield 88, 3) := by decide +kernel
theorem d_MM_leave_34 : decode c_MM_leave 34 = .ok (.sipush 300, 3) := by decide +kernel
theorem d_MM_leave_37 : decode c_MM_leave 37 = .ok (.if_icmp .ge 7, 3) := by decide +kernel
theorem d_MM_leave_40 : decode c_MM_leave 40 = .ok (.iconst 1, 1) := by decide +kernel
theorem d_MM_leave_41 : decode c_MM_leave 41 = .ok (.goto 4, 3) := by decide +kernel
theorem d_MM_leave_44 : decode c_MM_leave 44 = .ok (.iconst 0, 1) := by decide +kernel
theorem d_MM_leave_45 : decode c_MM_leave 45 = .ok (.invokevirtual 98, 3) := by decide +kernel
theorem d_MM_leave_48 : decode c_MM_leave 48 = .ok (.ifCond .eq 9, 3) := by decide +kernel
theorem d_MM_leave_51 : decode c_MM_leave 51 = .ok (.aload_n 0, 1) := by decide +kernel
theorem d_MM_leave_52 : decode c_MM_leave 52 = .ok (.iload_n 1, 1) := by decide +kernel
theorem d_MM_leave_53 : decode c_MM_leave 53 = .ok (.iconst (-1), 1) := by decide +kernel
theorem d_MM_leave_54 : decode c_MM_leave 54 = .ok (.invokevirtual 113, 3) := by decide +kernel
theorem d_MM_leave_57 : decode c_MM_leave 57 = .ok (.return_, 1) := by decide +kernel
theorem d_MM_guests_0 : decode c_MM_guests 0 = .ok (.aload_n 0, 1) := by decide +kernel
theorem d_MM_guests_1 : decode c_MM_guests 1 = .ok (.iconst 3, 1) := by decide +kernel
theorem d_MM_guests_2 : decode c_MM_guests 2 = .ok (.iload_n 1, 1) := by decide +kernel
theorem d_MM_guests_3 : decode c_MM_guests 3 = .ok (.invokestatic 106, 3) := by decide +kernel
theorem d_MM_guests_6 : decode c_MM_guests 6 = .ok (.iload_n 2, 1) := by decide +kernel
theorem d_MM_guests_7 : decode c_MM_guests 7 = .ok (.iconst 0, 1) := by decide +kernel
theorem d_MM_guests_8 : decode c_MM_guests 8 = .ok (.sipush 999, 3) := by decide +kernel
theorem d_MM_guests_11 : decode c_MM_guests 11 = .ok (.invokestatic 81, 3) := by decide +kernel
theorem d_MM_guests_14 : decode c_MM_guests 14 = .ok (.iconst 1, 1) := by decide +kernel
theorem d_MM_guests_15 : decode c_MM_guests 15 = .ok (.iconst 1, 1) := by decide +kernel
theorem d_MM_guests_16 : decode c_MM_guests 16 = .ok (.invokevirtual 98, 3) := by decide +kernel
theorem d_MM_guests_19 : decode c_MM_guests 19 = .ok (.ifCond .eq 10, 3) := by decide +kernel
theorem d_MM_guests_22 : decode c_MM_guests 22 = .ok (.aload_n 0, 1) := by decide +kernel
theorem d_MM_guests_23 : decode c_MM_guests 23 = .ok (.getfield 7, 3) := by decide +kernel
theorem d_MM_guests_26 : decode c_MM_guests 26 = .ok (.iload_n 1, 1) := by decide +kernel
theorem d_MM_guests_27 : decode c_MM_guests 27 = .ok (.iload_n 2, 1) := by decide +kernel
theorem d_MM_guests_28 : decode c_MM_guests 28 = .ok (.iastore, 1) := by decide +kernel
theorem d_MM_guests_29 : decode c_MM_guests 29 = .ok (.return_, 1) := by decide +kernel
theorem d_MM_roll_0 : decode c_MM_roll 0 = .ok (.aload_n 0, 1) := by decide +kernel
theorem d_MM_roll_1 : decode c_MM_roll 1 = .ok (.invokevirtual 119, 3) := by decide +kernel
theorem d_MM_roll_4 : decode c_MM_roll 4 = .ok (.ifCond .ne 7, 3) := by decide +kernel
theorem d_MM_roll_7 : decode c_MM_roll 7 = .ok (.iconst 1, 1) := by decide +kernel
theorem d_MM_roll_8 : decode c_MM_roll 8 = .ok (.goto 4, 3) := by decide +kernel
theorem d_MM_roll_11 : decode c_MM_roll 11 = .ok (.iconst 0, 1) := by decide +kernel
theorem d_MM_roll_12 : decode c_MM_roll 12 = .ok (.istore_n 2, 1) := by decide +kernel
theorem d_MM_roll_13 : decode c_MM_roll 13 = .ok (.iconst 0, 1) := by decide +kernel
theorem d_MM_roll_14 : decode c_MM_roll 14 = .ok (.istore_n 3, 1) := by decide +kernel
theorem d_MM_roll_15 : decode c_MM_roll 15 = .ok (.iload_n 3, 1) := by decide +kernel
theorem d_MM_roll_16 : decode c_MM_roll 16 = .ok (.aload_n 0, 1) := by decide +kernel
theorem d_MM_roll_17 : decode c_MM_roll 17 = .ok (.getfield 85, 3) := by decide +kernel
theorem d_MM_roll_20 : decode c_MM_roll 20 = .ok (.if_icmp .ge 46, 3) := by decide +kernel
theorem d_MM_roll_23 : decode c_MM_roll 23 = .ok (.aload_n 0, 1) := by decide +kernel
theorem d_MM_roll_24 : decode c_MM_roll 24 = .ok (.getfield 25, 3) := by decide +kernel
theorem d_MM_roll_27 : decode c_MM_roll 27 = .ok (.iload_n 3, 1) := by decide +kernel
theorem d_MM_roll_28 : decode c_MM_roll 28 = .ok (.iaload, 1) := by decide +kernel
theorem d_MM_roll_29 : decode c_MM_roll 29 = .ok (.iconst 3, 1) := by decide +kernel
theorem d_MM_roll_30 : decode c_MM_roll 30 = .ok (.if_icmp .ge 30, 3) := by decide +kernel
theorem d_MM_roll_33 : decode c_MM_roll 33 = .ok (.iload_n 1, 1) := by decide +kernel
theorem d_MM_roll_34 : decode c_MM_roll 34 = .ok (.iconst (-1), 1) := by decide +kernel
theorem d_MM_roll_35 : decode c_MM_roll 35 = .ok (.if_icmp .eq 23, 3) := by decide +kernel
theorem d_MM_roll_38 : decode c_MM_roll 38 = .ok (.aload_n 0, 1) := by decide +kernel
theorem d_MM_roll_39 : decode c_MM_roll 39 = .ok (.getfield 22, 3) := by decide +kernel
theorem d_MM_roll_42 : decode c_MM_roll 42 = .ok (.iload_n 3, 1) := by decide +kernel
theorem d_MM_roll_43 : decode c_MM_roll 43 = .ok (.iaload, 1) := by decide +kernel
theorem d_MM_roll_44 : decode c_MM_roll 44 = .ok (.iconst (-1), 1) := by decide +kernel
theorem d_MM_roll_45 : decode c_MM_roll 45 = .ok (.if_icmp .eq 13, 3) := by decide +kernel
theorem d_MM_roll_48 : decode c_MM_roll 48 = .ok (.aload_n 0, 1) := by decide +kernel
theorem d_MM_roll_49 : decode c_MM_roll 49 = .ok (.getfield 22, 3) := by decide +kernel
theorem d_MM_roll_52 : decode c_MM_roll 52 = .ok (.iload_n 3, 1) := by decide +kernel
theorem d_MM_roll_53 : decode c_MM_roll 53 = .ok (.iaload, 1) := by decide +kernel
theorem d_MM_roll_54 : decode c_MM_roll 54 = .ok (.iload_n 1, 1) := by decide +kernel
theorem d_MM_roll_55 : decode c_MM_roll 55 = .ok (.if_icmp .ne 5, 3) := by decide +kernel
theorem d_MM_roll_58 : decode c_MM_roll 58 = .ok (.iconst 0, 1) := by decide +kernel
theorem d_MM_roll_59 : decode c_MM_roll 59 = .ok (.istore_n 2, 1) := by decide +kernel
theorem d_MM_roll_60 : decode c_MM_roll 60 = .ok (.iinc 3 1, 3) := by decide +kernel
theorem d_MM_roll_63 : decode c_MM_roll 63 = .ok (.goto (-48), 3) := by decide +kernel
theorem d_MM_roll_66 : decode c_MM_roll 66 = .ok (.aload_n 0, 1) := by decide +kernel
theorem d_MM_roll_67 : decode c_MM_roll 67 = .ok (.bipush 13, 2) := by decide +kernel
theorem d_MM_roll_69 : decode c_MM_roll 69 = .ok (.iload_n 1, 1) := by decide +kernel
theorem d_MM_roll_70 : decode c_MM_roll 70 = .ok (.iconst (-1), 1) := by decide +kernel
theorem d_MM_roll_71 : decode c_MM_roll 71 = .ok (.if_icmp .eq 10, 3) := by decide +kernel
theorem d_MM_roll_74 : decode c_MM_roll 74 = .ok (.iload_n 1, 1) := by decide +kernel
theorem d_MM_roll_75 : decode c_MM_roll 75 = .ok (.invokestatic 106, 3) := by decide +kernel
theorem d_MM_roll_78 : decode c_MM_roll 78 = .ok (.ifCond .eq 7, 3) := by decide +kernel
theorem d_MM_roll_81 : decode c_MM_roll 81 = .ok (.iconst 1, 1) := by decide +kernel
theorem d_MM_roll_82 : decode c_MM_roll 82 = .ok (.goto 4, 3) := by decide +kernel
theorem d_MM_roll_85 : decode c_MM_roll 85 = .ok (.iconst 0, 1) := by decide +kernel
theorem d_MM_roll_86 : decode c_MM_roll 86 = .ok (.iconst 1, 1) := by decide +kernel
theorem d_MM_roll_87 : decode c_MM_roll 87 = .ok (.iload_n 2, 1) := by decide +kernel
theorem d_MM_roll_88 : decode c_MM_roll 88 = .ok (.aload_n 0, 1) := by decide +kernel
theorem d_MM_roll_89 : decode c_MM_roll 89 = .ok (.getfield 85, 3) := by decide +kernel
theorem d_MM_roll_92 : decode c_MM_roll 92 = .ok (.bipush 40, 2) := by decide +kernel
theorem d_MM_roll_94 : decode c_MM_roll 94 = .ok (.if_icmp .ge 7, 3) := by decide +kernel
theorem d_MM_roll_97 : decode c_MM_roll 97 = .ok (.iconst 1, 1) := by decide +kernel
theorem d_MM_roll_98 : decode c_MM_roll 98 = .ok (.goto 4, 3) := by decide +kernel
theorem d_MM_roll_101 : decode c_MM_roll 101 = .ok (.iconst 0, 1) := by decide +kernel
theorem d_MM_roll_102 : decode c_MM_roll 102 = .ok (.invokevirtual 98, 3) := by decide +kernel
theorem d_MM_roll_105 : decode c_MM_roll 105 = .ok (.ifCond .ne 5, 3) := by decide +kernel
theorem d_MM_roll_108 : decode c_MM_roll 108 = .ok (.iconst 0, 1) := by decide +kernel
theorem d_MM_roll_109 : decode c_MM_roll 109 = .ok (.ireturn, 1) := by decide +kernel
theorem d_MM_roll_110 : decode c_MM_roll 110 = .ok (.aload_n 0, 1) := by decide +kernel
theorem d_MM_roll_111 : decode c_MM_roll 111 = .ok (.getfield 22, 3) := by decide +kernel
theorem d_MM_roll_114 : decode c_MM_roll 114 = .ok (.aload_n 0, 1) := by decide +kernel
theorem d_MM_roll_115 : decode c_MM_roll 115 = .ok (.getfield 85, 3) := by decide +kernel
theorem d_MM_roll_118 : decode c_MM_roll 118 = .ok (.iload_n 1, 1) := by decide +kernel
theorem d_MM_roll_119 : decode c_MM_roll 119 = .ok (.iastore, 1) := by decide +kernel
theorem d_MM_roll_120 : decode c_MM_roll 120 = .ok (.aload_n 0, 1) := by decide +kernel
theorem d_MM_roll_121 : decode c_MM_roll 121 = .ok (.getfield 28, 3) := by decide +kernel
theorem d_MM_roll_124 : decode c_MM_roll 124 = .ok (.aload_n 0, 1) := by decide +kernel
theorem d_MM_roll_125 : decode c_MM_roll 125 = .ok (.getfield 85, 3) := by decide +kernel
theorem d_MM_roll_128 : decode c_MM_roll 128 = .ok (.aload_n 0, 1) := by decide +kernel
theorem d_MM_roll_129 : decode c_MM_roll 129 = .ok (.getfield 88, 3) := by decide +kernel
theorem d_MM_roll_132 : decode c_MM_roll 132 = .ok (.iastore, 1) := by decide +kernel
theorem d_MM_roll_133 : decode c_MM_roll 133 = .ok (.iconst 0, 1) := by decide +kernel
theorem d_MM_roll_134 : decode c_MM_roll 134 = .ok (.istore_n 3, 1) := by decide +kernel
theorem d_MM_roll_135 : decode c_MM_roll 135 = .ok (.iconst 0, 1) := by decide +kernel
theorem d_MM_roll_136 : decode c_MM_roll 136 = .ok (.istore 4, 2) := by decide +kernel
theorem d_MM_roll_138 : decode c_MM_roll 138 = .ok (.iload 4, 2) := by decide +kernel
theorem d_MM_roll_140 : decode c_MM_roll 140 = .ok (.bipush 60, 2) := by decide +kernel
theorem d_MM_roll_142 : decode c_MM_roll 142 = .ok (.if_icmp .ge 98, 3) := by decide +kernel
theorem d_MM_roll_145 : decode c_MM_roll 145 = .ok (.aload_n 0, 1) := by decide +kernel
theorem d_MM_roll_146 : decode c_MM_roll 146 = .ok (.getfield 85, 3) := by decide +kernel
theorem d_MM_roll_149 : decode c_MM_roll 149 = .ok (.bipush 60, 2) := by decide +kernel
theorem d_MM_roll_151 : decode c_MM_roll 151 = .ok (.imul, 1) := by decide +kernel
theorem d_MM_roll_152 : decode c_MM_roll 152 = .ok (.iload 4, 2) := by decide +kernel
theorem d_MM_roll_154 : decode c_MM_roll 154 = .ok (.iadd, 1) := by decide +kernel
theorem d_MM_roll_155 : decode c_MM_roll 155 = .ok (.istore 5, 2) := by decide +kernel
theorem d_MM_roll_157 : decode c_MM_roll 157 = .ok (.iload 4, 2) := by decide +kernel
theorem d_MM_roll_159 : decode c_MM_roll 159 = .ok (.aload_n 0, 1) := by decide +kernel
theorem d_MM_roll_160 : decode c_MM_roll 160 = .ok (.getfield 78, 3) := by decide +kernel
theorem d_MM_roll_163 : decode c_MM_roll 163 = .ok (.if_icmp .ge 12, 3) := by decide +kernel
theorem d_MM_roll_166 : decode c_MM_roll 166 = .ok (.aload_n 0, 1) := by decide +kernel
theorem d_MM_roll_167 : decode c_MM_roll 167 = .ok (.iload 4, 2) := by decide +kernel
theorem d_MM_roll_169 : decode c_MM_roll 169 = .ok (.invokevirtual 109, 3) := by decide +kernel
theorem d_MM_roll_172 : decode c_MM_roll 172 = .ok (.goto 4, 3) := by decide +kernel
theorem d_MM_roll_175 : decode c_MM_roll 175 = .ok (.iconst (-1), 1) := by decide +kernel
theorem d_MM_roll_176 : decode c_MM_roll 176 = .ok (.istore 6, 2) := by decide +kernel
theorem d_MM_roll_178 : decode c_MM_roll 178 = .ok (.aload_n 0, 1) := by decide +kernel
theorem d_MM_roll_179 : decode c_MM_roll 179 = .ok (.getfield 40, 3) := by decide +kernel
theorem d_MM_roll_182 : decode c_MM_roll 182 = .ok (.iload 5, 2) := by decide +kernel
theorem d_MM_roll_184 : decode c_MM_roll 184 = .ok (.iload 6, 2) := by decide +kernel
theorem d_MM_roll_186 : decode c_MM_roll 186 = .ok (.ifCond .lt 18, 3) := by decide +kernel
theorem d_MM_roll_189 : decode c_MM_roll 189 = .ok (.iload_n 1, 1) := by decide +kernel
theorem d_MM_roll_190 : decode c_MM_roll 190 = .ok (.iconst (-1), 1) := by decide +kernel
theorem d_MM_roll_191 : decode c_MM_roll 191 = .ok (.if_icmp .eq 9, 3) := by decide +kernel
theorem d_MM_roll_194 : decode c_MM_roll 194 = .ok (.iload 6, 2) := by decide +kernel
theorem d_MM_roll_196 : decode c_MM_roll 196 = .ok (.iload_n 1, 1) := by decide +kernel
theorem d_MM_roll_197 : decode c_MM_roll 197 = .ok (.if_icmp .ne 7, 3) := by decide +kernel
theorem d_MM_roll_200 : decode c_MM_roll 200 = .ok (.iconst 1, 1) := by decide +kernel
theorem d_MM_roll_201 : decode c_MM_roll 201 = .ok (.goto 4, 3) := by decide +kernel
theorem d_MM_roll_204 : decode c_MM_roll 204 = .ok (.iconst 0, 1) := by decide +kernel
theorem d_MM_roll_205 : decode c_MM_roll 205 = .ok (.bastore, 1) := by decide +kernel
theorem d_MM_roll_206 : decode c_MM_roll 206 = .ok (.aload_n 0, 1) := by decide +kernel
theorem d_MM_roll_207 : decode c_MM_roll 207 = .ok (.getfield 44, 3) := by decide +kernel
theorem d_MM_roll_210 : decode c_MM_roll 210 = .ok (.iload 5, 2) := by decide +kernel
theorem d_MM_roll_212 : decode c_MM_roll 212 = .ok (.iconst (-1), 1) := by decide +kernel
theorem d_MM_roll_213 : decode c_MM_roll 213 = .ok (.iastore, 1) := by decide +kernel
theorem d_MM_roll_214 : decode c_MM_roll 214 = .ok (.iload_n 3, 1) := by decide +kernel
theorem d_MM_roll_215 : decode c_MM_roll 215 = .ok (.ifCond .ne 13, 3) := by decide +kernel
theorem d_MM_roll_218 : decode c_MM_roll 218 = .ok (.aload_n 0, 1) := by decide +kernel
theorem d_MM_roll_219 : decode c_MM_roll 219 = .ok (.getfield 40, 3) := by decide +kernel
theorem d_MM_roll_222 : decode c_MM_roll 222 = .ok (.iload 5, 2) := by decide +kernel
theorem d_MM_roll_224 : decode c_MM_roll 224 = .ok (.baload, 1) := by decide +kernel
theorem d_MM_roll_225 : decode c_MM_roll 225 = .ok (.ifCond .eq 7, 3) := by decide +kernel
theorem d_MM_roll_228 : decode c_MM_roll 228 = .ok (.iconst 1, 1) := by decide +kernel
theorem d_MM_roll_229 : decode c_MM_roll 229 = .ok (.goto 4, 3) := by decide +kernel
theorem d_MM_roll_232 : decode c_MM_roll 232 = .ok (.iconst 0, 1) := by decide +kernel
theorem d_MM_roll_233 : decode c_MM_roll 233 = .ok (.istore_n 3, 1) := by decide +kernel
theorem d_MM_roll_234 : decode c_MM_roll 234 = .ok (.iinc 4 1, 3) := by decide +kernel
theorem d_MM_roll_237 : decode c_MM_roll 237 = .ok (.goto (-99), 3) := by decide +kernel
theorem d_MM_roll_240 : decode c_MM_roll 240 = .ok (.iconst 0, 1) := by decide +kernel
theorem d_MM_roll_241 : decode c_MM_roll 241 = .ok (.istore 4, 2) := by decide +kernel
theorem d_MM_roll_243 : decode c_MM_roll 243 = .ok (.iload 4, 2) := by decide +kernel
theorem d_MM_roll_245 : decode c_MM_roll 245 = .ok (.bipush 10, 2) := by decide +kernel
theorem d_MM_roll_247 : decode c_MM_roll 247 = .ok (.if_icmp .ge 46, 3) := by decide +kernel
theorem d_MM_roll_250 : decode c_MM_roll 250 = .ok (.iload_n 1, 1) := by decide +kernel
theorem d_MM_roll_251 : decode c_MM_roll 251 = .ok (.iconst (-1), 1) := by decide +kernel
theorem d_MM_roll_252 : decode c_MM_roll 252 = .ok (.if_icmp .eq 9, 3) := by decide +kernel
theorem d_MM_roll_255 : decode c_MM_roll 255 = .ok (.iload 4, 2) := by decide +kernel
theorem d_MM_roll_257 : decode c_MM_roll 257 = .ok (.iload_n 1, 1) := by decide +kernel
theorem d_MM_roll_258 : decode c_MM_roll 258 = .ok (.if_icmp .ne 29, 3) := by decide +kernel
theorem d_MM_roll_261 : decode c_MM_roll 261 = .ok (.aload_n 0, 1) := by decide +kernel
theorem d_MM_roll_262 : decode c_MM_roll 262 = .ok (.getfield 31, 3) := by decide +kernel
theorem d_MM_roll_265 : decode c_MM_roll 265 = .ok (.aload_n 0, 1) := by decide +kernel
theorem d_MM_roll_266 : decode c_MM_roll 266 = .ok (.getfield 85, 3) := by decide +kernel
theorem d_MM_roll_269 : decode c_MM_roll 269 = .ok (.aload_n 0, 1) := by decide +kernel
theorem d_MM_roll_270 : decode c_MM_roll 270 = .ok (.getfield 31, 3) := by decide +kernel
theorem d_MM_roll_273 : decode c_MM_roll 273 = .ok (.aload_n 0, 1) := by decide +kernel
theorem d_MM_roll_274 : decode c_MM_roll 274 = .ok (.getfield 85, 3) := by decide +kernel
theorem d_MM_roll_277 : decode c_MM_roll 277 = .ok (.iaload, 1) := by decide +kernel
theorem d_MM_roll_278 : decode c_MM_roll 278 = .ok (.aload_n 0, 1) := by decide +kernel
theorem d_MM_roll_279 : decode c_MM_roll 279 = .ok (.getfield 7, 3) := by decide +kernel
theorem d_MM_roll_282 : decode c_MM_roll 282 = .ok (.iload 4, 2) := by decide +kernel
theorem d_MM_roll_284 : decode c_MM_roll 284 = .ok (.iaload, 1) := by decide +kernel
theorem d_MM_roll_285 : decode c_MM_roll 285 = .ok (.iadd, 1) := by decide +kernel
theorem d_MM_roll_286 : decode c_MM_roll 286 = .ok (.iastore, 1) := by decide +kernel
theorem d_MM_roll_287 : decode c_MM_roll 287 = .ok (.iinc 4 1, 3) := by decide +kernel
theorem d_MM_roll_290 : decode c_MM_roll 290 = .ok (.goto (-47), 3) := by decide +kernel
theorem d_MM_roll_293 : decode c_MM_roll 293 = .ok (.aload_n 0, 1) := by decide +kernel
theorem d_MM_roll_294 : decode c_MM_roll 294 = .ok (.getfield 25, 3) := by decide +kernel
theorem d_MM_roll_297 : decode c_MM_roll 297 = .ok (.aload_n 0, 1) := by decide +kernel
theorem d_MM_roll_298 : decode c_MM_roll 298 = .ok (.getfield 85, 3) := by decide +kernel
theorem d_MM_roll_301 : decode c_MM_roll 301 = .ok (.iload_n 3, 1) := by decide +kernel
theorem d_MM_roll_302 : decode c_MM_roll 302 = .ok (.ifCond .ne 15, 3) := by decide +kernel
theorem d_MM_roll_305 : decode c_MM_roll 305 = .ok (.aload_n 0, 1) := by decide +kernel
theorem d_MM_roll_306 : decode c_MM_roll 306 = .ok (.getfield 31, 3) := by decide +kernel
theorem d_MM_roll_309 : decode c_MM_roll 309 = .ok (.aload_n 0, 1) := by decide +kernel
theorem d_MM_roll_310 : decode c_MM_roll 310 = .ok (.getfield 85, 3) := by decide +kernel
theorem d_MM_roll_313 : decode c_MM_roll 313 = .ok (.iaload, 1) := by decide +kernel
theorem d_MM_roll_314 : decode c_MM_roll 314 = .ok (.ifCond .le 7, 3) := by decide +kernel
theorem d_MM_roll_317 : decode c_MM_roll 317 = .ok (.iconst 1, 1) := by decide +kernel
theorem d_MM_roll_318 : decode c_MM_roll 318 = .ok (.goto 4, 3) := by decide +kernel
theorem d_MM_roll_321 : decode c_MM_roll 321 = .ok (.iconst 3, 1) := by decide +kernel
theorem d_MM_roll_322 : decode c_MM_roll 322 = .ok (.iastore, 1) := by decide +kernel
theorem d_MM_roll_323 : decode c_MM_roll 323 = .ok (.aload_n 0, 1) := by decide +kernel
theorem d_MM_roll_324 : decode c_MM_roll 324 = .ok (.dup, 1) := by decide +kernel
theorem d_MM_roll_325 : decode c_MM_roll 325 = .ok (.getfield 85, 3) := by decide +kernel
theorem d_MM_roll_328 : decode c_MM_roll 328 = .ok (.iconst 1, 1) := by decide +kernel
theorem d_MM_roll_329 : decode c_MM_roll 329 = .ok (.iadd, 1) := by decide +kernel
theorem d_MM_roll_330 : decode c_MM_roll 330 = .ok (.putfield 85, 3) := by decide +kernel
theorem d_MM_roll_333 : decode c_MM_roll 333 = .ok (.aload_n 0, 1) := by decide +kernel
theorem d_MM_roll_334 : decode c_MM_roll 334 = .ok (.getfield 85, 3) := by decide +kernel
theorem d_MM_roll_337 : decode c_MM_roll 337 = .ok (.iconst 1, 1) := by decide +kernel
theorem d_MM_roll_338 : decode c_MM_roll 338 = .ok (.isub, 1) := by decide +kernel
theorem d_MM_roll_339 : decode c_MM_roll 339 = .ok (.ireturn, 1) := by decide +kernel
theorem d_MM_openMaydays_0 : decode c_MM_openMaydays 0 = .ok (.iconst 0, 1) := by decide +kernel
theorem d_MM_openMaydays_1 : decode c_MM_openMaydays 1 = .ok (.istore_n 1, 1) := by decide +kernel
theorem d_MM_openMaydays_2 : decode c_MM_openMaydays 2 = .ok (.iconst 0, 1) := by decide +kernel
theorem d_MM_openMaydays_3 : decode c_MM_openMaydays 3 = .ok (.istore_n 2, 1) := by decide +kernel
theorem d_MM_openMaydays_4 : decode c_MM_openMaydays 4 = .ok (.iload_n 2, 1) := by decide +kernel
theorem d_MM_openMaydays_5 : decode c_MM_openMaydays 5 = .ok (.aload_n 0, 1) := by decide +kernel
theorem d_MM_openMaydays_6 : decode c_MM_openMaydays 6 = .ok (.getfield 116, 3) := by decide +kernel
theorem d_MM_openMaydays_9 : decode c_MM_openMaydays 9 = .ok (.if_icmp .ge 21, 3) := by decide +kernel
theorem d_MM_openMaydays_12 : decode c_MM_openMaydays 12 = .ok (.aload_n 0, 1) := by decide +kernel
theorem d_MM_openMaydays_13 : decode c_MM_openMaydays 13 = .ok (.getfield 53, 3) := by decide +kernel
theorem d_MM_openMaydays_16 : decode c_MM_openMaydays 16 = .ok (.iload_n 2, 1) := by decide +kernel
theorem d_MM_openMaydays_17 : decode c_MM_openMaydays 17 = .ok (.baload, 1) := by decide +kernel
theorem d_MM_openMaydays_18 : decode c_MM_openMaydays 18 = .ok (.ifCond .eq 6, 3) := by decide +kernel
theorem d_MM_openMaydays_21 : decode c_MM_openMaydays 21 = .ok (.iinc 1 1, 3) := by decide +kernel
theorem d_MM_openMaydays_24 : decode c_MM_openMaydays 24 = .ok (.iinc 2 1, 3) := by decide +kernel
theorem d_MM_openMaydays_27 : decode c_MM_openMaydays 27 = .ok (.goto (-23), 3) := by decide +kernel
theorem d_MM_openMaydays_30 : decode c_MM_openMaydays 30 = .ok (.iload_n 1, 1) := by decide +kernel
theorem d_MM_openMaydays_31 : decode c_MM_openMaydays 31 = .ok (.ireturn, 1) := by decide +kernel
theorem d_MM_answer_0 : decode c_MM_answer 0 = .ok (.aload_n 0, 1) := by decide +kernel
theorem d_MM_answer_1 : decode c_MM_answer 1 = .ok (.iload_n 1, 1) := by decide +kernel
theorem d_MM_answer_2 : decode c_MM_answer 2 = .ok (.invokevirtual 123, 3) := by decide +kernel
theorem d_MM_answer_5 : decode c_MM_answer 5 = .ok (.ifCond .eq 22, 3) := by decide +kernel
theorem d_MM_answer_8 : decode c_MM_answer 8 = .ok (.iload_n 2, 1) := by decide +kernel
theorem d_MM_answer_9 : decode c_MM_answer 9 = .ok (.invokestatic 106, 3) := by decide +kernel
theorem d_MM_answer_12 : decode c_MM_answer 12 = .ok (.ifCond .eq 15, 3) := by decide +kernel
theorem d_MM_answer_15 : decode c_MM_answer 15 = .ok (.aload_n 0, 1) := by decide +kernel
theorem d_MM_answer_16 : decode c_MM_answer 16 = .ok (.iload_n 3, 1) := by decide +kernel
theorem d_MM_answer_17 : decode c_MM_answer 17 = .ok (.invokevirtual 102, 3) := by decide +kernel
theorem d_MM_answer_20 : decode c_MM_answer 20 = .ok (.ifCond .eq 7, 3) := by decide +kernel
theorem d_MM_answer_23 : decode c_MM_answer 23 = .ok (.iconst 1, 1) := by decide +kernel
theorem d_MM_answer_24 : decode c_MM_answer 24 = .ok (.goto 4, 3) := by decide +kernel
theorem d_MM_answer_27 : decode c_MM_answer 27 = .ok (.iconst 0, 1) := by decide +kernel
theorem d_MM_answer_28 : decode c_MM_answer 28 = .ok (.istore 4, 2) := by decide +kernel
theorem d_MM_answer_30 : decode c_MM_answer 30 = .ok (.iload 4, 2) := by decide +kernel
theorem d_MM_answer_32 : decode c_MM_answer 32 = .ok (.ifCond .eq 12, 3) := by decide +kernel
theorem d_MM_answer_35 : decode c_MM_answer 35 = .ok (.iload_n 1, 1) := by decide +kernel
theorem d_MM_answer_36 : decode c_MM_answer 36 = .ok (.bipush 60, 2) := by decide +kernel
theorem d_MM_answer_38 : decode c_MM_answer 38 = .ok (.imul, 1) := by decide +kernel
theorem d_MM_answer_39 : decode c_MM_answer 39 = .ok (.iload_n 3, 1) := by decide +kernel
theorem d_MM_answer_40 : decode c_MM_answer 40 = .ok (.iadd, 1) := by decide +kernel
theorem d_MM_answer_41 : decode c_MM_answer 41 = .ok (.goto 4, 3) := by decide +kernel
theorem d_MM_answer_44 : decode c_MM_answer 44 = .ok (.iconst 0, 1) := by decide +kernel
theorem d_MM_answer_45 : decode c_MM_answer 45 = .ok (.istore 5, 2) := by decide +kernel
theorem d_MM_answer_47 : decode c_MM_answer 47 = .ok (.iload 4, 2) := by decide +kernel
theorem d_MM_answer_49 : decode c_MM_answer 49 = .ok (.ifCond .eq 38, 3) := by decide +kernel
theorem d_MM_answer_52 : decode c_MM_answer 52 = .ok (.aload_n 0, 1) := by decide +kernel
theorem d_MM_answer_53 : decode c_MM_answer 53 = .ok (.getfield 40, 3) := by decide +kernel
theorem d_MM_answer_56 : decode c_MM_answer 56 = .ok (.iload 5, 2) := by decide +kernel
theorem d_MM_answer_58 : decode c_MM_answer 58 = .ok (.baload, 1) := by decide +kernel
theorem d_MM_answer_59 : decode c_MM_answer 59 = .ok (.ifCond .eq 28, 3) := by decide +kernel
theorem d_MM_answer_62 : decode c_MM_answer 62 = .ok (.aload_n 0, 1) := by decide +kernel
theorem d_MM_answer_63 : decode c_MM_answer 63 = .ok (.getfield 44, 3) := by decide +kernel
theorem d_MM_answer_66 : decode c_MM_answer 66 = .ok (.iload 5, 2) := by decide +kernel
theorem d_MM_answer_68 : decode c_MM_answer 68 = .ok (.iaload, 1) := by decide +kernel
theorem d_MM_answer_69 : decode c_MM_answer 69 = .ok (.ifCond .lt 18, 3) := by decide +kernel
theorem d_MM_answer_72 : decode c_MM_answer 72 = .ok (.aload_n 0, 1) := by decide +kernel
theorem d_MM_answer_73 : decode c_MM_answer 73 = .ok (.getfield 44, 3) := by decide +kernel
theorem d_MM_answer_76 : decode c_MM_answer 76 = .ok (.iload 5, 2) := by decide +kernel
theorem d_MM_answer_78 : decode c_MM_answer 78 = .ok (.iaload, 1) := by decide +kernel
theorem d_MM_answer_79 : decode c_MM_answer 79 = .ok (.iload_n 2, 1) := by decide +kernel
theorem d_MM_answer_80 : decode c_MM_answer 80 = .ok (.if_icmp .eq 7, 3) := by decide +kernel
theorem d_MM_answer_83 : decode c_MM_answer 83 = .ok (.iconst 1, 1) := by decide +kernel
theorem d_MM_answer_84 : decode c_MM_answer 84 = .ok (.goto 4, 3) := by decide +kernel
theorem d_MM_answer_87 : decode c_MM_answer 87 = .ok (.iconst 0, 1) := by decide +kernel
theorem d_MM_answer_88 : decode c_MM_answer 88 = .ok (.istore 6, 2) := by decide +kernel
theorem d_MM_answer_90 : decode c_MM_answer 90 = .ok (.aload_n 0, 1) := by decide +kernel
theorem d_MM_answer_91 : decode c_MM_answer 91 = .ok (.bipush 13, 2) := by decide +kernel
theorem d_MM_answer_93 : decode c_MM_answer 93 = .ok (.iload 4, 2) := by decide +kernel
theorem d_MM_answer_95 : decode c_MM_answer 95 = .ok (.iconst 1, 1) := by decide +kernel
theorem d_MM_answer_96 : decode c_MM_answer 96 = .ok (.iload 4, 2) := by decide +kernel
theorem d_MM_answer_98 : decode c_MM_answer 98 = .ok (.ifCond .eq 17, 3) := by decide +kernel
theorem d_MM_answer_101 : decode c_MM_answer 101 = .ok (.aload_n 0, 1) := by decide +kernel
theorem d_MM_answer_102 : decode c_MM_answer 102 = .ok (.getfield 25, 3) := by decide +kernel
theorem d_MM_answer_105 : decode c_MM_answer 105 = .ok (.iload_n 1, 1) := by decide +kernel
theorem d_MM_answer_106 : decode c_MM_answer 106 = .ok (.iaload, 1) := by decide +kernel
theorem d_MM_answer_107 : decode c_MM_answer 107 = .ok (.iconst 3, 1) := by decide +kernel
theorem d_MM_answer_108 : decode c_MM_answer 108 = .ok (.if_icmp .ge 7, 3) := by decide +kernel
theorem d_MM_answer_111 : decode c_MM_answer 111 = .ok (.iconst 1, 1) := by decide +kernel
theorem d_MM_answer_112 : decode c_MM_answer 112 = .ok (.goto 4, 3) := by decide +kernel
theorem d_MM_answer_115 : decode c_MM_answer 115 = .ok (.iconst 0, 1) := by decide +kernel
theorem d_MM_answer_116 : decode c_MM_answer 116 = .ok (.iload 6, 2) := by decide +kernel
theorem d_MM_answer_118 : decode c_MM_answer 118 = .ok (.ifCond .eq 12, 3) := by decide +kernel
theorem d_MM_answer_121 : decode c_MM_answer 121 = .ok (.aload_n 0, 1) := by decide +kernel
theorem d_MM_answer_122 : decode c_MM_answer 122 = .ok (.getfield 126, 3) := by decide +kernel
theorem d_MM_answer_125 : decode c_MM_answer 125 = .ok (.bipush 100, 2) := by decide +kernel
theorem d_MM_answer_127 : decode c_MM_answer 127 = .ok (.if_icmp .ge 7, 3) := by decide +kernel
theorem d_MM_answer_130 : decode c_MM_answer 130 = .ok (.iconst 1, 1) := by decide +kernel
theorem d_MM_answer_131 : decode c_MM_answer 131 = .ok (.goto 4, 3) := by decide +kernel
theorem d_MM_answer_134 : decode c_MM_answer 134 = .ok (.iconst 0, 1) := by decide +kernel
theorem d_MM_answer_135 : decode c_MM_answer 135 = .ok (.invokevirtual 98, 3) := by decide +kernel
theorem d_MM_answer_138 : decode c_MM_answer 138 = .ok (.ifCond .ne 5, 3) := by decide +kernel
theorem d_MM_answer_141 : decode c_MM_answer 141 = .ok (.iconst 0, 1) := by decide +kernel
theorem d_MM_answer_142 : decode c_MM_answer 142 = .ok (.ireturn, 1) := by decide +kernel
theorem d_MM_answer_143 : decode c_MM_answer 143 = .ok (.aload_n 0, 1) := by decide +kernel
theorem d_MM_answer_144 : decode c_MM_answer 144 = .ok (.getfield 40, 3) := by decide +kernel
theorem d_MM_answer_147 : decode c_MM_answer 147 = .ok (.iload 5, 2) := by decide +kernel
theorem d_MM_answer_149 : decode c_MM_answer 149 = .ok (.baload, 1) := by decide +kernel
theorem d_MM_answer_150 : decode c_MM_answer 150 = .ok (.ifCond .ne 15, 3) := by decide +kernel
theorem d_MM_answer_153 : decode c_MM_answer 153 = .ok (.aload_n 0, 1) := by decide +kernel
theorem d_MM_answer_154 : decode c_MM_answer 154 = .ok (.getfield 37, 3) := by decide +kernel
theorem d_MM_answer_157 : decode c_MM_answer 157 = .ok (.iload_n 1, 1) := by decide +kernel
theorem d_MM_answer_158 : decode c_MM_answer 158 = .ok (.dup2, 1) := by decide +kernel
theorem d_MM_answer_159 : decode c_MM_answer 159 = .ok (.iaload, 1) := by decide +kernel
theorem d_MM_answer_160 : decode c_MM_answer 160 = .ok (.iconst 1, 1) := by decide +kernel
theorem d_MM_answer_161 : decode c_MM_answer 161 = .ok (.iadd, 1) := by decide +kernel
theorem d_MM_answer_162 : decode c_MM_answer 162 = .ok (.iastore, 1) := by decide +kernel
theorem d_MM_answer_163 : decode c_MM_answer 163 = .ok (.iconst 4, 1) := by decide +kernel
theorem d_MM_answer_164 : decode c_MM_answer 164 = .ok (.ireturn, 1) := by decide +kernel
theorem d_MM_answer_165 : decode c_MM_answer 165 = .ok (.aload_n 0, 1) := by decide +kernel
theorem d_MM_answer_166 : decode c_MM_answer 166 = .ok (.getfield 44, 3) := by decide +kernel
theorem d_MM_answer_169 : decode c_MM_answer 169 = .ok (.iload 5, 2) := by decide +kernel
theorem d_MM_answer_171 : decode c_MM_answer 171 = .ok (.iaload, 1) := by decide +kernel
theorem d_MM_answer_172 : decode c_MM_answer 172 = .ok (.ifCond .ge 13, 3) := by decide +kernel
theorem d_MM_answer_175 : decode c_MM_answer 175 = .ok (.aload_n 0, 1) := by decide +kernel
theorem d_MM_answer_176 : decode c_MM_answer 176 = .ok (.getfield 44, 3) := by decide +kernel
theorem d_MM_answer_179 : decode c_MM_answer 179 = .ok (.iload 5, 2) := by decide +kernel
theorem d_MM_answer_181 : decode c_MM_answer 181 = .ok (.iload_n 2, 1) := by decide +kernel
theorem d_MM_answer_182 : decode c_MM_answer 182 = .ok (.iastore, 1) := by decide +kernel
theorem d_MM_answer_183 : decode c_MM_answer 183 = .ok (.iconst 1, 1) := by decide +kernel
theorem d_MM_answer_184 : decode c_MM_answer 184 = .ok (.ireturn, 1) := by decide +kernel
theorem d_MM_answer_185 : decode c_MM_answer 185 = .ok (.iload 6, 2) := by decide +kernel
theorem d_MM_answer_187 : decode c_MM_answer 187 = .ok (.ifCond .ne 5, 3) := by decide +kernel
theorem d_MM_answer_190 : decode c_MM_answer 190 = .ok (.iconst 2, 1) := by decide +kernel
theorem d_MM_answer_191 : decode c_MM_answer 191 = .ok (.ireturn, 1) := by decide +kernel
theorem d_MM_answer_192 : decode c_MM_answer 192 = .ok (.aload_n 0, 1) := by decide +kernel
theorem d_MM_answer_193 : decode c_MM_answer 193 = .ok (.getfield 50, 3) := by decide +kernel
theorem d_MM_answer_196 : decode c_MM_answer 196 = .ok (.iconst 4, 1) := by decide +kernel
theorem d_MM_answer_197 : decode c_MM_answer 197 = .ok (.aload_n 0, 1) := by decide +kernel
theorem d_MM_answer_198 : decode c_MM_answer 198 = .ok (.getfield 126, 3) := by decide +kernel
theorem d_MM_answer_201 : decode c_MM_answer 201 = .ok (.imul, 1) := by decide +kernel
theorem d_MM_answer_202 : decode c_MM_answer 202 = .ok (.iload_n 3, 1) := by decide +kernel
theorem d_MM_answer_203 : decode c_MM_answer 203 = .ok (.iastore, 1) := by decide +kernel
theorem d_MM_answer_204 : decode c_MM_answer 204 = .ok (.aload_n 0, 1) := by decide +kernel
theorem d_MM_answer_205 : decode c_MM_answer 205 = .ok (.getfield 50, 3) := by decide +kernel
theorem d_MM_answer_208 : decode c_MM_answer 208 = .ok (.iconst 4, 1) := by decide +kernel
theorem d_MM_answer_209 : decode c_MM_answer 209 = .ok (.aload_n 0, 1) := by decide +kernel
theorem d_MM_answer_210 : decode c_MM_answer 210 = .ok (.getfield 126, 3) := by decide +kernel
theorem d_MM_answer_213 : decode c_MM_answer 213 = .ok (.imul, 1) := by decide +kernel
theorem d_MM_answer_214 : decode c_MM_answer 214 = .ok (.iconst 1, 1) := by decide +kernel
theorem d_MM_answer_215 : decode c_MM_answer 215 = .ok (.iadd, 1) := by decide +kernel
theorem d_MM_answer_216 : decode c_MM_answer 216 = .ok (.aload_n 0, 1) := by decide +kernel
theorem d_MM_answer_217 : decode c_MM_answer 217 = .ok (.getfield 44, 3) := by decide +kernel
theorem d_MM_answer_220 : decode c_MM_answer 220 = .ok (.iload 5, 2) := by decide +kernel
theorem d_MM_answer_222 : decode c_MM_answer 222 = .ok (.iaload, 1) := by decide +kernel
theorem d_MM_answer_223 : decode c_MM_answer 223 = .ok (.iastore, 1) := by decide +kernel
theorem d_MM_answer_224 : decode c_MM_answer 224 = .ok (.aload_n 0, 1) := by decide +kernel
theorem d_MM_answer_225 : decode c_MM_answer 225 = .ok (.getfield 50, 3) := by decide +kernel
theorem d_MM_answer_228 : decode c_MM_answer 228 = .ok (.iconst 4, 1) := by decide +kernel
theorem d_MM_answer_229 : decode c_MM_answer 229 = .ok (.aload_n 0, 1) := by decide +kernel
theorem d_MM_answer_230 : decode c_MM_answer 230 = .ok (.getfield 126, 3) := by decide +kernel
theorem d_MM_answer_233 : decode c_MM_answer 233 = .ok (.imul, 1) := by decide +kernel
theorem d_MM_answer_234 : decode c_MM_answer 234 = .ok (.iconst 2, 1) := by decide +kernel
theorem d_MM_answer_235 : decode c_MM_answer 235 = .ok (.iadd, 1) := by decide +kernel
theorem d_MM_answer_236 : decode c_MM_answer 236 = .ok (.iload_n 2, 1) := by decide +kernel
theorem d_MM_answer_237 : decode c_MM_answer 237 = .ok (.iastore, 1) := by decide +kernel
theorem d_MM_answer_238 : decode c_MM_answer 238 = .ok (.aload_n 0, 1) := by decide +kernel
theorem d_MM_answer_239 : decode c_MM_answer 239 = .ok (.getfield 50, 3) := by decide +kernel
theorem d_MM_answer_242 : decode c_MM_answer 242 = .ok (.iconst 4, 1) := by decide +kernel
theorem d_MM_answer_243 : decode c_MM_answer 243 = .ok (.aload_n 0, 1) := by decide +kernel
theorem d_MM_answer_244 : decode c_MM_answer 244 = .ok (.getfield 126, 3) := by decide +kernel
theorem d_MM_answer_247 : decode c_MM_answer 247 = .ok (.imul, 1) := by decide +kernel
theorem d_MM_answer_248 : decode c_MM_answer 248 = .ok (.iconst 3, 1) := by decide +kernel
theorem d_MM_answer_249 : decode c_MM_answer 249 = .ok (.iadd, 1) := by decide +kernel
theorem d_MM_answer_250 : decode c_MM_answer 250 = .ok (.iload_n 1, 1) := by decide +kernel
theorem d_MM_answer_251 : decode c_MM_answer 251 = .ok (.iastore, 1) := by decide +kernel
theorem d_MM_answer_252 : decode c_MM_answer 252 = .ok (.aload_n 0, 1) := by decide +kernel
theorem d_MM_answer_253 : decode c_MM_answer 253 = .ok (.dup, 1) := by decide +kernel
theorem d_MM_answer_254 : decode c_MM_answer 254 = .ok (.getfield 126, 3) := by decide +kernel
theorem d_MM_answer_257 : decode c_MM_answer 257 = .ok (.iconst 1, 1) := by decide +kernel
theorem d_MM_answer_258 : decode c_MM_answer 258 = .ok (.iadd, 1) := by decide +kernel
theorem d_MM_answer_259 : decode c_MM_answer 259 = .ok (.putfield 126, 3) := by decide +kernel
theorem d_MM_answer_262 : decode c_MM_answer 262 = .ok (.iconst 3, 1) := by decide +kernel
theorem d_MM_answer_263 : decode c_MM_answer 263 = .ok (.ireturn, 1) := by decide +kernel
end
section
theorem d_MM_isRoll_0 : decode c_MM_isRoll 0 = .ok (.iload_n 1, 1) := by decide +kernel
theorem d_MM_isRoll_1 : decode c_MM_isRoll 1 = .ok (.iconst 0, 1) := by decide +kernel
theorem d_MM_isRoll_2 : decode c_MM_isRoll 2 = .ok (.aload_n 0, 1) := by decide +kernel
theorem d_MM_isRoll_3 : decode c_MM_isRoll 3 = .ok (.getfield 85, 3) := by decide +kernel
theorem d_MM_isRoll_6 : decode c_MM_isRoll 6 = .ok (.iconst 1, 1) := by decide +kernel
theorem d_MM_isRoll_7 : decode c_MM_isRoll 7 = .ok (.isub, 1) := by decide +kernel
theorem d_MM_isRoll_8 : decode c_MM_isRoll 8 = .ok (.invokestatic 81, 3) := by decide +kernel
theorem d_MM_isRoll_11 : decode c_MM_isRoll 11 = .ok (.ireturn, 1) := by decide +kernel
theorem d_MM_seen_0 : decode c_MM_seen 0 = .ok (.aload_n 0, 1) := by decide +kernel
theorem d_MM_seen_1 : decode c_MM_seen 1 = .ok (.iload_n 1, 1) := by decide +kernel
theorem d_MM_seen_2 : decode c_MM_seen 2 = .ok (.invokevirtual 123, 3) := by decide +kernel
theorem d_MM_seen_5 : decode c_MM_seen 5 = .ok (.istore_n 3, 1) := by decide +kernel
theorem d_MM_seen_6 : decode c_MM_seen 6 = .ok (.aload_n 0, 1) := by decide +kernel
theorem d_MM_seen_7 : decode c_MM_seen 7 = .ok (.bipush 15, 2) := by decide +kernel
theorem d_MM_seen_9 : decode c_MM_seen 9 = .ok (.iload_n 3, 1) := by decide +kernel
theorem d_MM_seen_10 : decode c_MM_seen 10 = .ok (.iload_n 2, 1) := by decide +kernel
theorem d_MM_seen_11 : decode c_MM_seen 11 = .ok (.iconst 0, 1) := by decide +kernel
theorem d_MM_seen_12 : decode c_MM_seen 12 = .ok (.sipush 999, 3) := by decide +kernel
theorem d_MM_seen_15 : decode c_MM_seen 15 = .ok (.invokestatic 81, 3) := by decide +kernel
theorem d_MM_seen_18 : decode c_MM_seen 18 = .ok (.iload_n 3, 1) := by decide +kernel
theorem d_MM_seen_19 : decode c_MM_seen 19 = .ok (.ifCond .eq 17, 3) := by decide +kernel
theorem d_MM_seen_22 : decode c_MM_seen 22 = .ok (.aload_n 0, 1) := by decide +kernel
theorem d_MM_seen_23 : decode c_MM_seen 23 = .ok (.getfield 25, 3) := by decide +kernel
theorem d_MM_seen_26 : decode c_MM_seen 26 = .ok (.iload_n 1, 1) := by decide +kernel
theorem d_MM_seen_27 : decode c_MM_seen 27 = .ok (.iaload, 1) := by decide +kernel
theorem d_MM_seen_28 : decode c_MM_seen 28 = .ok (.iconst 3, 1) := by decide +kernel
theorem d_MM_seen_29 : decode c_MM_seen 29 = .ok (.if_icmp .ge 7, 3) := by decide +kernel
theorem d_MM_seen_32 : decode c_MM_seen 32 = .ok (.iconst 1, 1) := by decide +kernel
theorem d_MM_seen_33 : decode c_MM_seen 33 = .ok (.goto 4, 3) := by decide +kernel
theorem d_MM_seen_36 : decode c_MM_seen 36 = .ok (.iconst 0, 1) := by decide +kernel
theorem d_MM_seen_37 : decode c_MM_seen 37 = .ok (.iload_n 3, 1) := by decide +kernel
theorem d_MM_seen_38 : decode c_MM_seen 38 = .ok (.ifCond .eq 21, 3) := by decide +kernel
theorem d_MM_seen_41 : decode c_MM_seen 41 = .ok (.aload_n 0, 1) := by decide +kernel
theorem d_MM_seen_42 : decode c_MM_seen 42 = .ok (.getfield 34, 3) := by decide +kernel
theorem d_MM_seen_45 : decode c_MM_seen 45 = .ok (.iload_n 1, 1) := by decide +kernel
theorem d_MM_seen_46 : decode c_MM_seen 46 = .ok (.iaload, 1) := by decide +kernel
theorem d_MM_seen_47 : decode c_MM_seen 47 = .ok (.iload_n 2, 1) := by decide +kernel
theorem d_MM_seen_48 : decode c_MM_seen 48 = .ok (.iadd, 1) := by decide +kernel
theorem d_MM_seen_49 : decode c_MM_seen 49 = .ok (.sipush 9999, 3) := by decide +kernel
theorem d_MM_seen_52 : decode c_MM_seen 52 = .ok (.if_icmp .gt 7, 3) := by decide +kernel
theorem d_MM_seen_55 : decode c_MM_seen 55 = .ok (.iconst 1, 1) := by decide +kernel
theorem d_MM_seen_56 : decode c_MM_seen 56 = .ok (.goto 4, 3) := by decide +kernel
theorem d_MM_seen_59 : decode c_MM_seen 59 = .ok (.iconst 0, 1) := by decide +kernel
theorem d_MM_seen_60 : decode c_MM_seen 60 = .ok (.invokevirtual 98, 3) := by decide +kernel
theorem d_MM_seen_63 : decode c_MM_seen 63 = .ok (.ifCond .ne 5, 3) := by decide +kernel
theorem d_MM_seen_66 : decode c_MM_seen 66 = .ok (.iconst 0, 1) := by decide +kernel
theorem d_MM_seen_67 : decode c_MM_seen 67 = .ok (.ireturn, 1) := by decide +kernel
theorem d_MM_seen_68 : decode c_MM_seen 68 = .ok (.aload_n 0, 1) := by decide +kernel
theorem d_MM_seen_69 : decode c_MM_seen 69 = .ok (.getfield 34, 3) := by decide +kernel
theorem d_MM_seen_72 : decode c_MM_seen 72 = .ok (.iload_n 1, 1) := by decide +kernel
theorem d_MM_seen_73 : decode c_MM_seen 73 = .ok (.aload_n 0, 1) := by decide +kernel
theorem d_MM_seen_74 : decode c_MM_seen 74 = .ok (.getfield 34, 3) := by decide +kernel
theorem d_MM_seen_77 : decode c_MM_seen 77 = .ok (.iload_n 1, 1) := by decide +kernel
theorem d_MM_seen_78 : decode c_MM_seen 78 = .ok (.iaload, 1) := by decide +kernel
theorem d_MM_seen_79 : decode c_MM_seen 79 = .ok (.iload_n 2, 1) := by decide +kernel
theorem d_MM_seen_80 : decode c_MM_seen 80 = .ok (.iadd, 1) := by decide +kernel
theorem d_MM_seen_81 : decode c_MM_seen 81 = .ok (.iastore, 1) := by decide +kernel
theorem d_MM_seen_82 : decode c_MM_seen 82 = .ok (.aload_n 0, 1) := by decide +kernel
theorem d_MM_seen_83 : decode c_MM_seen 83 = .ok (.getfield 34, 3) := by decide +kernel
theorem d_MM_seen_86 : decode c_MM_seen 86 = .ok (.iload_n 1, 1) := by decide +kernel
theorem d_MM_seen_87 : decode c_MM_seen 87 = .ok (.iaload, 1) := by decide +kernel
theorem d_MM_seen_88 : decode c_MM_seen 88 = .ok (.ireturn, 1) := by decide +kernel
theorem d_MM_round_0 : decode c_MM_round 0 = .ok (.aload_n 0, 1) := by decide +kernel
theorem d_MM_round_1 : decode c_MM_round 1 = .ok (.iload_n 1, 1) := by decide +kernel
theorem d_MM_round_2 : decode c_MM_round 2 = .ok (.invokevirtual 123, 3) := by decide +kernel
theorem d_MM_round_5 : decode c_MM_round 5 = .ok (.istore_n 2, 1) := by decide +kernel
theorem d_MM_round_6 : decode c_MM_round 6 = .ok (.aload_n 0, 1) := by decide +kernel
theorem d_MM_round_7 : decode c_MM_round 7 = .ok (.iconst 5, 1) := by decide +kernel
theorem d_MM_round_8 : decode c_MM_round 8 = .ok (.iload_n 2, 1) := by decide +kernel
theorem d_MM_round_9 : decode c_MM_round 9 = .ok (.iconst 1, 1) := by decide +kernel
theorem d_MM_round_10 : decode c_MM_round 10 = .ok (.iload_n 2, 1) := by decide +kernel
theorem d_MM_round_11 : decode c_MM_round 11 = .ok (.ifCond .eq 24, 3) := by decide +kernel
theorem d_MM_round_14 : decode c_MM_round 14 = .ok (.aload_n 0, 1) := by decide +kernel
theorem d_MM_round_15 : decode c_MM_round 15 = .ok (.getfield 25, 3) := by decide +kernel
theorem d_MM_round_18 : decode c_MM_round 18 = .ok (.iload_n 1, 1) := by decide +kernel
theorem d_MM_round_19 : decode c_MM_round 19 = .ok (.iaload, 1) := by decide +kernel
theorem d_MM_round_20 : decode c_MM_round 20 = .ok (.iconst 3, 1) := by decide +kernel
theorem d_MM_round_21 : decode c_MM_round 21 = .ok (.if_icmp .ge 14, 3) := by decide +kernel
theorem d_MM_round_24 : decode c_MM_round 24 = .ok (.aload_n 0, 1) := by decide +kernel
theorem d_MM_round_25 : decode c_MM_round 25 = .ok (.invokevirtual 119, 3) := by decide +kernel
theorem d_MM_round_28 : decode c_MM_round 28 = .ok (.ifCond .ne 7, 3) := by decide +kernel
theorem d_MM_round_31 : decode c_MM_round 31 = .ok (.iconst 1, 1) := by decide +kernel
theorem d_MM_round_32 : decode c_MM_round 32 = .ok (.goto 4, 3) := by decide +kernel
theorem d_MM_round_35 : decode c_MM_round 35 = .ok (.iconst 0, 1) := by decide +kernel
theorem d_MM_round_36 : decode c_MM_round 36 = .ok (.iconst 1, 1) := by decide +kernel
theorem d_MM_round_37 : decode c_MM_round 37 = .ok (.invokevirtual 98, 3) := by decide +kernel
theorem d_MM_round_40 : decode c_MM_round 40 = .ok (.ifCond .ne 5, 3) := by decide +kernel
theorem d_MM_round_43 : decode c_MM_round 43 = .ok (.iconst 0, 1) := by decide +kernel
theorem d_MM_round_44 : decode c_MM_round 44 = .ok (.ireturn, 1) := by decide +kernel
theorem d_MM_round_45 : decode c_MM_round 45 = .ok (.aload_n 0, 1) := by decide +kernel
theorem d_MM_round_46 : decode c_MM_round 46 = .ok (.iload_n 1, 1) := by decide +kernel
theorem d_MM_round_47 : decode c_MM_round 47 = .ok (.invokevirtual 136, 3) := by decide +kernel
theorem d_MM_round_50 : decode c_MM_round 50 = .ok (.istore_n 3, 1) := by decide +kernel
theorem d_MM_round_51 : decode c_MM_round 51 = .ok (.aload_n 0, 1) := by decide +kernel
theorem d_MM_round_52 : decode c_MM_round 52 = .ok (.getfield 25, 3) := by decide +kernel
theorem d_MM_round_55 : decode c_MM_round 55 = .ok (.iload_n 1, 1) := by decide +kernel
theorem d_MM_round_56 : decode c_MM_round 56 = .ok (.dup2, 1) := by decide +kernel
theorem d_MM_round_57 : decode c_MM_round 57 = .ok (.iaload, 1) := by decide +kernel
theorem d_MM_round_58 : decode c_MM_round 58 = .ok (.iconst 1, 1) := by decide +kernel
theorem d_MM_round_59 : decode c_MM_round 59 = .ok (.iadd, 1) := by decide +kernel
theorem d_MM_round_60 : decode c_MM_round 60 = .ok (.iastore, 1) := by decide +kernel
theorem d_MM_round_61 : decode c_MM_round 61 = .ok (.aload_n 0, 1) := by decide +kernel
theorem d_MM_round_62 : decode c_MM_round 62 = .ok (.getfield 25, 3) := by decide +kernel
theorem d_MM_round_65 : decode c_MM_round 65 = .ok (.iload_n 1, 1) := by decide +kernel
theorem d_MM_round_66 : decode c_MM_round 66 = .ok (.iaload, 1) := by decide +kernel
theorem d_MM_round_67 : decode c_MM_round 67 = .ok (.iconst 3, 1) := by decide +kernel
theorem d_MM_round_68 : decode c_MM_round 68 = .ok (.if_icmp .ge 5, 3) := by decide +kernel
theorem d_MM_round_71 : decode c_MM_round 71 = .ok (.iload_n 3, 1) := by decide +kernel
theorem d_MM_round_72 : decode c_MM_round 72 = .ok (.ireturn, 1) := by decide +kernel
theorem d_MM_round_73 : decode c_MM_round 73 = .ok (.iconst 0, 1) := by decide +kernel
theorem d_MM_round_74 : decode c_MM_round 74 = .ok (.istore 4, 2) := by decide +kernel
theorem d_MM_round_76 : decode c_MM_round 76 = .ok (.iload 4, 2) := by decide +kernel
theorem d_MM_round_78 : decode c_MM_round 78 = .ok (.aload_n 0, 1) := by decide +kernel
theorem d_MM_round_79 : decode c_MM_round 79 = .ok (.getfield 78, 3) := by decide +kernel
theorem d_MM_round_82 : decode c_MM_round 82 = .ok (.if_icmp .ge 28, 3) := by decide +kernel
theorem d_MM_round_85 : decode c_MM_round 85 = .ok (.aload_n 0, 1) := by decide +kernel
theorem d_MM_round_86 : decode c_MM_round 86 = .ok (.getfield 47, 3) := by decide +kernel
theorem d_MM_round_89 : decode c_MM_round 89 = .ok (.iload_n 1, 1) := by decide +kernel
theorem d_MM_round_90 : decode c_MM_round 90 = .ok (.bipush 60, 2) := by decide +kernel
theorem d_MM_round_92 : decode c_MM_round 92 = .ok (.imul, 1) := by decide +kernel
theorem d_MM_round_93 : decode c_MM_round 93 = .ok (.iload 4, 2) := by decide +kernel
theorem d_MM_round_95 : decode c_MM_round 95 = .ok (.iadd, 1) := by decide +kernel
theorem d_MM_round_96 : decode c_MM_round 96 = .ok (.aload_n 0, 1) := by decide +kernel
theorem d_MM_round_97 : decode c_MM_round 97 = .ok (.iload_n 1, 1) := by decide +kernel
theorem d_MM_round_98 : decode c_MM_round 98 = .ok (.iload 4, 2) := by decide +kernel
theorem d_MM_round_100 : decode c_MM_round 100 = .ok (.invokevirtual 133, 3) := by decide +kernel
theorem d_MM_round_103 : decode c_MM_round 103 = .ok (.bastore, 1) := by decide +kernel
theorem d_MM_round_104 : decode c_MM_round 104 = .ok (.iinc 4 1, 3) := by decide +kernel
theorem d_MM_round_107 : decode c_MM_round 107 = .ok (.goto (-31), 3) := by decide +kernel
theorem d_MM_round_110 : decode c_MM_round 110 = .ok (.aload_n 0, 1) := by decide +kernel
theorem d_MM_round_111 : decode c_MM_round 111 = .ok (.getfield 28, 3) := by decide +kernel
theorem d_MM_round_114 : decode c_MM_round 114 = .ok (.iload_n 1, 1) := by decide +kernel
theorem d_MM_round_115 : decode c_MM_round 115 = .ok (.aload_n 0, 1) := by decide +kernel
theorem d_MM_round_116 : decode c_MM_round 116 = .ok (.getfield 88, 3) := by decide +kernel
theorem d_MM_round_119 : decode c_MM_round 119 = .ok (.iastore, 1) := by decide +kernel
theorem d_MM_round_120 : decode c_MM_round 120 = .ok (.iload_n 3, 1) := by decide +kernel
theorem d_MM_round_121 : decode c_MM_round 121 = .ok (.ireturn, 1) := by decide +kernel
theorem d_MM_open_0 : decode c_MM_open 0 = .ok (.iconst 0, 1) := by decide +kernel
theorem d_MM_open_1 : decode c_MM_open 1 = .ok (.istore_n 2, 1) := by decide +kernel
theorem d_MM_open_2 : decode c_MM_open 2 = .ok (.iconst 0, 1) := by decide +kernel
theorem d_MM_open_3 : decode c_MM_open 3 = .ok (.istore_n 3, 1) := by decide +kernel
theorem d_MM_open_4 : decode c_MM_open 4 = .ok (.iload_n 3, 1) := by decide +kernel
theorem d_MM_open_5 : decode c_MM_open 5 = .ok (.aload_n 0, 1) := by decide +kernel
theorem d_MM_open_6 : decode c_MM_open 6 = .ok (.getfield 78, 3) := by decide +kernel
theorem d_MM_open_9 : decode c_MM_open 9 = .ok (.if_icmp .ge 48, 3) := by decide +kernel
theorem d_MM_open_12 : decode c_MM_open 12 = .ok (.aload_n 0, 1) := by decide +kernel
theorem d_MM_open_13 : decode c_MM_open 13 = .ok (.getfield 25, 3) := by decide +kernel
theorem d_MM_open_16 : decode c_MM_open 16 = .ok (.iload_n 1, 1) := by decide +kernel
theorem d_MM_open_17 : decode c_MM_open 17 = .ok (.iaload, 1) := by decide +kernel
theorem d_MM_open_18 : decode c_MM_open 18 = .ok (.iconst 3, 1) := by decide +kernel
theorem d_MM_open_19 : decode c_MM_open 19 = .ok (.if_icmp .ge 15, 3) := by decide +kernel
theorem d_MM_open_22 : decode c_MM_open 22 = .ok (.aload_n 0, 1) := by decide +kernel
theorem d_MM_open_23 : decode c_MM_open 23 = .ok (.iload_n 1, 1) := by decide +kernel
theorem d_MM_open_24 : decode c_MM_open 24 = .ok (.iload_n 3, 1) := by decide +kernel
theorem d_MM_open_25 : decode c_MM_open 25 = .ok (.invokevirtual 133, 3) := by decide +kernel
theorem d_MM_open_28 : decode c_MM_open 28 = .ok (.ifCond .eq 23, 3) := by decide +kernel
theorem d_MM_open_31 : decode c_MM_open 31 = .ok (.goto 17, 3) := by decide +kernel
theorem d_MM_open_34 : decode c_MM_open 34 = .ok (.aload_n 0, 1) := by decide +kernel
theorem d_MM_open_35 : decode c_MM_open 35 = .ok (.getfield 47, 3) := by decide +kernel
theorem d_MM_open_38 : decode c_MM_open 38 = .ok (.iload_n 1, 1) := by decide +kernel
theorem d_MM_open_39 : decode c_MM_open 39 = .ok (.bipush 60, 2) := by decide +kernel
theorem d_MM_open_41 : decode c_MM_open 41 = .ok (.imul, 1) := by decide +kernel
theorem d_MM_open_42 : decode c_MM_open 42 = .ok (.iload_n 3, 1) := by decide +kernel
theorem d_MM_open_43 : decode c_MM_open 43 = .ok (.iadd, 1) := by decide +kernel
theorem d_MM_open_44 : decode c_MM_open 44 = .ok (.baload, 1) := by decide +kernel
theorem d_MM_open_45 : decode c_MM_open 45 = .ok (.ifCond .eq 6, 3) := by decide +kernel
theorem d_MM_open_48 : decode c_MM_open 48 = .ok (.iinc 2 1, 3) := by decide +kernel
theorem d_MM_open_51 : decode c_MM_open 51 = .ok (.iinc 3 1, 3) := by decide +kernel
theorem d_MM_open_54 : decode c_MM_open 54 = .ok (.goto (-50), 3) := by decide +kernel
theorem d_MM_open_57 : decode c_MM_open 57 = .ok (.iload_n 2, 1) := by decide +kernel
theorem d_MM_open_58 : decode c_MM_open 58 = .ok (.ireturn, 1) := by decide +kernel
theorem d_MM_isStill_0 : decode c_MM_isStill 0 = .ok (.aload_n 0, 1) := by decide +kernel
theorem d_MM_isStill_1 : decode c_MM_isStill 1 = .ok (.getfield 40, 3) := by decide +kernel
theorem d_MM_isStill_4 : decode c_MM_isStill 4 = .ok (.iload_n 1, 1) := by decide +kernel
theorem d_MM_isStill_5 : decode c_MM_isStill 5 = .ok (.bipush 60, 2) := by decide +kernel
theorem d_MM_isStill_7 : decode c_MM_isStill 7 = .ok (.imul, 1) := by decide +kernel
theorem d_MM_isStill_8 : decode c_MM_isStill 8 = .ok (.iload_n 2, 1) := by decide +kernel
theorem d_MM_isStill_9 : decode c_MM_isStill 9 = .ok (.iadd, 1) := by decide +kernel
theorem d_MM_isStill_10 : decode c_MM_isStill 10 = .ok (.baload, 1) := by decide +kernel
theorem d_MM_isStill_11 : decode c_MM_isStill 11 = .ok (.ifCond .eq 35, 3) := by decide +kernel
theorem d_MM_isStill_14 : decode c_MM_isStill 14 = .ok (.aload_n 0, 1) := by decide +kernel
theorem d_MM_isStill_15 : decode c_MM_isStill 15 = .ok (.getfield 44, 3) := by decide +kernel
theorem d_MM_isStill_18 : decode c_MM_isStill 18 = .ok (.iload_n 1, 1) := by decide +kernel
theorem d_MM_isStill_19 : decode c_MM_isStill 19 = .ok (.bipush 60, 2) := by decide +kernel
theorem d_MM_isStill_21 : decode c_MM_isStill 21 = .ok (.imul, 1) := by decide +kernel
theorem d_MM_isStill_22 : decode c_MM_isStill 22 = .ok (.iload_n 2, 1) := by decide +kernel
theorem d_MM_isStill_23 : decode c_MM_isStill 23 = .ok (.iadd, 1) := by decide +kernel
theorem d_MM_isStill_24 : decode c_MM_isStill 24 = .ok (.iaload, 1) := by decide +kernel
theorem d_MM_isStill_25 : decode c_MM_isStill 25 = .ok (.ifCond .ge 21, 3) := by decide +kernel
theorem d_MM_isStill_28 : decode c_MM_isStill 28 = .ok (.aload_n 0, 1) := by decide +kernel
theorem d_MM_isStill_29 : decode c_MM_isStill 29 = .ok (.iload_n 2, 1) := by decide +kernel
theorem d_MM_isStill_30 : decode c_MM_isStill 30 = .ok (.aload_n 0, 1) := by decide +kernel
theorem d_MM_isStill_31 : decode c_MM_isStill 31 = .ok (.getfield 28, 3) := by decide +kernel
theorem d_MM_isStill_34 : decode c_MM_isStill 34 = .ok (.iload_n 1, 1) := by decide +kernel
theorem d_MM_isStill_35 : decode c_MM_isStill 35 = .ok (.iaload, 1) := by decide +kernel
theorem d_MM_isStill_36 : decode c_MM_isStill 36 = .ok (.invokevirtual 129, 3) := by decide +kernel
theorem d_MM_isStill_39 : decode c_MM_isStill 39 = .ok (.ifCond .ne 7, 3) := by decide +kernel
theorem d_MM_isStill_42 : decode c_MM_isStill 42 = .ok (.iconst 1, 1) := by decide +kernel
theorem d_MM_isStill_43 : decode c_MM_isStill 43 = .ok (.goto 4, 3) := by decide +kernel
theorem d_MM_isStill_46 : decode c_MM_isStill 46 = .ok (.iconst 0, 1) := by decide +kernel
theorem d_MM_isStill_47 : decode c_MM_isStill 47 = .ok (.ireturn, 1) := by decide +kernel
theorem d_MM_cameOut_0 : decode c_MM_cameOut 0 = .ok (.iload_n 2, 1) := by decide +kernel
theorem d_MM_cameOut_1 : decode c_MM_cameOut 1 = .ok (.istore_n 3, 1) := by decide +kernel
theorem d_MM_cameOut_2 : decode c_MM_cameOut 2 = .ok (.iload_n 3, 1) := by decide +kernel
theorem d_MM_cameOut_3 : decode c_MM_cameOut 3 = .ok (.aload_n 0, 1) := by decide +kernel
theorem d_MM_cameOut_4 : decode c_MM_cameOut 4 = .ok (.getfield 88, 3) := by decide +kernel
theorem d_MM_cameOut_7 : decode c_MM_cameOut 7 = .ok (.if_icmp .ge 30, 3) := by decide +kernel
theorem d_MM_cameOut_10 : decode c_MM_cameOut 10 = .ok (.aload_n 0, 1) := by decide +kernel
theorem d_MM_cameOut_11 : decode c_MM_cameOut 11 = .ok (.getfield 13, 3) := by decide +kernel
theorem d_MM_cameOut_14 : decode c_MM_cameOut 14 = .ok (.iload_n 3, 1) := by decide +kernel
theorem d_MM_cameOut_15 : decode c_MM_cameOut 15 = .ok (.iaload, 1) := by decide +kernel
theorem d_MM_cameOut_16 : decode c_MM_cameOut 16 = .ok (.iload_n 1, 1) := by decide +kernel
theorem d_MM_cameOut_17 : decode c_MM_cameOut 17 = .ok (.if_icmp .ne 14, 3) := by decide +kernel
theorem d_MM_cameOut_20 : decode c_MM_cameOut 20 = .ok (.aload_n 0, 1) := by decide +kernel
theorem d_MM_cameOut_21 : decode c_MM_cameOut 21 = .ok (.getfield 16, 3) := by decide +kernel
theorem d_MM_cameOut_24 : decode c_MM_cameOut 24 = .ok (.iload_n 3, 1) := by decide +kernel
theorem d_MM_cameOut_25 : decode c_MM_cameOut 25 = .ok (.iaload, 1) := by decide +kernel
theorem d_MM_cameOut_26 : decode c_MM_cameOut 26 = .ok (.ifCond .ge 5, 3) := by decide +kernel
theorem d_MM_cameOut_29 : decode c_MM_cameOut 29 = .ok (.iconst 1, 1) := by decide +kernel
theorem d_MM_cameOut_30 : decode c_MM_cameOut 30 = .ok (.ireturn, 1) := by decide +kernel
theorem d_MM_cameOut_31 : decode c_MM_cameOut 31 = .ok (.iinc 3 1, 3) := by decide +kernel
theorem d_MM_cameOut_34 : decode c_MM_cameOut 34 = .ok (.goto (-32), 3) := by decide +kernel
theorem d_MM_cameOut_37 : decode c_MM_cameOut 37 = .ok (.iconst 0, 1) := by decide +kernel
theorem d_MM_cameOut_38 : decode c_MM_cameOut 38 = .ok (.ireturn, 1) := by decide +kernel
theorem d_MM_rollAt_0 : decode c_MM_rollAt 0 = .ok (.aload_n 0, 1) := by decide +kernel
theorem d_MM_rollAt_1 : decode c_MM_rollAt 1 = .ok (.iconst 1, 1) := by decide +kernel
theorem d_MM_rollAt_2 : decode c_MM_rollAt 2 = .ok (.aload_n 0, 1) := by decide +kernel
theorem d_MM_rollAt_3 : decode c_MM_rollAt 3 = .ok (.iload_n 1, 1) := by decide +kernel
theorem d_MM_rollAt_4 : decode c_MM_rollAt 4 = .ok (.invokevirtual 123, 3) := by decide +kernel
theorem d_MM_rollAt_7 : decode c_MM_rollAt 7 = .ok (.ifCond .eq 17, 3) := by decide +kernel
theorem d_MM_rollAt_10 : decode c_MM_rollAt 10 = .ok (.iload_n 2, 1) := by decide +kernel
theorem d_MM_rollAt_11 : decode c_MM_rollAt 11 = .ok (.iconst 0, 1) := by decide +kernel
theorem d_MM_rollAt_12 : decode c_MM_rollAt 12 = .ok (.bipush 6, 2) := by decide +kernel
theorem d_MM_rollAt_14 : decode c_MM_rollAt 14 = .ok (.invokestatic 81, 3) := by decide +kernel
theorem d_MM_rollAt_17 : decode c_MM_rollAt 17 = .ok (.ifCond .eq 7, 3) := by decide +kernel
theorem d_MM_rollAt_20 : decode c_MM_rollAt 20 = .ok (.iconst 1, 1) := by decide +kernel
theorem d_MM_rollAt_21 : decode c_MM_rollAt 21 = .ok (.goto 4, 3) := by decide +kernel
theorem d_MM_rollAt_24 : decode c_MM_rollAt 24 = .ok (.iconst 0, 1) := by decide +kernel
theorem d_MM_rollAt_25 : decode c_MM_rollAt 25 = .ok (.iconst 1, 1) := by decide +kernel
theorem d_MM_rollAt_26 : decode c_MM_rollAt 26 = .ok (.iconst 1, 1) := by decide +kernel
theorem d_MM_rollAt_27 : decode c_MM_rollAt 27 = .ok (.iconst 1, 1) := by decide +kernel
theorem d_MM_rollAt_28 : decode c_MM_rollAt 28 = .ok (.invokevirtual 98, 3) := by decide +kernel
theorem d_MM_rollAt_31 : decode c_MM_rollAt 31 = .ok (.ifCond .ne 5, 3) := by decide +kernel
theorem d_MM_rollAt_34 : decode c_MM_rollAt 34 = .ok (.iconst 0, 1) := by decide +kernel
theorem d_MM_rollAt_35 : decode c_MM_rollAt 35 = .ok (.ireturn, 1) := by decide +kernel
theorem d_MM_rollAt_36 : decode c_MM_rollAt 36 = .ok (.iconst 0, 1) := by decide +kernel
theorem d_MM_rollAt_37 : decode c_MM_rollAt 37 = .ok (.istore_n 3, 1) := by decide +kernel
theorem d_MM_rollAt_38 : decode c_MM_rollAt 38 = .ok (.iconst 0, 1) := by decide +kernel
theorem d_MM_rollAt_39 : decode c_MM_rollAt 39 = .ok (.istore 4, 2) := by decide +kernel
theorem d_MM_rollAt_41 : decode c_MM_rollAt 41 = .ok (.iconst 0, 1) := by decide +kernel
theorem d_MM_rollAt_42 : decode c_MM_rollAt 42 = .ok (.istore 5, 2) := by decide +kernel
theorem d_MM_rollAt_44 : decode c_MM_rollAt 44 = .ok (.iload 5, 2) := by decide +kernel
theorem d_MM_rollAt_46 : decode c_MM_rollAt 46 = .ok (.bipush 60, 2) := by decide +kernel
theorem d_MM_rollAt_48 : decode c_MM_rollAt 48 = .ok (.if_icmp .ge 48, 3) := by decide +kernel
theorem d_MM_rollAt_51 : decode c_MM_rollAt 51 = .ok (.aload_n 0, 1) := by decide +kernel
theorem d_MM_rollAt_52 : decode c_MM_rollAt 52 = .ok (.getfield 40, 3) := by decide +kernel
theorem d_MM_rollAt_55 : decode c_MM_rollAt 55 = .ok (.iload_n 1, 1) := by decide +kernel
theorem d_MM_rollAt_56 : decode c_MM_rollAt 56 = .ok (.bipush 60, 2) := by decide +kernel
theorem d_MM_rollAt_58 : decode c_MM_rollAt 58 = .ok (.imul, 1) := by decide +kernel
theorem d_MM_rollAt_59 : decode c_MM_rollAt 59 = .ok (.iload 5, 2) := by decide +kernel
theorem d_MM_rollAt_61 : decode c_MM_rollAt 61 = .ok (.iadd, 1) := by decide +kernel
theorem d_MM_rollAt_62 : decode c_MM_rollAt 62 = .ok (.baload, 1) := by decide +kernel
theorem d_MM_rollAt_63 : decode c_MM_rollAt 63 = .ok (.ifCond .ne 6, 3) := by decide +kernel
theorem d_MM_rollAt_66 : decode c_MM_rollAt 66 = .ok (.goto 24, 3) := by decide +kernel
theorem d_MM_rollAt_69 : decode c_MM_rollAt 69 = .ok (.iinc 3 1, 3) := by decide +kernel
theorem d_MM_rollAt_72 : decode c_MM_rollAt 72 = .ok (.aload_n 0, 1) := by decide +kernel
theorem d_MM_rollAt_73 : decode c_MM_rollAt 73 = .ok (.getfield 44, 3) := by decide +kernel
theorem d_MM_rollAt_76 : decode c_MM_rollAt 76 = .ok (.iload_n 1, 1) := by decide +kernel
theorem d_MM_rollAt_77 : decode c_MM_rollAt 77 = .ok (.bipush 60, 2) := by decide +kernel
theorem d_MM_rollAt_79 : decode c_MM_rollAt 79 = .ok (.imul, 1) := by decide +kernel
theorem d_MM_rollAt_80 : decode c_MM_rollAt 80 = .ok (.iload 5, 2) := by decide +kernel
theorem d_MM_rollAt_82 : decode c_MM_rollAt 82 = .ok (.iadd, 1) := by decide +kernel
theorem d_MM_rollAt_83 : decode c_MM_rollAt 83 = .ok (.iaload, 1) := by decide +kernel
theorem d_MM_rollAt_84 : decode c_MM_rollAt 84 = .ok (.ifCond .lt 6, 3) := by decide +kernel
theorem d_MM_rollAt_87 : decode c_MM_rollAt 87 = .ok (.iinc 4 1, 3) := by decide +kernel
theorem d_MM_rollAt_90 : decode c_MM_rollAt 90 = .ok (.iinc 5 1, 3) := by decide +kernel
theorem d_MM_rollAt_93 : decode c_MM_rollAt 93 = .ok (.goto (-49), 3) := by decide +kernel
theorem d_MM_rollAt_96 : decode c_MM_rollAt 96 = .ok (.aload_n 0, 1) := by decide +kernel
theorem d_MM_rollAt_97 : decode c_MM_rollAt 97 = .ok (.getfield 31, 3) := by decide +kernel
theorem d_MM_rollAt_100 : decode c_MM_rollAt 100 = .ok (.iload_n 1, 1) := by decide +kernel
theorem d_MM_rollAt_101 : decode c_MM_rollAt 101 = .ok (.iaload, 1) := by decide +kernel
theorem d_MM_rollAt_102 : decode c_MM_rollAt 102 = .ok (.aload_n 0, 1) := by decide +kernel
theorem d_MM_rollAt_103 : decode c_MM_rollAt 103 = .ok (.getfield 34, 3) := by decide +kernel
theorem d_MM_rollAt_106 : decode c_MM_rollAt 106 = .ok (.iload_n 1, 1) := by decide +kernel
theorem d_MM_rollAt_107 : decode c_MM_rollAt 107 = .ok (.iaload, 1) := by decide +kernel
theorem d_MM_rollAt_108 : decode c_MM_rollAt 108 = .ok (.isub, 1) := by decide +kernel
theorem d_MM_rollAt_109 : decode c_MM_rollAt 109 = .ok (.istore 5, 2) := by decide +kernel
theorem d_MM_rollAt_111 : decode c_MM_rollAt 111 = .ok (.iload_n 2, 1) := by decide +kernel
theorem d_MM_rollAt_112 : decode c_MM_rollAt 112 = .ok (.ifCond .ne 12, 3) := by decide +kernel
theorem d_MM_rollAt_115 : decode c_MM_rollAt 115 = .ok (.aload_n 0, 1) := by decide +kernel
theorem d_MM_rollAt_116 : decode c_MM_rollAt 116 = .ok (.getfield 25, 3) := by decide +kernel
theorem d_MM_rollAt_119 : decode c_MM_rollAt 119 = .ok (.iload_n 1, 1) := by decide +kernel
theorem d_MM_rollAt_120 : decode c_MM_rollAt 120 = .ok (.iaload, 1) := by decide +kernel
theorem d_MM_rollAt_121 : decode c_MM_rollAt 121 = .ok (.goto 74, 3) := by decide +kernel
theorem d_MM_rollAt_124 : decode c_MM_rollAt 124 = .ok (.iload_n 2, 1) := by decide +kernel
theorem d_MM_rollAt_125 : decode c_MM_rollAt 125 = .ok (.iconst 1, 1) := by decide +kernel
theorem d_MM_rollAt_126 : decode c_MM_rollAt 126 = .ok (.if_icmp .ne 7, 3) := by decide +kernel
theorem d_MM_rollAt_129 : decode c_MM_rollAt 129 = .ok (.iload_n 3, 1) := by decide +kernel
theorem d_MM_rollAt_130 : decode c_MM_rollAt 130 = .ok (.goto 65, 3) := by decide +kernel
theorem d_MM_rollAt_133 : decode c_MM_rollAt 133 = .ok (.iload_n 2, 1) := by decide +kernel
theorem d_MM_rollAt_134 : decode c_MM_rollAt 134 = .ok (.iconst 2, 1) := by decide +kernel
theorem d_MM_rollAt_135 : decode c_MM_rollAt 135 = .ok (.if_icmp .ne 8, 3) := by decide +kernel
theorem d_MM_rollAt_138 : decode c_MM_rollAt 138 = .ok (.iload 4, 2) := by decide +kernel
theorem d_MM_rollAt_140 : decode c_MM_rollAt 140 = .ok (.goto 55, 3) := by decide +kernel
theorem d_MM_rollAt_143 : decode c_MM_rollAt 143 = .ok (.iload_n 2, 1) := by decide +kernel
theorem d_MM_rollAt_144 : decode c_MM_rollAt 144 = .ok (.iconst 3, 1) := by decide +kernel
theorem d_MM_rollAt_145 : decode c_MM_rollAt 145 = .ok (.if_icmp .ne 11, 3) := by decide +kernel
theorem d_MM_rollAt_148 : decode c_MM_rollAt 148 = .ok (.aload_n 0, 1) := by decide +kernel
theorem d_MM_rollAt_149 : decode c_MM_rollAt 149 = .ok (.iload_n 1, 1) := by decide +kernel
theorem d_MM_rollAt_150 : decode c_MM_rollAt 150 = .ok (.invokevirtual 136, 3) := by decide +kernel
theorem d_MM_rollAt_153 : decode c_MM_rollAt 153 = .ok (.goto 42, 3) := by decide +kernel
theorem d_MM_rollAt_156 : decode c_MM_rollAt 156 = .ok (.iload_n 2, 1) := by decide +kernel
theorem d_MM_rollAt_157 : decode c_MM_rollAt 157 = .ok (.iconst 4, 1) := by decide +kernel
theorem d_MM_rollAt_158 : decode c_MM_rollAt 158 = .ok (.if_icmp .ne 12, 3) := by decide +kernel
theorem d_MM_rollAt_161 : decode c_MM_rollAt 161 = .ok (.aload_n 0, 1) := by decide +kernel
theorem d_MM_rollAt_162 : decode c_MM_rollAt 162 = .ok (.getfield 31, 3) := by decide +kernel
theorem d_MM_rollAt_165 : decode c_MM_rollAt 165 = .ok (.iload_n 1, 1) := by decide +kernel
theorem d_MM_rollAt_166 : decode c_MM_rollAt 166 = .ok (.iaload, 1) := by decide +kernel
theorem d_MM_rollAt_167 : decode c_MM_rollAt 167 = .ok (.goto 28, 3) := by decide +kernel
theorem d_MM_rollAt_170 : decode c_MM_rollAt 170 = .ok (.iload_n 2, 1) := by decide +kernel
theorem d_MM_rollAt_171 : decode c_MM_rollAt 171 = .ok (.iconst 5, 1) := by decide +kernel
theorem d_MM_rollAt_172 : decode c_MM_rollAt 172 = .ok (.if_icmp .ne 17, 3) := by decide +kernel
theorem d_MM_rollAt_175 : decode c_MM_rollAt 175 = .ok (.iload 5, 2) := by decide +kernel
theorem d_MM_rollAt_177 : decode c_MM_rollAt 177 = .ok (.ifCond .le 8, 3) := by decide +kernel
theorem d_MM_rollAt_180 : decode c_MM_rollAt 180 = .ok (.iload 5, 2) := by decide +kernel
theorem d_MM_rollAt_182 : decode c_MM_rollAt 182 = .ok (.goto 13, 3) := by decide +kernel
theorem d_MM_rollAt_185 : decode c_MM_rollAt 185 = .ok (.iconst 0, 1) := by decide +kernel
theorem d_MM_rollAt_186 : decode c_MM_rollAt 186 = .ok (.goto 9, 3) := by decide +kernel
theorem d_MM_rollAt_189 : decode c_MM_rollAt 189 = .ok (.aload_n 0, 1) := by decide +kernel
theorem d_MM_rollAt_190 : decode c_MM_rollAt 190 = .ok (.getfield 37, 3) := by decide +kernel
theorem d_MM_rollAt_193 : decode c_MM_rollAt 193 = .ok (.iload_n 1, 1) := by decide +kernel
theorem d_MM_rollAt_194 : decode c_MM_rollAt 194 = .ok (.iaload, 1) := by decide +kernel
theorem d_MM_rollAt_195 : decode c_MM_rollAt 195 = .ok (.ireturn, 1) := by decide +kernel
theorem d_MM_missing_0 : decode c_MM_missing 0 = .ok (.aload_n 0, 1) := by decide +kernel
theorem d_MM_missing_1 : decode c_MM_missing 1 = .ok (.iload_n 1, 1) := by decide +kernel
theorem d_MM_missing_2 : decode c_MM_missing 2 = .ok (.invokevirtual 123, 3) := by decide +kernel
theorem d_MM_missing_5 : decode c_MM_missing 5 = .ok (.istore_n 3, 1) := by decide +kernel
theorem d_MM_missing_6 : decode c_MM_missing 6 = .ok (.aload_n 0, 1) := by decide +kernel
theorem d_MM_missing_7 : decode c_MM_missing 7 = .ok (.bipush 7, 2) := by decide +kernel
theorem d_MM_missing_9 : decode c_MM_missing 9 = .ok (.iload_n 3, 1) := by decide +kernel
theorem d_MM_missing_10 : decode c_MM_missing 10 = .ok (.iload_n 2, 1) := by decide +kernel
theorem d_MM_missing_11 : decode c_MM_missing 11 = .ok (.ifCond .lt 7, 3) := by decide +kernel
theorem d_MM_missing_14 : decode c_MM_missing 14 = .ok (.iconst 1, 1) := by decide +kernel
theorem d_MM_missing_15 : decode c_MM_missing 15 = .ok (.goto 4, 3) := by decide +kernel
theorem d_MM_missing_18 : decode c_MM_missing 18 = .ok (.iconst 0, 1) := by decide +kernel
theorem d_MM_missing_19 : decode c_MM_missing 19 = .ok (.iload_n 3, 1) := by decide +kernel
theorem d_MM_missing_20 : decode c_MM_missing 20 = .ok (.ifCond .eq 17, 3) := by decide +kernel
theorem d_MM_missing_23 : decode c_MM_missing 23 = .ok (.aload_n 0, 1) := by decide +kernel
theorem d_MM_missing_24 : decode c_MM_missing 24 = .ok (.getfield 25, 3) := by decide +kernel
theorem d_MM_missing_27 : decode c_MM_missing 27 = .ok (.iload_n 1, 1) := by decide +kernel
theorem d_MM_missing_28 : decode c_MM_missing 28 = .ok (.iaload, 1) := by decide +kernel
theorem d_MM_missing_29 : decode c_MM_missing 29 = .ok (.iconst 3, 1) := by decide +kernel
theorem d_MM_missing_30 : decode c_MM_missing 30 = .ok (.if_icmp .ne 7, 3) := by decide +kernel
theorem d_MM_missing_33 : decode c_MM_missing 33 = .ok (.iconst 1, 1) := by decide +kernel
theorem d_MM_missing_34 : decode c_MM_missing 34 = .ok (.goto 4, 3) := by decide +kernel
theorem d_MM_missing_37 : decode c_MM_missing 37 = .ok (.iconst 0, 1) := by decide +kernel
theorem d_MM_missing_38 : decode c_MM_missing 38 = .ok (.iconst 1, 1) := by decide +kernel
theorem d_MM_missing_39 : decode c_MM_missing 39 = .ok (.invokevirtual 98, 3) := by decide +kernel
theorem d_MM_missing_42 : decode c_MM_missing 42 = .ok (.ifCond .ne 5, 3) := by decide +kernel
theorem d_MM_missing_45 : decode c_MM_missing 45 = .ok (.iconst 0, 1) := by decide +kernel
theorem d_MM_missing_46 : decode c_MM_missing 46 = .ok (.ireturn, 1) := by decide +kernel
theorem d_MM_missing_47 : decode c_MM_missing 47 = .ok (.iload_n 2, 1) := by decide +kernel
theorem d_MM_missing_48 : decode c_MM_missing 48 = .ok (.istore 4, 2) := by decide +kernel
theorem d_MM_missing_50 : decode c_MM_missing 50 = .ok (.iconst 0, 1) := by decide +kernel
theorem d_MM_missing_51 : decode c_MM_missing 51 = .ok (.istore 5, 2) := by decide +kernel
theorem d_MM_missing_53 : decode c_MM_missing 53 = .ok (.iload 5, 2) := by decide +kernel
theorem d_MM_missing_55 : decode c_MM_missing 55 = .ok (.aload_n 0, 1) := by decide +kernel
theorem d_MM_missing_56 : decode c_MM_missing 56 = .ok (.getfield 78, 3) := by decide +kernel
theorem d_MM_missing_59 : decode c_MM_missing 59 = .ok (.if_icmp .ge 48, 3) := by decide +kernel
theorem d_MM_missing_62 : decode c_MM_missing 62 = .ok (.aload_n 0, 1) := by decide +kernel
theorem d_MM_missing_63 : decode c_MM_missing 63 = .ok (.getfield 47, 3) := by decide +kernel
theorem d_MM_missing_66 : decode c_MM_missing 66 = .ok (.iload_n 1, 1) := by decide +kernel
theorem d_MM_missing_67 : decode c_MM_missing 67 = .ok (.bipush 60, 2) := by decide +kernel
theorem d_MM_missing_69 : decode c_MM_missing 69 = .ok (.imul, 1) := by decide +kernel
theorem d_MM_missing_70 : decode c_MM_missing 70 = .ok (.iload 5, 2) := by decide +kernel
theorem d_MM_missing_72 : decode c_MM_missing 72 = .ok (.iadd, 1) := by decide +kernel
theorem d_MM_missing_73 : decode c_MM_missing 73 = .ok (.baload, 1) := by decide +kernel
theorem d_MM_missing_74 : decode c_MM_missing 74 = .ok (.ifCond .eq 27, 3) := by decide +kernel
theorem d_MM_missing_77 : decode c_MM_missing 77 = .ok (.aload_n 0, 1) := by decide +kernel
theorem d_MM_missing_78 : decode c_MM_missing 78 = .ok (.iload_n 1, 1) := by decide +kernel
theorem d_MM_missing_79 : decode c_MM_missing 79 = .ok (.iload 5, 2) := by decide +kernel
theorem d_MM_missing_81 : decode c_MM_missing 81 = .ok (.invokevirtual 139, 3) := by decide +kernel
theorem d_MM_missing_84 : decode c_MM_missing 84 = .ok (.ifCond .eq 6, 3) := by decide +kernel
theorem d_MM_missing_87 : decode c_MM_missing 87 = .ok (.goto 14, 3) := by decide +kernel
theorem d_MM_missing_90 : decode c_MM_missing 90 = .ok (.iload 4, 2) := by decide +kernel
theorem d_MM_missing_92 : decode c_MM_missing 92 = .ok (.ifCond .ne 6, 3) := by decide +kernel
theorem d_MM_missing_95 : decode c_MM_missing 95 = .ok (.iload 5, 2) := by decide +kernel
theorem d_MM_missing_97 : decode c_MM_missing 97 = .ok (.ireturn, 1) := by decide +kernel
theorem d_MM_missing_98 : decode c_MM_missing 98 = .ok (.iinc 4 (-1), 3) := by decide +kernel
theorem d_MM_missing_101 : decode c_MM_missing 101 = .ok (.iinc 5 1, 3) := by decide +kernel
theorem d_MM_missing_104 : decode c_MM_missing 104 = .ok (.goto (-51), 3) := by decide +kernel
theorem d_MM_missing_107 : decode c_MM_missing 107 = .ok (.iconst (-1), 1) := by decide +kernel
theorem d_MM_missing_108 : decode c_MM_missing 108 = .ok (.ireturn, 1) := by decide +kernel
theorem d_MM_isFound_0 : decode c_MM_isFound 0 = .ok (.iload_n 1, 1) := by decide +kernel
theorem d_MM_isFound_1 : decode c_MM_isFound 1 = .ok (.iconst 1, 1) := by decide +kernel
theorem d_MM_isFound_2 : decode c_MM_isFound 2 = .ok (.iadd, 1) := by decide +kernel
theorem d_MM_isFound_3 : decode c_MM_isFound 3 = .ok (.istore_n 3, 1) := by decide +kernel
theorem d_MM_isFound_4 : decode c_MM_isFound 4 = .ok (.iload_n 3, 1) := by decide +kernel
theorem d_MM_isFound_5 : decode c_MM_isFound 5 = .ok (.aload_n 0, 1) := by decide +kernel
theorem d_MM_isFound_6 : decode c_MM_isFound 6 = .ok (.getfield 85, 3) := by decide +kernel
theorem d_MM_isFound_9 : decode c_MM_isFound 9 = .ok (.if_icmp .ge 25, 3) := by decide +kernel
theorem d_MM_isFound_12 : decode c_MM_isFound 12 = .ok (.aload_n 0, 1) := by decide +kernel
theorem d_MM_isFound_13 : decode c_MM_isFound 13 = .ok (.getfield 44, 3) := by decide +kernel
theorem d_MM_isFound_16 : decode c_MM_isFound 16 = .ok (.iload_n 3, 1) := by decide +kernel
theorem d_MM_isFound_17 : decode c_MM_isFound 17 = .ok (.bipush 60, 2) := by decide +kernel
theorem d_MM_isFound_19 : decode c_MM_isFound 19 = .ok (.imul, 1) := by decide +kernel
theorem d_MM_isFound_20 : decode c_MM_isFound 20 = .ok (.iload_n 2, 1) := by decide +kernel
theorem d_MM_isFound_21 : decode c_MM_isFound 21 = .ok (.iadd, 1) := by decide +kernel
theorem d_MM_isFound_22 : decode c_MM_isFound 22 = .ok (.iaload, 1) := by decide +kernel
theorem d_MM_isFound_23 : decode c_MM_isFound 23 = .ok (.ifCond .lt 5, 3) := by decide +kernel
theorem d_MM_isFound_26 : decode c_MM_isFound 26 = .ok (.iconst 1, 1) := by decide +kernel
theorem d_MM_isFound_27 : decode c_MM_isFound 27 = .ok (.ireturn, 1) := by decide +kernel
theorem d_MM_isFound_28 : decode c_MM_isFound 28 = .ok (.iinc 3 1, 3) := by decide +kernel
theorem d_MM_isFound_31 : decode c_MM_isFound 31 = .ok (.goto (-27), 3) := by decide +kernel
theorem d_MM_isFound_34 : decode c_MM_isFound 34 = .ok (.aload_n 0, 1) := by decide +kernel
theorem d_MM_isFound_35 : decode c_MM_isFound 35 = .ok (.iload_n 2, 1) := by decide +kernel
theorem d_MM_isFound_36 : decode c_MM_isFound 36 = .ok (.aload_n 0, 1) := by decide +kernel
theorem d_MM_isFound_37 : decode c_MM_isFound 37 = .ok (.getfield 28, 3) := by decide +kernel
theorem d_MM_isFound_40 : decode c_MM_isFound 40 = .ok (.iload_n 1, 1) := by decide +kernel
theorem d_MM_isFound_41 : decode c_MM_isFound 41 = .ok (.iaload, 1) := by decide +kernel
theorem d_MM_isFound_42 : decode c_MM_isFound 42 = .ok (.invokevirtual 129, 3) := by decide +kernel
theorem d_MM_isFound_45 : decode c_MM_isFound 45 = .ok (.ireturn, 1) := by decide +kernel
theorem d_MM_twice_0 : decode c_MM_twice 0 = .ok (.aload_n 0, 1) := by decide +kernel
theorem d_MM_twice_1 : decode c_MM_twice 1 = .ok (.iconst 1, 1) := by decide +kernel
theorem d_MM_twice_2 : decode c_MM_twice 2 = .ok (.iload_n 1, 1) := by decide +kernel
theorem d_MM_twice_3 : decode c_MM_twice 3 = .ok (.iconst 0, 1) := by decide +kernel
theorem d_MM_twice_4 : decode c_MM_twice 4 = .ok (.aload_n 0, 1) := by decide +kernel
theorem d_MM_twice_5 : decode c_MM_twice 5 = .ok (.getfield 126, 3) := by decide +kernel
theorem d_MM_twice_8 : decode c_MM_twice 8 = .ok (.iconst 1, 1) := by decide +kernel
theorem d_MM_twice_9 : decode c_MM_twice 9 = .ok (.isub, 1) := by decide +kernel
theorem d_MM_twice_10 : decode c_MM_twice 10 = .ok (.invokestatic 81, 3) := by decide +kernel
theorem d_MM_twice_13 : decode c_MM_twice 13 = .ok (.ifCond .eq 16, 3) := by decide +kernel
theorem d_MM_twice_16 : decode c_MM_twice 16 = .ok (.iload_n 2, 1) := by decide +kernel
theorem d_MM_twice_17 : decode c_MM_twice 17 = .ok (.iconst 0, 1) := by decide +kernel
theorem d_MM_twice_18 : decode c_MM_twice 18 = .ok (.iconst 3, 1) := by decide +kernel
theorem d_MM_twice_19 : decode c_MM_twice 19 = .ok (.invokestatic 81, 3) := by decide +kernel
theorem d_MM_twice_22 : decode c_MM_twice 22 = .ok (.ifCond .eq 7, 3) := by decide +kernel
theorem d_MM_twice_25 : decode c_MM_twice 25 = .ok (.iconst 1, 1) := by decide +kernel
theorem d_MM_twice_26 : decode c_MM_twice 26 = .ok (.goto 4, 3) := by decide +kernel
theorem d_MM_twice_29 : decode c_MM_twice 29 = .ok (.iconst 0, 1) := by decide +kernel
theorem d_MM_twice_30 : decode c_MM_twice 30 = .ok (.iconst 1, 1) := by decide +kernel
theorem d_MM_twice_31 : decode c_MM_twice 31 = .ok (.iconst 1, 1) := by decide +kernel
theorem d_MM_twice_32 : decode c_MM_twice 32 = .ok (.iconst 1, 1) := by decide +kernel
theorem d_MM_twice_33 : decode c_MM_twice 33 = .ok (.invokevirtual 98, 3) := by decide +kernel
theorem d_MM_twice_36 : decode c_MM_twice 36 = .ok (.ifCond .ne 5, 3) := by decide +kernel
theorem d_MM_twice_39 : decode c_MM_twice 39 = .ok (.iconst 0, 1) := by decide +kernel
theorem d_MM_twice_40 : decode c_MM_twice 40 = .ok (.ireturn, 1) := by decide +kernel
theorem d_MM_twice_41 : decode c_MM_twice 41 = .ok (.aload_n 0, 1) := by decide +kernel
theorem d_MM_twice_42 : decode c_MM_twice 42 = .ok (.getfield 50, 3) := by decide +kernel
theorem d_MM_twice_45 : decode c_MM_twice 45 = .ok (.iconst 4, 1) := by decide +kernel
theorem d_MM_twice_46 : decode c_MM_twice 46 = .ok (.iload_n 1, 1) := by decide +kernel
theorem d_MM_twice_47 : decode c_MM_twice 47 = .ok (.imul, 1) := by decide +kernel
theorem d_MM_twice_48 : decode c_MM_twice 48 = .ok (.iload_n 2, 1) := by decide +kernel
theorem d_MM_twice_49 : decode c_MM_twice 49 = .ok (.iadd, 1) := by decide +kernel
theorem d_MM_twice_50 : decode c_MM_twice 50 = .ok (.iaload, 1) := by decide +kernel
theorem d_MM_twice_51 : decode c_MM_twice 51 = .ok (.ireturn, 1) := by decide +kernel
theorem d_MM_mayday_0 : decode c_MM_mayday 0 = .ok (.aload_n 0, 1) := by decide +kernel
theorem d_MM_mayday_1 : decode c_MM_mayday 1 = .ok (.iload_n 1, 1) := by decide +kernel
theorem d_MM_mayday_2 : decode c_MM_mayday 2 = .ok (.invokevirtual 102, 3) := by decide +kernel
theorem d_MM_mayday_5 : decode c_MM_mayday 5 = .ok (.ifCond .eq 15, 3) := by decide +kernel
theorem d_MM_mayday_8 : decode c_MM_mayday 8 = .ok (.aload_n 0, 1) := by decide +kernel
theorem d_MM_mayday_9 : decode c_MM_mayday 9 = .ok (.iload_n 1, 1) := by decide +kernel
theorem d_MM_mayday_10 : decode c_MM_mayday 10 = .ok (.invokevirtual 109, 3) := by decide +kernel
theorem d_MM_mayday_13 : decode c_MM_mayday 13 = .ok (.ifCond .lt 7, 3) := by decide +kernel
theorem d_MM_mayday_16 : decode c_MM_mayday 16 = .ok (.iconst 1, 1) := by decide +kernel
theorem d_MM_mayday_17 : decode c_MM_mayday 17 = .ok (.goto 4, 3) := by decide +kernel
theorem d_MM_mayday_20 : decode c_MM_mayday 20 = .ok (.iconst 0, 1) := by decide +kernel
theorem d_MM_mayday_21 : decode c_MM_mayday 21 = .ok (.istore_n 3, 1) := by decide +kernel
theorem d_MM_mayday_22 : decode c_MM_mayday 22 = .ok (.iconst 0, 1) := by decide +kernel
theorem d_MM_mayday_23 : decode c_MM_mayday 23 = .ok (.istore 4, 2) := by decide +kernel
theorem d_MM_mayday_25 : decode c_MM_mayday 25 = .ok (.iload 4, 2) := by decide +kernel
theorem d_MM_mayday_27 : decode c_MM_mayday 27 = .ok (.aload_n 0, 1) := by decide +kernel
theorem d_MM_mayday_28 : decode c_MM_mayday 28 = .ok (.getfield 116, 3) := by decide +kernel
theorem d_MM_mayday_31 : decode c_MM_mayday 31 = .ok (.if_icmp .ge 32, 3) := by decide +kernel
theorem d_MM_mayday_34 : decode c_MM_mayday 34 = .ok (.aload_n 0, 1) := by decide +kernel
theorem d_MM_mayday_35 : decode c_MM_mayday 35 = .ok (.getfield 53, 3) := by decide +kernel
theorem d_MM_mayday_38 : decode c_MM_mayday 38 = .ok (.iload 4, 2) := by decide +kernel
theorem d_MM_mayday_40 : decode c_MM_mayday 40 = .ok (.baload, 1) := by decide +kernel
theorem d_MM_mayday_41 : decode c_MM_mayday 41 = .ok (.ifCond .eq 16, 3) := by decide +kernel
theorem d_MM_mayday_44 : decode c_MM_mayday 44 = .ok (.aload_n 0, 1) := by decide +kernel
theorem d_MM_mayday_45 : decode c_MM_mayday 45 = .ok (.getfield 59, 3) := by decide +kernel
theorem d_MM_mayday_48 : decode c_MM_mayday 48 = .ok (.iload 4, 2) := by decide +kernel
theorem d_MM_mayday_50 : decode c_MM_mayday 50 = .ok (.iaload, 1) := by decide +kernel
theorem d_MM_mayday_51 : decode c_MM_mayday 51 = .ok (.iload_n 1, 1) := by decide +kernel
theorem d_MM_mayday_52 : decode c_MM_mayday 52 = .ok (.if_icmp .ne 5, 3) := by decide +kernel
theorem d_MM_mayday_55 : decode c_MM_mayday 55 = .ok (.iconst 0, 1) := by decide +kernel
theorem d_MM_mayday_56 : decode c_MM_mayday 56 = .ok (.istore_n 3, 1) := by decide +kernel
theorem d_MM_mayday_57 : decode c_MM_mayday 57 = .ok (.iinc 4 1, 3) := by decide +kernel
theorem d_MM_mayday_60 : decode c_MM_mayday 60 = .ok (.goto (-35), 3) := by decide +kernel
theorem d_MM_mayday_63 : decode c_MM_mayday 63 = .ok (.aload_n 0, 1) := by decide +kernel
theorem d_MM_mayday_64 : decode c_MM_mayday 64 = .ok (.bipush 15, 2) := by decide +kernel
theorem d_MM_mayday_66 : decode c_MM_mayday 66 = .ok (.aload_n 0, 1) := by decide +kernel
theorem d_MM_mayday_67 : decode c_MM_mayday 67 = .ok (.iload_n 1, 1) := by decide +kernel
theorem d_MM_mayday_68 : decode c_MM_mayday 68 = .ok (.invokevirtual 102, 3) := by decide +kernel
theorem d_MM_mayday_71 : decode c_MM_mayday 71 = .ok (.iload_n 2, 1) := by decide +kernel
theorem d_MM_mayday_72 : decode c_MM_mayday 72 = .ok (.iconst 0, 1) := by decide +kernel
theorem d_MM_mayday_73 : decode c_MM_mayday 73 = .ok (.sipush 999, 3) := by decide +kernel
theorem d_MM_mayday_76 : decode c_MM_mayday 76 = .ok (.invokestatic 81, 3) := by decide +kernel
theorem d_MM_mayday_79 : decode c_MM_mayday 79 = .ok (.iload_n 3, 1) := by decide +kernel
theorem d_MM_mayday_80 : decode c_MM_mayday 80 = .ok (.aload_n 0, 1) := by decide +kernel
theorem d_MM_mayday_81 : decode c_MM_mayday 81 = .ok (.getfield 116, 3) := by decide +kernel
theorem d_MM_mayday_84 : decode c_MM_mayday 84 = .ok (.bipush 30, 2) := by decide +kernel
theorem d_MM_mayday_86 : decode c_MM_mayday 86 = .ok (.if_icmp .ge 7, 3) := by decide +kernel
theorem d_MM_mayday_89 : decode c_MM_mayday 89 = .ok (.iconst 1, 1) := by decide +kernel
theorem d_MM_mayday_90 : decode c_MM_mayday 90 = .ok (.goto 4, 3) := by decide +kernel
theorem d_MM_mayday_93 : decode c_MM_mayday 93 = .ok (.iconst 0, 1) := by decide +kernel
theorem d_MM_mayday_94 : decode c_MM_mayday 94 = .ok (.invokevirtual 98, 3) := by decide +kernel
theorem d_MM_mayday_97 : decode c_MM_mayday 97 = .ok (.ifCond .ne 5, 3) := by decide +kernel
theorem d_MM_mayday_100 : decode c_MM_mayday 100 = .ok (.iconst 0, 1) := by decide +kernel
theorem d_MM_mayday_101 : decode c_MM_mayday 101 = .ok (.ireturn, 1) := by decide +kernel
theorem d_MM_mayday_102 : decode c_MM_mayday 102 = .ok (.aload_n 0, 1) := by decide +kernel
theorem d_MM_mayday_103 : decode c_MM_mayday 103 = .ok (.getfield 53, 3) := by decide +kernel
theorem d_MM_mayday_106 : decode c_MM_mayday 106 = .ok (.aload_n 0, 1) := by decide +kernel
theorem d_MM_mayday_107 : decode c_MM_mayday 107 = .ok (.getfield 116, 3) := by decide +kernel
theorem d_MM_mayday_110 : decode c_MM_mayday 110 = .ok (.iconst 1, 1) := by decide +kernel
theorem d_MM_mayday_111 : decode c_MM_mayday 111 = .ok (.bastore, 1) := by decide +kernel
theorem d_MM_mayday_112 : decode c_MM_mayday 112 = .ok (.aload_n 0, 1) := by decide +kernel
theorem d_MM_mayday_113 : decode c_MM_mayday 113 = .ok (.getfield 56, 3) := by decide +kernel
theorem d_MM_mayday_116 : decode c_MM_mayday 116 = .ok (.aload_n 0, 1) := by decide +kernel
theorem d_MM_mayday_117 : decode c_MM_mayday 117 = .ok (.getfield 116, 3) := by decide +kernel
theorem d_MM_mayday_120 : decode c_MM_mayday 120 = .ok (.iconst (-1), 1) := by decide +kernel
theorem d_MM_mayday_121 : decode c_MM_mayday 121 = .ok (.iastore, 1) := by decide +kernel
theorem d_MM_mayday_122 : decode c_MM_mayday 122 = .ok (.aload_n 0, 1) := by decide +kernel
theorem d_MM_mayday_123 : decode c_MM_mayday 123 = .ok (.getfield 59, 3) := by decide +kernel
theorem d_MM_mayday_126 : decode c_MM_mayday 126 = .ok (.aload_n 0, 1) := by decide +kernel
theorem d_MM_mayday_127 : decode c_MM_mayday 127 = .ok (.getfield 116, 3) := by decide +kernel
theorem d_MM_mayday_130 : decode c_MM_mayday 130 = .ok (.iload_n 1, 1) := by decide +kernel
theorem d_MM_mayday_131 : decode c_MM_mayday 131 = .ok (.iastore, 1) := by decide +kernel
theorem d_MM_mayday_132 : decode c_MM_mayday 132 = .ok (.aload_n 0, 1) := by decide +kernel
theorem d_MM_mayday_133 : decode c_MM_mayday 133 = .ok (.getfield 62, 3) := by decide +kernel
theorem d_MM_mayday_136 : decode c_MM_mayday 136 = .ok (.aload_n 0, 1) := by decide +kernel
theorem d_MM_mayday_137 : decode c_MM_mayday 137 = .ok (.getfield 116, 3) := by decide +kernel
theorem d_MM_mayday_140 : decode c_MM_mayday 140 = .ok (.iload_n 2, 1) := by decide +kernel
theorem d_MM_mayday_141 : decode c_MM_mayday 141 = .ok (.iastore, 1) := by decide +kernel
theorem d_MM_mayday_142 : decode c_MM_mayday 142 = .ok (.aload_n 0, 1) := by decide +kernel
theorem d_MM_mayday_143 : decode c_MM_mayday 143 = .ok (.getfield 65, 3) := by decide +kernel
theorem d_MM_mayday_146 : decode c_MM_mayday 146 = .ok (.aload_n 0, 1) := by decide +kernel
theorem d_MM_mayday_147 : decode c_MM_mayday 147 = .ok (.getfield 116, 3) := by decide +kernel
theorem d_MM_mayday_150 : decode c_MM_mayday 150 = .ok (.aload_n 0, 1) := by decide +kernel
theorem d_MM_mayday_151 : decode c_MM_mayday 151 = .ok (.getfield 91, 3) := by decide +kernel
theorem d_MM_mayday_154 : decode c_MM_mayday 154 = .ok (.iastore, 1) := by decide +kernel
theorem d_MM_mayday_155 : decode c_MM_mayday 155 = .ok (.aload_n 0, 1) := by decide +kernel
theorem d_MM_mayday_156 : decode c_MM_mayday 156 = .ok (.dup, 1) := by decide +kernel
theorem d_MM_mayday_157 : decode c_MM_mayday 157 = .ok (.getfield 116, 3) := by decide +kernel
theorem d_MM_mayday_160 : decode c_MM_mayday 160 = .ok (.iconst 1, 1) := by decide +kernel
theorem d_MM_mayday_161 : decode c_MM_mayday 161 = .ok (.iadd, 1) := by decide +kernel
theorem d_MM_mayday_162 : decode c_MM_mayday 162 = .ok (.putfield 116, 3) := by decide +kernel
theorem d_MM_mayday_165 : decode c_MM_mayday 165 = .ok (.aload_n 0, 1) := by decide +kernel
theorem d_MM_mayday_166 : decode c_MM_mayday 166 = .ok (.invokevirtual 142, 3) := by decide +kernel
theorem d_MM_mayday_169 : decode c_MM_mayday 169 = .ok (.aload_n 0, 1) := by decide +kernel
theorem d_MM_mayday_170 : decode c_MM_mayday 170 = .ok (.getfield 116, 3) := by decide +kernel
theorem d_MM_mayday_173 : decode c_MM_mayday 173 = .ok (.iconst 1, 1) := by decide +kernel
theorem d_MM_mayday_174 : decode c_MM_mayday 174 = .ok (.isub, 1) := by decide +kernel
theorem d_MM_mayday_175 : decode c_MM_mayday 175 = .ok (.ireturn, 1) := by decide +kernel
end
section
theorem d_MM_serve_0 : decode c_MM_serve 0 = .ok (.iconst 0, 1) := by decide +kernel
theorem d_MM_serve_1 : decode c_MM_serve 1 = .ok (.istore_n 1, 1) := by decide +kernel
theorem d_MM_serve_2 : decode c_MM_serve 2 = .ok (.iload_n 1, 1) := by decide +kernel
theorem d_MM_serve_3 : decode c_MM_serve 3 = .ok (.aload_n 0, 1) := by decide +kernel
theorem d_MM_serve_4 : decode c_MM_serve 4 = .ok (.getfield 116, 3) := by decide +kernel
theorem d_MM_serve_7 : decode c_MM_serve 7 = .ok (.if_icmp .ge 94, 3) := by decide +kernel
theorem d_MM_serve_10 : decode c_MM_serve 10 = .ok (.iconst 0, 1) := by decide +kernel
theorem d_MM_serve_11 : decode c_MM_serve 11 = .ok (.istore_n 2, 1) := by decide +kernel
theorem d_MM_serve_12 : decode c_MM_serve 12 = .ok (.iload_n 2, 1) := by decide +kernel
theorem d_MM_serve_13 : decode c_MM_serve 13 = .ok (.iconst 4, 1) := by decide +kernel
theorem d_MM_serve_14 : decode c_MM_serve 14 = .ok (.if_icmp .ge 81, 3) := by decide +kernel
theorem d_MM_serve_17 : decode c_MM_serve 17 = .ok (.aload_n 0, 1) := by decide +kernel
theorem d_MM_serve_18 : decode c_MM_serve 18 = .ok (.getfield 53, 3) := by decide +kernel
theorem d_MM_serve_21 : decode c_MM_serve 21 = .ok (.iload_n 1, 1) := by decide +kernel
theorem d_MM_serve_22 : decode c_MM_serve 22 = .ok (.baload, 1) := by decide +kernel
theorem d_MM_serve_23 : decode c_MM_serve 23 = .ok (.ifCond .eq 72, 3) := by decide +kernel
theorem d_MM_serve_26 : decode c_MM_serve 26 = .ok (.aload_n 0, 1) := by decide +kernel
theorem d_MM_serve_27 : decode c_MM_serve 27 = .ok (.getfield 56, 3) := by decide +kernel
theorem d_MM_serve_30 : decode c_MM_serve 30 = .ok (.iload_n 1, 1) := by decide +kernel
theorem d_MM_serve_31 : decode c_MM_serve 31 = .ok (.iaload, 1) := by decide +kernel
theorem d_MM_serve_32 : decode c_MM_serve 32 = .ok (.ifCond .ge 63, 3) := by decide +kernel
theorem d_MM_serve_35 : decode c_MM_serve 35 = .ok (.iconst 1, 1) := by decide +kernel
theorem d_MM_serve_36 : decode c_MM_serve 36 = .ok (.istore_n 3, 1) := by decide +kernel
theorem d_MM_serve_37 : decode c_MM_serve 37 = .ok (.iconst 0, 1) := by decide +kernel
theorem d_MM_serve_38 : decode c_MM_serve 38 = .ok (.istore 4, 2) := by decide +kernel
theorem d_MM_serve_40 : decode c_MM_serve 40 = .ok (.iload 4, 2) := by decide +kernel
theorem d_MM_serve_42 : decode c_MM_serve 42 = .ok (.aload_n 0, 1) := by decide +kernel
theorem d_MM_serve_43 : decode c_MM_serve 43 = .ok (.getfield 116, 3) := by decide +kernel
theorem d_MM_serve_46 : decode c_MM_serve 46 = .ok (.if_icmp .ge 32, 3) := by decide +kernel
theorem d_MM_serve_49 : decode c_MM_serve 49 = .ok (.aload_n 0, 1) := by decide +kernel
theorem d_MM_serve_50 : decode c_MM_serve 50 = .ok (.getfield 53, 3) := by decide +kernel
theorem d_MM_serve_53 : decode c_MM_serve 53 = .ok (.iload 4, 2) := by decide +kernel
theorem d_MM_serve_55 : decode c_MM_serve 55 = .ok (.baload, 1) := by decide +kernel
theorem d_MM_serve_56 : decode c_MM_serve 56 = .ok (.ifCond .eq 16, 3) := by decide +kernel
theorem d_MM_serve_59 : decode c_MM_serve 59 = .ok (.aload_n 0, 1) := by decide +kernel
theorem d_MM_serve_60 : decode c_MM_serve 60 = .ok (.getfield 56, 3) := by decide +kernel
theorem d_MM_serve_63 : decode c_MM_serve 63 = .ok (.iload 4, 2) := by decide +kernel
theorem d_MM_serve_65 : decode c_MM_serve 65 = .ok (.iaload, 1) := by decide +kernel
theorem d_MM_serve_66 : decode c_MM_serve 66 = .ok (.iload_n 2, 1) := by decide +kernel
theorem d_MM_serve_67 : decode c_MM_serve 67 = .ok (.if_icmp .ne 5, 3) := by decide +kernel
theorem d_MM_serve_70 : decode c_MM_serve 70 = .ok (.iconst 0, 1) := by decide +kernel
theorem d_MM_serve_71 : decode c_MM_serve 71 = .ok (.istore_n 3, 1) := by decide +kernel
theorem d_MM_serve_72 : decode c_MM_serve 72 = .ok (.iinc 4 1, 3) := by decide +kernel
theorem d_MM_serve_75 : decode c_MM_serve 75 = .ok (.goto (-35), 3) := by decide +kernel
theorem d_MM_serve_78 : decode c_MM_serve 78 = .ok (.iload_n 3, 1) := by decide +kernel
theorem d_MM_serve_79 : decode c_MM_serve 79 = .ok (.ifCond .eq 10, 3) := by decide +kernel
theorem d_MM_serve_82 : decode c_MM_serve 82 = .ok (.aload_n 0, 1) := by decide +kernel
theorem d_MM_serve_83 : decode c_MM_serve 83 = .ok (.getfield 56, 3) := by decide +kernel
theorem d_MM_serve_86 : decode c_MM_serve 86 = .ok (.iload_n 1, 1) := by decide +kernel
theorem d_MM_serve_87 : decode c_MM_serve 87 = .ok (.iload_n 2, 1) := by decide +kernel
theorem d_MM_serve_88 : decode c_MM_serve 88 = .ok (.iastore, 1) := by decide +kernel
theorem d_MM_serve_89 : decode c_MM_serve 89 = .ok (.iinc 2 1, 3) := by decide +kernel
theorem d_MM_serve_92 : decode c_MM_serve 92 = .ok (.goto (-80), 3) := by decide +kernel
theorem d_MM_serve_95 : decode c_MM_serve 95 = .ok (.iinc 1 1, 3) := by decide +kernel
theorem d_MM_serve_98 : decode c_MM_serve 98 = .ok (.goto (-96), 3) := by decide +kernel
theorem d_MM_serve_101 : decode c_MM_serve 101 = .ok (.return_, 1) := by decide +kernel
theorem d_MM_answered_0 : decode c_MM_answered 0 = .ok (.iload_n 1, 1) := by decide +kernel
theorem d_MM_answered_1 : decode c_MM_answered 1 = .ok (.iconst 0, 1) := by decide +kernel
theorem d_MM_answered_2 : decode c_MM_answered 2 = .ok (.aload_n 0, 1) := by decide +kernel
theorem d_MM_answered_3 : decode c_MM_answered 3 = .ok (.getfield 116, 3) := by decide +kernel
theorem d_MM_answered_6 : decode c_MM_answered 6 = .ok (.iconst 1, 1) := by decide +kernel
theorem d_MM_answered_7 : decode c_MM_answered 7 = .ok (.isub, 1) := by decide +kernel
theorem d_MM_answered_8 : decode c_MM_answered 8 = .ok (.invokestatic 81, 3) := by decide +kernel
theorem d_MM_answered_11 : decode c_MM_answered 11 = .ok (.istore_n 2, 1) := by decide +kernel
theorem d_MM_answered_12 : decode c_MM_answered 12 = .ok (.aload_n 0, 1) := by decide +kernel
theorem d_MM_answered_13 : decode c_MM_answered 13 = .ok (.iconst 5, 1) := by decide +kernel
theorem d_MM_answered_14 : decode c_MM_answered 14 = .ok (.iload_n 2, 1) := by decide +kernel
theorem d_MM_answered_15 : decode c_MM_answered 15 = .ok (.iconst 1, 1) := by decide +kernel
theorem d_MM_answered_16 : decode c_MM_answered 16 = .ok (.iload_n 2, 1) := by decide +kernel
theorem d_MM_answered_17 : decode c_MM_answered 17 = .ok (.ifCond .eq 16, 3) := by decide +kernel
theorem d_MM_answered_20 : decode c_MM_answered 20 = .ok (.aload_n 0, 1) := by decide +kernel
theorem d_MM_answered_21 : decode c_MM_answered 21 = .ok (.getfield 53, 3) := by decide +kernel
theorem d_MM_answered_24 : decode c_MM_answered 24 = .ok (.iload_n 1, 1) := by decide +kernel
theorem d_MM_answered_25 : decode c_MM_answered 25 = .ok (.baload, 1) := by decide +kernel
theorem d_MM_answered_26 : decode c_MM_answered 26 = .ok (.ifCond .eq 7, 3) := by decide +kernel
theorem d_MM_answered_29 : decode c_MM_answered 29 = .ok (.iconst 1, 1) := by decide +kernel
theorem d_MM_answered_30 : decode c_MM_answered 30 = .ok (.goto 4, 3) := by decide +kernel
theorem d_MM_answered_33 : decode c_MM_answered 33 = .ok (.iconst 0, 1) := by decide +kernel
theorem d_MM_answered_34 : decode c_MM_answered 34 = .ok (.iconst 1, 1) := by decide +kernel
theorem d_MM_answered_35 : decode c_MM_answered 35 = .ok (.invokevirtual 98, 3) := by decide +kernel
theorem d_MM_answered_38 : decode c_MM_answered 38 = .ok (.ifCond .ne 4, 3) := by decide +kernel
theorem d_MM_answered_41 : decode c_MM_answered 41 = .ok (.return_, 1) := by decide +kernel
theorem d_MM_answered_42 : decode c_MM_answered 42 = .ok (.aload_n 0, 1) := by decide +kernel
theorem d_MM_answered_43 : decode c_MM_answered 43 = .ok (.getfield 53, 3) := by decide +kernel
theorem d_MM_answered_46 : decode c_MM_answered 46 = .ok (.iload_n 1, 1) := by decide +kernel
theorem d_MM_answered_47 : decode c_MM_answered 47 = .ok (.iconst 0, 1) := by decide +kernel
theorem d_MM_answered_48 : decode c_MM_answered 48 = .ok (.bastore, 1) := by decide +kernel
theorem d_MM_answered_49 : decode c_MM_answered 49 = .ok (.aload_n 0, 1) := by decide +kernel
theorem d_MM_answered_50 : decode c_MM_answered 50 = .ok (.getfield 56, 3) := by decide +kernel
theorem d_MM_answered_53 : decode c_MM_answered 53 = .ok (.iload_n 1, 1) := by decide +kernel
theorem d_MM_answered_54 : decode c_MM_answered 54 = .ok (.iconst (-1), 1) := by decide +kernel
theorem d_MM_answered_55 : decode c_MM_answered 55 = .ok (.iastore, 1) := by decide +kernel
theorem d_MM_answered_56 : decode c_MM_answered 56 = .ok (.aload_n 0, 1) := by decide +kernel
theorem d_MM_answered_57 : decode c_MM_answered 57 = .ok (.invokevirtual 142, 3) := by decide +kernel
theorem d_MM_answered_60 : decode c_MM_answered 60 = .ok (.return_, 1) := by decide +kernel
theorem d_MM_maydayAt_0 : decode c_MM_maydayAt 0 = .ok (.aload_n 0, 1) := by decide +kernel
theorem d_MM_maydayAt_1 : decode c_MM_maydayAt 1 = .ok (.iconst 1, 1) := by decide +kernel
theorem d_MM_maydayAt_2 : decode c_MM_maydayAt 2 = .ok (.iload_n 1, 1) := by decide +kernel
theorem d_MM_maydayAt_3 : decode c_MM_maydayAt 3 = .ok (.iconst 0, 1) := by decide +kernel
theorem d_MM_maydayAt_4 : decode c_MM_maydayAt 4 = .ok (.aload_n 0, 1) := by decide +kernel
theorem d_MM_maydayAt_5 : decode c_MM_maydayAt 5 = .ok (.getfield 116, 3) := by decide +kernel
theorem d_MM_maydayAt_8 : decode c_MM_maydayAt 8 = .ok (.iconst 1, 1) := by decide +kernel
theorem d_MM_maydayAt_9 : decode c_MM_maydayAt 9 = .ok (.isub, 1) := by decide +kernel
theorem d_MM_maydayAt_10 : decode c_MM_maydayAt 10 = .ok (.invokestatic 81, 3) := by decide +kernel
theorem d_MM_maydayAt_13 : decode c_MM_maydayAt 13 = .ok (.ifCond .eq 16, 3) := by decide +kernel
theorem d_MM_maydayAt_16 : decode c_MM_maydayAt 16 = .ok (.iload_n 2, 1) := by decide +kernel
theorem d_MM_maydayAt_17 : decode c_MM_maydayAt 17 = .ok (.iconst 0, 1) := by decide +kernel
theorem d_MM_maydayAt_18 : decode c_MM_maydayAt 18 = .ok (.iconst 4, 1) := by decide +kernel
theorem d_MM_maydayAt_19 : decode c_MM_maydayAt 19 = .ok (.invokestatic 81, 3) := by decide +kernel
theorem d_MM_maydayAt_22 : decode c_MM_maydayAt 22 = .ok (.ifCond .eq 7, 3) := by decide +kernel
theorem d_MM_maydayAt_25 : decode c_MM_maydayAt 25 = .ok (.iconst 1, 1) := by decide +kernel
theorem d_MM_maydayAt_26 : decode c_MM_maydayAt 26 = .ok (.goto 4, 3) := by decide +kernel
theorem d_MM_maydayAt_29 : decode c_MM_maydayAt 29 = .ok (.iconst 0, 1) := by decide +kernel
theorem d_MM_maydayAt_30 : decode c_MM_maydayAt 30 = .ok (.iconst 1, 1) := by decide +kernel
theorem d_MM_maydayAt_31 : decode c_MM_maydayAt 31 = .ok (.iconst 1, 1) := by decide +kernel
theorem d_MM_maydayAt_32 : decode c_MM_maydayAt 32 = .ok (.iconst 1, 1) := by decide +kernel
theorem d_MM_maydayAt_33 : decode c_MM_maydayAt 33 = .ok (.invokevirtual 98, 3) := by decide +kernel
theorem d_MM_maydayAt_36 : decode c_MM_maydayAt 36 = .ok (.ifCond .ne 5, 3) := by decide +kernel
theorem d_MM_maydayAt_39 : decode c_MM_maydayAt 39 = .ok (.iconst 0, 1) := by decide +kernel
theorem d_MM_maydayAt_40 : decode c_MM_maydayAt 40 = .ok (.ireturn, 1) := by decide +kernel
theorem d_MM_maydayAt_41 : decode c_MM_maydayAt 41 = .ok (.iload_n 2, 1) := by decide +kernel
theorem d_MM_maydayAt_42 : decode c_MM_maydayAt 42 = .ok (.ifCond .ne 20, 3) := by decide +kernel
theorem d_MM_maydayAt_45 : decode c_MM_maydayAt 45 = .ok (.aload_n 0, 1) := by decide +kernel
theorem d_MM_maydayAt_46 : decode c_MM_maydayAt 46 = .ok (.getfield 53, 3) := by decide +kernel
theorem d_MM_maydayAt_49 : decode c_MM_maydayAt 49 = .ok (.iload_n 1, 1) := by decide +kernel
theorem d_MM_maydayAt_50 : decode c_MM_maydayAt 50 = .ok (.baload, 1) := by decide +kernel
theorem d_MM_maydayAt_51 : decode c_MM_maydayAt 51 = .ok (.ifCond .eq 7, 3) := by decide +kernel
theorem d_MM_maydayAt_54 : decode c_MM_maydayAt 54 = .ok (.iconst 1, 1) := by decide +kernel
theorem d_MM_maydayAt_55 : decode c_MM_maydayAt 55 = .ok (.goto 55, 3) := by decide +kernel
theorem d_MM_maydayAt_58 : decode c_MM_maydayAt 58 = .ok (.iconst 0, 1) := by decide +kernel
theorem d_MM_maydayAt_59 : decode c_MM_maydayAt 59 = .ok (.goto 51, 3) := by decide +kernel
theorem d_MM_maydayAt_62 : decode c_MM_maydayAt 62 = .ok (.iload_n 2, 1) := by decide +kernel
theorem d_MM_maydayAt_63 : decode c_MM_maydayAt 63 = .ok (.iconst 1, 1) := by decide +kernel
theorem d_MM_maydayAt_64 : decode c_MM_maydayAt 64 = .ok (.if_icmp .ne 12, 3) := by decide +kernel
theorem d_MM_maydayAt_67 : decode c_MM_maydayAt 67 = .ok (.aload_n 0, 1) := by decide +kernel
theorem d_MM_maydayAt_68 : decode c_MM_maydayAt 68 = .ok (.getfield 56, 3) := by decide +kernel
theorem d_MM_maydayAt_71 : decode c_MM_maydayAt 71 = .ok (.iload_n 1, 1) := by decide +kernel
theorem d_MM_maydayAt_72 : decode c_MM_maydayAt 72 = .ok (.iaload, 1) := by decide +kernel
theorem d_MM_maydayAt_73 : decode c_MM_maydayAt 73 = .ok (.goto 37, 3) := by decide +kernel
theorem d_MM_maydayAt_76 : decode c_MM_maydayAt 76 = .ok (.iload_n 2, 1) := by decide +kernel
theorem d_MM_maydayAt_77 : decode c_MM_maydayAt 77 = .ok (.iconst 2, 1) := by decide +kernel
theorem d_MM_maydayAt_78 : decode c_MM_maydayAt 78 = .ok (.if_icmp .ne 12, 3) := by decide +kernel
theorem d_MM_maydayAt_81 : decode c_MM_maydayAt 81 = .ok (.aload_n 0, 1) := by decide +kernel
theorem d_MM_maydayAt_82 : decode c_MM_maydayAt 82 = .ok (.getfield 59, 3) := by decide +kernel
theorem d_MM_maydayAt_85 : decode c_MM_maydayAt 85 = .ok (.iload_n 1, 1) := by decide +kernel
theorem d_MM_maydayAt_86 : decode c_MM_maydayAt 86 = .ok (.iaload, 1) := by decide +kernel
theorem d_MM_maydayAt_87 : decode c_MM_maydayAt 87 = .ok (.goto 23, 3) := by decide +kernel
theorem d_MM_maydayAt_90 : decode c_MM_maydayAt 90 = .ok (.iload_n 2, 1) := by decide +kernel
theorem d_MM_maydayAt_91 : decode c_MM_maydayAt 91 = .ok (.iconst 3, 1) := by decide +kernel
theorem d_MM_maydayAt_92 : decode c_MM_maydayAt 92 = .ok (.if_icmp .ne 12, 3) := by decide +kernel
theorem d_MM_maydayAt_95 : decode c_MM_maydayAt 95 = .ok (.aload_n 0, 1) := by decide +kernel
theorem d_MM_maydayAt_96 : decode c_MM_maydayAt 96 = .ok (.getfield 62, 3) := by decide +kernel
theorem d_MM_maydayAt_99 : decode c_MM_maydayAt 99 = .ok (.iload_n 1, 1) := by decide +kernel
theorem d_MM_maydayAt_100 : decode c_MM_maydayAt 100 = .ok (.iaload, 1) := by decide +kernel
theorem d_MM_maydayAt_101 : decode c_MM_maydayAt 101 = .ok (.goto 9, 3) := by decide +kernel
theorem d_MM_maydayAt_104 : decode c_MM_maydayAt 104 = .ok (.aload_n 0, 1) := by decide +kernel
theorem d_MM_maydayAt_105 : decode c_MM_maydayAt 105 = .ok (.getfield 65, 3) := by decide +kernel
theorem d_MM_maydayAt_108 : decode c_MM_maydayAt 108 = .ok (.iload_n 1, 1) := by decide +kernel
theorem d_MM_maydayAt_109 : decode c_MM_maydayAt 109 = .ok (.iaload, 1) := by decide +kernel
theorem d_MM_maydayAt_110 : decode c_MM_maydayAt 110 = .ok (.ireturn, 1) := by decide +kernel
theorem d_MM_evacuate_0 : decode c_MM_evacuate 0 = .ok (.iconst 0, 1) := by decide +kernel
theorem d_MM_evacuate_1 : decode c_MM_evacuate 1 = .ok (.istore_n 2, 1) := by decide +kernel
theorem d_MM_evacuate_2 : decode c_MM_evacuate 2 = .ok (.iconst 0, 1) := by decide +kernel
theorem d_MM_evacuate_3 : decode c_MM_evacuate 3 = .ok (.istore_n 3, 1) := by decide +kernel
theorem d_MM_evacuate_4 : decode c_MM_evacuate 4 = .ok (.iload_n 3, 1) := by decide +kernel
theorem d_MM_evacuate_5 : decode c_MM_evacuate 5 = .ok (.bipush 10, 2) := by decide +kernel
theorem d_MM_evacuate_7 : decode c_MM_evacuate 7 = .ok (.if_icmp .ge 27, 3) := by decide +kernel
theorem d_MM_evacuate_10 : decode c_MM_evacuate 10 = .ok (.iload_n 2, 1) := by decide +kernel
theorem d_MM_evacuate_11 : decode c_MM_evacuate 11 = .ok (.ifCond .ne 11, 3) := by decide +kernel
theorem d_MM_evacuate_14 : decode c_MM_evacuate 14 = .ok (.aload_n 0, 1) := by decide +kernel
theorem d_MM_evacuate_15 : decode c_MM_evacuate 15 = .ok (.iload_n 3, 1) := by decide +kernel
theorem d_MM_evacuate_16 : decode c_MM_evacuate 16 = .ok (.invokevirtual 151, 3) := by decide +kernel
theorem d_MM_evacuate_19 : decode c_MM_evacuate 19 = .ok (.ifCond .eq 7, 3) := by decide +kernel
theorem d_MM_evacuate_22 : decode c_MM_evacuate 22 = .ok (.iconst 1, 1) := by decide +kernel
theorem d_MM_evacuate_23 : decode c_MM_evacuate 23 = .ok (.goto 4, 3) := by decide +kernel
theorem d_MM_evacuate_26 : decode c_MM_evacuate 26 = .ok (.iconst 0, 1) := by decide +kernel
theorem d_MM_evacuate_27 : decode c_MM_evacuate 27 = .ok (.istore_n 2, 1) := by decide +kernel
theorem d_MM_evacuate_28 : decode c_MM_evacuate 28 = .ok (.iinc 3 1, 3) := by decide +kernel
theorem d_MM_evacuate_31 : decode c_MM_evacuate 31 = .ok (.goto (-27), 3) := by decide +kernel
theorem d_MM_evacuate_34 : decode c_MM_evacuate 34 = .ok (.aload_n 0, 1) := by decide +kernel
theorem d_MM_evacuate_35 : decode c_MM_evacuate 35 = .ok (.bipush 14, 2) := by decide +kernel
theorem d_MM_evacuate_37 : decode c_MM_evacuate 37 = .ok (.iconst 1, 1) := by decide +kernel
theorem d_MM_evacuate_38 : decode c_MM_evacuate 38 = .ok (.iload_n 1, 1) := by decide +kernel
theorem d_MM_evacuate_39 : decode c_MM_evacuate 39 = .ok (.iconst 1, 1) := by decide +kernel
theorem d_MM_evacuate_40 : decode c_MM_evacuate 40 = .ok (.sipush 10000, 3) := by decide +kernel
theorem d_MM_evacuate_43 : decode c_MM_evacuate 43 = .ok (.invokestatic 81, 3) := by decide +kernel
theorem d_MM_evacuate_46 : decode c_MM_evacuate 46 = .ok (.iload_n 2, 1) := by decide +kernel
theorem d_MM_evacuate_47 : decode c_MM_evacuate 47 = .ok (.ifCond .eq 14, 3) := by decide +kernel
theorem d_MM_evacuate_50 : decode c_MM_evacuate 50 = .ok (.aload_n 0, 1) := by decide +kernel
theorem d_MM_evacuate_51 : decode c_MM_evacuate 51 = .ok (.invokevirtual 154, 3) := by decide +kernel
theorem d_MM_evacuate_54 : decode c_MM_evacuate 54 = .ok (.ifCond .ne 7, 3) := by decide +kernel
theorem d_MM_evacuate_57 : decode c_MM_evacuate 57 = .ok (.iconst 1, 1) := by decide +kernel
theorem d_MM_evacuate_58 : decode c_MM_evacuate 58 = .ok (.goto 4, 3) := by decide +kernel
theorem d_MM_evacuate_61 : decode c_MM_evacuate 61 = .ok (.iconst 0, 1) := by decide +kernel
theorem d_MM_evacuate_62 : decode c_MM_evacuate 62 = .ok (.aload_n 0, 1) := by decide +kernel
theorem d_MM_evacuate_63 : decode c_MM_evacuate 63 = .ok (.getfield 145, 3) := by decide +kernel
theorem d_MM_evacuate_66 : decode c_MM_evacuate 66 = .ok (.bipush 20, 2) := by decide +kernel
theorem d_MM_evacuate_68 : decode c_MM_evacuate 68 = .ok (.if_icmp .ge 7, 3) := by decide +kernel
theorem d_MM_evacuate_71 : decode c_MM_evacuate 71 = .ok (.iconst 1, 1) := by decide +kernel
theorem d_MM_evacuate_72 : decode c_MM_evacuate 72 = .ok (.goto 4, 3) := by decide +kernel
theorem d_MM_evacuate_75 : decode c_MM_evacuate 75 = .ok (.iconst 0, 1) := by decide +kernel
theorem d_MM_evacuate_76 : decode c_MM_evacuate 76 = .ok (.invokevirtual 98, 3) := by decide +kernel
theorem d_MM_evacuate_79 : decode c_MM_evacuate 79 = .ok (.ifCond .ne 5, 3) := by decide +kernel
theorem d_MM_evacuate_82 : decode c_MM_evacuate 82 = .ok (.iconst 0, 1) := by decide +kernel
theorem d_MM_evacuate_83 : decode c_MM_evacuate 83 = .ok (.ireturn, 1) := by decide +kernel
theorem d_MM_evacuate_84 : decode c_MM_evacuate 84 = .ok (.aload_n 0, 1) := by decide +kernel
theorem d_MM_evacuate_85 : decode c_MM_evacuate 85 = .ok (.getfield 68, 3) := by decide +kernel
theorem d_MM_evacuate_88 : decode c_MM_evacuate 88 = .ok (.aload_n 0, 1) := by decide +kernel
theorem d_MM_evacuate_89 : decode c_MM_evacuate 89 = .ok (.getfield 145, 3) := by decide +kernel
theorem d_MM_evacuate_92 : decode c_MM_evacuate 92 = .ok (.aload_n 0, 1) := by decide +kernel
theorem d_MM_evacuate_93 : decode c_MM_evacuate 93 = .ok (.getfield 91, 3) := by decide +kernel
theorem d_MM_evacuate_96 : decode c_MM_evacuate 96 = .ok (.iload_n 1, 1) := by decide +kernel
theorem d_MM_evacuate_97 : decode c_MM_evacuate 97 = .ok (.iadd, 1) := by decide +kernel
theorem d_MM_evacuate_98 : decode c_MM_evacuate 98 = .ok (.iastore, 1) := by decide +kernel
theorem d_MM_evacuate_99 : decode c_MM_evacuate 99 = .ok (.iconst 0, 1) := by decide +kernel
theorem d_MM_evacuate_100 : decode c_MM_evacuate 100 = .ok (.istore_n 3, 1) := by decide +kernel
theorem d_MM_evacuate_101 : decode c_MM_evacuate 101 = .ok (.iload_n 3, 1) := by decide +kernel
theorem d_MM_evacuate_102 : decode c_MM_evacuate 102 = .ok (.bipush 10, 2) := by decide +kernel
theorem d_MM_evacuate_104 : decode c_MM_evacuate 104 = .ok (.if_icmp .ge 37, 3) := by decide +kernel
theorem d_MM_evacuate_107 : decode c_MM_evacuate 107 = .ok (.aload_n 0, 1) := by decide +kernel
theorem d_MM_evacuate_108 : decode c_MM_evacuate 108 = .ok (.getfield 71, 3) := by decide +kernel
theorem d_MM_evacuate_111 : decode c_MM_evacuate 111 = .ok (.aload_n 0, 1) := by decide +kernel
theorem d_MM_evacuate_112 : decode c_MM_evacuate 112 = .ok (.getfield 145, 3) := by decide +kernel
theorem d_MM_evacuate_115 : decode c_MM_evacuate 115 = .ok (.bipush 10, 2) := by decide +kernel
theorem d_MM_evacuate_117 : decode c_MM_evacuate 117 = .ok (.imul, 1) := by decide +kernel
theorem d_MM_evacuate_118 : decode c_MM_evacuate 118 = .ok (.iload_n 3, 1) := by decide +kernel
theorem d_MM_evacuate_119 : decode c_MM_evacuate 119 = .ok (.iadd, 1) := by decide +kernel
theorem d_MM_evacuate_120 : decode c_MM_evacuate 120 = .ok (.aload_n 0, 1) := by decide +kernel
theorem d_MM_evacuate_121 : decode c_MM_evacuate 121 = .ok (.iload_n 3, 1) := by decide +kernel
theorem d_MM_evacuate_122 : decode c_MM_evacuate 122 = .ok (.invokevirtual 151, 3) := by decide +kernel
theorem d_MM_evacuate_125 : decode c_MM_evacuate 125 = .ok (.ifCond .eq 7, 3) := by decide +kernel
theorem d_MM_evacuate_128 : decode c_MM_evacuate 128 = .ok (.iconst (-1), 1) := by decide +kernel
theorem d_MM_evacuate_129 : decode c_MM_evacuate 129 = .ok (.goto 5, 3) := by decide +kernel
theorem d_MM_evacuate_132 : decode c_MM_evacuate 132 = .ok (.bipush (-2), 2) := by decide +kernel
theorem d_MM_evacuate_134 : decode c_MM_evacuate 134 = .ok (.iastore, 1) := by decide +kernel
theorem d_MM_evacuate_135 : decode c_MM_evacuate 135 = .ok (.iinc 3 1, 3) := by decide +kernel
theorem d_MM_evacuate_138 : decode c_MM_evacuate 138 = .ok (.goto (-37), 3) := by decide +kernel
theorem d_MM_evacuate_141 : decode c_MM_evacuate 141 = .ok (.aload_n 0, 1) := by decide +kernel
theorem d_MM_evacuate_142 : decode c_MM_evacuate 142 = .ok (.dup, 1) := by decide +kernel
theorem d_MM_evacuate_143 : decode c_MM_evacuate 143 = .ok (.getfield 145, 3) := by decide +kernel
theorem d_MM_evacuate_146 : decode c_MM_evacuate 146 = .ok (.iconst 1, 1) := by decide +kernel
theorem d_MM_evacuate_147 : decode c_MM_evacuate 147 = .ok (.iadd, 1) := by decide +kernel
theorem d_MM_evacuate_148 : decode c_MM_evacuate 148 = .ok (.putfield 145, 3) := by decide +kernel
theorem d_MM_evacuate_151 : decode c_MM_evacuate 151 = .ok (.aload_n 0, 1) := by decide +kernel
theorem d_MM_evacuate_152 : decode c_MM_evacuate 152 = .ok (.getfield 145, 3) := by decide +kernel
theorem d_MM_evacuate_155 : decode c_MM_evacuate 155 = .ok (.iconst 1, 1) := by decide +kernel
theorem d_MM_evacuate_156 : decode c_MM_evacuate 156 = .ok (.isub, 1) := by decide +kernel
theorem d_MM_evacuate_157 : decode c_MM_evacuate 157 = .ok (.ireturn, 1) := by decide +kernel
theorem d_MM_isFull_0 : decode c_MM_isFull 0 = .ok (.iconst 0, 1) := by decide +kernel
theorem d_MM_isFull_1 : decode c_MM_isFull 1 = .ok (.istore_n 2, 1) := by decide +kernel
theorem d_MM_isFull_2 : decode c_MM_isFull 2 = .ok (.iload_n 2, 1) := by decide +kernel
theorem d_MM_isFull_3 : decode c_MM_isFull 3 = .ok (.aload_n 0, 1) := by decide +kernel
theorem d_MM_isFull_4 : decode c_MM_isFull 4 = .ok (.getfield 78, 3) := by decide +kernel
theorem d_MM_isFull_7 : decode c_MM_isFull 7 = .ok (.if_icmp .ge 20, 3) := by decide +kernel
theorem d_MM_isFull_10 : decode c_MM_isFull 10 = .ok (.aload_n 0, 1) := by decide +kernel
theorem d_MM_isFull_11 : decode c_MM_isFull 11 = .ok (.iload_n 2, 1) := by decide +kernel
theorem d_MM_isFull_12 : decode c_MM_isFull 12 = .ok (.invokevirtual 109, 3) := by decide +kernel
theorem d_MM_isFull_15 : decode c_MM_isFull 15 = .ok (.iload_n 1, 1) := by decide +kernel
theorem d_MM_isFull_16 : decode c_MM_isFull 16 = .ok (.if_icmp .ne 5, 3) := by decide +kernel
theorem d_MM_isFull_19 : decode c_MM_isFull 19 = .ok (.iconst 1, 1) := by decide +kernel
theorem d_MM_isFull_20 : decode c_MM_isFull 20 = .ok (.ireturn, 1) := by decide +kernel
theorem d_MM_isFull_21 : decode c_MM_isFull 21 = .ok (.iinc 2 1, 3) := by decide +kernel
theorem d_MM_isFull_24 : decode c_MM_isFull 24 = .ok (.goto (-22), 3) := by decide +kernel
theorem d_MM_isFull_27 : decode c_MM_isFull 27 = .ok (.aload_n 0, 1) := by decide +kernel
theorem d_MM_isFull_28 : decode c_MM_isFull 28 = .ok (.getfield 7, 3) := by decide +kernel
theorem d_MM_isFull_31 : decode c_MM_isFull 31 = .ok (.iload_n 1, 1) := by decide +kernel
theorem d_MM_isFull_32 : decode c_MM_isFull 32 = .ok (.iaload, 1) := by decide +kernel
theorem d_MM_isFull_33 : decode c_MM_isFull 33 = .ok (.ifCond .le 7, 3) := by decide +kernel
theorem d_MM_isFull_36 : decode c_MM_isFull 36 = .ok (.iconst 1, 1) := by decide +kernel
theorem d_MM_isFull_37 : decode c_MM_isFull 37 = .ok (.goto 4, 3) := by decide +kernel
theorem d_MM_isFull_40 : decode c_MM_isFull 40 = .ok (.iconst 0, 1) := by decide +kernel
theorem d_MM_isFull_41 : decode c_MM_isFull 41 = .ok (.ireturn, 1) := by decide +kernel
theorem d_MM_isOn_0 : decode c_MM_isOn 0 = .ok (.aload_n 0, 1) := by decide +kernel
theorem d_MM_isOn_1 : decode c_MM_isOn 1 = .ok (.getfield 145, 3) := by decide +kernel
theorem d_MM_isOn_4 : decode c_MM_isOn 4 = .ok (.ifCond .le 20, 3) := by decide +kernel
theorem d_MM_isOn_7 : decode c_MM_isOn 7 = .ok (.aload_n 0, 1) := by decide +kernel
theorem d_MM_isOn_8 : decode c_MM_isOn 8 = .ok (.aload_n 0, 1) := by decide +kernel
theorem d_MM_isOn_9 : decode c_MM_isOn 9 = .ok (.getfield 145, 3) := by decide +kernel
theorem d_MM_isOn_12 : decode c_MM_isOn 12 = .ok (.iconst 1, 1) := by decide +kernel
theorem d_MM_isOn_13 : decode c_MM_isOn 13 = .ok (.isub, 1) := by decide +kernel
theorem d_MM_isOn_14 : decode c_MM_isOn 14 = .ok (.invokevirtual 148, 3) := by decide +kernel
theorem d_MM_isOn_17 : decode c_MM_isOn 17 = .ok (.ifCond .le 7, 3) := by decide +kernel
theorem d_MM_isOn_20 : decode c_MM_isOn 20 = .ok (.iconst 1, 1) := by decide +kernel
theorem d_MM_isOn_21 : decode c_MM_isOn 21 = .ok (.goto 4, 3) := by decide +kernel
theorem d_MM_isOn_24 : decode c_MM_isOn 24 = .ok (.iconst 0, 1) := by decide +kernel
theorem d_MM_isOn_25 : decode c_MM_isOn 25 = .ok (.ireturn, 1) := by decide +kernel
theorem d_MM_left_0 : decode c_MM_left 0 = .ok (.iconst 0, 1) := by decide +kernel
theorem d_MM_left_1 : decode c_MM_left 1 = .ok (.istore_n 2, 1) := by decide +kernel
theorem d_MM_left_2 : decode c_MM_left 2 = .ok (.iconst 0, 1) := by decide +kernel
theorem d_MM_left_3 : decode c_MM_left 3 = .ok (.istore_n 3, 1) := by decide +kernel
theorem d_MM_left_4 : decode c_MM_left 4 = .ok (.iload_n 3, 1) := by decide +kernel
theorem d_MM_left_5 : decode c_MM_left 5 = .ok (.bipush 10, 2) := by decide +kernel
theorem d_MM_left_7 : decode c_MM_left 7 = .ok (.if_icmp .ge 27, 3) := by decide +kernel
theorem d_MM_left_10 : decode c_MM_left 10 = .ok (.aload_n 0, 1) := by decide +kernel
theorem d_MM_left_11 : decode c_MM_left 11 = .ok (.getfield 71, 3) := by decide +kernel
theorem d_MM_left_14 : decode c_MM_left 14 = .ok (.iload_n 1, 1) := by decide +kernel
theorem d_MM_left_15 : decode c_MM_left 15 = .ok (.bipush 10, 2) := by decide +kernel
theorem d_MM_left_17 : decode c_MM_left 17 = .ok (.imul, 1) := by decide +kernel
theorem d_MM_left_18 : decode c_MM_left 18 = .ok (.iload_n 3, 1) := by decide +kernel
theorem d_MM_left_19 : decode c_MM_left 19 = .ok (.iadd, 1) := by decide +kernel
theorem d_MM_left_20 : decode c_MM_left 20 = .ok (.iaload, 1) := by decide +kernel
theorem d_MM_left_21 : decode c_MM_left 21 = .ok (.iconst (-1), 1) := by decide +kernel
theorem d_MM_left_22 : decode c_MM_left 22 = .ok (.if_icmp .ne 6, 3) := by decide +kernel
theorem d_MM_left_25 : decode c_MM_left 25 = .ok (.iinc 2 1, 3) := by decide +kernel
theorem d_MM_left_28 : decode c_MM_left 28 = .ok (.iinc 3 1, 3) := by decide +kernel
theorem d_MM_left_31 : decode c_MM_left 31 = .ok (.goto (-27), 3) := by decide +kernel
theorem d_MM_left_34 : decode c_MM_left 34 = .ok (.iload_n 2, 1) := by decide +kernel
theorem d_MM_left_35 : decode c_MM_left 35 = .ok (.ireturn, 1) := by decide +kernel
theorem d_MM_confirm_0 : decode c_MM_confirm 0 = .ok (.iload_n 1, 1) := by decide +kernel
theorem d_MM_confirm_1 : decode c_MM_confirm 1 = .ok (.invokestatic 106, 3) := by decide +kernel
theorem d_MM_confirm_4 : decode c_MM_confirm 4 = .ok (.ifCond .eq 56, 3) := by decide +kernel
theorem d_MM_confirm_7 : decode c_MM_confirm 7 = .ok (.aload_n 0, 1) := by decide +kernel
theorem d_MM_confirm_8 : decode c_MM_confirm 8 = .ok (.invokevirtual 154, 3) := by decide +kernel
theorem d_MM_confirm_11 : decode c_MM_confirm 11 = .ok (.ifCond .eq 49, 3) := by decide +kernel
theorem d_MM_confirm_14 : decode c_MM_confirm 14 = .ok (.aload_n 0, 1) := by decide +kernel
theorem d_MM_confirm_15 : decode c_MM_confirm 15 = .ok (.getfield 71, 3) := by decide +kernel
theorem d_MM_confirm_18 : decode c_MM_confirm 18 = .ok (.aload_n 0, 1) := by decide +kernel
theorem d_MM_confirm_19 : decode c_MM_confirm 19 = .ok (.getfield 145, 3) := by decide +kernel
theorem d_MM_confirm_22 : decode c_MM_confirm 22 = .ok (.ifCond .le 12, 3) := by decide +kernel
theorem d_MM_confirm_25 : decode c_MM_confirm 25 = .ok (.aload_n 0, 1) := by decide +kernel
theorem d_MM_confirm_26 : decode c_MM_confirm 26 = .ok (.getfield 145, 3) := by decide +kernel
theorem d_MM_confirm_29 : decode c_MM_confirm 29 = .ok (.iconst 1, 1) := by decide +kernel
theorem d_MM_confirm_30 : decode c_MM_confirm 30 = .ok (.isub, 1) := by decide +kernel
theorem d_MM_confirm_31 : decode c_MM_confirm 31 = .ok (.goto 4, 3) := by decide +kernel
theorem d_MM_confirm_34 : decode c_MM_confirm 34 = .ok (.iconst 0, 1) := by decide +kernel
theorem d_MM_confirm_35 : decode c_MM_confirm 35 = .ok (.bipush 10, 2) := by decide +kernel
theorem d_MM_confirm_37 : decode c_MM_confirm 37 = .ok (.imul, 1) := by decide +kernel
theorem d_MM_confirm_38 : decode c_MM_confirm 38 = .ok (.iload_n 1, 1) := by decide +kernel
theorem d_MM_confirm_39 : decode c_MM_confirm 39 = .ok (.invokestatic 106, 3) := by decide +kernel
theorem d_MM_confirm_42 : decode c_MM_confirm 42 = .ok (.ifCond .eq 7, 3) := by decide +kernel
theorem d_MM_confirm_45 : decode c_MM_confirm 45 = .ok (.iload_n 1, 1) := by decide +kernel
theorem d_MM_confirm_46 : decode c_MM_confirm 46 = .ok (.goto 4, 3) := by decide +kernel
theorem d_MM_confirm_49 : decode c_MM_confirm 49 = .ok (.iconst 0, 1) := by decide +kernel
theorem d_MM_confirm_50 : decode c_MM_confirm 50 = .ok (.iadd, 1) := by decide +kernel
theorem d_MM_confirm_51 : decode c_MM_confirm 51 = .ok (.iaload, 1) := by decide +kernel
theorem d_MM_confirm_52 : decode c_MM_confirm 52 = .ok (.iconst (-1), 1) := by decide +kernel
theorem d_MM_confirm_53 : decode c_MM_confirm 53 = .ok (.if_icmp .ne 7, 3) := by decide +kernel
theorem d_MM_confirm_56 : decode c_MM_confirm 56 = .ok (.iconst 1, 1) := by decide +kernel
theorem d_MM_confirm_57 : decode c_MM_confirm 57 = .ok (.goto 4, 3) := by decide +kernel
theorem d_MM_confirm_60 : decode c_MM_confirm 60 = .ok (.iconst 0, 1) := by decide +kernel
theorem d_MM_confirm_61 : decode c_MM_confirm 61 = .ok (.istore_n 2, 1) := by decide +kernel
theorem d_MM_confirm_62 : decode c_MM_confirm 62 = .ok (.aload_n 0, 1) := by decide +kernel
theorem d_MM_confirm_63 : decode c_MM_confirm 63 = .ok (.iconst 5, 1) := by decide +kernel
theorem d_MM_confirm_64 : decode c_MM_confirm 64 = .ok (.iload_n 1, 1) := by decide +kernel
theorem d_MM_confirm_65 : decode c_MM_confirm 65 = .ok (.invokestatic 106, 3) := by decide +kernel
theorem d_MM_confirm_68 : decode c_MM_confirm 68 = .ok (.iconst 1, 1) := by decide +kernel
theorem d_MM_confirm_69 : decode c_MM_confirm 69 = .ok (.iload_n 2, 1) := by decide +kernel
theorem d_MM_confirm_70 : decode c_MM_confirm 70 = .ok (.iconst 1, 1) := by decide +kernel
theorem d_MM_confirm_71 : decode c_MM_confirm 71 = .ok (.invokevirtual 98, 3) := by decide +kernel
theorem d_MM_confirm_74 : decode c_MM_confirm 74 = .ok (.ifCond .ne 5, 3) := by decide +kernel
theorem d_MM_confirm_77 : decode c_MM_confirm 77 = .ok (.iconst 0, 1) := by decide +kernel
theorem d_MM_confirm_78 : decode c_MM_confirm 78 = .ok (.ireturn, 1) := by decide +kernel
theorem d_MM_confirm_79 : decode c_MM_confirm 79 = .ok (.aload_n 0, 1) := by decide +kernel
theorem d_MM_confirm_80 : decode c_MM_confirm 80 = .ok (.getfield 71, 3) := by decide +kernel
theorem d_MM_confirm_83 : decode c_MM_confirm 83 = .ok (.aload_n 0, 1) := by decide +kernel
theorem d_MM_confirm_84 : decode c_MM_confirm 84 = .ok (.getfield 145, 3) := by decide +kernel
theorem d_MM_confirm_87 : decode c_MM_confirm 87 = .ok (.iconst 1, 1) := by decide +kernel
theorem d_MM_confirm_88 : decode c_MM_confirm 88 = .ok (.isub, 1) := by decide +kernel
theorem d_MM_confirm_89 : decode c_MM_confirm 89 = .ok (.bipush 10, 2) := by decide +kernel
theorem d_MM_confirm_91 : decode c_MM_confirm 91 = .ok (.imul, 1) := by decide +kernel
theorem d_MM_confirm_92 : decode c_MM_confirm 92 = .ok (.iload_n 1, 1) := by decide +kernel
theorem d_MM_confirm_93 : decode c_MM_confirm 93 = .ok (.iadd, 1) := by decide +kernel
theorem d_MM_confirm_94 : decode c_MM_confirm 94 = .ok (.aload_n 0, 1) := by decide +kernel
theorem d_MM_confirm_95 : decode c_MM_confirm 95 = .ok (.getfield 91, 3) := by decide +kernel
theorem d_MM_confirm_98 : decode c_MM_confirm 98 = .ok (.iastore, 1) := by decide +kernel
theorem d_MM_confirm_99 : decode c_MM_confirm 99 = .ok (.aload_n 0, 1) := by decide +kernel
theorem d_MM_confirm_100 : decode c_MM_confirm 100 = .ok (.aload_n 0, 1) := by decide +kernel
theorem d_MM_confirm_101 : decode c_MM_confirm 101 = .ok (.getfield 145, 3) := by decide +kernel
theorem d_MM_confirm_104 : decode c_MM_confirm 104 = .ok (.iconst 1, 1) := by decide +kernel
theorem d_MM_confirm_105 : decode c_MM_confirm 105 = .ok (.isub, 1) := by decide +kernel
theorem d_MM_confirm_106 : decode c_MM_confirm 106 = .ok (.invokevirtual 148, 3) := by decide +kernel
theorem d_MM_confirm_109 : decode c_MM_confirm 109 = .ok (.ireturn, 1) := by decide +kernel
theorem d_MM_late_0 : decode c_MM_late 0 = .ok (.aload_n 0, 1) := by decide +kernel
theorem d_MM_late_1 : decode c_MM_late 1 = .ok (.iconst 3, 1) := by decide +kernel
theorem d_MM_late_2 : decode c_MM_late 2 = .ok (.iload_n 1, 1) := by decide +kernel
theorem d_MM_late_3 : decode c_MM_late 3 = .ok (.iconst 0, 1) := by decide +kernel
theorem d_MM_late_4 : decode c_MM_late 4 = .ok (.aload_n 0, 1) := by decide +kernel
theorem d_MM_late_5 : decode c_MM_late 5 = .ok (.getfield 145, 3) := by decide +kernel
theorem d_MM_late_8 : decode c_MM_late 8 = .ok (.iconst 1, 1) := by decide +kernel
theorem d_MM_late_9 : decode c_MM_late 9 = .ok (.isub, 1) := by decide +kernel
theorem d_MM_late_10 : decode c_MM_late 10 = .ok (.invokestatic 81, 3) := by decide +kernel
theorem d_MM_late_13 : decode c_MM_late 13 = .ok (.iload_n 2, 1) := by decide +kernel
theorem d_MM_late_14 : decode c_MM_late 14 = .ok (.ifCond .lt 7, 3) := by decide +kernel
theorem d_MM_late_17 : decode c_MM_late 17 = .ok (.iconst 1, 1) := by decide +kernel
theorem d_MM_late_18 : decode c_MM_late 18 = .ok (.goto 4, 3) := by decide +kernel
theorem d_MM_late_21 : decode c_MM_late 21 = .ok (.iconst 0, 1) := by decide +kernel
theorem d_MM_late_22 : decode c_MM_late 22 = .ok (.iconst 1, 1) := by decide +kernel
theorem d_MM_late_23 : decode c_MM_late 23 = .ok (.iconst 1, 1) := by decide +kernel
theorem d_MM_late_24 : decode c_MM_late 24 = .ok (.invokevirtual 98, 3) := by decide +kernel
theorem d_MM_late_27 : decode c_MM_late 27 = .ok (.ifCond .ne 5, 3) := by decide +kernel
theorem d_MM_late_30 : decode c_MM_late 30 = .ok (.iconst 0, 1) := by decide +kernel
theorem d_MM_late_31 : decode c_MM_late 31 = .ok (.ireturn, 1) := by decide +kernel
theorem d_MM_late_32 : decode c_MM_late 32 = .ok (.iload_n 2, 1) := by decide +kernel
theorem d_MM_late_33 : decode c_MM_late 33 = .ok (.istore_n 3, 1) := by decide +kernel
theorem d_MM_late_34 : decode c_MM_late 34 = .ok (.iconst 0, 1) := by decide +kernel
theorem d_MM_late_35 : decode c_MM_late 35 = .ok (.istore 4, 2) := by decide +kernel
theorem d_MM_late_37 : decode c_MM_late 37 = .ok (.iload 4, 2) := by decide +kernel
theorem d_MM_late_39 : decode c_MM_late 39 = .ok (.bipush 10, 2) := by decide +kernel
theorem d_MM_late_41 : decode c_MM_late 41 = .ok (.if_icmp .ge 32, 3) := by decide +kernel
theorem d_MM_late_44 : decode c_MM_late 44 = .ok (.aload_n 0, 1) := by decide +kernel
theorem d_MM_late_45 : decode c_MM_late 45 = .ok (.iload_n 1, 1) := by decide +kernel
theorem d_MM_late_46 : decode c_MM_late 46 = .ok (.iload 4, 2) := by decide +kernel
theorem d_MM_late_48 : decode c_MM_late 48 = .ok (.invokevirtual 158, 3) := by decide +kernel
theorem d_MM_late_51 : decode c_MM_late 51 = .ok (.ifCond .ne 6, 3) := by decide +kernel
theorem d_MM_late_54 : decode c_MM_late 54 = .ok (.goto 13, 3) := by decide +kernel
theorem d_MM_late_57 : decode c_MM_late 57 = .ok (.iload_n 3, 1) := by decide +kernel
theorem d_MM_late_58 : decode c_MM_late 58 = .ok (.ifCond .ne 6, 3) := by decide +kernel
theorem d_MM_late_61 : decode c_MM_late 61 = .ok (.iload 4, 2) := by decide +kernel
theorem d_MM_late_63 : decode c_MM_late 63 = .ok (.ireturn, 1) := by decide +kernel
theorem d_MM_late_64 : decode c_MM_late 64 = .ok (.iinc 3 (-1), 3) := by decide +kernel
theorem d_MM_late_67 : decode c_MM_late 67 = .ok (.iinc 4 1, 3) := by decide +kernel
theorem d_MM_late_70 : decode c_MM_late 70 = .ok (.goto (-33), 3) := by decide +kernel
theorem d_MM_late_73 : decode c_MM_late 73 = .ok (.iconst (-1), 1) := by decide +kernel
theorem d_MM_late_74 : decode c_MM_late 74 = .ok (.ireturn, 1) := by decide +kernel
theorem d_MM_isLate_0 : decode c_MM_isLate 0 = .ok (.aload_n 0, 1) := by decide +kernel
theorem d_MM_isLate_1 : decode c_MM_isLate 1 = .ok (.getfield 71, 3) := by decide +kernel
theorem d_MM_isLate_4 : decode c_MM_isLate 4 = .ok (.iload_n 1, 1) := by decide +kernel
theorem d_MM_isLate_5 : decode c_MM_isLate 5 = .ok (.bipush 10, 2) := by decide +kernel
theorem d_MM_isLate_7 : decode c_MM_isLate 7 = .ok (.imul, 1) := by decide +kernel
theorem d_MM_isLate_8 : decode c_MM_isLate 8 = .ok (.iload_n 2, 1) := by decide +kernel
theorem d_MM_isLate_9 : decode c_MM_isLate 9 = .ok (.iadd, 1) := by decide +kernel
theorem d_MM_isLate_10 : decode c_MM_isLate 10 = .ok (.iaload, 1) := by decide +kernel
theorem d_MM_isLate_11 : decode c_MM_isLate 11 = .ok (.istore_n 3, 1) := by decide +kernel
theorem d_MM_isLate_12 : decode c_MM_isLate 12 = .ok (.iload_n 3, 1) := by decide +kernel
theorem d_MM_isLate_13 : decode c_MM_isLate 13 = .ok (.iconst (-1), 1) := by decide +kernel
theorem d_MM_isLate_14 : decode c_MM_isLate 14 = .ok (.if_icmp .ne 24, 3) := by decide +kernel
theorem d_MM_isLate_17 : decode c_MM_isLate 17 = .ok (.aload_n 0, 1) := by decide +kernel
theorem d_MM_isLate_18 : decode c_MM_isLate 18 = .ok (.getfield 91, 3) := by decide +kernel
theorem d_MM_isLate_21 : decode c_MM_isLate 21 = .ok (.aload_n 0, 1) := by decide +kernel
theorem d_MM_isLate_22 : decode c_MM_isLate 22 = .ok (.getfield 68, 3) := by decide +kernel
theorem d_MM_isLate_25 : decode c_MM_isLate 25 = .ok (.iload_n 1, 1) := by decide +kernel
theorem d_MM_isLate_26 : decode c_MM_isLate 26 = .ok (.iaload, 1) := by decide +kernel
theorem d_MM_isLate_27 : decode c_MM_isLate 27 = .ok (.if_icmp .le 7, 3) := by decide +kernel
theorem d_MM_isLate_30 : decode c_MM_isLate 30 = .ok (.iconst 1, 1) := by decide +kernel
theorem d_MM_isLate_31 : decode c_MM_isLate 31 = .ok (.goto 22, 3) := by decide +kernel
theorem d_MM_isLate_34 : decode c_MM_isLate 34 = .ok (.iconst 0, 1) := by decide +kernel
theorem d_MM_isLate_35 : decode c_MM_isLate 35 = .ok (.goto 18, 3) := by decide +kernel
theorem d_MM_isLate_38 : decode c_MM_isLate 38 = .ok (.iload_n 3, 1) := by decide +kernel
theorem d_MM_isLate_39 : decode c_MM_isLate 39 = .ok (.aload_n 0, 1) := by decide +kernel
theorem d_MM_isLate_40 : decode c_MM_isLate 40 = .ok (.getfield 68, 3) := by decide +kernel
theorem d_MM_isLate_43 : decode c_MM_isLate 43 = .ok (.iload_n 1, 1) := by decide +kernel
theorem d_MM_isLate_44 : decode c_MM_isLate 44 = .ok (.iaload, 1) := by decide +kernel
theorem d_MM_isLate_45 : decode c_MM_isLate 45 = .ok (.if_icmp .le 7, 3) := by decide +kernel
theorem d_MM_isLate_48 : decode c_MM_isLate 48 = .ok (.iconst 1, 1) := by decide +kernel
theorem d_MM_isLate_49 : decode c_MM_isLate 49 = .ok (.goto 4, 3) := by decide +kernel
theorem d_MM_isLate_52 : decode c_MM_isLate 52 = .ok (.iconst 0, 1) := by decide +kernel
theorem d_MM_isLate_53 : decode c_MM_isLate 53 = .ok (.ireturn, 1) := by decide +kernel
theorem d_MM_tick_0 : decode c_MM_tick 0 = .ok (.aload_n 0, 1) := by decide +kernel
theorem d_MM_tick_1 : decode c_MM_tick 1 = .ok (.iconst 2, 1) := by decide +kernel
theorem d_MM_tick_2 : decode c_MM_tick 2 = .ok (.iconst 1, 1) := by decide +kernel
theorem d_MM_tick_3 : decode c_MM_tick 3 = .ok (.iload_n 1, 1) := by decide +kernel
theorem d_MM_tick_4 : decode c_MM_tick 4 = .ok (.iconst 1, 1) := by decide +kernel
theorem d_MM_tick_5 : decode c_MM_tick 5 = .ok (.sipush 5000, 3) := by decide +kernel
theorem d_MM_tick_8 : decode c_MM_tick 8 = .ok (.invokestatic 81, 3) := by decide +kernel
theorem d_MM_tick_11 : decode c_MM_tick 11 = .ok (.ifCond .eq 18, 3) := by decide +kernel
theorem d_MM_tick_14 : decode c_MM_tick 14 = .ok (.iload_n 1, 1) := by decide +kernel
theorem d_MM_tick_15 : decode c_MM_tick 15 = .ok (.ldc 161, 2) := by decide +kernel
theorem d_MM_tick_17 : decode c_MM_tick 17 = .ok (.aload_n 0, 1) := by decide +kernel
theorem d_MM_tick_18 : decode c_MM_tick 18 = .ok (.getfield 91, 3) := by decide +kernel
theorem d_MM_tick_21 : decode c_MM_tick 21 = .ok (.isub, 1) := by decide +kernel
theorem d_MM_tick_22 : decode c_MM_tick 22 = .ok (.if_icmp .gt 7, 3) := by decide +kernel
theorem d_MM_tick_25 : decode c_MM_tick 25 = .ok (.iconst 1, 1) := by decide +kernel
theorem d_MM_tick_26 : decode c_MM_tick 26 = .ok (.goto 4, 3) := by decide +kernel
theorem d_MM_tick_29 : decode c_MM_tick 29 = .ok (.iconst 0, 1) := by decide +kernel
theorem d_MM_tick_30 : decode c_MM_tick 30 = .ok (.iconst 1, 1) := by decide +kernel
theorem d_MM_tick_31 : decode c_MM_tick 31 = .ok (.iconst 1, 1) := by decide +kernel
theorem d_MM_tick_32 : decode c_MM_tick 32 = .ok (.invokevirtual 98, 3) := by decide +kernel
theorem d_MM_tick_35 : decode c_MM_tick 35 = .ok (.ifCond .ne 5, 3) := by decide +kernel
theorem d_MM_tick_38 : decode c_MM_tick 38 = .ok (.iconst 0, 1) := by decide +kernel
theorem d_MM_tick_39 : decode c_MM_tick 39 = .ok (.ireturn, 1) := by decide +kernel
theorem d_MM_tick_40 : decode c_MM_tick 40 = .ok (.aload_n 0, 1) := by decide +kernel
theorem d_MM_tick_41 : decode c_MM_tick 41 = .ok (.getfield 145, 3) := by decide +kernel
theorem d_MM_tick_44 : decode c_MM_tick 44 = .ok (.iconst 1, 1) := by decide +kernel
theorem d_MM_tick_45 : decode c_MM_tick 45 = .ok (.isub, 1) := by decide +kernel
theorem d_MM_tick_46 : decode c_MM_tick 46 = .ok (.istore_n 2, 1) := by decide +kernel
theorem d_MM_tick_47 : decode c_MM_tick 47 = .ok (.iload_n 2, 1) := by decide +kernel
theorem d_MM_tick_48 : decode c_MM_tick 48 = .ok (.ifCond .lt 20, 3) := by decide +kernel
theorem d_MM_tick_51 : decode c_MM_tick 51 = .ok (.aload_n 0, 1) := by decide +kernel
theorem d_MM_tick_52 : decode c_MM_tick 52 = .ok (.getfield 91, 3) := by decide +kernel
theorem d_MM_tick_55 : decode c_MM_tick 55 = .ok (.aload_n 0, 1) := by decide +kernel
theorem d_MM_tick_56 : decode c_MM_tick 56 = .ok (.getfield 68, 3) := by decide +kernel
theorem d_MM_tick_59 : decode c_MM_tick 59 = .ok (.iload_n 2, 1) := by decide +kernel
theorem d_MM_tick_60 : decode c_MM_tick 60 = .ok (.iaload, 1) := by decide +kernel
theorem d_MM_tick_61 : decode c_MM_tick 61 = .ok (.if_icmp .le 7, 3) := by decide +kernel
theorem d_MM_tick_64 : decode c_MM_tick 64 = .ok (.iconst 1, 1) := by decide +kernel
theorem d_MM_tick_65 : decode c_MM_tick 65 = .ok (.goto 4, 3) := by decide +kernel
theorem d_MM_tick_68 : decode c_MM_tick 68 = .ok (.iconst 0, 1) := by decide +kernel
theorem d_MM_tick_69 : decode c_MM_tick 69 = .ok (.istore_n 3, 1) := by decide +kernel
theorem d_MM_tick_70 : decode c_MM_tick 70 = .ok (.aload_n 0, 1) := by decide +kernel
theorem d_MM_tick_71 : decode c_MM_tick 71 = .ok (.aload_n 0, 1) := by decide +kernel
theorem d_MM_tick_72 : decode c_MM_tick 72 = .ok (.getfield 91, 3) := by decide +kernel
theorem d_MM_tick_75 : decode c_MM_tick 75 = .ok (.iload_n 1, 1) := by decide +kernel
theorem d_MM_tick_76 : decode c_MM_tick 76 = .ok (.iadd, 1) := by decide +kernel
theorem d_MM_tick_77 : decode c_MM_tick 77 = .ok (.putfield 91, 3) := by decide +kernel
theorem d_MM_tick_80 : decode c_MM_tick 80 = .ok (.iload_n 2, 1) := by decide +kernel
theorem d_MM_tick_81 : decode c_MM_tick 81 = .ok (.ifCond .lt 28, 3) := by decide +kernel
theorem d_MM_tick_84 : decode c_MM_tick 84 = .ok (.iload_n 3, 1) := by decide +kernel
theorem d_MM_tick_85 : decode c_MM_tick 85 = .ok (.ifCond .ne 24, 3) := by decide +kernel
theorem d_MM_tick_88 : decode c_MM_tick 88 = .ok (.aload_n 0, 1) := by decide +kernel
theorem d_MM_tick_89 : decode c_MM_tick 89 = .ok (.getfield 91, 3) := by decide +kernel
theorem d_MM_tick_92 : decode c_MM_tick 92 = .ok (.aload_n 0, 1) := by decide +kernel
theorem d_MM_tick_93 : decode c_MM_tick 93 = .ok (.getfield 68, 3) := by decide +kernel
theorem d_MM_tick_96 : decode c_MM_tick 96 = .ok (.iload_n 2, 1) := by decide +kernel
theorem d_MM_tick_97 : decode c_MM_tick 97 = .ok (.iaload, 1) := by decide +kernel
theorem d_MM_tick_98 : decode c_MM_tick 98 = .ok (.if_icmp .le 11, 3) := by decide +kernel
theorem d_MM_tick_101 : decode c_MM_tick 101 = .ok (.aload_n 0, 1) := by decide +kernel
theorem d_MM_tick_102 : decode c_MM_tick 102 = .ok (.iload_n 2, 1) := by decide +kernel
theorem d_MM_tick_103 : decode c_MM_tick 103 = .ok (.invokevirtual 148, 3) := by decide +kernel
theorem d_MM_tick_106 : decode c_MM_tick 106 = .ok (.goto 4, 3) := by decide +kernel
theorem d_MM_tick_109 : decode c_MM_tick 109 = .ok (.iconst 0, 1) := by decide +kernel
theorem d_MM_tick_110 : decode c_MM_tick 110 = .ok (.ireturn, 1) := by decide +kernel
end
section
theorem d_MM_was_0 : decode c_MM_was 0 = .ok (.aload_n 0, 1) := by decide +kernel
theorem d_MM_was_1 : decode c_MM_was 1 = .ok (.iconst 3, 1) := by decide +kernel
theorem d_MM_was_2 : decode c_MM_was 2 = .ok (.aload_n 0, 1) := by decide +kernel
theorem d_MM_was_3 : decode c_MM_was 3 = .ok (.iload_n 1, 1) := by decide +kernel
theorem d_MM_was_4 : decode c_MM_was 4 = .ok (.invokevirtual 102, 3) := by decide +kernel
theorem d_MM_was_7 : decode c_MM_was 7 = .ok (.iload_n 2, 1) := by decide +kernel
theorem d_MM_was_8 : decode c_MM_was 8 = .ok (.iconst 0, 1) := by decide +kernel
theorem d_MM_was_9 : decode c_MM_was 9 = .ok (.aload_n 0, 1) := by decide +kernel
theorem d_MM_was_10 : decode c_MM_was 10 = .ok (.getfield 91, 3) := by decide +kernel
theorem d_MM_was_13 : decode c_MM_was 13 = .ok (.invokestatic 81, 3) := by decide +kernel
theorem d_MM_was_16 : decode c_MM_was 16 = .ok (.iconst 1, 1) := by decide +kernel
theorem d_MM_was_17 : decode c_MM_was 17 = .ok (.iconst 1, 1) := by decide +kernel
theorem d_MM_was_18 : decode c_MM_was 18 = .ok (.invokevirtual 98, 3) := by decide +kernel
theorem d_MM_was_21 : decode c_MM_was 21 = .ok (.ifCond .ne 5, 3) := by decide +kernel
theorem d_MM_was_24 : decode c_MM_was 24 = .ok (.iconst 0, 1) := by decide +kernel
theorem d_MM_was_25 : decode c_MM_was 25 = .ok (.ireturn, 1) := by decide +kernel
theorem d_MM_was_26 : decode c_MM_was 26 = .ok (.aload_n 0, 1) := by decide +kernel
theorem d_MM_was_27 : decode c_MM_was 27 = .ok (.iload_n 1, 1) := by decide +kernel
theorem d_MM_was_28 : decode c_MM_was 28 = .ok (.iload_n 2, 1) := by decide +kernel
theorem d_MM_was_29 : decode c_MM_was 29 = .ok (.invokevirtual 94, 3) := by decide +kernel
theorem d_MM_was_32 : decode c_MM_was 32 = .ok (.ireturn, 1) := by decide +kernel
theorem d_MM_count_0 : decode c_MM_count 0 = .ok (.aload_n 0, 1) := by decide +kernel
theorem d_MM_count_1 : decode c_MM_count 1 = .ok (.iconst 1, 1) := by decide +kernel
theorem d_MM_count_2 : decode c_MM_count 2 = .ok (.iload_n 1, 1) := by decide +kernel
theorem d_MM_count_3 : decode c_MM_count 3 = .ok (.iconst 0, 1) := by decide +kernel
theorem d_MM_count_4 : decode c_MM_count 4 = .ok (.iconst 5, 1) := by decide +kernel
theorem d_MM_count_5 : decode c_MM_count 5 = .ok (.invokestatic 81, 3) := by decide +kernel
theorem d_MM_count_8 : decode c_MM_count 8 = .ok (.iconst 1, 1) := by decide +kernel
theorem d_MM_count_9 : decode c_MM_count 9 = .ok (.iconst 1, 1) := by decide +kernel
theorem d_MM_count_10 : decode c_MM_count 10 = .ok (.iconst 1, 1) := by decide +kernel
theorem d_MM_count_11 : decode c_MM_count 11 = .ok (.invokevirtual 98, 3) := by decide +kernel
theorem d_MM_count_14 : decode c_MM_count 14 = .ok (.ifCond .ne 5, 3) := by decide +kernel
theorem d_MM_count_17 : decode c_MM_count 17 = .ok (.iconst 0, 1) := by decide +kernel
theorem d_MM_count_18 : decode c_MM_count 18 = .ok (.ireturn, 1) := by decide +kernel
theorem d_MM_count_19 : decode c_MM_count 19 = .ok (.iconst 0, 1) := by decide +kernel
theorem d_MM_count_20 : decode c_MM_count 20 = .ok (.istore_n 2, 1) := by decide +kernel
theorem d_MM_count_21 : decode c_MM_count 21 = .ok (.iconst 0, 1) := by decide +kernel
theorem d_MM_count_22 : decode c_MM_count 22 = .ok (.istore_n 3, 1) := by decide +kernel
theorem d_MM_count_23 : decode c_MM_count 23 = .ok (.iload_n 3, 1) := by decide +kernel
theorem d_MM_count_24 : decode c_MM_count 24 = .ok (.aload_n 0, 1) := by decide +kernel
theorem d_MM_count_25 : decode c_MM_count 25 = .ok (.getfield 78, 3) := by decide +kernel
theorem d_MM_count_28 : decode c_MM_count 28 = .ok (.if_icmp .ge 20, 3) := by decide +kernel
theorem d_MM_count_31 : decode c_MM_count 31 = .ok (.aload_n 0, 1) := by decide +kernel
theorem d_MM_count_32 : decode c_MM_count 32 = .ok (.iload_n 3, 1) := by decide +kernel
theorem d_MM_count_33 : decode c_MM_count 33 = .ok (.invokevirtual 109, 3) := by decide +kernel
theorem d_MM_count_36 : decode c_MM_count 36 = .ok (.ifCond .lt 6, 3) := by decide +kernel
theorem d_MM_count_39 : decode c_MM_count 39 = .ok (.iinc 2 1, 3) := by decide +kernel
theorem d_MM_count_42 : decode c_MM_count 42 = .ok (.iinc 3 1, 3) := by decide +kernel
theorem d_MM_count_45 : decode c_MM_count 45 = .ok (.goto (-22), 3) := by decide +kernel
theorem d_MM_count_48 : decode c_MM_count 48 = .ok (.iconst 0, 1) := by decide +kernel
theorem d_MM_count_49 : decode c_MM_count 49 = .ok (.istore_n 3, 1) := by decide +kernel
theorem d_MM_count_50 : decode c_MM_count 50 = .ok (.iconst 0, 1) := by decide +kernel
theorem d_MM_count_51 : decode c_MM_count 51 = .ok (.istore 4, 2) := by decide +kernel
theorem d_MM_count_53 : decode c_MM_count 53 = .ok (.iload 4, 2) := by decide +kernel
theorem d_MM_count_55 : decode c_MM_count 55 = .ok (.aload_n 0, 1) := by decide +kernel
theorem d_MM_count_56 : decode c_MM_count 56 = .ok (.getfield 85, 3) := by decide +kernel
theorem d_MM_count_59 : decode c_MM_count 59 = .ok (.if_icmp .ge 23, 3) := by decide +kernel
theorem d_MM_count_62 : decode c_MM_count 62 = .ok (.aload_n 0, 1) := by decide +kernel
theorem d_MM_count_63 : decode c_MM_count 63 = .ok (.getfield 25, 3) := by decide +kernel
theorem d_MM_count_66 : decode c_MM_count 66 = .ok (.iload 4, 2) := by decide +kernel
theorem d_MM_count_68 : decode c_MM_count 68 = .ok (.iaload, 1) := by decide +kernel
theorem d_MM_count_69 : decode c_MM_count 69 = .ok (.iconst 3, 1) := by decide +kernel
theorem d_MM_count_70 : decode c_MM_count 70 = .ok (.if_icmp .ge 6, 3) := by decide +kernel
theorem d_MM_count_73 : decode c_MM_count 73 = .ok (.iinc 3 1, 3) := by decide +kernel
theorem d_MM_count_76 : decode c_MM_count 76 = .ok (.iinc 4 1, 3) := by decide +kernel
theorem d_MM_count_79 : decode c_MM_count 79 = .ok (.goto (-26), 3) := by decide +kernel
theorem d_MM_count_82 : decode c_MM_count 82 = .ok (.iload_n 1, 1) := by decide +kernel
theorem d_MM_count_83 : decode c_MM_count 83 = .ok (.ifCond .ne 10, 3) := by decide +kernel
theorem d_MM_count_86 : decode c_MM_count 86 = .ok (.aload_n 0, 1) := by decide +kernel
theorem d_MM_count_87 : decode c_MM_count 87 = .ok (.getfield 91, 3) := by decide +kernel
theorem d_MM_count_90 : decode c_MM_count 90 = .ok (.goto 49, 3) := by decide +kernel
theorem d_MM_count_93 : decode c_MM_count 93 = .ok (.iload_n 1, 1) := by decide +kernel
theorem d_MM_count_94 : decode c_MM_count 94 = .ok (.iconst 1, 1) := by decide +kernel
theorem d_MM_count_95 : decode c_MM_count 95 = .ok (.if_icmp .ne 7, 3) := by decide +kernel
theorem d_MM_count_98 : decode c_MM_count 98 = .ok (.iload_n 2, 1) := by decide +kernel
theorem d_MM_count_99 : decode c_MM_count 99 = .ok (.goto 40, 3) := by decide +kernel
theorem d_MM_count_102 : decode c_MM_count 102 = .ok (.iload_n 1, 1) := by decide +kernel
theorem d_MM_count_103 : decode c_MM_count 103 = .ok (.iconst 2, 1) := by decide +kernel
theorem d_MM_count_104 : decode c_MM_count 104 = .ok (.if_icmp .ne 7, 3) := by decide +kernel
theorem d_MM_count_107 : decode c_MM_count 107 = .ok (.iload_n 3, 1) := by decide +kernel
theorem d_MM_count_108 : decode c_MM_count 108 = .ok (.goto 31, 3) := by decide +kernel
theorem d_MM_count_111 : decode c_MM_count 111 = .ok (.iload_n 1, 1) := by decide +kernel
theorem d_MM_count_112 : decode c_MM_count 112 = .ok (.iconst 3, 1) := by decide +kernel
theorem d_MM_count_113 : decode c_MM_count 113 = .ok (.if_icmp .ne 10, 3) := by decide +kernel
theorem d_MM_count_116 : decode c_MM_count 116 = .ok (.aload_n 0, 1) := by decide +kernel
theorem d_MM_count_117 : decode c_MM_count 117 = .ok (.invokevirtual 119, 3) := by decide +kernel
theorem d_MM_count_120 : decode c_MM_count 120 = .ok (.goto 19, 3) := by decide +kernel
theorem d_MM_count_123 : decode c_MM_count 123 = .ok (.iload_n 1, 1) := by decide +kernel
theorem d_MM_count_124 : decode c_MM_count 124 = .ok (.iconst 4, 1) := by decide +kernel
theorem d_MM_count_125 : decode c_MM_count 125 = .ok (.if_icmp .ne 10, 3) := by decide +kernel
theorem d_MM_count_128 : decode c_MM_count 128 = .ok (.aload_n 0, 1) := by decide +kernel
theorem d_MM_count_129 : decode c_MM_count 129 = .ok (.getfield 126, 3) := by decide +kernel
theorem d_MM_count_132 : decode c_MM_count 132 = .ok (.goto 7, 3) := by decide +kernel
theorem d_MM_count_135 : decode c_MM_count 135 = .ok (.aload_n 0, 1) := by decide +kernel
theorem d_MM_count_136 : decode c_MM_count 136 = .ok (.getfield 88, 3) := by decide +kernel
theorem d_MM_count_139 : decode c_MM_count 139 = .ok (.ireturn, 1) := by decide +kernel
end
section
theorem d_LW_law_0 : decode code 0 = .ok (.new 8, 3) := by decide +kernel
theorem d_LW_law_3 : decode code 3 = .ok (.dup, 1) := by decide +kernel
theorem d_LW_law_4 : decode code 4 = .ok (.invokespecial 83, 3) := by decide +kernel
theorem d_LW_law_7 : decode code 7 = .ok (.astore_n 1, 1) := by decide +kernel
theorem d_LW_law_8 : decode code 8 = .ok (.new 84, 3) := by decide +kernel
theorem d_LW_law_11 : decode code 11 = .ok (.dup, 1) := by decide +kernel
theorem d_LW_law_12 : decode code 12 = .ok (.invokespecial 86, 3) := by decide +kernel
theorem d_LW_law_15 : decode code 15 = .ok (.astore_n 2, 1) := by decide +kernel
theorem d_LW_law_16 : decode code 16 = .ok (.iconst 1, 1) := by decide +kernel
theorem d_LW_law_17 : decode code 17 = .ok (.newarray .long, 2) := by decide +kernel
theorem d_LW_law_19 : decode code 19 = .ok (.astore_n 3, 1) := by decide +kernel
theorem d_LW_law_20 : decode code 20 = .ok (.iconst 0, 1) := by decide +kernel
theorem d_LW_law_21 : decode code 21 = .ok (.istore 4, 2) := by decide +kernel
theorem d_LW_law_23 : decode code 23 = .ok (.iload 4, 2) := by decide +kernel
theorem d_LW_law_25 : decode code 25 = .ok (.aload_n 0, 1) := by decide +kernel
theorem d_LW_law_26 : decode code 26 = .ok (.arraylength, 1) := by decide +kernel
theorem d_LW_law_27 : decode code 27 = .ok (.iconst 4, 1) := by decide +kernel
theorem d_LW_law_28 : decode code 28 = .ok (.isub, 1) := by decide +kernel
theorem d_LW_law_29 : decode code 29 = .ok (.if_icmp .gt 1281, 3) := by decide +kernel
theorem d_LW_law_32 : decode code 32 = .ok (.aload_n 0, 1) := by decide +kernel
theorem d_LW_law_33 : decode code 33 = .ok (.iload 4, 2) := by decide +kernel
theorem d_LW_law_35 : decode code 35 = .ok (.iaload, 1) := by decide +kernel
theorem d_LW_law_36 : decode code 36 = .ok (.bipush 31, 2) := by decide +kernel
theorem d_LW_law_38 : decode code 38 = .ok (.iand, 1) := by decide +kernel
theorem d_LW_law_39 : decode code 39 = .ok (.tableswitch 1265 0 19 #[93, 137, 185, 221, 269, 325, 405, 473, 529, 597, 665, 733, 801, 837, 905, 961, 1017, 1085, 1141, 1209], 93) := by decide +kernel
theorem d_LW_law_132 : decode code 132 = .ok (.aload_n 1, 1) := by decide +kernel
theorem d_LW_law_133 : decode code 133 = .ok (.aload_n 3, 1) := by decide +kernel
theorem d_LW_law_134 : decode code 134 = .ok (.invokestatic 87, 3) := by decide +kernel
theorem d_LW_law_137 : decode code 137 = .ok (.istore 5, 2) := by decide +kernel
theorem d_LW_law_139 : decode code 139 = .ok (.aload_n 2, 1) := by decide +kernel
theorem d_LW_law_140 : decode code 140 = .ok (.invokevirtual 92, 3) := by decide +kernel
theorem d_LW_law_143 : decode code 143 = .ok (.istore 6, 2) := by decide +kernel
theorem d_LW_law_145 : decode code 145 = .ok (.aload_n 2, 1) := by decide +kernel
theorem d_LW_law_146 : decode code 146 = .ok (.invokevirtual 93, 3) := by decide +kernel
theorem d_LW_law_149 : decode code 149 = .ok (.iload 5, 2) := by decide +kernel
theorem d_LW_law_151 : decode code 151 = .ok (.if_icmp .eq 5, 3) := by decide +kernel
theorem d_LW_law_154 : decode code 154 = .ok (.iconst 0, 1) := by decide +kernel
theorem d_LW_law_155 : decode code 155 = .ok (.ireturn, 1) := by decide +kernel
theorem d_LW_law_156 : decode code 156 = .ok (.iload 5, 2) := by decide +kernel
theorem d_LW_law_158 : decode code 158 = .ok (.ifCond .ne 15, 3) := by decide +kernel
theorem d_LW_law_161 : decode code 161 = .ok (.aload_n 3, 1) := by decide +kernel
theorem d_LW_law_162 : decode code 162 = .ok (.iconst 0, 1) := by decide +kernel
theorem d_LW_law_163 : decode code 163 = .ok (.laload, 1) := by decide +kernel
theorem d_LW_law_164 : decode code 164 = .ok (.iload 6, 2) := by decide +kernel
theorem d_LW_law_166 : decode code 166 = .ok (.i2l, 1) := by decide +kernel
theorem d_LW_law_167 : decode code 167 = .ok (.lcmp, 1) := by decide +kernel
theorem d_LW_law_168 : decode code 168 = .ok (.ifCond .eq 5, 3) := by decide +kernel
theorem d_LW_law_171 : decode code 171 = .ok (.iconst 0, 1) := by decide +kernel
theorem d_LW_law_172 : decode code 172 = .ok (.ireturn, 1) := by decide +kernel
theorem d_LW_law_173 : decode code 173 = .ok (.goto 1131, 3) := by decide +kernel
theorem d_LW_law_176 : decode code 176 = .ok (.aload_n 1, 1) := by decide +kernel
theorem d_LW_law_177 : decode code 177 = .ok (.aload_n 0, 1) := by decide +kernel
theorem d_LW_law_178 : decode code 178 = .ok (.iload 4, 2) := by decide +kernel
theorem d_LW_law_180 : decode code 180 = .ok (.iconst 1, 1) := by decide +kernel
theorem d_LW_law_181 : decode code 181 = .ok (.iadd, 1) := by decide +kernel
theorem d_LW_law_182 : decode code 182 = .ok (.iaload, 1) := by decide +kernel
theorem d_LW_law_183 : decode code 183 = .ok (.aload_n 0, 1) := by decide +kernel
theorem d_LW_law_184 : decode code 184 = .ok (.iload 4, 2) := by decide +kernel
theorem d_LW_law_186 : decode code 186 = .ok (.iconst 2, 1) := by decide +kernel
theorem d_LW_law_187 : decode code 187 = .ok (.iadd, 1) := by decide +kernel
theorem d_LW_law_188 : decode code 188 = .ok (.iaload, 1) := by decide +kernel
theorem d_LW_law_189 : decode code 189 = .ok (.invokestatic 96, 3) := by decide +kernel
theorem d_LW_law_192 : decode code 192 = .ok (.istore 5, 2) := by decide +kernel
theorem d_LW_law_194 : decode code 194 = .ok (.aload_n 2, 1) := by decide +kernel
theorem d_LW_law_195 : decode code 195 = .ok (.aload_n 0, 1) := by decide +kernel
theorem d_LW_law_196 : decode code 196 = .ok (.iload 4, 2) := by decide +kernel
theorem d_LW_law_198 : decode code 198 = .ok (.iconst 1, 1) := by decide +kernel
theorem d_LW_law_199 : decode code 199 = .ok (.iadd, 1) := by decide +kernel
theorem d_LW_law_200 : decode code 200 = .ok (.iaload, 1) := by decide +kernel
theorem d_LW_law_201 : decode code 201 = .ok (.aload_n 0, 1) := by decide +kernel
theorem d_LW_law_202 : decode code 202 = .ok (.iload 4, 2) := by decide +kernel
theorem d_LW_law_204 : decode code 204 = .ok (.iconst 2, 1) := by decide +kernel
theorem d_LW_law_205 : decode code 205 = .ok (.iadd, 1) := by decide +kernel
theorem d_LW_law_206 : decode code 206 = .ok (.iaload, 1) := by decide +kernel
theorem d_LW_law_207 : decode code 207 = .ok (.invokevirtual 99, 3) := by decide +kernel
theorem d_LW_law_210 : decode code 210 = .ok (.aload_n 2, 1) := by decide +kernel
theorem d_LW_law_211 : decode code 211 = .ok (.invokevirtual 93, 3) := by decide +kernel
theorem d_LW_law_214 : decode code 214 = .ok (.iload 5, 2) := by decide +kernel
theorem d_LW_law_216 : decode code 216 = .ok (.if_icmp .eq 5, 3) := by decide +kernel
theorem d_LW_law_219 : decode code 219 = .ok (.iconst 0, 1) := by decide +kernel
theorem d_LW_law_220 : decode code 220 = .ok (.ireturn, 1) := by decide +kernel
theorem d_LW_law_221 : decode code 221 = .ok (.goto 1083, 3) := by decide +kernel
theorem d_LW_law_224 : decode code 224 = .ok (.aload_n 1, 1) := by decide +kernel
theorem d_LW_law_225 : decode code 225 = .ok (.aload_n 0, 1) := by decide +kernel
theorem d_LW_law_226 : decode code 226 = .ok (.iload 4, 2) := by decide +kernel
theorem d_LW_law_228 : decode code 228 = .ok (.iconst 1, 1) := by decide +kernel
theorem d_LW_law_229 : decode code 229 = .ok (.iadd, 1) := by decide +kernel
theorem d_LW_law_230 : decode code 230 = .ok (.iaload, 1) := by decide +kernel
theorem d_LW_law_231 : decode code 231 = .ok (.invokestatic 100, 3) := by decide +kernel
theorem d_LW_law_234 : decode code 234 = .ok (.istore 5, 2) := by decide +kernel
theorem d_LW_law_236 : decode code 236 = .ok (.aload_n 2, 1) := by decide +kernel
theorem d_LW_law_237 : decode code 237 = .ok (.aload_n 0, 1) := by decide +kernel
theorem d_LW_law_238 : decode code 238 = .ok (.iload 4, 2) := by decide +kernel
theorem d_LW_law_240 : decode code 240 = .ok (.iconst 1, 1) := by decide +kernel
theorem d_LW_law_241 : decode code 241 = .ok (.iadd, 1) := by decide +kernel
theorem d_LW_law_242 : decode code 242 = .ok (.iaload, 1) := by decide +kernel
theorem d_LW_law_243 : decode code 243 = .ok (.invokevirtual 103, 3) := by decide +kernel
theorem d_LW_law_246 : decode code 246 = .ok (.aload_n 2, 1) := by decide +kernel
theorem d_LW_law_247 : decode code 247 = .ok (.invokevirtual 93, 3) := by decide +kernel
theorem d_LW_law_250 : decode code 250 = .ok (.iload 5, 2) := by decide +kernel
theorem d_LW_law_252 : decode code 252 = .ok (.if_icmp .eq 5, 3) := by decide +kernel
theorem d_LW_law_255 : decode code 255 = .ok (.iconst 0, 1) := by decide +kernel
theorem d_LW_law_256 : decode code 256 = .ok (.ireturn, 1) := by decide +kernel
theorem d_LW_law_257 : decode code 257 = .ok (.goto 1047, 3) := by decide +kernel
theorem d_LW_law_260 : decode code 260 = .ok (.aload_n 1, 1) := by decide +kernel
theorem d_LW_law_261 : decode code 261 = .ok (.aload_n 0, 1) := by decide +kernel
theorem d_LW_law_262 : decode code 262 = .ok (.iload 4, 2) := by decide +kernel
theorem d_LW_law_264 : decode code 264 = .ok (.iconst 1, 1) := by decide +kernel
theorem d_LW_law_265 : decode code 265 = .ok (.iadd, 1) := by decide +kernel
theorem d_LW_law_266 : decode code 266 = .ok (.iaload, 1) := by decide +kernel
theorem d_LW_law_267 : decode code 267 = .ok (.aload_n 0, 1) := by decide +kernel
theorem d_LW_law_268 : decode code 268 = .ok (.iload 4, 2) := by decide +kernel
theorem d_LW_law_270 : decode code 270 = .ok (.iconst 2, 1) := by decide +kernel
theorem d_LW_law_271 : decode code 271 = .ok (.iadd, 1) := by decide +kernel
theorem d_LW_law_272 : decode code 272 = .ok (.iaload, 1) := by decide +kernel
theorem d_LW_law_273 : decode code 273 = .ok (.invokestatic 104, 3) := by decide +kernel
theorem d_LW_law_276 : decode code 276 = .ok (.istore 5, 2) := by decide +kernel
theorem d_LW_law_278 : decode code 278 = .ok (.aload_n 2, 1) := by decide +kernel
theorem d_LW_law_279 : decode code 279 = .ok (.aload_n 0, 1) := by decide +kernel
theorem d_LW_law_280 : decode code 280 = .ok (.iload 4, 2) := by decide +kernel
theorem d_LW_law_282 : decode code 282 = .ok (.iconst 1, 1) := by decide +kernel
theorem d_LW_law_283 : decode code 283 = .ok (.iadd, 1) := by decide +kernel
theorem d_LW_law_284 : decode code 284 = .ok (.iaload, 1) := by decide +kernel
theorem d_LW_law_285 : decode code 285 = .ok (.aload_n 0, 1) := by decide +kernel
theorem d_LW_law_286 : decode code 286 = .ok (.iload 4, 2) := by decide +kernel
theorem d_LW_law_288 : decode code 288 = .ok (.iconst 2, 1) := by decide +kernel
theorem d_LW_law_289 : decode code 289 = .ok (.iadd, 1) := by decide +kernel
theorem d_LW_law_290 : decode code 290 = .ok (.iaload, 1) := by decide +kernel
theorem d_LW_law_291 : decode code 291 = .ok (.invokevirtual 106, 3) := by decide +kernel
theorem d_LW_law_294 : decode code 294 = .ok (.aload_n 2, 1) := by decide +kernel
theorem d_LW_law_295 : decode code 295 = .ok (.invokevirtual 93, 3) := by decide +kernel
theorem d_LW_law_298 : decode code 298 = .ok (.iload 5, 2) := by decide +kernel
theorem d_LW_law_300 : decode code 300 = .ok (.if_icmp .eq 5, 3) := by decide +kernel
theorem d_LW_law_303 : decode code 303 = .ok (.iconst 0, 1) := by decide +kernel
theorem d_LW_law_304 : decode code 304 = .ok (.ireturn, 1) := by decide +kernel
theorem d_LW_law_305 : decode code 305 = .ok (.goto 999, 3) := by decide +kernel
theorem d_LW_law_308 : decode code 308 = .ok (.aload_n 1, 1) := by decide +kernel
theorem d_LW_law_309 : decode code 309 = .ok (.aload_n 0, 1) := by decide +kernel
theorem d_LW_law_310 : decode code 310 = .ok (.iload 4, 2) := by decide +kernel
theorem d_LW_law_312 : decode code 312 = .ok (.iconst 1, 1) := by decide +kernel
theorem d_LW_law_313 : decode code 313 = .ok (.iadd, 1) := by decide +kernel
theorem d_LW_law_314 : decode code 314 = .ok (.iaload, 1) := by decide +kernel
theorem d_LW_law_315 : decode code 315 = .ok (.aload_n 3, 1) := by decide +kernel
theorem d_LW_law_316 : decode code 316 = .ok (.invokestatic 107, 3) := by decide +kernel
theorem d_LW_law_319 : decode code 319 = .ok (.istore 5, 2) := by decide +kernel
theorem d_LW_law_321 : decode code 321 = .ok (.aload_n 2, 1) := by decide +kernel
theorem d_LW_law_322 : decode code 322 = .ok (.aload_n 0, 1) := by decide +kernel
theorem d_LW_law_323 : decode code 323 = .ok (.iload 4, 2) := by decide +kernel
theorem d_LW_law_325 : decode code 325 = .ok (.iconst 1, 1) := by decide +kernel
theorem d_LW_law_326 : decode code 326 = .ok (.iadd, 1) := by decide +kernel
theorem d_LW_law_327 : decode code 327 = .ok (.iaload, 1) := by decide +kernel
theorem d_LW_law_328 : decode code 328 = .ok (.invokevirtual 110, 3) := by decide +kernel
theorem d_LW_law_331 : decode code 331 = .ok (.istore 6, 2) := by decide +kernel
theorem d_LW_law_333 : decode code 333 = .ok (.aload_n 2, 1) := by decide +kernel
theorem d_LW_law_334 : decode code 334 = .ok (.invokevirtual 93, 3) := by decide +kernel
theorem d_LW_law_337 : decode code 337 = .ok (.iload 5, 2) := by decide +kernel
theorem d_LW_law_339 : decode code 339 = .ok (.if_icmp .eq 5, 3) := by decide +kernel
theorem d_LW_law_342 : decode code 342 = .ok (.iconst 0, 1) := by decide +kernel
theorem d_LW_law_343 : decode code 343 = .ok (.ireturn, 1) := by decide +kernel
theorem d_LW_law_344 : decode code 344 = .ok (.iload 5, 2) := by decide +kernel
theorem d_LW_law_346 : decode code 346 = .ok (.ifCond .ne 15, 3) := by decide +kernel
theorem d_LW_law_349 : decode code 349 = .ok (.aload_n 3, 1) := by decide +kernel
theorem d_LW_law_350 : decode code 350 = .ok (.iconst 0, 1) := by decide +kernel
theorem d_LW_law_351 : decode code 351 = .ok (.laload, 1) := by decide +kernel
theorem d_LW_law_352 : decode code 352 = .ok (.iload 6, 2) := by decide +kernel
theorem d_LW_law_354 : decode code 354 = .ok (.i2l, 1) := by decide +kernel
theorem d_LW_law_355 : decode code 355 = .ok (.lcmp, 1) := by decide +kernel
theorem d_LW_law_356 : decode code 356 = .ok (.ifCond .eq 5, 3) := by decide +kernel
theorem d_LW_law_359 : decode code 359 = .ok (.iconst 0, 1) := by decide +kernel
theorem d_LW_law_360 : decode code 360 = .ok (.ireturn, 1) := by decide +kernel
theorem d_LW_law_361 : decode code 361 = .ok (.goto 943, 3) := by decide +kernel
theorem d_LW_law_364 : decode code 364 = .ok (.aload_n 1, 1) := by decide +kernel
theorem d_LW_law_365 : decode code 365 = .ok (.aload_n 0, 1) := by decide +kernel
theorem d_LW_law_366 : decode code 366 = .ok (.iload 4, 2) := by decide +kernel
theorem d_LW_law_368 : decode code 368 = .ok (.iconst 1, 1) := by decide +kernel
theorem d_LW_law_369 : decode code 369 = .ok (.iadd, 1) := by decide +kernel
theorem d_LW_law_370 : decode code 370 = .ok (.iaload, 1) := by decide +kernel
theorem d_LW_law_371 : decode code 371 = .ok (.aload_n 0, 1) := by decide +kernel
theorem d_LW_law_372 : decode code 372 = .ok (.iload 4, 2) := by decide +kernel
theorem d_LW_law_374 : decode code 374 = .ok (.iconst 2, 1) := by decide +kernel
theorem d_LW_law_375 : decode code 375 = .ok (.iadd, 1) := by decide +kernel
theorem d_LW_law_376 : decode code 376 = .ok (.iaload, 1) := by decide +kernel
theorem d_LW_law_377 : decode code 377 = .ok (.aload_n 0, 1) := by decide +kernel
theorem d_LW_law_378 : decode code 378 = .ok (.iload 4, 2) := by decide +kernel
theorem d_LW_law_380 : decode code 380 = .ok (.iconst 3, 1) := by decide +kernel
theorem d_LW_law_381 : decode code 381 = .ok (.iadd, 1) := by decide +kernel
theorem d_LW_law_382 : decode code 382 = .ok (.iaload, 1) := by decide +kernel
theorem d_LW_law_383 : decode code 383 = .ok (.aload_n 3, 1) := by decide +kernel
theorem d_LW_law_384 : decode code 384 = .ok (.invokestatic 111, 3) := by decide +kernel
theorem d_LW_law_387 : decode code 387 = .ok (.istore 5, 2) := by decide +kernel
theorem d_LW_law_389 : decode code 389 = .ok (.aload_n 2, 1) := by decide +kernel
theorem d_LW_law_390 : decode code 390 = .ok (.aload_n 0, 1) := by decide +kernel
theorem d_LW_law_391 : decode code 391 = .ok (.iload 4, 2) := by decide +kernel
theorem d_LW_law_393 : decode code 393 = .ok (.iconst 1, 1) := by decide +kernel
theorem d_LW_law_394 : decode code 394 = .ok (.iadd, 1) := by decide +kernel
theorem d_LW_law_395 : decode code 395 = .ok (.iaload, 1) := by decide +kernel
theorem d_LW_law_396 : decode code 396 = .ok (.aload_n 0, 1) := by decide +kernel
theorem d_LW_law_397 : decode code 397 = .ok (.iload 4, 2) := by decide +kernel
theorem d_LW_law_399 : decode code 399 = .ok (.iconst 2, 1) := by decide +kernel
theorem d_LW_law_400 : decode code 400 = .ok (.iadd, 1) := by decide +kernel
end
section
theorem d_LW_law_401 : decode code 401 = .ok (.iaload, 1) := by decide +kernel
theorem d_LW_law_402 : decode code 402 = .ok (.aload_n 0, 1) := by decide +kernel
theorem d_LW_law_403 : decode code 403 = .ok (.iload 4, 2) := by decide +kernel
theorem d_LW_law_405 : decode code 405 = .ok (.iconst 3, 1) := by decide +kernel
theorem d_LW_law_406 : decode code 406 = .ok (.iadd, 1) := by decide +kernel
theorem d_LW_law_407 : decode code 407 = .ok (.iaload, 1) := by decide +kernel
theorem d_LW_law_408 : decode code 408 = .ok (.invokevirtual 114, 3) := by decide +kernel
theorem d_LW_law_411 : decode code 411 = .ok (.istore 6, 2) := by decide +kernel
theorem d_LW_law_413 : decode code 413 = .ok (.aload_n 2, 1) := by decide +kernel
theorem d_LW_law_414 : decode code 414 = .ok (.invokevirtual 93, 3) := by decide +kernel
theorem d_LW_law_417 : decode code 417 = .ok (.iload 5, 2) := by decide +kernel
theorem d_LW_law_419 : decode code 419 = .ok (.if_icmp .eq 5, 3) := by decide +kernel
theorem d_LW_law_422 : decode code 422 = .ok (.iconst 0, 1) := by decide +kernel
theorem d_LW_law_423 : decode code 423 = .ok (.ireturn, 1) := by decide +kernel
theorem d_LW_law_424 : decode code 424 = .ok (.iload 5, 2) := by decide +kernel
theorem d_LW_law_426 : decode code 426 = .ok (.ifCond .ne 15, 3) := by decide +kernel
theorem d_LW_law_429 : decode code 429 = .ok (.aload_n 3, 1) := by decide +kernel
theorem d_LW_law_430 : decode code 430 = .ok (.iconst 0, 1) := by decide +kernel
theorem d_LW_law_431 : decode code 431 = .ok (.laload, 1) := by decide +kernel
theorem d_LW_law_432 : decode code 432 = .ok (.iload 6, 2) := by decide +kernel
theorem d_LW_law_434 : decode code 434 = .ok (.i2l, 1) := by decide +kernel
theorem d_LW_law_435 : decode code 435 = .ok (.lcmp, 1) := by decide +kernel
theorem d_LW_law_436 : decode code 436 = .ok (.ifCond .eq 5, 3) := by decide +kernel
theorem d_LW_law_439 : decode code 439 = .ok (.iconst 0, 1) := by decide +kernel
theorem d_LW_law_440 : decode code 440 = .ok (.ireturn, 1) := by decide +kernel
theorem d_LW_law_441 : decode code 441 = .ok (.goto 863, 3) := by decide +kernel
theorem d_LW_law_444 : decode code 444 = .ok (.aload_n 1, 1) := by decide +kernel
theorem d_LW_law_445 : decode code 445 = .ok (.aload_n 0, 1) := by decide +kernel
theorem d_LW_law_446 : decode code 446 = .ok (.iload 4, 2) := by decide +kernel
theorem d_LW_law_448 : decode code 448 = .ok (.iconst 1, 1) := by decide +kernel
theorem d_LW_law_449 : decode code 449 = .ok (.iadd, 1) := by decide +kernel
theorem d_LW_law_450 : decode code 450 = .ok (.iaload, 1) := by decide +kernel
theorem d_LW_law_451 : decode code 451 = .ok (.aload_n 0, 1) := by decide +kernel
theorem d_LW_law_452 : decode code 452 = .ok (.iload 4, 2) := by decide +kernel
theorem d_LW_law_454 : decode code 454 = .ok (.iconst 2, 1) := by decide +kernel
theorem d_LW_law_455 : decode code 455 = .ok (.iadd, 1) := by decide +kernel
theorem d_LW_law_456 : decode code 456 = .ok (.iaload, 1) := by decide +kernel
theorem d_LW_law_457 : decode code 457 = .ok (.aload_n 3, 1) := by decide +kernel
theorem d_LW_law_458 : decode code 458 = .ok (.invokestatic 115, 3) := by decide +kernel
theorem d_LW_law_461 : decode code 461 = .ok (.istore 5, 2) := by decide +kernel
theorem d_LW_law_463 : decode code 463 = .ok (.aload_n 2, 1) := by decide +kernel
theorem d_LW_law_464 : decode code 464 = .ok (.aload_n 0, 1) := by decide +kernel
theorem d_LW_law_465 : decode code 465 = .ok (.iload 4, 2) := by decide +kernel
theorem d_LW_law_467 : decode code 467 = .ok (.iconst 1, 1) := by decide +kernel
theorem d_LW_law_468 : decode code 468 = .ok (.iadd, 1) := by decide +kernel
theorem d_LW_law_469 : decode code 469 = .ok (.iaload, 1) := by decide +kernel
theorem d_LW_law_470 : decode code 470 = .ok (.aload_n 0, 1) := by decide +kernel
theorem d_LW_law_471 : decode code 471 = .ok (.iload 4, 2) := by decide +kernel
theorem d_LW_law_473 : decode code 473 = .ok (.iconst 2, 1) := by decide +kernel
theorem d_LW_law_474 : decode code 474 = .ok (.iadd, 1) := by decide +kernel
theorem d_LW_law_475 : decode code 475 = .ok (.iaload, 1) := by decide +kernel
theorem d_LW_law_476 : decode code 476 = .ok (.invokevirtual 118, 3) := by decide +kernel
theorem d_LW_law_479 : decode code 479 = .ok (.istore 6, 2) := by decide +kernel
theorem d_LW_law_481 : decode code 481 = .ok (.aload_n 2, 1) := by decide +kernel
theorem d_LW_law_482 : decode code 482 = .ok (.invokevirtual 93, 3) := by decide +kernel
theorem d_LW_law_485 : decode code 485 = .ok (.iload 5, 2) := by decide +kernel
theorem d_LW_law_487 : decode code 487 = .ok (.if_icmp .eq 5, 3) := by decide +kernel
theorem d_LW_law_490 : decode code 490 = .ok (.iconst 0, 1) := by decide +kernel
theorem d_LW_law_491 : decode code 491 = .ok (.ireturn, 1) := by decide +kernel
theorem d_LW_law_492 : decode code 492 = .ok (.iload 5, 2) := by decide +kernel
theorem d_LW_law_494 : decode code 494 = .ok (.ifCond .ne 15, 3) := by decide +kernel
theorem d_LW_law_497 : decode code 497 = .ok (.aload_n 3, 1) := by decide +kernel
theorem d_LW_law_498 : decode code 498 = .ok (.iconst 0, 1) := by decide +kernel
theorem d_LW_law_499 : decode code 499 = .ok (.laload, 1) := by decide +kernel
theorem d_LW_law_500 : decode code 500 = .ok (.iload 6, 2) := by decide +kernel
theorem d_LW_law_502 : decode code 502 = .ok (.i2l, 1) := by decide +kernel
theorem d_LW_law_503 : decode code 503 = .ok (.lcmp, 1) := by decide +kernel
theorem d_LW_law_504 : decode code 504 = .ok (.ifCond .eq 5, 3) := by decide +kernel
theorem d_LW_law_507 : decode code 507 = .ok (.iconst 0, 1) := by decide +kernel
theorem d_LW_law_508 : decode code 508 = .ok (.ireturn, 1) := by decide +kernel
theorem d_LW_law_509 : decode code 509 = .ok (.goto 795, 3) := by decide +kernel
theorem d_LW_law_512 : decode code 512 = .ok (.aload_n 1, 1) := by decide +kernel
theorem d_LW_law_513 : decode code 513 = .ok (.aload_n 0, 1) := by decide +kernel
theorem d_LW_law_514 : decode code 514 = .ok (.iload 4, 2) := by decide +kernel
theorem d_LW_law_516 : decode code 516 = .ok (.iconst 1, 1) := by decide +kernel
theorem d_LW_law_517 : decode code 517 = .ok (.iadd, 1) := by decide +kernel
theorem d_LW_law_518 : decode code 518 = .ok (.iaload, 1) := by decide +kernel
theorem d_LW_law_519 : decode code 519 = .ok (.aload_n 3, 1) := by decide +kernel
theorem d_LW_law_520 : decode code 520 = .ok (.invokestatic 119, 3) := by decide +kernel
theorem d_LW_law_523 : decode code 523 = .ok (.istore 5, 2) := by decide +kernel
theorem d_LW_law_525 : decode code 525 = .ok (.aload_n 2, 1) := by decide +kernel
theorem d_LW_law_526 : decode code 526 = .ok (.aload_n 0, 1) := by decide +kernel
theorem d_LW_law_527 : decode code 527 = .ok (.iload 4, 2) := by decide +kernel
theorem d_LW_law_529 : decode code 529 = .ok (.iconst 1, 1) := by decide +kernel
theorem d_LW_law_530 : decode code 530 = .ok (.iadd, 1) := by decide +kernel
theorem d_LW_law_531 : decode code 531 = .ok (.iaload, 1) := by decide +kernel
theorem d_LW_law_532 : decode code 532 = .ok (.invokevirtual 121, 3) := by decide +kernel
theorem d_LW_law_535 : decode code 535 = .ok (.istore 6, 2) := by decide +kernel
theorem d_LW_law_537 : decode code 537 = .ok (.aload_n 2, 1) := by decide +kernel
theorem d_LW_law_538 : decode code 538 = .ok (.invokevirtual 93, 3) := by decide +kernel
theorem d_LW_law_541 : decode code 541 = .ok (.iload 5, 2) := by decide +kernel
theorem d_LW_law_543 : decode code 543 = .ok (.if_icmp .eq 5, 3) := by decide +kernel
theorem d_LW_law_546 : decode code 546 = .ok (.iconst 0, 1) := by decide +kernel
theorem d_LW_law_547 : decode code 547 = .ok (.ireturn, 1) := by decide +kernel
theorem d_LW_law_548 : decode code 548 = .ok (.iload 5, 2) := by decide +kernel
theorem d_LW_law_550 : decode code 550 = .ok (.ifCond .ne 15, 3) := by decide +kernel
theorem d_LW_law_553 : decode code 553 = .ok (.aload_n 3, 1) := by decide +kernel
theorem d_LW_law_554 : decode code 554 = .ok (.iconst 0, 1) := by decide +kernel
theorem d_LW_law_555 : decode code 555 = .ok (.laload, 1) := by decide +kernel
theorem d_LW_law_556 : decode code 556 = .ok (.iload 6, 2) := by decide +kernel
theorem d_LW_law_558 : decode code 558 = .ok (.i2l, 1) := by decide +kernel
theorem d_LW_law_559 : decode code 559 = .ok (.lcmp, 1) := by decide +kernel
theorem d_LW_law_560 : decode code 560 = .ok (.ifCond .eq 5, 3) := by decide +kernel
theorem d_LW_law_563 : decode code 563 = .ok (.iconst 0, 1) := by decide +kernel
theorem d_LW_law_564 : decode code 564 = .ok (.ireturn, 1) := by decide +kernel
theorem d_LW_law_565 : decode code 565 = .ok (.goto 739, 3) := by decide +kernel
theorem d_LW_law_568 : decode code 568 = .ok (.aload_n 1, 1) := by decide +kernel
theorem d_LW_law_569 : decode code 569 = .ok (.aload_n 0, 1) := by decide +kernel
theorem d_LW_law_570 : decode code 570 = .ok (.iload 4, 2) := by decide +kernel
theorem d_LW_law_572 : decode code 572 = .ok (.iconst 1, 1) := by decide +kernel
theorem d_LW_law_573 : decode code 573 = .ok (.iadd, 1) := by decide +kernel
theorem d_LW_law_574 : decode code 574 = .ok (.iaload, 1) := by decide +kernel
theorem d_LW_law_575 : decode code 575 = .ok (.aload_n 0, 1) := by decide +kernel
theorem d_LW_law_576 : decode code 576 = .ok (.iload 4, 2) := by decide +kernel
theorem d_LW_law_578 : decode code 578 = .ok (.iconst 2, 1) := by decide +kernel
theorem d_LW_law_579 : decode code 579 = .ok (.iadd, 1) := by decide +kernel
theorem d_LW_law_580 : decode code 580 = .ok (.iaload, 1) := by decide +kernel
theorem d_LW_law_581 : decode code 581 = .ok (.aload_n 3, 1) := by decide +kernel
theorem d_LW_law_582 : decode code 582 = .ok (.invokestatic 122, 3) := by decide +kernel
theorem d_LW_law_585 : decode code 585 = .ok (.istore 5, 2) := by decide +kernel
theorem d_LW_law_587 : decode code 587 = .ok (.aload_n 2, 1) := by decide +kernel
theorem d_LW_law_588 : decode code 588 = .ok (.aload_n 0, 1) := by decide +kernel
theorem d_LW_law_589 : decode code 589 = .ok (.iload 4, 2) := by decide +kernel
theorem d_LW_law_591 : decode code 591 = .ok (.iconst 1, 1) := by decide +kernel
theorem d_LW_law_592 : decode code 592 = .ok (.iadd, 1) := by decide +kernel
theorem d_LW_law_593 : decode code 593 = .ok (.iaload, 1) := by decide +kernel
theorem d_LW_law_594 : decode code 594 = .ok (.aload_n 0, 1) := by decide +kernel
theorem d_LW_law_595 : decode code 595 = .ok (.iload 4, 2) := by decide +kernel
theorem d_LW_law_597 : decode code 597 = .ok (.iconst 2, 1) := by decide +kernel
theorem d_LW_law_598 : decode code 598 = .ok (.iadd, 1) := by decide +kernel
theorem d_LW_law_599 : decode code 599 = .ok (.iaload, 1) := by decide +kernel
theorem d_LW_law_600 : decode code 600 = .ok (.invokevirtual 124, 3) := by decide +kernel
theorem d_LW_law_603 : decode code 603 = .ok (.istore 6, 2) := by decide +kernel
theorem d_LW_law_605 : decode code 605 = .ok (.aload_n 2, 1) := by decide +kernel
theorem d_LW_law_606 : decode code 606 = .ok (.invokevirtual 93, 3) := by decide +kernel
theorem d_LW_law_609 : decode code 609 = .ok (.iload 5, 2) := by decide +kernel
theorem d_LW_law_611 : decode code 611 = .ok (.if_icmp .eq 5, 3) := by decide +kernel
theorem d_LW_law_614 : decode code 614 = .ok (.iconst 0, 1) := by decide +kernel
theorem d_LW_law_615 : decode code 615 = .ok (.ireturn, 1) := by decide +kernel
theorem d_LW_law_616 : decode code 616 = .ok (.iload 5, 2) := by decide +kernel
theorem d_LW_law_618 : decode code 618 = .ok (.ifCond .ne 15, 3) := by decide +kernel
theorem d_LW_law_621 : decode code 621 = .ok (.aload_n 3, 1) := by decide +kernel
theorem d_LW_law_622 : decode code 622 = .ok (.iconst 0, 1) := by decide +kernel
theorem d_LW_law_623 : decode code 623 = .ok (.laload, 1) := by decide +kernel
theorem d_LW_law_624 : decode code 624 = .ok (.iload 6, 2) := by decide +kernel
theorem d_LW_law_626 : decode code 626 = .ok (.i2l, 1) := by decide +kernel
theorem d_LW_law_627 : decode code 627 = .ok (.lcmp, 1) := by decide +kernel
theorem d_LW_law_628 : decode code 628 = .ok (.ifCond .eq 5, 3) := by decide +kernel
theorem d_LW_law_631 : decode code 631 = .ok (.iconst 0, 1) := by decide +kernel
theorem d_LW_law_632 : decode code 632 = .ok (.ireturn, 1) := by decide +kernel
theorem d_LW_law_633 : decode code 633 = .ok (.goto 671, 3) := by decide +kernel
theorem d_LW_law_636 : decode code 636 = .ok (.aload_n 1, 1) := by decide +kernel
theorem d_LW_law_637 : decode code 637 = .ok (.aload_n 0, 1) := by decide +kernel
theorem d_LW_law_638 : decode code 638 = .ok (.iload 4, 2) := by decide +kernel
theorem d_LW_law_640 : decode code 640 = .ok (.iconst 1, 1) := by decide +kernel
theorem d_LW_law_641 : decode code 641 = .ok (.iadd, 1) := by decide +kernel
theorem d_LW_law_642 : decode code 642 = .ok (.iaload, 1) := by decide +kernel
theorem d_LW_law_643 : decode code 643 = .ok (.aload_n 0, 1) := by decide +kernel
theorem d_LW_law_644 : decode code 644 = .ok (.iload 4, 2) := by decide +kernel
theorem d_LW_law_646 : decode code 646 = .ok (.iconst 2, 1) := by decide +kernel
theorem d_LW_law_647 : decode code 647 = .ok (.iadd, 1) := by decide +kernel
theorem d_LW_law_648 : decode code 648 = .ok (.iaload, 1) := by decide +kernel
theorem d_LW_law_649 : decode code 649 = .ok (.aload_n 3, 1) := by decide +kernel
theorem d_LW_law_650 : decode code 650 = .ok (.invokestatic 125, 3) := by decide +kernel
theorem d_LW_law_653 : decode code 653 = .ok (.istore 5, 2) := by decide +kernel
theorem d_LW_law_655 : decode code 655 = .ok (.aload_n 2, 1) := by decide +kernel
theorem d_LW_law_656 : decode code 656 = .ok (.aload_n 0, 1) := by decide +kernel
theorem d_LW_law_657 : decode code 657 = .ok (.iload 4, 2) := by decide +kernel
theorem d_LW_law_659 : decode code 659 = .ok (.iconst 1, 1) := by decide +kernel
theorem d_LW_law_660 : decode code 660 = .ok (.iadd, 1) := by decide +kernel
theorem d_LW_law_661 : decode code 661 = .ok (.iaload, 1) := by decide +kernel
theorem d_LW_law_662 : decode code 662 = .ok (.aload_n 0, 1) := by decide +kernel
theorem d_LW_law_663 : decode code 663 = .ok (.iload 4, 2) := by decide +kernel
theorem d_LW_law_665 : decode code 665 = .ok (.iconst 2, 1) := by decide +kernel
theorem d_LW_law_666 : decode code 666 = .ok (.iadd, 1) := by decide +kernel
theorem d_LW_law_667 : decode code 667 = .ok (.iaload, 1) := by decide +kernel
theorem d_LW_law_668 : decode code 668 = .ok (.invokevirtual 127, 3) := by decide +kernel
theorem d_LW_law_671 : decode code 671 = .ok (.istore 6, 2) := by decide +kernel
theorem d_LW_law_673 : decode code 673 = .ok (.aload_n 2, 1) := by decide +kernel
theorem d_LW_law_674 : decode code 674 = .ok (.invokevirtual 93, 3) := by decide +kernel
theorem d_LW_law_677 : decode code 677 = .ok (.iload 5, 2) := by decide +kernel
theorem d_LW_law_679 : decode code 679 = .ok (.if_icmp .eq 5, 3) := by decide +kernel
theorem d_LW_law_682 : decode code 682 = .ok (.iconst 0, 1) := by decide +kernel
theorem d_LW_law_683 : decode code 683 = .ok (.ireturn, 1) := by decide +kernel
theorem d_LW_law_684 : decode code 684 = .ok (.iload 5, 2) := by decide +kernel
theorem d_LW_law_686 : decode code 686 = .ok (.ifCond .ne 15, 3) := by decide +kernel
theorem d_LW_law_689 : decode code 689 = .ok (.aload_n 3, 1) := by decide +kernel
theorem d_LW_law_690 : decode code 690 = .ok (.iconst 0, 1) := by decide +kernel
theorem d_LW_law_691 : decode code 691 = .ok (.laload, 1) := by decide +kernel
theorem d_LW_law_692 : decode code 692 = .ok (.iload 6, 2) := by decide +kernel
theorem d_LW_law_694 : decode code 694 = .ok (.i2l, 1) := by decide +kernel
theorem d_LW_law_695 : decode code 695 = .ok (.lcmp, 1) := by decide +kernel
theorem d_LW_law_696 : decode code 696 = .ok (.ifCond .eq 5, 3) := by decide +kernel
theorem d_LW_law_699 : decode code 699 = .ok (.iconst 0, 1) := by decide +kernel
theorem d_LW_law_700 : decode code 700 = .ok (.ireturn, 1) := by decide +kernel
theorem d_LW_law_701 : decode code 701 = .ok (.goto 603, 3) := by decide +kernel
theorem d_LW_law_704 : decode code 704 = .ok (.aload_n 1, 1) := by decide +kernel
theorem d_LW_law_705 : decode code 705 = .ok (.aload_n 0, 1) := by decide +kernel
theorem d_LW_law_706 : decode code 706 = .ok (.iload 4, 2) := by decide +kernel
theorem d_LW_law_708 : decode code 708 = .ok (.iconst 1, 1) := by decide +kernel
end
section
theorem d_LW_law_709 : decode code 709 = .ok (.iadd, 1) := by decide +kernel
theorem d_LW_law_710 : decode code 710 = .ok (.iaload, 1) := by decide +kernel
theorem d_LW_law_711 : decode code 711 = .ok (.aload_n 0, 1) := by decide +kernel
theorem d_LW_law_712 : decode code 712 = .ok (.iload 4, 2) := by decide +kernel
theorem d_LW_law_714 : decode code 714 = .ok (.iconst 2, 1) := by decide +kernel
theorem d_LW_law_715 : decode code 715 = .ok (.iadd, 1) := by decide +kernel
theorem d_LW_law_716 : decode code 716 = .ok (.iaload, 1) := by decide +kernel
theorem d_LW_law_717 : decode code 717 = .ok (.aload_n 3, 1) := by decide +kernel
theorem d_LW_law_718 : decode code 718 = .ok (.invokestatic 128, 3) := by decide +kernel
theorem d_LW_law_721 : decode code 721 = .ok (.istore 5, 2) := by decide +kernel
theorem d_LW_law_723 : decode code 723 = .ok (.aload_n 2, 1) := by decide +kernel
theorem d_LW_law_724 : decode code 724 = .ok (.aload_n 0, 1) := by decide +kernel
theorem d_LW_law_725 : decode code 725 = .ok (.iload 4, 2) := by decide +kernel
theorem d_LW_law_727 : decode code 727 = .ok (.iconst 1, 1) := by decide +kernel
theorem d_LW_law_728 : decode code 728 = .ok (.iadd, 1) := by decide +kernel
theorem d_LW_law_729 : decode code 729 = .ok (.iaload, 1) := by decide +kernel
theorem d_LW_law_730 : decode code 730 = .ok (.aload_n 0, 1) := by decide +kernel
theorem d_LW_law_731 : decode code 731 = .ok (.iload 4, 2) := by decide +kernel
theorem d_LW_law_733 : decode code 733 = .ok (.iconst 2, 1) := by decide +kernel
theorem d_LW_law_734 : decode code 734 = .ok (.iadd, 1) := by decide +kernel
theorem d_LW_law_735 : decode code 735 = .ok (.iaload, 1) := by decide +kernel
theorem d_LW_law_736 : decode code 736 = .ok (.invokevirtual 130, 3) := by decide +kernel
theorem d_LW_law_739 : decode code 739 = .ok (.istore 6, 2) := by decide +kernel
theorem d_LW_law_741 : decode code 741 = .ok (.aload_n 2, 1) := by decide +kernel
theorem d_LW_law_742 : decode code 742 = .ok (.invokevirtual 93, 3) := by decide +kernel
theorem d_LW_law_745 : decode code 745 = .ok (.iload 5, 2) := by decide +kernel
theorem d_LW_law_747 : decode code 747 = .ok (.if_icmp .eq 5, 3) := by decide +kernel
theorem d_LW_law_750 : decode code 750 = .ok (.iconst 0, 1) := by decide +kernel
theorem d_LW_law_751 : decode code 751 = .ok (.ireturn, 1) := by decide +kernel
theorem d_LW_law_752 : decode code 752 = .ok (.iload 5, 2) := by decide +kernel
theorem d_LW_law_754 : decode code 754 = .ok (.ifCond .ne 15, 3) := by decide +kernel
theorem d_LW_law_757 : decode code 757 = .ok (.aload_n 3, 1) := by decide +kernel
theorem d_LW_law_758 : decode code 758 = .ok (.iconst 0, 1) := by decide +kernel
theorem d_LW_law_759 : decode code 759 = .ok (.laload, 1) := by decide +kernel
theorem d_LW_law_760 : decode code 760 = .ok (.iload 6, 2) := by decide +kernel
theorem d_LW_law_762 : decode code 762 = .ok (.i2l, 1) := by decide +kernel
theorem d_LW_law_763 : decode code 763 = .ok (.lcmp, 1) := by decide +kernel
theorem d_LW_law_764 : decode code 764 = .ok (.ifCond .eq 5, 3) := by decide +kernel
theorem d_LW_law_767 : decode code 767 = .ok (.iconst 0, 1) := by decide +kernel
theorem d_LW_law_768 : decode code 768 = .ok (.ireturn, 1) := by decide +kernel
theorem d_LW_law_769 : decode code 769 = .ok (.goto 535, 3) := by decide +kernel
theorem d_LW_law_772 : decode code 772 = .ok (.aload_n 1, 1) := by decide +kernel
theorem d_LW_law_773 : decode code 773 = .ok (.aload_n 0, 1) := by decide +kernel
theorem d_LW_law_774 : decode code 774 = .ok (.iload 4, 2) := by decide +kernel
theorem d_LW_law_776 : decode code 776 = .ok (.iconst 1, 1) := by decide +kernel
theorem d_LW_law_777 : decode code 777 = .ok (.iadd, 1) := by decide +kernel
theorem d_LW_law_778 : decode code 778 = .ok (.iaload, 1) := by decide +kernel
theorem d_LW_law_779 : decode code 779 = .ok (.aload_n 0, 1) := by decide +kernel
theorem d_LW_law_780 : decode code 780 = .ok (.iload 4, 2) := by decide +kernel
theorem d_LW_law_782 : decode code 782 = .ok (.iconst 2, 1) := by decide +kernel
theorem d_LW_law_783 : decode code 783 = .ok (.iadd, 1) := by decide +kernel
theorem d_LW_law_784 : decode code 784 = .ok (.iaload, 1) := by decide +kernel
theorem d_LW_law_785 : decode code 785 = .ok (.aload_n 3, 1) := by decide +kernel
theorem d_LW_law_786 : decode code 786 = .ok (.invokestatic 131, 3) := by decide +kernel
theorem d_LW_law_789 : decode code 789 = .ok (.istore 5, 2) := by decide +kernel
theorem d_LW_law_791 : decode code 791 = .ok (.aload_n 2, 1) := by decide +kernel
theorem d_LW_law_792 : decode code 792 = .ok (.aload_n 0, 1) := by decide +kernel
theorem d_LW_law_793 : decode code 793 = .ok (.iload 4, 2) := by decide +kernel
theorem d_LW_law_795 : decode code 795 = .ok (.iconst 1, 1) := by decide +kernel
theorem d_LW_law_796 : decode code 796 = .ok (.iadd, 1) := by decide +kernel
theorem d_LW_law_797 : decode code 797 = .ok (.iaload, 1) := by decide +kernel
theorem d_LW_law_798 : decode code 798 = .ok (.aload_n 0, 1) := by decide +kernel
theorem d_LW_law_799 : decode code 799 = .ok (.iload 4, 2) := by decide +kernel
theorem d_LW_law_801 : decode code 801 = .ok (.iconst 2, 1) := by decide +kernel
theorem d_LW_law_802 : decode code 802 = .ok (.iadd, 1) := by decide +kernel
theorem d_LW_law_803 : decode code 803 = .ok (.iaload, 1) := by decide +kernel
theorem d_LW_law_804 : decode code 804 = .ok (.invokevirtual 133, 3) := by decide +kernel
theorem d_LW_law_807 : decode code 807 = .ok (.istore 6, 2) := by decide +kernel
theorem d_LW_law_809 : decode code 809 = .ok (.aload_n 2, 1) := by decide +kernel
theorem d_LW_law_810 : decode code 810 = .ok (.invokevirtual 93, 3) := by decide +kernel
theorem d_LW_law_813 : decode code 813 = .ok (.iload 5, 2) := by decide +kernel
theorem d_LW_law_815 : decode code 815 = .ok (.if_icmp .eq 5, 3) := by decide +kernel
theorem d_LW_law_818 : decode code 818 = .ok (.iconst 0, 1) := by decide +kernel
theorem d_LW_law_819 : decode code 819 = .ok (.ireturn, 1) := by decide +kernel
theorem d_LW_law_820 : decode code 820 = .ok (.iload 5, 2) := by decide +kernel
theorem d_LW_law_822 : decode code 822 = .ok (.ifCond .ne 15, 3) := by decide +kernel
theorem d_LW_law_825 : decode code 825 = .ok (.aload_n 3, 1) := by decide +kernel
theorem d_LW_law_826 : decode code 826 = .ok (.iconst 0, 1) := by decide +kernel
theorem d_LW_law_827 : decode code 827 = .ok (.laload, 1) := by decide +kernel
theorem d_LW_law_828 : decode code 828 = .ok (.iload 6, 2) := by decide +kernel
theorem d_LW_law_830 : decode code 830 = .ok (.i2l, 1) := by decide +kernel
theorem d_LW_law_831 : decode code 831 = .ok (.lcmp, 1) := by decide +kernel
theorem d_LW_law_832 : decode code 832 = .ok (.ifCond .eq 5, 3) := by decide +kernel
theorem d_LW_law_835 : decode code 835 = .ok (.iconst 0, 1) := by decide +kernel
theorem d_LW_law_836 : decode code 836 = .ok (.ireturn, 1) := by decide +kernel
theorem d_LW_law_837 : decode code 837 = .ok (.goto 467, 3) := by decide +kernel
theorem d_LW_law_840 : decode code 840 = .ok (.aload_n 1, 1) := by decide +kernel
theorem d_LW_law_841 : decode code 841 = .ok (.aload_n 0, 1) := by decide +kernel
theorem d_LW_law_842 : decode code 842 = .ok (.iload 4, 2) := by decide +kernel
theorem d_LW_law_844 : decode code 844 = .ok (.iconst 1, 1) := by decide +kernel
theorem d_LW_law_845 : decode code 845 = .ok (.iadd, 1) := by decide +kernel
theorem d_LW_law_846 : decode code 846 = .ok (.iaload, 1) := by decide +kernel
theorem d_LW_law_847 : decode code 847 = .ok (.invokestatic 134, 3) := by decide +kernel
theorem d_LW_law_850 : decode code 850 = .ok (.istore 5, 2) := by decide +kernel
theorem d_LW_law_852 : decode code 852 = .ok (.aload_n 2, 1) := by decide +kernel
theorem d_LW_law_853 : decode code 853 = .ok (.aload_n 0, 1) := by decide +kernel
theorem d_LW_law_854 : decode code 854 = .ok (.iload 4, 2) := by decide +kernel
theorem d_LW_law_856 : decode code 856 = .ok (.iconst 1, 1) := by decide +kernel
theorem d_LW_law_857 : decode code 857 = .ok (.iadd, 1) := by decide +kernel
theorem d_LW_law_858 : decode code 858 = .ok (.iaload, 1) := by decide +kernel
theorem d_LW_law_859 : decode code 859 = .ok (.invokevirtual 136, 3) := by decide +kernel
theorem d_LW_law_862 : decode code 862 = .ok (.aload_n 2, 1) := by decide +kernel
theorem d_LW_law_863 : decode code 863 = .ok (.invokevirtual 93, 3) := by decide +kernel
theorem d_LW_law_866 : decode code 866 = .ok (.iload 5, 2) := by decide +kernel
theorem d_LW_law_868 : decode code 868 = .ok (.if_icmp .eq 5, 3) := by decide +kernel
theorem d_LW_law_871 : decode code 871 = .ok (.iconst 0, 1) := by decide +kernel
theorem d_LW_law_872 : decode code 872 = .ok (.ireturn, 1) := by decide +kernel
theorem d_LW_law_873 : decode code 873 = .ok (.goto 431, 3) := by decide +kernel
theorem d_LW_law_876 : decode code 876 = .ok (.aload_n 1, 1) := by decide +kernel
theorem d_LW_law_877 : decode code 877 = .ok (.aload_n 0, 1) := by decide +kernel
theorem d_LW_law_878 : decode code 878 = .ok (.iload 4, 2) := by decide +kernel
theorem d_LW_law_880 : decode code 880 = .ok (.iconst 1, 1) := by decide +kernel
theorem d_LW_law_881 : decode code 881 = .ok (.iadd, 1) := by decide +kernel
theorem d_LW_law_882 : decode code 882 = .ok (.iaload, 1) := by decide +kernel
theorem d_LW_law_883 : decode code 883 = .ok (.aload_n 0, 1) := by decide +kernel
theorem d_LW_law_884 : decode code 884 = .ok (.iload 4, 2) := by decide +kernel
theorem d_LW_law_886 : decode code 886 = .ok (.iconst 2, 1) := by decide +kernel
theorem d_LW_law_887 : decode code 887 = .ok (.iadd, 1) := by decide +kernel
theorem d_LW_law_888 : decode code 888 = .ok (.iaload, 1) := by decide +kernel
theorem d_LW_law_889 : decode code 889 = .ok (.aload_n 3, 1) := by decide +kernel
theorem d_LW_law_890 : decode code 890 = .ok (.invokestatic 137, 3) := by decide +kernel
theorem d_LW_law_893 : decode code 893 = .ok (.istore 5, 2) := by decide +kernel
theorem d_LW_law_895 : decode code 895 = .ok (.aload_n 2, 1) := by decide +kernel
theorem d_LW_law_896 : decode code 896 = .ok (.aload_n 0, 1) := by decide +kernel
theorem d_LW_law_897 : decode code 897 = .ok (.iload 4, 2) := by decide +kernel
theorem d_LW_law_899 : decode code 899 = .ok (.iconst 1, 1) := by decide +kernel
theorem d_LW_law_900 : decode code 900 = .ok (.iadd, 1) := by decide +kernel
theorem d_LW_law_901 : decode code 901 = .ok (.iaload, 1) := by decide +kernel
theorem d_LW_law_902 : decode code 902 = .ok (.aload_n 0, 1) := by decide +kernel
theorem d_LW_law_903 : decode code 903 = .ok (.iload 4, 2) := by decide +kernel
theorem d_LW_law_905 : decode code 905 = .ok (.iconst 2, 1) := by decide +kernel
theorem d_LW_law_906 : decode code 906 = .ok (.iadd, 1) := by decide +kernel
theorem d_LW_law_907 : decode code 907 = .ok (.iaload, 1) := by decide +kernel
theorem d_LW_law_908 : decode code 908 = .ok (.invokevirtual 139, 3) := by decide +kernel
theorem d_LW_law_911 : decode code 911 = .ok (.istore 6, 2) := by decide +kernel
theorem d_LW_law_913 : decode code 913 = .ok (.aload_n 2, 1) := by decide +kernel
theorem d_LW_law_914 : decode code 914 = .ok (.invokevirtual 93, 3) := by decide +kernel
theorem d_LW_law_917 : decode code 917 = .ok (.iload 5, 2) := by decide +kernel
theorem d_LW_law_919 : decode code 919 = .ok (.if_icmp .eq 5, 3) := by decide +kernel
theorem d_LW_law_922 : decode code 922 = .ok (.iconst 0, 1) := by decide +kernel
theorem d_LW_law_923 : decode code 923 = .ok (.ireturn, 1) := by decide +kernel
theorem d_LW_law_924 : decode code 924 = .ok (.iload 5, 2) := by decide +kernel
theorem d_LW_law_926 : decode code 926 = .ok (.ifCond .ne 15, 3) := by decide +kernel
theorem d_LW_law_929 : decode code 929 = .ok (.aload_n 3, 1) := by decide +kernel
theorem d_LW_law_930 : decode code 930 = .ok (.iconst 0, 1) := by decide +kernel
theorem d_LW_law_931 : decode code 931 = .ok (.laload, 1) := by decide +kernel
theorem d_LW_law_932 : decode code 932 = .ok (.iload 6, 2) := by decide +kernel
theorem d_LW_law_934 : decode code 934 = .ok (.i2l, 1) := by decide +kernel
theorem d_LW_law_935 : decode code 935 = .ok (.lcmp, 1) := by decide +kernel
theorem d_LW_law_936 : decode code 936 = .ok (.ifCond .eq 5, 3) := by decide +kernel
theorem d_LW_law_939 : decode code 939 = .ok (.iconst 0, 1) := by decide +kernel
theorem d_LW_law_940 : decode code 940 = .ok (.ireturn, 1) := by decide +kernel
theorem d_LW_law_941 : decode code 941 = .ok (.goto 363, 3) := by decide +kernel
theorem d_LW_law_944 : decode code 944 = .ok (.aload_n 1, 1) := by decide +kernel
theorem d_LW_law_945 : decode code 945 = .ok (.aload_n 0, 1) := by decide +kernel
theorem d_LW_law_946 : decode code 946 = .ok (.iload 4, 2) := by decide +kernel
theorem d_LW_law_948 : decode code 948 = .ok (.iconst 1, 1) := by decide +kernel
theorem d_LW_law_949 : decode code 949 = .ok (.iadd, 1) := by decide +kernel
theorem d_LW_law_950 : decode code 950 = .ok (.iaload, 1) := by decide +kernel
theorem d_LW_law_951 : decode code 951 = .ok (.aload_n 3, 1) := by decide +kernel
theorem d_LW_law_952 : decode code 952 = .ok (.invokestatic 140, 3) := by decide +kernel
theorem d_LW_law_955 : decode code 955 = .ok (.istore 5, 2) := by decide +kernel
theorem d_LW_law_957 : decode code 957 = .ok (.aload_n 2, 1) := by decide +kernel
theorem d_LW_law_958 : decode code 958 = .ok (.aload_n 0, 1) := by decide +kernel
theorem d_LW_law_959 : decode code 959 = .ok (.iload 4, 2) := by decide +kernel
theorem d_LW_law_961 : decode code 961 = .ok (.iconst 1, 1) := by decide +kernel
theorem d_LW_law_962 : decode code 962 = .ok (.iadd, 1) := by decide +kernel
theorem d_LW_law_963 : decode code 963 = .ok (.iaload, 1) := by decide +kernel
theorem d_LW_law_964 : decode code 964 = .ok (.invokevirtual 142, 3) := by decide +kernel
theorem d_LW_law_967 : decode code 967 = .ok (.istore 6, 2) := by decide +kernel
theorem d_LW_law_969 : decode code 969 = .ok (.aload_n 2, 1) := by decide +kernel
theorem d_LW_law_970 : decode code 970 = .ok (.invokevirtual 93, 3) := by decide +kernel
theorem d_LW_law_973 : decode code 973 = .ok (.iload 5, 2) := by decide +kernel
theorem d_LW_law_975 : decode code 975 = .ok (.if_icmp .eq 5, 3) := by decide +kernel
theorem d_LW_law_978 : decode code 978 = .ok (.iconst 0, 1) := by decide +kernel
theorem d_LW_law_979 : decode code 979 = .ok (.ireturn, 1) := by decide +kernel
theorem d_LW_law_980 : decode code 980 = .ok (.iload 5, 2) := by decide +kernel
theorem d_LW_law_982 : decode code 982 = .ok (.ifCond .ne 15, 3) := by decide +kernel
theorem d_LW_law_985 : decode code 985 = .ok (.aload_n 3, 1) := by decide +kernel
theorem d_LW_law_986 : decode code 986 = .ok (.iconst 0, 1) := by decide +kernel
theorem d_LW_law_987 : decode code 987 = .ok (.laload, 1) := by decide +kernel
theorem d_LW_law_988 : decode code 988 = .ok (.iload 6, 2) := by decide +kernel
theorem d_LW_law_990 : decode code 990 = .ok (.i2l, 1) := by decide +kernel
theorem d_LW_law_991 : decode code 991 = .ok (.lcmp, 1) := by decide +kernel
theorem d_LW_law_992 : decode code 992 = .ok (.ifCond .eq 5, 3) := by decide +kernel
theorem d_LW_law_995 : decode code 995 = .ok (.iconst 0, 1) := by decide +kernel
theorem d_LW_law_996 : decode code 996 = .ok (.ireturn, 1) := by decide +kernel
theorem d_LW_law_997 : decode code 997 = .ok (.goto 307, 3) := by decide +kernel
theorem d_LW_law_1000 : decode code 1000 = .ok (.aload_n 1, 1) := by decide +kernel
theorem d_LW_law_1001 : decode code 1001 = .ok (.aload_n 0, 1) := by decide +kernel
theorem d_LW_law_1002 : decode code 1002 = .ok (.iload 4, 2) := by decide +kernel
theorem d_LW_law_1004 : decode code 1004 = .ok (.iconst 1, 1) := by decide +kernel
theorem d_LW_law_1005 : decode code 1005 = .ok (.iadd, 1) := by decide +kernel
theorem d_LW_law_1006 : decode code 1006 = .ok (.iaload, 1) := by decide +kernel
theorem d_LW_law_1007 : decode code 1007 = .ok (.aload_n 3, 1) := by decide +kernel
theorem d_LW_law_1008 : decode code 1008 = .ok (.invokestatic 143, 3) := by decide +kernel
theorem d_LW_law_1011 : decode code 1011 = .ok (.istore 5, 2) := by decide +kernel
theorem d_LW_law_1013 : decode code 1013 = .ok (.aload_n 2, 1) := by decide +kernel
theorem d_LW_law_1014 : decode code 1014 = .ok (.aload_n 0, 1) := by decide +kernel
theorem d_LW_law_1015 : decode code 1015 = .ok (.iload 4, 2) := by decide +kernel
end
section
theorem d_LW_law_1017 : decode code 1017 = .ok (.iconst 1, 1) := by decide +kernel
theorem d_LW_law_1018 : decode code 1018 = .ok (.iadd, 1) := by decide +kernel
theorem d_LW_law_1019 : decode code 1019 = .ok (.iaload, 1) := by decide +kernel
theorem d_LW_law_1020 : decode code 1020 = .ok (.invokevirtual 145, 3) := by decide +kernel
theorem d_LW_law_1023 : decode code 1023 = .ok (.istore 6, 2) := by decide +kernel
theorem d_LW_law_1025 : decode code 1025 = .ok (.aload_n 2, 1) := by decide +kernel
theorem d_LW_law_1026 : decode code 1026 = .ok (.invokevirtual 93, 3) := by decide +kernel
theorem d_LW_law_1029 : decode code 1029 = .ok (.iload 5, 2) := by decide +kernel
theorem d_LW_law_1031 : decode code 1031 = .ok (.if_icmp .eq 5, 3) := by decide +kernel
theorem d_LW_law_1034 : decode code 1034 = .ok (.iconst 0, 1) := by decide +kernel
theorem d_LW_law_1035 : decode code 1035 = .ok (.ireturn, 1) := by decide +kernel
theorem d_LW_law_1036 : decode code 1036 = .ok (.iload 5, 2) := by decide +kernel
theorem d_LW_law_1038 : decode code 1038 = .ok (.ifCond .ne 15, 3) := by decide +kernel
theorem d_LW_law_1041 : decode code 1041 = .ok (.aload_n 3, 1) := by decide +kernel
theorem d_LW_law_1042 : decode code 1042 = .ok (.iconst 0, 1) := by decide +kernel
theorem d_LW_law_1043 : decode code 1043 = .ok (.laload, 1) := by decide +kernel
theorem d_LW_law_1044 : decode code 1044 = .ok (.iload 6, 2) := by decide +kernel
theorem d_LW_law_1046 : decode code 1046 = .ok (.i2l, 1) := by decide +kernel
theorem d_LW_law_1047 : decode code 1047 = .ok (.lcmp, 1) := by decide +kernel
theorem d_LW_law_1048 : decode code 1048 = .ok (.ifCond .eq 5, 3) := by decide +kernel
theorem d_LW_law_1051 : decode code 1051 = .ok (.iconst 0, 1) := by decide +kernel
theorem d_LW_law_1052 : decode code 1052 = .ok (.ireturn, 1) := by decide +kernel
theorem d_LW_law_1053 : decode code 1053 = .ok (.goto 251, 3) := by decide +kernel
theorem d_LW_law_1056 : decode code 1056 = .ok (.aload_n 1, 1) := by decide +kernel
theorem d_LW_law_1057 : decode code 1057 = .ok (.aload_n 0, 1) := by decide +kernel
theorem d_LW_law_1058 : decode code 1058 = .ok (.iload 4, 2) := by decide +kernel
theorem d_LW_law_1060 : decode code 1060 = .ok (.iconst 1, 1) := by decide +kernel
theorem d_LW_law_1061 : decode code 1061 = .ok (.iadd, 1) := by decide +kernel
theorem d_LW_law_1062 : decode code 1062 = .ok (.iaload, 1) := by decide +kernel
theorem d_LW_law_1063 : decode code 1063 = .ok (.aload_n 0, 1) := by decide +kernel
theorem d_LW_law_1064 : decode code 1064 = .ok (.iload 4, 2) := by decide +kernel
theorem d_LW_law_1066 : decode code 1066 = .ok (.iconst 2, 1) := by decide +kernel
theorem d_LW_law_1067 : decode code 1067 = .ok (.iadd, 1) := by decide +kernel
theorem d_LW_law_1068 : decode code 1068 = .ok (.iaload, 1) := by decide +kernel
theorem d_LW_law_1069 : decode code 1069 = .ok (.aload_n 3, 1) := by decide +kernel
theorem d_LW_law_1070 : decode code 1070 = .ok (.invokestatic 146, 3) := by decide +kernel
theorem d_LW_law_1073 : decode code 1073 = .ok (.istore 5, 2) := by decide +kernel
theorem d_LW_law_1075 : decode code 1075 = .ok (.aload_n 2, 1) := by decide +kernel
theorem d_LW_law_1076 : decode code 1076 = .ok (.aload_n 0, 1) := by decide +kernel
theorem d_LW_law_1077 : decode code 1077 = .ok (.iload 4, 2) := by decide +kernel
theorem d_LW_law_1079 : decode code 1079 = .ok (.iconst 1, 1) := by decide +kernel
theorem d_LW_law_1080 : decode code 1080 = .ok (.iadd, 1) := by decide +kernel
theorem d_LW_law_1081 : decode code 1081 = .ok (.iaload, 1) := by decide +kernel
theorem d_LW_law_1082 : decode code 1082 = .ok (.aload_n 0, 1) := by decide +kernel
theorem d_LW_law_1083 : decode code 1083 = .ok (.iload 4, 2) := by decide +kernel
theorem d_LW_law_1085 : decode code 1085 = .ok (.iconst 2, 1) := by decide +kernel
theorem d_LW_law_1086 : decode code 1086 = .ok (.iadd, 1) := by decide +kernel
theorem d_LW_law_1087 : decode code 1087 = .ok (.iaload, 1) := by decide +kernel
theorem d_LW_law_1088 : decode code 1088 = .ok (.invokevirtual 148, 3) := by decide +kernel
theorem d_LW_law_1091 : decode code 1091 = .ok (.istore 6, 2) := by decide +kernel
theorem d_LW_law_1093 : decode code 1093 = .ok (.aload_n 2, 1) := by decide +kernel
theorem d_LW_law_1094 : decode code 1094 = .ok (.invokevirtual 93, 3) := by decide +kernel
theorem d_LW_law_1097 : decode code 1097 = .ok (.iload 5, 2) := by decide +kernel
theorem d_LW_law_1099 : decode code 1099 = .ok (.if_icmp .eq 5, 3) := by decide +kernel
theorem d_LW_law_1102 : decode code 1102 = .ok (.iconst 0, 1) := by decide +kernel
theorem d_LW_law_1103 : decode code 1103 = .ok (.ireturn, 1) := by decide +kernel
theorem d_LW_law_1104 : decode code 1104 = .ok (.iload 5, 2) := by decide +kernel
theorem d_LW_law_1106 : decode code 1106 = .ok (.ifCond .ne 15, 3) := by decide +kernel
theorem d_LW_law_1109 : decode code 1109 = .ok (.aload_n 3, 1) := by decide +kernel
theorem d_LW_law_1110 : decode code 1110 = .ok (.iconst 0, 1) := by decide +kernel
theorem d_LW_law_1111 : decode code 1111 = .ok (.laload, 1) := by decide +kernel
theorem d_LW_law_1112 : decode code 1112 = .ok (.iload 6, 2) := by decide +kernel
theorem d_LW_law_1114 : decode code 1114 = .ok (.i2l, 1) := by decide +kernel
theorem d_LW_law_1115 : decode code 1115 = .ok (.lcmp, 1) := by decide +kernel
theorem d_LW_law_1116 : decode code 1116 = .ok (.ifCond .eq 5, 3) := by decide +kernel
theorem d_LW_law_1119 : decode code 1119 = .ok (.iconst 0, 1) := by decide +kernel
theorem d_LW_law_1120 : decode code 1120 = .ok (.ireturn, 1) := by decide +kernel
theorem d_LW_law_1121 : decode code 1121 = .ok (.goto 183, 3) := by decide +kernel
theorem d_LW_law_1124 : decode code 1124 = .ok (.aload_n 1, 1) := by decide +kernel
theorem d_LW_law_1125 : decode code 1125 = .ok (.aload_n 0, 1) := by decide +kernel
theorem d_LW_law_1126 : decode code 1126 = .ok (.iload 4, 2) := by decide +kernel
theorem d_LW_law_1128 : decode code 1128 = .ok (.iconst 1, 1) := by decide +kernel
theorem d_LW_law_1129 : decode code 1129 = .ok (.iadd, 1) := by decide +kernel
theorem d_LW_law_1130 : decode code 1130 = .ok (.iaload, 1) := by decide +kernel
theorem d_LW_law_1131 : decode code 1131 = .ok (.aload_n 3, 1) := by decide +kernel
theorem d_LW_law_1132 : decode code 1132 = .ok (.invokestatic 149, 3) := by decide +kernel
theorem d_LW_law_1135 : decode code 1135 = .ok (.istore 5, 2) := by decide +kernel
theorem d_LW_law_1137 : decode code 1137 = .ok (.aload_n 2, 1) := by decide +kernel
theorem d_LW_law_1138 : decode code 1138 = .ok (.aload_n 0, 1) := by decide +kernel
theorem d_LW_law_1139 : decode code 1139 = .ok (.iload 4, 2) := by decide +kernel
theorem d_LW_law_1141 : decode code 1141 = .ok (.iconst 1, 1) := by decide +kernel
theorem d_LW_law_1142 : decode code 1142 = .ok (.iadd, 1) := by decide +kernel
theorem d_LW_law_1143 : decode code 1143 = .ok (.iaload, 1) := by decide +kernel
theorem d_LW_law_1144 : decode code 1144 = .ok (.invokevirtual 151, 3) := by decide +kernel
theorem d_LW_law_1147 : decode code 1147 = .ok (.istore 6, 2) := by decide +kernel
theorem d_LW_law_1149 : decode code 1149 = .ok (.aload_n 2, 1) := by decide +kernel
theorem d_LW_law_1150 : decode code 1150 = .ok (.invokevirtual 93, 3) := by decide +kernel
theorem d_LW_law_1153 : decode code 1153 = .ok (.iload 5, 2) := by decide +kernel
theorem d_LW_law_1155 : decode code 1155 = .ok (.if_icmp .eq 5, 3) := by decide +kernel
theorem d_LW_law_1158 : decode code 1158 = .ok (.iconst 0, 1) := by decide +kernel
theorem d_LW_law_1159 : decode code 1159 = .ok (.ireturn, 1) := by decide +kernel
theorem d_LW_law_1160 : decode code 1160 = .ok (.iload 5, 2) := by decide +kernel
theorem d_LW_law_1162 : decode code 1162 = .ok (.ifCond .ne 15, 3) := by decide +kernel
theorem d_LW_law_1165 : decode code 1165 = .ok (.aload_n 3, 1) := by decide +kernel
theorem d_LW_law_1166 : decode code 1166 = .ok (.iconst 0, 1) := by decide +kernel
theorem d_LW_law_1167 : decode code 1167 = .ok (.laload, 1) := by decide +kernel
theorem d_LW_law_1168 : decode code 1168 = .ok (.iload 6, 2) := by decide +kernel
theorem d_LW_law_1170 : decode code 1170 = .ok (.i2l, 1) := by decide +kernel
theorem d_LW_law_1171 : decode code 1171 = .ok (.lcmp, 1) := by decide +kernel
theorem d_LW_law_1172 : decode code 1172 = .ok (.ifCond .eq 5, 3) := by decide +kernel
theorem d_LW_law_1175 : decode code 1175 = .ok (.iconst 0, 1) := by decide +kernel
theorem d_LW_law_1176 : decode code 1176 = .ok (.ireturn, 1) := by decide +kernel
theorem d_LW_law_1177 : decode code 1177 = .ok (.goto 127, 3) := by decide +kernel
theorem d_LW_law_1180 : decode code 1180 = .ok (.aload_n 1, 1) := by decide +kernel
theorem d_LW_law_1181 : decode code 1181 = .ok (.aload_n 0, 1) := by decide +kernel
theorem d_LW_law_1182 : decode code 1182 = .ok (.iload 4, 2) := by decide +kernel
theorem d_LW_law_1184 : decode code 1184 = .ok (.iconst 1, 1) := by decide +kernel
theorem d_LW_law_1185 : decode code 1185 = .ok (.iadd, 1) := by decide +kernel
theorem d_LW_law_1186 : decode code 1186 = .ok (.iaload, 1) := by decide +kernel
theorem d_LW_law_1187 : decode code 1187 = .ok (.aload_n 0, 1) := by decide +kernel
theorem d_LW_law_1188 : decode code 1188 = .ok (.iload 4, 2) := by decide +kernel
theorem d_LW_law_1190 : decode code 1190 = .ok (.iconst 2, 1) := by decide +kernel
theorem d_LW_law_1191 : decode code 1191 = .ok (.iadd, 1) := by decide +kernel
theorem d_LW_law_1192 : decode code 1192 = .ok (.iaload, 1) := by decide +kernel
theorem d_LW_law_1193 : decode code 1193 = .ok (.aload_n 3, 1) := by decide +kernel
theorem d_LW_law_1194 : decode code 1194 = .ok (.invokestatic 152, 3) := by decide +kernel
theorem d_LW_law_1197 : decode code 1197 = .ok (.istore 5, 2) := by decide +kernel
theorem d_LW_law_1199 : decode code 1199 = .ok (.aload_n 2, 1) := by decide +kernel
theorem d_LW_law_1200 : decode code 1200 = .ok (.aload_n 0, 1) := by decide +kernel
theorem d_LW_law_1201 : decode code 1201 = .ok (.iload 4, 2) := by decide +kernel
theorem d_LW_law_1203 : decode code 1203 = .ok (.iconst 1, 1) := by decide +kernel
theorem d_LW_law_1204 : decode code 1204 = .ok (.iadd, 1) := by decide +kernel
theorem d_LW_law_1205 : decode code 1205 = .ok (.iaload, 1) := by decide +kernel
theorem d_LW_law_1206 : decode code 1206 = .ok (.aload_n 0, 1) := by decide +kernel
theorem d_LW_law_1207 : decode code 1207 = .ok (.iload 4, 2) := by decide +kernel
theorem d_LW_law_1209 : decode code 1209 = .ok (.iconst 2, 1) := by decide +kernel
theorem d_LW_law_1210 : decode code 1210 = .ok (.iadd, 1) := by decide +kernel
theorem d_LW_law_1211 : decode code 1211 = .ok (.iaload, 1) := by decide +kernel
theorem d_LW_law_1212 : decode code 1212 = .ok (.invokevirtual 154, 3) := by decide +kernel
theorem d_LW_law_1215 : decode code 1215 = .ok (.istore 6, 2) := by decide +kernel
theorem d_LW_law_1217 : decode code 1217 = .ok (.aload_n 2, 1) := by decide +kernel
theorem d_LW_law_1218 : decode code 1218 = .ok (.invokevirtual 93, 3) := by decide +kernel
theorem d_LW_law_1221 : decode code 1221 = .ok (.iload 5, 2) := by decide +kernel
theorem d_LW_law_1223 : decode code 1223 = .ok (.if_icmp .eq 5, 3) := by decide +kernel
theorem d_LW_law_1226 : decode code 1226 = .ok (.iconst 0, 1) := by decide +kernel
theorem d_LW_law_1227 : decode code 1227 = .ok (.ireturn, 1) := by decide +kernel
theorem d_LW_law_1228 : decode code 1228 = .ok (.iload 5, 2) := by decide +kernel
theorem d_LW_law_1230 : decode code 1230 = .ok (.ifCond .ne 15, 3) := by decide +kernel
theorem d_LW_law_1233 : decode code 1233 = .ok (.aload_n 3, 1) := by decide +kernel
theorem d_LW_law_1234 : decode code 1234 = .ok (.iconst 0, 1) := by decide +kernel
theorem d_LW_law_1235 : decode code 1235 = .ok (.laload, 1) := by decide +kernel
theorem d_LW_law_1236 : decode code 1236 = .ok (.iload 6, 2) := by decide +kernel
theorem d_LW_law_1238 : decode code 1238 = .ok (.i2l, 1) := by decide +kernel
theorem d_LW_law_1239 : decode code 1239 = .ok (.lcmp, 1) := by decide +kernel
theorem d_LW_law_1240 : decode code 1240 = .ok (.ifCond .eq 5, 3) := by decide +kernel
theorem d_LW_law_1243 : decode code 1243 = .ok (.iconst 0, 1) := by decide +kernel
theorem d_LW_law_1244 : decode code 1244 = .ok (.ireturn, 1) := by decide +kernel
theorem d_LW_law_1245 : decode code 1245 = .ok (.goto 59, 3) := by decide +kernel
theorem d_LW_law_1248 : decode code 1248 = .ok (.aload_n 1, 1) := by decide +kernel
theorem d_LW_law_1249 : decode code 1249 = .ok (.aload_n 0, 1) := by decide +kernel
theorem d_LW_law_1250 : decode code 1250 = .ok (.iload 4, 2) := by decide +kernel
theorem d_LW_law_1252 : decode code 1252 = .ok (.iconst 1, 1) := by decide +kernel
theorem d_LW_law_1253 : decode code 1253 = .ok (.iadd, 1) := by decide +kernel
theorem d_LW_law_1254 : decode code 1254 = .ok (.iaload, 1) := by decide +kernel
theorem d_LW_law_1255 : decode code 1255 = .ok (.aload_n 3, 1) := by decide +kernel
theorem d_LW_law_1256 : decode code 1256 = .ok (.invokestatic 155, 3) := by decide +kernel
theorem d_LW_law_1259 : decode code 1259 = .ok (.istore 5, 2) := by decide +kernel
theorem d_LW_law_1261 : decode code 1261 = .ok (.aload_n 2, 1) := by decide +kernel
theorem d_LW_law_1262 : decode code 1262 = .ok (.aload_n 0, 1) := by decide +kernel
theorem d_LW_law_1263 : decode code 1263 = .ok (.iload 4, 2) := by decide +kernel
theorem d_LW_law_1265 : decode code 1265 = .ok (.iconst 1, 1) := by decide +kernel
theorem d_LW_law_1266 : decode code 1266 = .ok (.iadd, 1) := by decide +kernel
theorem d_LW_law_1267 : decode code 1267 = .ok (.iaload, 1) := by decide +kernel
theorem d_LW_law_1268 : decode code 1268 = .ok (.invokevirtual 157, 3) := by decide +kernel
theorem d_LW_law_1271 : decode code 1271 = .ok (.istore 6, 2) := by decide +kernel
theorem d_LW_law_1273 : decode code 1273 = .ok (.aload_n 2, 1) := by decide +kernel
theorem d_LW_law_1274 : decode code 1274 = .ok (.invokevirtual 93, 3) := by decide +kernel
theorem d_LW_law_1277 : decode code 1277 = .ok (.iload 5, 2) := by decide +kernel
theorem d_LW_law_1279 : decode code 1279 = .ok (.if_icmp .eq 5, 3) := by decide +kernel
theorem d_LW_law_1282 : decode code 1282 = .ok (.iconst 0, 1) := by decide +kernel
theorem d_LW_law_1283 : decode code 1283 = .ok (.ireturn, 1) := by decide +kernel
theorem d_LW_law_1284 : decode code 1284 = .ok (.iload 5, 2) := by decide +kernel
theorem d_LW_law_1286 : decode code 1286 = .ok (.ifCond .ne 15, 3) := by decide +kernel
theorem d_LW_law_1289 : decode code 1289 = .ok (.aload_n 3, 1) := by decide +kernel
theorem d_LW_law_1290 : decode code 1290 = .ok (.iconst 0, 1) := by decide +kernel
theorem d_LW_law_1291 : decode code 1291 = .ok (.laload, 1) := by decide +kernel
theorem d_LW_law_1292 : decode code 1292 = .ok (.iload 6, 2) := by decide +kernel
theorem d_LW_law_1294 : decode code 1294 = .ok (.i2l, 1) := by decide +kernel
theorem d_LW_law_1295 : decode code 1295 = .ok (.lcmp, 1) := by decide +kernel
theorem d_LW_law_1296 : decode code 1296 = .ok (.ifCond .eq 5, 3) := by decide +kernel
theorem d_LW_law_1299 : decode code 1299 = .ok (.iconst 0, 1) := by decide +kernel
theorem d_LW_law_1300 : decode code 1300 = .ok (.ireturn, 1) := by decide +kernel
theorem d_LW_law_1301 : decode code 1301 = .ok (.goto 3, 3) := by decide +kernel
theorem d_LW_law_1304 : decode code 1304 = .ok (.iinc 4 4, 3) := by decide +kernel
theorem d_LW_law_1307 : decode code 1307 = .ok (.goto (-1284), 3) := by decide +kernel
theorem d_LW_law_1310 : decode code 1310 = .ok (.iconst 1, 1) := by decide +kernel
theorem d_LW_law_1311 : decode code 1311 = .ok (.ireturn, 1) := by decide +kernel
end
section
/-! THE ABSTRACT HEAP: a partial map of addresses to the kit's cells; and the judgement Z over it. -/
abbrev Hp : Type := Nat → Option va_E
def zu (h : Hp) (a : Nat) (e : va_E) : Hp := fun x => if x = a then some e else h x
theorem zu_s {h : Hp} {a : Nat} {e : va_E} : zu h a e a = some e := if_pos rfl
theorem zu_n {h : Hp} {a x : Nat} {e : va_E} (hne : x ≠ a) : zu h a e x = h x := if_neg hne
def zw (h : Hp) (ws : va_W) : Prop := ∀ (a : Nat) (e : va_E), h a = some e ↔ (a, e) ∈ ws
theorem zw_at {h : Hp} {ws : va_W} (hw : zw h ws) {a : Nat} {e : va_E} (ha : h a = some e) : ∃ k : Nat, ws[k]? = some (a, e) := List.getElem?_of_mem ((hw a e).mp ha)
theorem zw_set {h : Hp} {ws : va_W} {A : Nat → Prop} (hw : zw h ws) (hD : va_D A ws) {k a : Nat} {e0 e : va_E} (hk : ws[k]? = some (a, e0)) : zw (zu h a e) (ws.set k (a, e)) := by
  have hl := (List.getElem?_eq_some_iff.mp hk).1
  have hset : (ws.set k (a, e))[k]? = some (a, e) := List.getElem?_set_self hl
  intro x y
  unfold zu
  by_cases hx : x = a
  · subst hx
    rw [if_pos rfl]
    constructor
    · intro hy
      cases hy
      exact List.mem_of_getElem? hset
    · intro hm
      obtain ⟨j, hj⟩ := List.getElem?_of_mem hm
      by_cases hjk : j = k
      · subst hjk
        rw [hset] at hj
        cases hj
        rfl
      · rw [List.getElem?_set_ne (Ne.symm hjk)] at hj
        exact absurd (hD.1 j k _ _ hj hk rfl) hjk
  · rw [if_neg hx, hw x y]
    constructor
    · intro hm
      obtain ⟨j, hj⟩ := List.getElem?_of_mem hm
      have hjk : j ≠ k := by
        intro ejk
        rw [ejk, hk] at hj
        cases hj
        exact hx rfl
      exact List.mem_of_getElem? (i := j) (by rw [List.getElem?_set_ne (Ne.symm hjk)]; exact hj)
    · intro hm
      obtain ⟨j, hj⟩ := List.getElem?_of_mem hm
      by_cases hjk : j = k
      · subst hjk
        rw [hset] at hj
        cases hj
        exact absurd rfl hx
      · rw [List.getElem?_set_ne (Ne.symm hjk)] at hj
        exact List.mem_of_getElem? hj
theorem zw_push {h : Hp} {ws : va_W} {A : Nat → Prop} (hw : zw h ws) {q : Nat} {e : va_E} (hD : va_D A (ws ++ [(q, e)])) : h q = none ∧ zw (zu h q e) (ws ++ [(q, e)]) := by
  have hlast : (ws ++ [(q, e)])[ws.length]? = some (q, e) := by simp
  have hq : ∀ y, (q, y) ∉ ws := by
    intro y hm
    obtain ⟨j, hj⟩ := List.getElem?_of_mem hm
    have hl := (List.getElem?_eq_some_iff.mp hj).1
    have h1 : (ws ++ [(q, e)])[j]? = some (q, y) := by rw [List.getElem?_append_left hl]; exact hj
    have := hD.1 j ws.length _ _ h1 hlast rfl
    omega
  constructor
  · cases hh : h q with
    | none => rfl
    | some y => exact absurd ((hw q y).mp hh) (hq y)
  · intro x y
    unfold zu
    by_cases hx : x = q
    · subst hx
      rw [if_pos rfl]
      constructor
      · intro hy
        cases hy
        exact List.mem_append.mpr (Or.inr (List.mem_singleton.mpr rfl))
      · intro hm
        rcases List.mem_append.mp hm with h1 | h1
        · exact absurd h1 (hq y)
        · have := List.mem_singleton.mp h1
          cases this
          rfl
    · rw [if_neg hx, hw x y]
      constructor
      · exact fun hm => List.mem_append.mpr (Or.inl hm)
      · intro hm
        rcases List.mem_append.mp hm with h1 | h1
        · exact h1
        · have := List.mem_singleton.mp h1
          cases this
          exact absurd rfl hx
/-- what is the same in a whole run: the launch, the slots, the array classes' numbers (int, boolean, long, Object), the first address that is the run's own, ArrayList's empty array, the Class object of Object[] -/
abbrev zG : Type := Launch × va_G × (Nat → ClassId) × Nat × Nat × Nat
abbrev zG.bs (g : zG) : Nat := g.2.2.2.1
abbrev zG.ea (g : zG) : Nat := g.2.2.2.2.1
abbrev zG.mi (g : zG) : Nat := g.2.2.2.2.2
abbrev zG.ca (g : zG) : Nat → ClassId := g.2.2.1
def zA (g : zG) : Nat → Prop := fun q => g.bs ≤ q
abbrev ztys (g : zG) : List (ClassId × FieldType) := [(g.ca 0, .int), (g.ca 1, .boolean), (g.ca 2, .long), (g.ca 3, .object "java/lang/Object")]
abbrev oaN : String := "[Ljava/lang/Object;"
abbrev gcN : MethodName := ⟨"java/lang/Object", "getClass", "()Ljava/lang/Class;"⟩

def zstr : List (String × Nat × String) := [("RollCalls", 45, "no room for a person"), ("RollCalls", 102, "no such person"), ("RollCalls", 105, "no such sector"), ("RollCalls", 70, "the person is in that sector"), ("RollCalls", 107, "no room for a move"), ("RollCalls", 77, "the person is outside"), ("RollCalls", 84, "guests are 0 to 999"), ("RollCalls", 119, "a roll is on there, or a mayday is open"), ("RollCalls", 121, "no room for a roll"), ("RollCalls", 225, "no such roll"), ("RollCalls", 227, "the roll is over"), ("RollCalls", 235, "no room for a double"), ("RollCalls", 171, "guests seen at a time are 0 to 999"), ("RollCalls", 176, "no room for so many guests seen"), ("RollCalls", 178, "a mayday is open"), ("RollCalls", 203, "no such what"), ("RollCalls", 205, "i is below 0"), ("RollCalls", 207, "the roll is not over"), ("RollCalls", 213, "no such double"), ("RollCalls", 243, "places are 0 to 999"), ("RollCalls", 248, "the person is outside, or has an open mayday"), ("RollCalls", 250, "no room for a mayday"), ("RollCalls", 279, "no such mayday"), ("RollCalls", 266, "the mayday was answered"), ("RollCalls", 284, "an evacuation has 1 to 10,000 seconds"), ("RollCalls", 330, "no such evacuation"), ("RollCalls", 289, "an evacuation is on"), ("RollCalls", 302, "nobody would have to confirm"), ("RollCalls", 304, "no room for an evacuation"), ("RollCalls", 306, "no evacuation is on"), ("RollCalls", 316, "the sector need not confirm, or did"), ("RollCalls", 322, "1 to 5,000 seconds, up to second 99,999"), ("RollCalls", 87, "a second to come, or below 0")]
def zcast : List (String × String) := [("java/lang/UnsupportedOperationException", "java/lang/UnsupportedOperationException"), ("java/lang/IllegalArgumentException", "java/lang/IllegalArgumentException"), ("java/lang/IllegalStateException", "java/lang/IllegalStateException"), ("java/lang/IndexOutOfBoundsException", "java/lang/IndexOutOfBoundsException"), ("RollCalls$Person", "RollCalls$Person"), ("RollCalls$Roll", "RollCalls$Roll"), ("RollCalls$Mayday", "RollCalls$Mayday"), ("RollCalls$DoubleCount", "RollCalls$DoubleCount"), ("RollCalls$Evacuation", "RollCalls$Evacuation"), ("RollCalls$Move", "RollCalls$Move"), ("RollCalls", "java/lang/Object"), ("RollCallsModel", "java/lang/Object"), ("RollCalls$Person", "java/lang/Object"), ("RollCalls$Move", "java/lang/Object"), ("RollCalls$Roll", "java/lang/Object"), ("RollCalls$DoubleCount", "java/lang/Object"), ("RollCalls$Mayday", "java/lang/Object"), ("RollCalls$Evacuation", "java/lang/Object"), ("java/lang/String", "java/lang/Object")]
def zdecl : List MethodName := [⟨"java/lang/RuntimeException", "<init>", "()V"⟩, ⟨"java/lang/RuntimeException", "<init>", "(Ljava/lang/String;)V"⟩, ⟨"java/lang/Exception", "<init>", "()V"⟩, ⟨"java/lang/Exception", "<init>", "(Ljava/lang/String;)V"⟩, ⟨"java/lang/Throwable", "<init>", "()V"⟩, ⟨"java/lang/Throwable", "<init>", "(Ljava/lang/String;)V"⟩, ⟨"java/lang/Object", "getClass", "()Ljava/lang/Class;"⟩]
def zpriv : List MethodName := [⟨"java/lang/Throwable", "fillInStackTrace", "(I)Ljava/lang/Throwable;"⟩]
def zoth : List Cond := zcast.map (fun x => Cond.castable x.1 x.2) ++ (zdecl.map Cond.declares ++ zpriv.map Cond.privateMethod)
theorem va_Nw.warmP {x : MethodName} {s U : State} (hW : s.WarmedH U.vm) (hZ : va_Nw (.privateMethod x) s) : va_Nw (.privateMethod x) U := va_tabs rfl (rfl : (s.setVm U.vm).vm = U.vm) (by rw [Cond.privateMethod_setVm hW.alike]; exact hZ)
def znc : List (String × String) := [("java/lang/IllegalArgumentException", "java/lang/IndexOutOfBoundsException"), ("java/lang/IllegalArgumentException", "java/lang/IllegalStateException"), ("java/lang/IllegalArgumentException", "java/lang/UnsupportedOperationException"), ("java/lang/IndexOutOfBoundsException", "java/lang/IllegalArgumentException"), ("java/lang/IndexOutOfBoundsException", "java/lang/IllegalStateException"), ("java/lang/IndexOutOfBoundsException", "java/lang/UnsupportedOperationException"), ("java/lang/IllegalStateException", "java/lang/IllegalArgumentException"), ("java/lang/IllegalStateException", "java/lang/IndexOutOfBoundsException"), ("java/lang/IllegalStateException", "java/lang/UnsupportedOperationException"), ("java/lang/UnsupportedOperationException", "java/lang/IllegalArgumentException"), ("java/lang/UnsupportedOperationException", "java/lang/IndexOutOfBoundsException"), ("java/lang/UnsupportedOperationException", "java/lang/IllegalStateException")]

/-- what is known of the tables and of the old cells, at U with heap H -/
def Kz (g : zG) (U : State) (H : Heap) : Prop :=
  g.1.stackTraces = false ∧ va_K g.2.1 zcl (ztys g) U ∧ vx_Zq Bundle.tN "UNASSIGNED_STACK" Bundle.steD (zA g) U H ∧ vx_Zq Bundle.tN "SUPPRESSED_SENTINEL" Bundle.listD (zA g) U H ∧
  (∀ x ∈ zstr, ∃ sa : Nat, vk_R x.1 x.2.1 x.2.2 sa U) ∧ ((∀ x ∈ zcast, va_Nw (.castable x.1 x.2) U) ∧ (∀ x ∈ zdecl, va_Nw (.declares x) U) ∧ (∀ x ∈ zpriv, va_Nw (.privateMethod x) U)) ∧ (∀ x ∈ znc, va_Nc x.1 x.2 U) ∧
  (va_Z "java/util/ArrayList" "DEFAULTCAPACITY_EMPTY_ELEMENTDATA" "[Ljava/lang/Object;" (.ref g.ea) (zA g) U H ∧ (∃ fv : Nat → Value, va_T (.object "java/lang/Object") g.ea 0 fv (zA g) U H) ∧ g.ea < g.bs) ∧
  (va_AO "java/lang/Object" U ∧ va_Dc U ∧ va_Mi oaN g.mi U)
theorem Kz.to {g : zG} {s U : State} {H0 H : Heap} (h : Kz g s H0) (hW : s.WarmedH U.vm) (hq : ∀ a : Nat, a < H0.size → ¬ zA g a → H[a]? = H0[a]?) : Kz g U H := by
  obtain ⟨h1, h2, h3, h4, h5, h6, h7, ⟨h8, ⟨fv, h9⟩, h10⟩, h11, h12, h13⟩ := h
  exact ⟨h1, va_K.moved hW.alike h2, (h3.kept hq).moved hW.alike, (h4.kept hq).moved hW.alike, fun x hx => (h5 x hx).elim fun sa q => ⟨sa, vk_R.warm hW q⟩, ⟨fun x hx => va_Nw.warmC hW (h6.1 x hx), fun x hx => va_Nw.warmD hW (h6.2.1 x hx), fun x hx => va_Nw.warmP hW (h6.2.2 x hx)⟩, fun x hx => va_Nc.moved hW.alike (h7 x hx),
    ⟨va_Z.moved hW.alike (va_Z.kept h8 hq), ⟨fv, va_T.moved hW.alike (va_T.kept h9 hq)⟩, h10⟩, va_AO.moved hW.alike h11, va_Dc.moved hW.alike h12, va_Mi.moved hW.alike h13⟩
/-! locals -/
def zl (ls : List (Option Value)) : List (Nat × Value) := (List.range ls.length).filterMap (fun i => match ls[i]? with
  | some (some v) => some (i, v)
  | _ => none)
theorem zl_mem {ls : List (Option Value)} {i : Nat} {v : Value} : (i, v) ∈ zl ls ↔ ls[i]? = some (some v) := by
  unfold zl
  rw [List.mem_filterMap]
  constructor
  · rintro ⟨j, -, hj⟩
    cases hv : ls[j]? with
    | none => rw [hv] at hj; simp at hj
    | some o =>
      cases o with
      | none => rw [hv] at hj; simp at hj
      | some w =>
        rw [hv] at hj
        simp at hj
        obtain ⟨rfl, rfl⟩ := hj
        exact hv
  · intro hv
    refine ⟨i, List.mem_range.mpr (List.getElem?_eq_some_iff.mp hv).1, ?_⟩
    rw [hv]
def zLv (lsA : Array Slot) (nL : Nat) (ls : List (Option Value)) : Prop := lv_has lsA nL (zl ls) ∧ ∀ (i : Nat) (v : Value), ls[i]? = some (some v) → v.category = 1
theorem zLv_at {lsA : Array Slot} {nL : Nat} {ls : List (Option Value)} (h : zLv lsA nL ls) {i : Nat} {v : Value} (hv : ls[i]? = some (some v)) : lsA[i]? = some (.val v) := h.1.2.2 (i, v) (zl_mem.mpr hv)
theorem zLv_set {lsA lsB : Array Slot} {nL : Nat} {ls : List (Option Value)} {i : Nat} {v : Value} (h : zLv lsA nL ls) (hv : v.category = 1) (hB : lv_has lsB nL ((i, v) :: (zl ls).filter (fun q => !(q.1 == i) && !(q.1 + 1 == i && q.2.category == 2)))) : zLv lsB nL (ls.set i (some v)) := by
  have key : ∀ (j : Nat) (w : Value), (ls.set i (some v))[j]? = some (some w) → (j = i ∧ w = v) ∨ (j ≠ i ∧ ls[j]? = some (some w)) := by
    intro j w hj
    by_cases hji : j = i
    · subst hji
      by_cases hl : j < ls.length
      · rw [List.getElem?_set_self hl] at hj
        exact Or.inl ⟨rfl, by cases hj; rfl⟩
      · rw [List.getElem?_eq_none (by rw [List.length_set]; omega)] at hj
        cases hj
    · rw [List.getElem?_set_ne (Ne.symm hji)] at hj
      exact Or.inr ⟨hji, hj⟩
  refine ⟨⟨hB.1, hB.2.1, fun q hq => ?_⟩, fun j w hj => ?_⟩
  · obtain ⟨j, w⟩ := q
    rcases key j w (zl_mem.mp hq) with ⟨rfl, rfl⟩ | ⟨hne, h1⟩
    · exact hB.2.2 _ List.mem_cons_self
    · refine hB.2.2 (j, w) (List.mem_cons_of_mem _ (List.mem_filter.mpr ⟨zl_mem.mpr h1, ?_⟩))
      have hc := h.2 j w h1
      simp [hne, hc]
  · rcases key j w hj with ⟨rfl, rfl⟩ | ⟨-, h1⟩
    · exact hv
    · exact h.2 j w h1
/-- the room of a method of rank r -/
abbrev zR (r mc ms : Nat) : Room := { frames := r, cells := mc, slots := ms, locals := 34 * r }
/-- the machine at pc, with these locals, this stack and this abstract heap (rc cells of rs slots may still be made), comes to Q -/
def Z (g : zG) (nL mc ms : Nat) (p : Program) (e : Env) (R : Room) (s : State) (m : MethodId) (args : Array Value) (below : List Frame) (meth : Method) (c : Code) (Q : State → Prop) (rc rs pc : Nat) (ls : List (Option Value)) (st : List Value) (h : Hp) : Prop :=
  ∀ (ws : va_W) (H : Heap) (locs : List Loc) (lsA : Array Slot) (cells slots : Nat), zw h ws → va_P g.2.1 zcl ws H → va_D (zA g) ws → va_S (zA g) s.heap H locs → zLv lsA nL ls → cells + rc ≤ mc → slots + rs ≤ ms → W p g.1 e R s m args below meth c H locs cells slots Q (F0 m pc lsA st)
/-- the same, with an exception of class E over the frame at pc -/
def ZX (g : zG) (nL mc ms : Nat) (p : Program) (e : Env) (R : Room) (s : State) (m : MethodId) (args : Array Value) (below : List Frame) (meth : Method) (c : Code) (Q : State → Prop) (rc rs pc : Nat) (ls : List (Option Value)) (E : String) (h : Hp) : Prop :=
  ∀ (ws : va_W) (H : Heap) (locs : List Loc) (lsA : Array Slot) (cells slots : Nat) (q : Addr) (ce : Cell) (rest : List Value), zw h ws → va_P g.2.1 zcl ws H → va_D (zA g) ws → va_S (zA g) s.heap H locs → zLv lsA nL ls → cells + rc ≤ mc → slots + rs ≤ ms → H[q]? = some ce → ce.vm = .none → s.vm.findClass E = some ce.cls → vx_W p g.1 e R s m args below meth c H locs cells slots Q (F0 m pc lsA rest) q
/-- what a walk of a method knows all along -/
def zC (g : zG) (own : String) (cc : ByteArray) (nL : Nat) (ret : Option FieldType) (r mc ms : Nat) (p : Program) (e : Env) (R : Room) (s : State) (m : MethodId) (args : Array Value) (below : List Frame) (meth : Method) (c : Code) : Prop :=
  p.tables.exec = Jvm.exec ∧ c.code = cc ∧ c.maxLocals = nL ∧ s.vm.findClass own = some m.cls ∧ (∀ w ∈ zT, w.before args s = true) ∧ meth.locks = false ∧ Kz g s s.heap ∧ g.bs ≤ s.heap.size ∧ meth.sig.returnType = ret ∧ r ≤ R.frames ∧ 34 * r ≤ R.locals ∧ mc ≤ R.cells ∧ ms ≤ R.slots
section ZRows
variable {g : zG} {own : String} {cc : ByteArray} {nL r mc ms : Nat} {ret : Option FieldType} {p : Program} {e : Env} {R : Room} {s : State} {m : MethodId} {args : Array Value} {below : List Frame} {meth : Method} {c : Code} {Q : State → Prop} {rc rs pc : Nat} {ls : List (Option Value)} {st : List Value} {h : Hp}
theorem z_iconst {n : Int} {v : Int32} (C : zC g own cc nL ret r mc ms p e R s m args below meth c) (d : decode cc pc = .ok (.iconst n, 1)) (hv : Int32.ofInt n = v) (k : Z g nL mc ms p e R s m args below meth c Q rc rs (pc + 1) (ls) (.int v :: st) (h)) : Z g nL mc ms p e R s m args below meth c Q rc rs (pc) (ls) (st) (h) := fun ws H locs lsA cells slots a1 a2 a3 a4 a5 a6 a7 => lv_iconst C.1 C.2.1 d hv (k ws H locs lsA cells slots a1 a2 a3 a4 a5 a6 a7)
theorem z_bipush {n : Int} {v : Int32} (C : zC g own cc nL ret r mc ms p e R s m args below meth c) (d : decode cc pc = .ok (.bipush n, 2)) (hv : (Int8.ofInt n).toInt32 = v) (k : Z g nL mc ms p e R s m args below meth c Q rc rs (pc + 2) (ls) (.int v :: st) (h)) : Z g nL mc ms p e R s m args below meth c Q rc rs (pc) (ls) (st) (h) := fun ws H locs lsA cells slots a1 a2 a3 a4 a5 a6 a7 => lv_bipush C.1 C.2.1 d hv (k ws H locs lsA cells slots a1 a2 a3 a4 a5 a6 a7)
theorem z_sipush {n : Int} {v : Int32} (C : zC g own cc nL ret r mc ms p e R s m args below meth c) (d : decode cc pc = .ok (.sipush n, 3)) (hv : (Int16.ofInt n).toInt32 = v) (k : Z g nL mc ms p e R s m args below meth c Q rc rs (pc + 3) (ls) (.int v :: st) (h)) : Z g nL mc ms p e R s m args below meth c Q rc rs (pc) (ls) (st) (h) := fun ws H locs lsA cells slots a1 a2 a3 a4 a5 a6 a7 => lv_sipush C.1 C.2.1 d hv (k ws H locs lsA cells slots a1 a2 a3 a4 a5 a6 a7)
theorem z_null  (C : zC g own cc nL ret r mc ms p e R s m args below meth c) (d : decode cc pc = .ok (.aconst_null, 1))  (k : Z g nL mc ms p e R s m args below meth c Q rc rs (pc + 1) (ls) (.null :: st) (h)) : Z g nL mc ms p e R s m args below meth c Q rc rs (pc) (ls) (st) (h) := fun ws H locs lsA cells slots a1 a2 a3 a4 a5 a6 a7 => lv_null C.1 C.2.1 d  (k ws H locs lsA cells slots a1 a2 a3 a4 a5 a6 a7)
theorem z_iadd {x y : Int32} (C : zC g own cc nL ret r mc ms p e R s m args below meth c) (d : decode cc pc = .ok (.iadd, 1))  (k : Z g nL mc ms p e R s m args below meth c Q rc rs (pc + 1) (ls) (.int (x + y) :: st) (h)) : Z g nL mc ms p e R s m args below meth c Q rc rs (pc) (ls) (.int y :: .int x :: st) (h) := fun ws H locs lsA cells slots a1 a2 a3 a4 a5 a6 a7 => lv_iadd C.1 C.2.1 d  (k ws H locs lsA cells slots a1 a2 a3 a4 a5 a6 a7)
theorem z_isub {x y : Int32} (C : zC g own cc nL ret r mc ms p e R s m args below meth c) (d : decode cc pc = .ok (.isub, 1))  (k : Z g nL mc ms p e R s m args below meth c Q rc rs (pc + 1) (ls) (.int (x - y) :: st) (h)) : Z g nL mc ms p e R s m args below meth c Q rc rs (pc) (ls) (.int y :: .int x :: st) (h) := fun ws H locs lsA cells slots a1 a2 a3 a4 a5 a6 a7 => lv_isub C.1 C.2.1 d  (k ws H locs lsA cells slots a1 a2 a3 a4 a5 a6 a7)
theorem z_imul {x y : Int32} (C : zC g own cc nL ret r mc ms p e R s m args below meth c) (d : decode cc pc = .ok (.imul, 1))  (k : Z g nL mc ms p e R s m args below meth c Q rc rs (pc + 1) (ls) (.int (x * y) :: st) (h)) : Z g nL mc ms p e R s m args below meth c Q rc rs (pc) (ls) (.int y :: .int x :: st) (h) := fun ws H locs lsA cells slots a1 a2 a3 a4 a5 a6 a7 => lv_imul C.1 C.2.1 d  (k ws H locs lsA cells slots a1 a2 a3 a4 a5 a6 a7)
theorem z_iand {x y : Int32} (C : zC g own cc nL ret r mc ms p e R s m args below meth c) (d : decode cc pc = .ok (.iand, 1))  (k : Z g nL mc ms p e R s m args below meth c Q rc rs (pc + 1) (ls) (.int (x &&& y) :: st) (h)) : Z g nL mc ms p e R s m args below meth c Q rc rs (pc) (ls) (.int y :: .int x :: st) (h) := fun ws H locs lsA cells slots a1 a2 a3 a4 a5 a6 a7 => lv_iand C.1 C.2.1 d  (k ws H locs lsA cells slots a1 a2 a3 a4 a5 a6 a7)
theorem z_ishr {x y : Int32} (C : zC g own cc nL ret r mc ms p e R s m args below meth c) (d : decode cc pc = .ok (.ishr, 1))  (k : Z g nL mc ms p e R s m args below meth c Q rc rs (pc + 1) (ls) (.int (x >>> (y &&& 31)) :: st) (h)) : Z g nL mc ms p e R s m args below meth c Q rc rs (pc) (ls) (.int y :: .int x :: st) (h) := fun ws H locs lsA cells slots a1 a2 a3 a4 a5 a6 a7 => lv_ishr C.1 C.2.1 d  (k ws H locs lsA cells slots a1 a2 a3 a4 a5 a6 a7)
theorem z_dup {va : Value} (C : zC g own cc nL ret r mc ms p e R s m args below meth c) (d : decode cc pc = .ok (.dup, 1)) (hva : va.category = 1) (k : Z g nL mc ms p e R s m args below meth c Q rc rs (pc + 1) (ls) (va :: va :: st) (h)) : Z g nL mc ms p e R s m args below meth c Q rc rs (pc) (ls) (va :: st) (h) := fun ws H locs lsA cells slots a1 a2 a3 a4 a5 a6 a7 => lv_dup C.1 C.2.1 d hva (k ws H locs lsA cells slots a1 a2 a3 a4 a5 a6 a7)
theorem z_pop {va : Value} (C : zC g own cc nL ret r mc ms p e R s m args below meth c) (d : decode cc pc = .ok (.pop, 1)) (hva : va.category = 1) (k : Z g nL mc ms p e R s m args below meth c Q rc rs (pc + 1) (ls) (st) (h)) : Z g nL mc ms p e R s m args below meth c Q rc rs (pc) (ls) (va :: st) (h) := fun ws H locs lsA cells slots a1 a2 a3 a4 a5 a6 a7 => lv_pop C.1 C.2.1 d hva (k ws H locs lsA cells slots a1 a2 a3 a4 a5 a6 a7)
theorem z_dup_x1 {va vb : Value} (C : zC g own cc nL ret r mc ms p e R s m args below meth c) (d : decode cc pc = .ok (.dup_x1, 1)) (hva : va.category = 1) (hvb : vb.category = 1) (k : Z g nL mc ms p e R s m args below meth c Q rc rs (pc + 1) (ls) (va :: vb :: va :: st) (h)) : Z g nL mc ms p e R s m args below meth c Q rc rs (pc) (ls) (va :: vb :: st) (h) := fun ws H locs lsA cells slots a1 a2 a3 a4 a5 a6 a7 => lv_dup_x1 C.1 C.2.1 d hva hvb (k ws H locs lsA cells slots a1 a2 a3 a4 a5 a6 a7)
theorem z_dup2 {va vb : Value} (C : zC g own cc nL ret r mc ms p e R s m args below meth c) (d : decode cc pc = .ok (.dup2, 1)) (hva : va.category = 1) (hvb : vb.category = 1) (k : Z g nL mc ms p e R s m args below meth c Q rc rs (pc + 1) (ls) (va :: vb :: va :: vb :: st) (h)) : Z g nL mc ms p e R s m args below meth c Q rc rs (pc) (ls) (va :: vb :: st) (h) := fun ws H locs lsA cells slots a1 a2 a3 a4 a5 a6 a7 => lv_dup2_11 C.1 C.2.1 d hva hvb (k ws H locs lsA cells slots a1 a2 a3 a4 a5 a6 a7)
theorem z_i2l {x : Int32} (C : zC g own cc nL ret r mc ms p e R s m args below meth c) (d : decode cc pc = .ok (.i2l, 1))  (k : Z g nL mc ms p e R s m args below meth c Q rc rs (pc + 1) (ls) (.long x.toInt64 :: st) (h)) : Z g nL mc ms p e R s m args below meth c Q rc rs (pc) (ls) (.int x :: st) (h) := fun ws H locs lsA cells slots a1 a2 a3 a4 a5 a6 a7 => lv_i2l C.1 C.2.1 d rfl (k ws H locs lsA cells slots a1 a2 a3 a4 a5 a6 a7)
theorem z_lcmp {x y : Int64} (C : zC g own cc nL ret r mc ms p e R s m args below meth c) (d : decode cc pc = .ok (.lcmp, 1))  (k : Z g nL mc ms p e R s m args below meth c Q rc rs (pc + 1) (ls) (.int (lg_cmp x y) :: st) (h)) : Z g nL mc ms p e R s m args below meth c Q rc rs (pc) (ls) (.long y :: .long x :: st) (h) := fun ws H locs lsA cells slots a1 a2 a3 a4 a5 a6 a7 => W.lcmp C.1 C.2.1 d  (k ws H locs lsA cells slots a1 a2 a3 a4 a5 a6 a7)
theorem z_goto {off : Int} (tgt : Nat) (C : zC g own cc nL ret r mc ms p e R s m args below meth c) (d : decode cc pc = .ok (.goto off, 3)) (ht : (pc : Int) + off = (tgt : Int)) (k : Z g nL mc ms p e R s m args below meth c Q rc rs (tgt) (ls) (st) (h)) : Z g nL mc ms p e R s m args below meth c Q rc rs (pc) (ls) (st) (h) := fun ws H locs lsA cells slots a1 a2 a3 a4 a5 a6 a7 => lv_goto C.1 C.2.1 d ht (k ws H locs lsA cells slots a1 a2 a3 a4 a5 a6 a7)
theorem z_icmp_eq {x y : Int32} {off : Int} (tgt : Nat) (C : zC g own cc nL ret r mc ms p e R s m args below meth c) (d : decode cc pc = .ok (.if_icmp .eq off, 3)) (ht : (pc : Int) + off = (tgt : Int)) (kt : x = y → Z g nL mc ms p e R s m args below meth c Q rc rs (tgt) (ls) (st) (h)) (kf : ¬ x = y → Z g nL mc ms p e R s m args below meth c Q rc rs (pc + 3) (ls) (st) (h)) : Z g nL mc ms p e R s m args below meth c Q rc rs (pc) (ls) (.int y :: .int x :: st) (h) := fun ws H locs lsA cells slots a1 a2 a3 a4 a5 a6 a7 => lv_icmp_eq C.1 C.2.1 d ht (fun q => kt q ws H locs lsA cells slots a1 a2 a3 a4 a5 a6 a7) (fun q => kf q ws H locs lsA cells slots a1 a2 a3 a4 a5 a6 a7)
theorem z_if_eq {x : Int32} {off : Int} (tgt : Nat) (C : zC g own cc nL ret r mc ms p e R s m args below meth c) (d : decode cc pc = .ok (.ifCond .eq off, 3)) (ht : (pc : Int) + off = (tgt : Int)) (kt : x = 0 → Z g nL mc ms p e R s m args below meth c Q rc rs (tgt) (ls) (st) (h)) (kf : ¬ x = 0 → Z g nL mc ms p e R s m args below meth c Q rc rs (pc + 3) (ls) (st) (h)) : Z g nL mc ms p e R s m args below meth c Q rc rs (pc) (ls) (.int x :: st) (h) := fun ws H locs lsA cells slots a1 a2 a3 a4 a5 a6 a7 => lv_if_eq C.1 C.2.1 d ht (fun q => kt q ws H locs lsA cells slots a1 a2 a3 a4 a5 a6 a7) (fun q => kf q ws H locs lsA cells slots a1 a2 a3 a4 a5 a6 a7)
theorem z_icmp_ne {x y : Int32} {off : Int} (tgt : Nat) (C : zC g own cc nL ret r mc ms p e R s m args below meth c) (d : decode cc pc = .ok (.if_icmp .ne off, 3)) (ht : (pc : Int) + off = (tgt : Int)) (kt : ¬ x = y → Z g nL mc ms p e R s m args below meth c Q rc rs (tgt) (ls) (st) (h)) (kf : x = y → Z g nL mc ms p e R s m args below meth c Q rc rs (pc + 3) (ls) (st) (h)) : Z g nL mc ms p e R s m args below meth c Q rc rs (pc) (ls) (.int y :: .int x :: st) (h) := fun ws H locs lsA cells slots a1 a2 a3 a4 a5 a6 a7 => lv_icmp_ne C.1 C.2.1 d ht (fun q => kt q ws H locs lsA cells slots a1 a2 a3 a4 a5 a6 a7) (fun q => kf q ws H locs lsA cells slots a1 a2 a3 a4 a5 a6 a7)
theorem z_if_ne {x : Int32} {off : Int} (tgt : Nat) (C : zC g own cc nL ret r mc ms p e R s m args below meth c) (d : decode cc pc = .ok (.ifCond .ne off, 3)) (ht : (pc : Int) + off = (tgt : Int)) (kt : ¬ x = 0 → Z g nL mc ms p e R s m args below meth c Q rc rs (tgt) (ls) (st) (h)) (kf : x = 0 → Z g nL mc ms p e R s m args below meth c Q rc rs (pc + 3) (ls) (st) (h)) : Z g nL mc ms p e R s m args below meth c Q rc rs (pc) (ls) (.int x :: st) (h) := fun ws H locs lsA cells slots a1 a2 a3 a4 a5 a6 a7 => lv_if_ne C.1 C.2.1 d ht (fun q => kt q ws H locs lsA cells slots a1 a2 a3 a4 a5 a6 a7) (fun q => kf q ws H locs lsA cells slots a1 a2 a3 a4 a5 a6 a7)
theorem z_icmp_lt {x y : Int32} {off : Int} (tgt : Nat) (C : zC g own cc nL ret r mc ms p e R s m args below meth c) (d : decode cc pc = .ok (.if_icmp .lt off, 3)) (ht : (pc : Int) + off = (tgt : Int)) (kt : x < y → Z g nL mc ms p e R s m args below meth c Q rc rs (tgt) (ls) (st) (h)) (kf : ¬ x < y → Z g nL mc ms p e R s m args below meth c Q rc rs (pc + 3) (ls) (st) (h)) : Z g nL mc ms p e R s m args below meth c Q rc rs (pc) (ls) (.int y :: .int x :: st) (h) := fun ws H locs lsA cells slots a1 a2 a3 a4 a5 a6 a7 => lv_icmp_lt C.1 C.2.1 d ht (fun q => kt q ws H locs lsA cells slots a1 a2 a3 a4 a5 a6 a7) (fun q => kf q ws H locs lsA cells slots a1 a2 a3 a4 a5 a6 a7)
theorem z_if_lt {x : Int32} {off : Int} (tgt : Nat) (C : zC g own cc nL ret r mc ms p e R s m args below meth c) (d : decode cc pc = .ok (.ifCond .lt off, 3)) (ht : (pc : Int) + off = (tgt : Int)) (kt : x < 0 → Z g nL mc ms p e R s m args below meth c Q rc rs (tgt) (ls) (st) (h)) (kf : ¬ x < 0 → Z g nL mc ms p e R s m args below meth c Q rc rs (pc + 3) (ls) (st) (h)) : Z g nL mc ms p e R s m args below meth c Q rc rs (pc) (ls) (.int x :: st) (h) := fun ws H locs lsA cells slots a1 a2 a3 a4 a5 a6 a7 => lv_if_lt C.1 C.2.1 d ht (fun q => kt q ws H locs lsA cells slots a1 a2 a3 a4 a5 a6 a7) (fun q => kf q ws H locs lsA cells slots a1 a2 a3 a4 a5 a6 a7)
theorem z_icmp_ge {x y : Int32} {off : Int} (tgt : Nat) (C : zC g own cc nL ret r mc ms p e R s m args below meth c) (d : decode cc pc = .ok (.if_icmp .ge off, 3)) (ht : (pc : Int) + off = (tgt : Int)) (kt : y ≤ x → Z g nL mc ms p e R s m args below meth c Q rc rs (tgt) (ls) (st) (h)) (kf : ¬ y ≤ x → Z g nL mc ms p e R s m args below meth c Q rc rs (pc + 3) (ls) (st) (h)) : Z g nL mc ms p e R s m args below meth c Q rc rs (pc) (ls) (.int y :: .int x :: st) (h) := fun ws H locs lsA cells slots a1 a2 a3 a4 a5 a6 a7 => lv_icmp_ge C.1 C.2.1 d ht (fun q => kt q ws H locs lsA cells slots a1 a2 a3 a4 a5 a6 a7) (fun q => kf q ws H locs lsA cells slots a1 a2 a3 a4 a5 a6 a7)
theorem z_if_ge {x : Int32} {off : Int} (tgt : Nat) (C : zC g own cc nL ret r mc ms p e R s m args below meth c) (d : decode cc pc = .ok (.ifCond .ge off, 3)) (ht : (pc : Int) + off = (tgt : Int)) (kt : 0 ≤ x → Z g nL mc ms p e R s m args below meth c Q rc rs (tgt) (ls) (st) (h)) (kf : ¬ 0 ≤ x → Z g nL mc ms p e R s m args below meth c Q rc rs (pc + 3) (ls) (st) (h)) : Z g nL mc ms p e R s m args below meth c Q rc rs (pc) (ls) (.int x :: st) (h) := fun ws H locs lsA cells slots a1 a2 a3 a4 a5 a6 a7 => lv_if_ge C.1 C.2.1 d ht (fun q => kt q ws H locs lsA cells slots a1 a2 a3 a4 a5 a6 a7) (fun q => kf q ws H locs lsA cells slots a1 a2 a3 a4 a5 a6 a7)
theorem z_icmp_gt {x y : Int32} {off : Int} (tgt : Nat) (C : zC g own cc nL ret r mc ms p e R s m args below meth c) (d : decode cc pc = .ok (.if_icmp .gt off, 3)) (ht : (pc : Int) + off = (tgt : Int)) (kt : y < x → Z g nL mc ms p e R s m args below meth c Q rc rs (tgt) (ls) (st) (h)) (kf : ¬ y < x → Z g nL mc ms p e R s m args below meth c Q rc rs (pc + 3) (ls) (st) (h)) : Z g nL mc ms p e R s m args below meth c Q rc rs (pc) (ls) (.int y :: .int x :: st) (h) := fun ws H locs lsA cells slots a1 a2 a3 a4 a5 a6 a7 => lv_icmp_gt C.1 C.2.1 d ht (fun q => kt q ws H locs lsA cells slots a1 a2 a3 a4 a5 a6 a7) (fun q => kf q ws H locs lsA cells slots a1 a2 a3 a4 a5 a6 a7)
theorem z_if_gt {x : Int32} {off : Int} (tgt : Nat) (C : zC g own cc nL ret r mc ms p e R s m args below meth c) (d : decode cc pc = .ok (.ifCond .gt off, 3)) (ht : (pc : Int) + off = (tgt : Int)) (kt : 0 < x → Z g nL mc ms p e R s m args below meth c Q rc rs (tgt) (ls) (st) (h)) (kf : ¬ 0 < x → Z g nL mc ms p e R s m args below meth c Q rc rs (pc + 3) (ls) (st) (h)) : Z g nL mc ms p e R s m args below meth c Q rc rs (pc) (ls) (.int x :: st) (h) := fun ws H locs lsA cells slots a1 a2 a3 a4 a5 a6 a7 => lv_if_gt C.1 C.2.1 d ht (fun q => kt q ws H locs lsA cells slots a1 a2 a3 a4 a5 a6 a7) (fun q => kf q ws H locs lsA cells slots a1 a2 a3 a4 a5 a6 a7)
theorem z_icmp_le {x y : Int32} {off : Int} (tgt : Nat) (C : zC g own cc nL ret r mc ms p e R s m args below meth c) (d : decode cc pc = .ok (.if_icmp .le off, 3)) (ht : (pc : Int) + off = (tgt : Int)) (kt : x ≤ y → Z g nL mc ms p e R s m args below meth c Q rc rs (tgt) (ls) (st) (h)) (kf : ¬ x ≤ y → Z g nL mc ms p e R s m args below meth c Q rc rs (pc + 3) (ls) (st) (h)) : Z g nL mc ms p e R s m args below meth c Q rc rs (pc) (ls) (.int y :: .int x :: st) (h) := fun ws H locs lsA cells slots a1 a2 a3 a4 a5 a6 a7 => lv_icmp_le C.1 C.2.1 d ht (fun q => kt q ws H locs lsA cells slots a1 a2 a3 a4 a5 a6 a7) (fun q => kf q ws H locs lsA cells slots a1 a2 a3 a4 a5 a6 a7)
theorem z_if_le {x : Int32} {off : Int} (tgt : Nat) (C : zC g own cc nL ret r mc ms p e R s m args below meth c) (d : decode cc pc = .ok (.ifCond .le off, 3)) (ht : (pc : Int) + off = (tgt : Int)) (kt : x ≤ 0 → Z g nL mc ms p e R s m args below meth c Q rc rs (tgt) (ls) (st) (h)) (kf : ¬ x ≤ 0 → Z g nL mc ms p e R s m args below meth c Q rc rs (pc + 3) (ls) (st) (h)) : Z g nL mc ms p e R s m args below meth c Q rc rs (pc) (ls) (.int x :: st) (h) := fun ws H locs lsA cells slots a1 a2 a3 a4 a5 a6 a7 => lv_if_le C.1 C.2.1 d ht (fun q => kt q ws H locs lsA cells slots a1 a2 a3 a4 a5 a6 a7) (fun q => kf q ws H locs lsA cells slots a1 a2 a3 a4 a5 a6 a7)
theorem z_acmp_eq {x y : Nat} {off : Int} (tgt : Nat) (C : zC g own cc nL ret r mc ms p e R s m args below meth c) (d : decode cc pc = .ok (.if_acmp .eq off, 3)) (ht : (pc : Int) + off = (tgt : Int)) (kt : some x = some y → Z g nL mc ms p e R s m args below meth c Q rc rs (tgt) (ls) (st) (h)) (kf : ¬ some x = some y → Z g nL mc ms p e R s m args below meth c Q rc rs (pc + 3) (ls) (st) (h)) : Z g nL mc ms p e R s m args below meth c Q rc rs (pc) (ls) (.ref y :: .ref x :: st) (h) := fun ws H locs lsA cells slots a1 a2 a3 a4 a5 a6 a7 => lv_acmp_eq (rx := some x) (ry := some y) C.1 C.2.1 d ht (fun q => kt q ws H locs lsA cells slots a1 a2 a3 a4 a5 a6 a7) (fun q => kf q ws H locs lsA cells slots a1 a2 a3 a4 a5 a6 a7)
theorem z_acmp_ne {x y : Nat} {off : Int} (tgt : Nat) (C : zC g own cc nL ret r mc ms p e R s m args below meth c) (d : decode cc pc = .ok (.if_acmp .ne off, 3)) (ht : (pc : Int) + off = (tgt : Int)) (kt : ¬ some x = some y → Z g nL mc ms p e R s m args below meth c Q rc rs (tgt) (ls) (st) (h)) (kf : some x = some y → Z g nL mc ms p e R s m args below meth c Q rc rs (pc + 3) (ls) (st) (h)) : Z g nL mc ms p e R s m args below meth c Q rc rs (pc) (ls) (.ref y :: .ref x :: st) (h) := fun ws H locs lsA cells slots a1 a2 a3 a4 a5 a6 a7 => lv_acmp_ne (rx := some x) (ry := some y) C.1 C.2.1 d ht (fun q => kt q ws H locs lsA cells slots a1 a2 a3 a4 a5 a6 a7) (fun q => kf q ws H locs lsA cells slots a1 a2 a3 a4 a5 a6 a7)
theorem z_tableIn {dflt lo hi : Int} {offs : Array Int} {len : Nat} {x : Int32} {off : Int} (tgt : Nat) (C : zC g own cc nL ret r mc ms p e R s m args below meth c) (d : decode cc pc = .ok (.tableswitch dflt lo hi offs, len)) (h1 : ¬ x.toInt < lo) (h2 : ¬ hi < x.toInt) (ho : offs[(x.toInt - lo).toNat]? = some off) (ht : (pc : Int) + off = (tgt : Int)) (k : Z g nL mc ms p e R s m args below meth c Q rc rs (tgt) (ls) (st) (h)) : Z g nL mc ms p e R s m args below meth c Q rc rs (pc) (ls) (.int x :: st) (h) := fun ws H locs lsA cells slots a1 a2 a3 a4 a5 a6 a7 => lv_tableIn C.1 C.2.1 d h1 h2 ho ht (k ws H locs lsA cells slots a1 a2 a3 a4 a5 a6 a7)
theorem z_tableOut {dflt lo hi : Int} {offs : Array Int} {len : Nat} {x : Int32} (tgt : Nat) (C : zC g own cc nL ret r mc ms p e R s m args below meth c) (d : decode cc pc = .ok (.tableswitch dflt lo hi offs, len)) (h1 : x.toInt < lo ∨ hi < x.toInt) (ht : (pc : Int) + dflt = (tgt : Int)) (k : Z g nL mc ms p e R s m args below meth c Q rc rs (tgt) (ls) (st) (h)) : Z g nL mc ms p e R s m args below meth c Q rc rs (pc) (ls) (.int x :: st) (h) := fun ws H locs lsA cells slots a1 a2 a3 a4 a5 a6 a7 => lv_tableOut C.1 C.2.1 d h1 ht (k ws H locs lsA cells slots a1 a2 a3 a4 a5 a6 a7)
theorem z_iload_n {x : Int32} {i : Nat} {k : Fin 4} (C : zC g own cc nL ret r mc ms p e R s m args below meth c) (d : decode cc pc = .ok (.iload_n k, 1)) (hi : (k : Nat) = i) (hv : ls[i]? = some (some (.int x))) (kk : Z g nL mc ms p e R s m args below meth c Q rc rs (pc + 1) (ls) (.int x :: st) (h)) : Z g nL mc ms p e R s m args below meth c Q rc rs (pc) (ls) (st) (h) := fun ws H locs lsA cells slots a1 a2 a3 a4 a5 a6 a7 => lv_iload_n C.1 C.2.1 d hi (zLv_at a5 hv) (kk ws H locs lsA cells slots a1 a2 a3 a4 a5 a6 a7)
theorem z_iload {x : Int32} {i : Nat} (C : zC g own cc nL ret r mc ms p e R s m args below meth c) (d : decode cc pc = .ok (.iload i, 2)) (hv : ls[i]? = some (some (.int x))) (kk : Z g nL mc ms p e R s m args below meth c Q rc rs (pc + 2) (ls) (.int x :: st) (h)) : Z g nL mc ms p e R s m args below meth c Q rc rs (pc) (ls) (st) (h) := fun ws H locs lsA cells slots a1 a2 a3 a4 a5 a6 a7 => lv_iload C.1 C.2.1 d (zLv_at a5 hv) (kk ws H locs lsA cells slots a1 a2 a3 a4 a5 a6 a7)
theorem z_istore_n {x : Int32} {i : Nat} {k : Fin 4} (C : zC g own cc nL ret r mc ms p e R s m args below meth c) (d : decode cc pc = .ok (.istore_n k, 1)) (hi : (k : Nat) = i) (hn : i < nL) {ls1 : List (Option Value)} (hs : ls.set i (some (.int x)) = ls1) (kk : Z g nL mc ms p e R s m args below meth c Q rc rs (pc + 1) (ls1) (st) (h)) : Z g nL mc ms p e R s m args below meth c Q rc rs (pc) (ls) (.int x :: st) (h) := by
  subst hs
  exact fun ws H locs lsA cells slots a1 a2 a3 a4 a5 a6 a7 => lv_istore_n C.1 C.2.1 d hi a5.1 hn rfl (fun lsB hB => kk ws H locs lsB cells slots a1 a2 a3 a4 (zLv_set a5 rfl hB) a6 a7)
theorem z_istore {x : Int32} {i : Nat} (C : zC g own cc nL ret r mc ms p e R s m args below meth c) (d : decode cc pc = .ok (.istore i, 2)) (hn : i < nL) {ls1 : List (Option Value)} (hs : ls.set i (some (.int x)) = ls1) (kk : Z g nL mc ms p e R s m args below meth c Q rc rs (pc + 2) (ls1) (st) (h)) : Z g nL mc ms p e R s m args below meth c Q rc rs (pc) (ls) (.int x :: st) (h) := by
  subst hs
  exact fun ws H locs lsA cells slots a1 a2 a3 a4 a5 a6 a7 => lv_istore C.1 C.2.1 d a5.1 hn rfl (fun lsB hB => kk ws H locs lsB cells slots a1 a2 a3 a4 (zLv_set a5 rfl hB) a6 a7)
theorem z_aload_n {x : Nat} {i : Nat} {k : Fin 4} (C : zC g own cc nL ret r mc ms p e R s m args below meth c) (d : decode cc pc = .ok (.aload_n k, 1)) (hi : (k : Nat) = i) (hv : ls[i]? = some (some (.ref x))) (kk : Z g nL mc ms p e R s m args below meth c Q rc rs (pc + 1) (ls) (.ref x :: st) (h)) : Z g nL mc ms p e R s m args below meth c Q rc rs (pc) (ls) (st) (h) := fun ws H locs lsA cells slots a1 a2 a3 a4 a5 a6 a7 => lv_aload_n C.1 C.2.1 d hi (zLv_at a5 hv) (kk ws H locs lsA cells slots a1 a2 a3 a4 a5 a6 a7)
theorem z_aload {x : Nat} {i : Nat} (C : zC g own cc nL ret r mc ms p e R s m args below meth c) (d : decode cc pc = .ok (.aload i, 2)) (hv : ls[i]? = some (some (.ref x))) (kk : Z g nL mc ms p e R s m args below meth c Q rc rs (pc + 2) (ls) (.ref x :: st) (h)) : Z g nL mc ms p e R s m args below meth c Q rc rs (pc) (ls) (st) (h) := fun ws H locs lsA cells slots a1 a2 a3 a4 a5 a6 a7 => lv_aload C.1 C.2.1 d (zLv_at a5 hv) (kk ws H locs lsA cells slots a1 a2 a3 a4 a5 a6 a7)
theorem z_astore_n {x : Nat} {i : Nat} {k : Fin 4} (C : zC g own cc nL ret r mc ms p e R s m args below meth c) (d : decode cc pc = .ok (.astore_n k, 1)) (hi : (k : Nat) = i) (hn : i < nL) {ls1 : List (Option Value)} (hs : ls.set i (some (.ref x)) = ls1) (kk : Z g nL mc ms p e R s m args below meth c Q rc rs (pc + 1) (ls1) (st) (h)) : Z g nL mc ms p e R s m args below meth c Q rc rs (pc) (ls) (.ref x :: st) (h) := by
  subst hs
  exact fun ws H locs lsA cells slots a1 a2 a3 a4 a5 a6 a7 => lv_astore_n C.1 C.2.1 d hi a5.1 hn rfl (fun lsB hB => kk ws H locs lsB cells slots a1 a2 a3 a4 (zLv_set a5 rfl hB) a6 a7)
theorem z_astore {x : Nat} {i : Nat} (C : zC g own cc nL ret r mc ms p e R s m args below meth c) (d : decode cc pc = .ok (.astore i, 2)) (hn : i < nL) {ls1 : List (Option Value)} (hs : ls.set i (some (.ref x)) = ls1) (kk : Z g nL mc ms p e R s m args below meth c Q rc rs (pc + 2) (ls1) (st) (h)) : Z g nL mc ms p e R s m args below meth c Q rc rs (pc) (ls) (.ref x :: st) (h) := by
  subst hs
  exact fun ws H locs lsA cells slots a1 a2 a3 a4 a5 a6 a7 => lv_astore C.1 C.2.1 d a5.1 hn rfl (fun lsB hB => kk ws H locs lsB cells slots a1 a2 a3 a4 (zLv_set a5 rfl hB) a6 a7)
theorem z_iinc {x : Int32} {n : Int} {i : Nat} (C : zC g own cc nL ret r mc ms p e R s m args below meth c) (d : decode cc pc = .ok (.iinc i n, 3)) (hv : ls[i]? = some (some (.int x))) (hn : i < nL) {ls1 : List (Option Value)} (hs : ls.set i (some (.int (x + Int32.ofInt n))) = ls1) (kk : Z g nL mc ms p e R s m args below meth c Q rc rs (pc + 3) (ls1) (st) (h)) : Z g nL mc ms p e R s m args below meth c Q rc rs (pc) (ls) (st) (h) := by
  subst hs
  intro ws H locs lsA cells slots a1 a2 a3 a4 a5 a6 a7
  obtain ⟨k, hk⟩ := List.getElem?_of_mem (zl_mem.mpr hv)
  exact lv_iinc C.1 C.2.1 d a5.1 hk rfl hn rfl (fun lsB hB => kk ws H locs lsB cells slots a1 a2 a3 a4 (zLv_set a5 rfl hB) a6 a7)
/-- less may be made than is left -/
theorem z_less {rc1 rs1 : Nat} (h1 : rc1 ≤ rc) (h2 : rs1 ≤ rs) (k : Z g nL mc ms p e R s m args below meth c Q (rc1) (rs1) (pc) (ls) (st) (h)) : Z g nL mc ms p e R s m args below meth c Q rc rs (pc) (ls) (st) (h) := fun ws H locs lsA cells slots a1 a2 a3 a4 a5 a6 a7 => k ws H locs lsA cells slots a1 a2 a3 a4 a5 (by omega) (by omega)
/-! the heap -/
theorem z_get {ref C0 : String} {T : u_T} {N ci index : Nat} {a : Nat} {fs : List Value} {v : Value} (C : zC g own cc nL ret r mc ms p e R s m args below meth c) (d : decode cc pc = .ok (.getfield index, 3)) (k : Nat) (hin : ∀ w ∈ u_ws C0 T N, w ∈ zT) (hc : zcl[ci]? = some (C0, T, N)) (hk : k < N) (hlink : Cond.fieldLink own index ref (T k).2.1 (T k).2.2.1 ∈ zT) (hsame : ∀ x, s.fieldFound? (T k).1 (T k).2.1 (T k).2.2.1 = some x → s.fieldFound? ref (T k).2.1 (T k).2.2.1 = some x) (ha : h a = some (.inr (ci, fs))) (hv : fs[k]? = some v) (kk : Z g nL mc ms p e R s m args below meth c Q rc rs (pc + 3) (ls) (v :: st) (h)) : Z g nL mc ms p e R s m args below meth c Q rc rs (pc) (ls) (.ref a :: st) (h) := by
  intro ws H locs lsA cells slots a1 a2 a3 a4 a5 a6 a7
  obtain ⟨q0, hq⟩ := zw_at a1 ha
  exact va_get C.1 C.2.1 C.2.2.2.2.1 hin C.2.2.2.1 C.2.2.2.2.2.2.1.2.1 a2 q0 hq hc k hk (C.2.2.2.2.1 _ hlink) hsame hv d (kk ws H locs lsA cells slots a1 a2 a3 a4 a5 a6 a7)
theorem z_put {ref C0 : String} {T : u_T} {N ci index : Nat} {a : Nat} {fs : List Value} {v : Value} {ty : FieldType} (C : zC g own cc nL ret r mc ms p e R s m args below meth c) (d : decode cc pc = .ok (.putfield index, 3)) (k : Nat) (ty0 : Nat → FieldType) (hty : ∀ k, k < N → parseFieldDescriptor (T k).2.2.1 = some (ty0 k)) (hnm : ∀ a, a < N → ∀ b, b < N → a ≠ b → (T a).2.1 ≠ (T b).2.1) (hin : ∀ w ∈ u_ws C0 T N, w ∈ zT) (hc : zcl[ci]? = some (C0, T, N)) (hk : k < N) (hlink : Cond.fieldLink own index ref (T k).2.1 (T k).2.2.1 ∈ zT) (hsame : ∀ x, s.fieldFound? (T k).1 (T k).2.1 (T k).2.2.1 = some x → s.fieldFound? ref (T k).2.1 (T k).2.2.1 = some x) (hfin : (T k).2.2.2 = false) (hd : parseFieldDescriptor (T k).2.2.1 = some ty) (hn : narrow ty v = v) (hfit : fits ty v = true) (ha : h a = some (.inr (ci, fs))) (hl : k < fs.length) (kk : Z g nL mc ms p e R s m args below meth c Q rc rs (pc + 3) (ls) (st) (zu h a (.inr (ci, fs.set k v)))) : Z g nL mc ms p e R s m args below meth c Q rc rs (pc) (ls) (v :: .ref a :: st) (h) := by
  intro ws H locs lsA cells slots a1 a2 a3 a4 a5 a6 a7
  obtain ⟨q0, hq⟩ := zw_at a1 ha
  exact va_put C.1 C.2.1 C.2.2.2.2.1 hin ty0 hty hnm C.2.2.2.1 C.2.2.2.2.2.2.1.2.1 a2 a3 a4 q0 hq hc k hk (C.2.2.2.2.1 _ hlink) hsame hfin hd hn hfit hl d (fun H1 locs1 b2 b3 b4 => kk _ H1 locs1 lsA cells slots (zw_set a1 a3 hq) b2 b3 b4 a5 a6 a7)
theorem z_putF {ref C0 : String} {T : u_T} {N ci index : Nat} {a : Nat} {fs : List Value} {v : Value} {ty : FieldType} (C : zC g own cc nL ret r mc ms p e R s m args below meth c) (d : decode cc pc = .ok (.putfield index, 3)) (hin2 : meth.name = "<init>") (k : Nat) (ty0 : Nat → FieldType) (hty : ∀ k, k < N → parseFieldDescriptor (T k).2.2.1 = some (ty0 k)) (hnm : ∀ a, a < N → ∀ b, b < N → a ≠ b → (T a).2.1 ≠ (T b).2.1) (hin : ∀ w ∈ u_ws C0 T N, w ∈ zT) (hc : zcl[ci]? = some (C0, T, N)) (hk : k < N) (hlink : Cond.fieldLink own index ref (T k).2.1 (T k).2.2.1 ∈ zT) (hsame : ∀ x, s.fieldFound? (T k).1 (T k).2.1 (T k).2.2.1 = some x → s.fieldFound? ref (T k).2.1 (T k).2.2.1 = some x) (hfin : (T k).2.2.2 = true) (hdecl : (T k).1 = own) (hd : parseFieldDescriptor (T k).2.2.1 = some ty) (hn : narrow ty v = v) (hfit : fits ty v = true) (ha : h a = some (.inr (ci, fs))) (hl : k < fs.length) (kk : Z g nL mc ms p e R s m args below meth c Q rc rs (pc + 3) (ls) (st) (zu h a (.inr (ci, fs.set k v)))) : Z g nL mc ms p e R s m args below meth c Q rc rs (pc) (ls) (v :: .ref a :: st) (h) := by
  intro ws H locs lsA cells slots a1 a2 a3 a4 a5 a6 a7
  obtain ⟨q0, hq⟩ := zw_at a1 ha
  exact va_putF C.1 C.2.1 C.2.2.2.2.1 hin ty0 hty hnm C.2.2.2.1 C.2.2.2.2.2.2.1.2.1 a2 a3 a4 q0 hq hc k hk (C.2.2.2.2.1 _ hlink) hsame hfin hin2 hdecl hd hn hfit hl d (fun H1 locs1 b2 b3 b4 => kk _ H1 locs1 lsA cells slots (zw_set a1 a3 hq) b2 b3 b4 a5 a6 a7)
theorem z_iald {a n : Nat} {f : Nat → Int32} {i : Int32} (C : zC g own cc nL ret r mc ms p e R s m args below meth c) (d : decode cc pc = .ok (.iaload, 1)) (ha : h a = some (.inl (g.ca 0, n, .inl f))) (hin : vp_in i n) (kk : Z g nL mc ms p e R s m args below meth c Q rc rs (pc + 1) (ls) (.int (f i.toNatClampNeg) :: st) (h)) : Z g nL mc ms p e R s m args below meth c Q rc rs (pc) (ls) (.int i :: .ref a :: st) (h) := by
  intro ws H locs lsA cells slots a1 a2 a3 a4 a5 a6 a7
  obtain ⟨q0, hq⟩ := zw_at a1 ha
  exact va_iald C.1 C.2.1 C.2.2.2.2.2.2.1.2.1 a2 q0 0 hq rfl hin d (kk ws H locs lsA cells slots a1 a2 a3 a4 a5 a6 a7)
theorem z_zald {a n : Nat} {f : Nat → Int32} {i : Int32} (C : zC g own cc nL ret r mc ms p e R s m args below meth c) (d : decode cc pc = .ok (.baload, 1)) (ha : h a = some (.inl (g.ca 1, n, .inl f))) (hin : vp_in i n) (kk : Z g nL mc ms p e R s m args below meth c Q rc rs (pc + 1) (ls) (.int (f i.toNatClampNeg) :: st) (h)) : Z g nL mc ms p e R s m args below meth c Q rc rs (pc) (ls) (.int i :: .ref a :: st) (h) := by
  intro ws H locs lsA cells slots a1 a2 a3 a4 a5 a6 a7
  obtain ⟨q0, hq⟩ := zw_at a1 ha
  exact va_zald C.1 C.2.1 C.2.2.2.2.2.2.1.2.1 a2 q0 1 hq rfl hin d (kk ws H locs lsA cells slots a1 a2 a3 a4 a5 a6 a7)
theorem z_lald {a n : Nat} {f : Nat → Int64} {i : Int32} (C : zC g own cc nL ret r mc ms p e R s m args below meth c) (d : decode cc pc = .ok (.laload, 1)) (ha : h a = some (.inl (g.ca 2, n, .inr (.inl f)))) (hin : vp_in i n) (kk : Z g nL mc ms p e R s m args below meth c Q rc rs (pc + 1) (ls) (.long (f i.toNatClampNeg) :: st) (h)) : Z g nL mc ms p e R s m args below meth c Q rc rs (pc) (ls) (.int i :: .ref a :: st) (h) := by
  intro ws H locs lsA cells slots a1 a2 a3 a4 a5 a6 a7
  obtain ⟨q0, hq⟩ := zw_at a1 ha
  exact va_lald C.1 C.2.1 C.2.2.2.2.2.2.1.2.1 a2 q0 2 hq rfl hin d (kk ws H locs lsA cells slots a1 a2 a3 a4 a5 a6 a7)
theorem z_aald {a n b : Nat} {f : Nat → Option Nat} {i : Int32} (C : zC g own cc nL ret r mc ms p e R s m args below meth c) (d : decode cc pc = .ok (.aaload, 1)) (ha : h a = some (.inl (g.ca 3, n, .inr (.inr (.inr (.inr f)))))) (hin : vp_in i n) (hb : f i.toNatClampNeg = some b) (kk : Z g nL mc ms p e R s m args below meth c Q rc rs (pc + 1) (ls) (.ref b :: st) (h)) : Z g nL mc ms p e R s m args below meth c Q rc rs (pc) (ls) (.int i :: .ref a :: st) (h) := by
  intro ws H locs lsA cells slots a1 a2 a3 a4 a5 a6 a7
  obtain ⟨q0, hq⟩ := zw_at a1 ha
  refine va_aldq C.1 C.2.1 C.2.2.2.2.2.2.1.2.1 a2 q0 3 hq rfl hin d ?_
  rw [hb]
  exact kk ws H locs lsA cells slots a1 a2 a3 a4 a5 a6 a7
theorem z_iast {a n : Nat} {f : Nat → Int32} {i x : Int32} (C : zC g own cc nL ret r mc ms p e R s m args below meth c) (d : decode cc pc = .ok (.iastore, 1)) (ha : h a = some (.inl (g.ca 0, n, .inl f))) (hin : vp_in i n) (kk : Z g nL mc ms p e R s m args below meth c Q rc rs (pc + 1) (ls) (st) (zu h a (.inl (g.ca 0, n, .inl (upd f i.toNatClampNeg x))))) : Z g nL mc ms p e R s m args below meth c Q rc rs (pc) (ls) (.int x :: .int i :: .ref a :: st) (h) := by
  intro ws H locs lsA cells slots a1 a2 a3 a4 a5 a6 a7
  obtain ⟨q0, hq⟩ := zw_at a1 ha
  exact va_iast C.1 C.2.1 C.2.2.2.2.2.2.1.2.1 a2 a3 a4 q0 0 hq rfl hin d (fun H1 locs1 b2 b3 b4 => kk _ H1 locs1 lsA cells slots (zw_set a1 a3 hq) b2 b3 b4 a5 a6 a7)
theorem z_zast {a n : Nat} {f : Nat → Int32} {i x : Int32} (C : zC g own cc nL ret r mc ms p e R s m args below meth c) (d : decode cc pc = .ok (.bastore, 1)) (ha : h a = some (.inl (g.ca 1, n, .inl f))) (hin : vp_in i n) (hx : vp_nar .boolean x = x) (kk : Z g nL mc ms p e R s m args below meth c Q rc rs (pc + 1) (ls) (st) (zu h a (.inl (g.ca 1, n, .inl (upd f i.toNatClampNeg x))))) : Z g nL mc ms p e R s m args below meth c Q rc rs (pc) (ls) (.int x :: .int i :: .ref a :: st) (h) := by
  intro ws H locs lsA cells slots a1 a2 a3 a4 a5 a6 a7
  obtain ⟨q0, hq⟩ := zw_at a1 ha
  refine va_zast C.1 C.2.1 C.2.2.2.2.2.2.1.2.1 a2 a3 a4 q0 1 hq rfl hin d (fun H1 locs1 b2 b3 b4 => ?_)
  rw [hx] at b2 b3
  exact kk _ H1 locs1 lsA cells slots (zw_set a1 a3 hq) b2 b3 b4 a5 a6 a7
theorem z_last {a n : Nat} {f : Nat → Int64} {i : Int32} {x : Int64} (C : zC g own cc nL ret r mc ms p e R s m args below meth c) (d : decode cc pc = .ok (.lastore, 1)) (ha : h a = some (.inl (g.ca 2, n, .inr (.inl f)))) (hin : vp_in i n) (kk : Z g nL mc ms p e R s m args below meth c Q rc rs (pc + 1) (ls) (st) (zu h a (.inl (g.ca 2, n, .inr (.inl (vp_updL f i.toNatClampNeg x)))))) : Z g nL mc ms p e R s m args below meth c Q rc rs (pc) (ls) (.long x :: .int i :: .ref a :: st) (h) := by
  intro ws H locs lsA cells slots a1 a2 a3 a4 a5 a6 a7
  obtain ⟨q0, hq⟩ := zw_at a1 ha
  exact va_last C.1 C.2.1 C.2.2.2.2.2.2.1.2.1 a2 a3 a4 q0 2 hq rfl hin d (fun H1 locs1 b2 b3 b4 => kk _ H1 locs1 lsA cells slots (zw_set a1 a3 hq) b2 b3 b4 a5 a6 a7)
theorem z_aast {a n b ci : Nat} {f : Nat → Option Nat} {i : Int32} {q9 : vw_C} {vs : List Value} (C : zC g own cc nL ret r mc ms p e R s m args below meth c) (d : decode cc pc = .ok (.aastore, 1)) (ha : h a = some (.inl (g.ca 3, n, .inr (.inr (.inr (.inr f)))))) (hb : h b = some (.inr (ci, vs))) (hc : zcl[ci]? = some q9) (hcast : (q9.1, "java/lang/Object") ∈ zcast) (hin : vp_in i n) (kk : Z g nL mc ms p e R s m args below meth c Q rc rs (pc + 1) (ls) (st) (zu h a (.inl (g.ca 3, n, .inr (.inr (.inr (.inr (va_up f i.toNatClampNeg (some b))))))))) : Z g nL mc ms p e R s m args below meth c Q rc rs (pc) (ls) (.ref b :: .int i :: .ref a :: st) (h) := by
  intro ws H locs lsA cells slots a1 a2 a3 a4 a5 a6 a7
  obtain ⟨q0, hq⟩ := zw_at a1 ha
  obtain ⟨q1, hq1⟩ := zw_at a1 hb
  exact va_astqO C.1 C.2.1 C.2.2.2.2.2.2.1.2.1 a2 a3 a4 q0 3 q1 ci hq rfl (C.2.2.2.2.2.2.1.2.2.2.2.2.1.1 _ hcast) hq1 hc hin d (fun H1 locs1 b2 b3 b4 => kk _ H1 locs1 lsA cells slots (zw_set a1 a3 hq) b2 b3 b4 a5 a6 a7)
theorem z_alen {a n : Nat} {cA : ClassId} {x : (Nat → Int32) ⊕ (Nat → Int64) ⊕ (Nat → UInt32) ⊕ (Nat → UInt64) ⊕ (Nat → Option Nat)} {ty : FieldType} (t0 : Nat) (C : zC g own cc nL ret r mc ms p e R s m args below meth c) (d : decode cc pc = .ok (.arraylength, 1)) (ha : h a = some (.inl (cA, n, x))) (ht : (ztys g)[t0]? = some (cA, ty)) (kk : Z g nL mc ms p e R s m args below meth c Q rc rs (pc + 1) (ls) (.int (nI n) :: st) (h)) : Z g nL mc ms p e R s m args below meth c Q rc rs (pc) (ls) (.ref a :: st) (h) := by
  intro ws H locs lsA cells slots a1 a2 a3 a4 a5 a6 a7
  obtain ⟨q0, hq⟩ := zw_at a1 ha
  exact va_alen C.1 C.2.1 C.2.2.2.2.2.2.1.2.1 a2 q0 t0 hq ht rfl d (kk ws H locs lsA cells slots a1 a2 a3 a4 a5 a6 a7)
theorem z_new {C0 : String} {T : u_T} {N ci index : Nat} {fs : List Value} (C : zC g own cc nL ret r mc ms p e R s m args below meth c) (d : decode cc pc = .ok (.new index, 3)) (ty : Nat → FieldType) (hty : ∀ k, k < N → parseFieldDescriptor (T k).2.2.1 = some (ty k)) (hin : ∀ w ∈ u_ws C0 T N, w ∈ zT) (hc : zcl[ci]? = some (C0, T, N)) (hcl : Cond.classLink own index C0 ∈ zT) (hinst : Cond.instantiable C0 N ∈ zT) (hini : Cond.initialized C0 ∈ zT) (hfs : ∀ j, j < N → defaultValue (ty j) = vp_V fs j) (hrc : 1 ≤ rc) (hrs : N ≤ rs) (kk : ∀ q, h q = none → Z g nL mc ms p e R s m args below meth c Q (rc - 1) (rs - N) (pc + 3) (ls) (.ref q :: st) (zu h q (.inr (ci, fs)))) : Z g nL mc ms p e R s m args below meth c Q rc rs (pc) (ls) (st) (h) := by
  intro ws H locs lsA cells slots a1 a2 a3 a4 a5 a6 a7
  have hA : ∀ q, s.heap.size ≤ q → zA g q := fun q hq => Nat.le_trans C.2.2.2.2.2.2.2.1 hq
  refine va_new C.1 C.2.1 C.2.2.2.2.1 hin ty hty C.2.2.2.1 (C.2.2.2.2.1 _ hcl) (C.2.2.2.2.1 _ hinst) (C.2.2.2.2.1 _ hini) C.2.2.2.2.2.2.1.2.1 a2 a3 a4 hA hc hfs (Nat.le_trans (by omega) C.2.2.2.2.2.2.2.2.2.2.2.1) (Nat.le_trans (by omega) C.2.2.2.2.2.2.2.2.2.2.2.2) d (fun q H1 b2 b3 b4 => ?_)
  obtain ⟨hq, hw⟩ := zw_push a1 b3
  exact kk q hq _ H1 locs lsA _ _ hw b2 b3 b4 a5 (by omega) (by omega)
theorem z_cast {ci index : Nat} {q9 : vw_C} {a : Nat} {fs : List Value} (C : zC g own cc nL ret r mc ms p e R s m args below meth c) (d : decode cc pc = .ok (.checkcast index, 3)) (hc : zcl[ci]? = some q9) (hlink : Cond.classLink own index q9.1 ∈ zT) (ha : h a = some (.inr (ci, fs))) (kk : Z g nL mc ms p e R s m args below meth c Q rc rs (pc + 3) (ls) (.ref a :: st) (h)) : Z g nL mc ms p e R s m args below meth c Q rc rs (pc) (ls) (.ref a :: st) (h) := by
  intro ws H locs lsA cells slots a1 a2 a3 a4 a5 a6 a7
  obtain ⟨q0, hq⟩ := zw_at a1 ha
  exact va_castS C.1 C.2.1 C.2.2.2.1 (C.2.2.2.2.1 _ hlink) (C.2.2.2.2.2.2.1.2.1.1 ci q9 hc).2 (va_recv C.2.2.2.2.2.2.1.2.1 a2 hc hq) d (kk ws H locs lsA cells slots a1 a2 a3 a4 a5 a6 a7)
theorem zoth_ok (C : zC g own cc nL ret r mc ms p e R s m args below meth c) : ∀ w ∈ zoth, w.before args s = true := by
  intro w hw
  have hK := C.2.2.2.2.2.2.1.2.2.2.2.2.1
  rcases List.mem_append.mp hw with h1 | h1
  · obtain ⟨x, hx, rfl⟩ := List.mem_map.mp h1
    exact va_Nw.use rfl (hK.1 x hx)
  · rcases List.mem_append.mp h1 with h1 | h1
    · obtain ⟨x, hx, rfl⟩ := List.mem_map.mp h1
      exact va_Nw.use rfl (hK.2.1 x hx)
    · obtain ⟨x, hx, rfl⟩ := List.mem_map.mp h1
      exact va_Nw.use rfl (hK.2.2 x hx)
end ZRows
end
section
/-! CONTRACTS over the abstract heap, calls, returns, throws. -/
def zB (g : zG) (h : Hp) (t : State) : Prop := ∃ ws : va_W, zw h ws ∧ va_P g.2.1 zcl ws t.heap ∧ va_D (zA g) ws
def zQ (g : zG) (PR : Option Value → Hp → Prop) : Array Value → State → Outcome → State → Prop := fun _ st oc t => (∃ (v : Option Value) (h : Hp), oc = .returned v ∧ PR v h ∧ zB g h t) ∧ va_F (zA g) st t
def zX (g : zG) (PX : String → Hp → Prop) : String → State → State → Prop := fun E st t => (∃ h : Hp, PX E h ∧ zB g h t) ∧ va_F (zA g) st t
/-- method y (its code word w), of rank r, which makes at most mc cells of ms slots: from the arguments av and the heap h it returns so that PR, or throws so that PX -/
def Ct (g : zG) (y : MethodName) (w : Cond) (r mc ms : Nat) (av : List Value) (h : Hp) (PR : Option Value → Hp → Prop) (PX : String → Hp → Prop) : Prop :=
  vx_Met g.1 y (w :: zT) (zR r mc ms) (va_Pc av (fun U => zB g h U ∧ Kz g U U.heap ∧ g.bs ≤ U.heap.size)) (zQ g PR) (zX g PX) mc ms (zA g)
/-- a value on the stack, or none -/
def zps (v : Option Value) (st : List Value) : List Value := match v with
  | none => st
  | some x => x :: st
theorem zps_eq (v : Option Value) (st : List Value) : v.toList ++ st = zps v st := by cases v <;> rfl
theorem zargs {av : List Value} (hav : ∀ v ∈ av, v.category = 1) : ∀ (k i : Nat) (v : Value), av[i]? = some v → (k + i, v) ∈ lv_args k av := by
  induction av with
  | nil => intro k i v h; simp at h
  | cons a l ih =>
    intro k i v h
    have ha : ¬ a.category = 2 := by rw [hav a List.mem_cons_self]; decide
    unfold lv_args
    rw [if_neg ha]
    cases i with
    | zero =>
      simp at h
      subst h
      exact List.mem_cons_self
    | succ j =>
      rw [List.getElem?_cons_succ] at h
      have := ih (fun v hv => hav v (List.mem_cons_of_mem _ hv)) (k + 1) j v h
      refine List.mem_cons_of_mem _ ?_
      rw [show k + (j + 1) = k + 1 + j by omega]
      exact this
theorem zentry {av : List Value} {n : Nat} {ls : List (Option Value)} (hn : (lg_sl av).length ≤ n) (hav : av.all (fun v => v.category == 1) = true) (hls : av.map some ++ List.replicate (n - av.length) none = ls) : zLv ((lg_sl av ++ List.replicate (n - (lg_sl av).length) Slot.unset).toArray) n ls := by
  have hav' : ∀ v ∈ av, v.category = 1 := fun v hv => by
    have := List.all_eq_true.mp hav v hv
    simpa using this
  have key : ∀ (i : Nat) (v : Value), ls[i]? = some (some v) → av[i]? = some v := by
    intro i v h
    rw [← hls] at h
    by_cases hl : i < av.length
    · rw [List.getElem?_append_left (by simpa using hl), List.getElem?_map] at h
      cases hv : av[i]? with
      | none => rw [hv] at h; simp at h
      | some w => rw [hv] at h; simp at h; rw [h]
    · rw [List.getElem?_append_right (by simpa using hl), List.getElem?_replicate] at h
      split at h <;> simp at h
  have hl := lv_entry av (n := n) hn
  refine ⟨⟨hl.1, hl.2.1, fun q hq => ?_⟩, fun i v h => hav' v (List.mem_of_getElem? (key i v h))⟩
  obtain ⟨i, v⟩ := q
  have h1 := zargs hav' 0 i v (key i v (zl_mem.mp hq))
  rw [Nat.zero_add] at h1
  exact hl.2.2 _ h1
section ZC
variable {g : zG} {own : String} {cc : ByteArray} {nL r mc ms : Nat} {ret : Option FieldType} {p : Program} {e : Env} {R : Room} {s : State} {m : MethodId} {args : Array Value} {below : List Frame} {meth : Method} {c : Code} {Q : State → Prop} {rc rs pc : Nat} {ls : List (Option Value)} {st : List Value} {h : Hp}
variable {PR : Option Value → Hp → Prop} {PX : String → Hp → Prop}
theorem Ct_intro {y : MethodName} {av : List Value} (hy : plainName y.cls = true) (hn : (lg_sl av).length ≤ nL) (hav : av.all (fun v => v.category == 1) = true) (hls : av.map some ++ List.replicate (nL - av.length) none = ls)
    (body : ∀ (p : Program) (e : Env) (R : Room) (s : State) (m : MethodId) (args : Array Value) (below : List Frame) (meth : Method) (c : Code), zC g y.cls cc nL ret r mc ms p e R s m args below meth c → (∀ x ∈ c.exceptionTable.toList, False) → meth.name = y.name →
      Z g nL mc ms p e R s m args below meth c (vx_MQ below (zQ g PR) (zX g PX) args s mc ms (zA g)) mc ms 0 ls [] h) : Ct g y (.code y cc nL ret) r mc ms av h PR PX := by
  refine vx_ofW (cc := cc) (maxL := nL) (ret := ret) hy rfl ?_
  intro p e s m args below meth c s₁ B hml ht hv
  obtain ⟨rfl, ⟨ws, b1, b2, b3⟩, hK, hbs⟩ := hv
  have hts := atoms_spec (ws := Cond.code y cc nL ret :: zT) B.pre
  have C : zC g y.cls cc nL ret r mc ms p e (headSpec (Cond.code y cc nL ret :: zT) (zR r mc ms)).room s m av.toArray below meth c :=
    ⟨B.exec, B.bytes, hml, findClass_of_methodNamed B.named, fun w hw => hts w (List.mem_cons_of_mem _ hw), B.notSynchronized, hK, hbs, B.returns, Nat.le_refl _, Nat.le_refl _, Nat.le_refl _, Nat.le_refl _⟩
  rw [lg_entry_eq]
  exact body p e _ s m av.toArray below meth c C ht (name_of_methodNamed B.named B.method).1 ws s.heap [] _ 0 0 b1 b2 b3 va_S.rf (zentry hn hav hls) (by omega) (by omega)
theorem Ct_introW {y : MethodName} {av : List Value} {hh : List (Nat × Nat × Nat × Nat)} (hy : plainName y.cls = true) (hn : (lg_sl av).length ≤ nL) (hav : av.all (fun v => v.category == 1) = true) (hls : av.map some ++ List.replicate (nL - av.length) none = ls)
    (body : ∀ (p : Program) (e : Env) (R : Room) (s : State) (m : MethodId) (args : Array Value) (below : List Frame) (meth : Method) (c : Code), zC g y.cls cc nL ret r mc ms p e R s m args below meth c → c.exceptionTable.toList = tableOf hh →
      Z g nL mc ms p e R s m args below meth c (vx_MQ below (zQ g PR) (zX g PX) args s mc ms (zA g)) mc ms 0 ls [] h) : Ct g y (.codeWith y cc nL ret hh) r mc ms av h PR PX := by
  refine vx_ofWH (cc := cc) (maxL := nL) (ret := ret) (hh := hh) hy rfl ?_
  intro p e s m args below meth c s₁ B hml hv
  obtain ⟨rfl, ⟨ws, b1, b2, b3⟩, hK, hbs⟩ := hv
  have hts := atoms_spec (ws := Cond.codeWith y cc nL ret hh :: zT) B.pre
  have ht := vx_table (x := y) B (hts _ List.mem_cons_self)
  have C : zC g y.cls cc nL ret r mc ms p e (headSpec (Cond.codeWith y cc nL ret hh :: zT) (zR r mc ms)).room s m av.toArray below meth c :=
    ⟨B.exec, B.bytes, hml, findClass_of_methodNamed B.named, fun w hw => hts w (List.mem_cons_of_mem _ hw), B.notSynchronized, hK, hbs, B.returns, Nat.le_refl _, Nat.le_refl _, Nat.le_refl _, Nat.le_refl _⟩
  rw [lg_entry_eq]
  exact body p e _ s m av.toArray below meth c C ht ws s.heap [] _ 0 0 b1 b2 b3 va_S.rf (zentry hn hav hls) (by omega) (by omega)
/-! ends -/
theorem z_end {t : State} {H : Heap} {locs : List Loc} {ws : va_W} (ht : t.heap = H) (a1 : zw h ws) (a2 : va_P g.2.1 zcl ws H) (a3 : va_D (zA g) ws) : zB g h t := ⟨ws, a1, by rw [ht]; exact a2, a3⟩
theorem z_iret {v : Int32} (C : zC g own cc nL (some .int) r mc ms p e R s m args below meth c) (d : decode cc pc = .ok (.ireturn, 1)) (k : PR (some (.int v)) h) : Z g nL mc ms p e R s m args below meth c (vx_MQ below (zQ g PR) (zX g PX) args s mc ms (zA g)) rc rs (pc) (ls) ([.int v]) (h) := by
  intro ws H locs lsA cells slots a1 a2 a3 a4 a5 a6 a7
  refine vx_ret (W.widen (k := mc) (n := ms) (by omega) (by omega) ?_)
  exact W.iret C.1 C.2.1 C.2.2.2.2.2.2.2.2.1 (fun t ht _ => ⟨⟨some (.int v), h, rfl, k, z_end (locs := locs) ht a1 a2 a3⟩, a4.F ht⟩) a4.2.2 d C.2.2.2.2.2.1
theorem z_zret {v : Int32} (C : zC g own cc nL (some .boolean) r mc ms p e R s m args below meth c) (d : decode cc pc = .ok (.ireturn, 1)) (hn : narrow .boolean (.int v) = .int v) (k : PR (some (.int v)) h) : Z g nL mc ms p e R s m args below meth c (vx_MQ below (zQ g PR) (zX g PX) args s mc ms (zA g)) rc rs (pc) (ls) ([.int v]) (h) := by
  intro ws H locs lsA cells slots a1 a2 a3 a4 a5 a6 a7
  refine vx_ret (W.widen (k := mc) (n := ms) (by omega) (by omega) ?_)
  exact W.zret C.1 C.2.1 C.2.2.2.2.2.2.2.2.1 hn (fun t ht _ => ⟨⟨some (.int v), h, rfl, k, z_end (locs := locs) ht a1 a2 a3⟩, a4.F ht⟩) a4.2.2 d C.2.2.2.2.2.1
theorem z_vret (C : zC g own cc nL none r mc ms p e R s m args below meth c) (d : decode cc pc = .ok (.return_, 1)) (k : PR none h) : Z g nL mc ms p e R s m args below meth c (vx_MQ below (zQ g PR) (zX g PX) args s mc ms (zA g)) rc rs (pc) (ls) ([]) (h) := by
  intro ws H locs lsA cells slots a1 a2 a3 a4 a5 a6 a7
  refine vx_ret (W.widen (k := mc) (n := ms) (by omega) (by omega) ?_)
  exact W.vret C.1 C.2.1 C.2.2.2.2.2.2.2.2.1 (fun t ht _ => ⟨⟨none, h, rfl, k, z_end (locs := locs) ht a1 a2 a3⟩, a4.F ht⟩) a4.2.2 d C.2.2.2.2.2.1
theorem z_aret {v : Nat} {rt : FieldType} (C : zC g own cc nL (some rt) r mc ms p e R s m args below meth c) (d : decode cc pc = .ok (.areturn, 1)) (hrt : (∃ n, rt = .object n) ∨ ∃ t, rt = .array t) (k : PR (some (.ref v)) h) : Z g nL mc ms p e R s m args below meth c (vx_MQ below (zQ g PR) (zX g PX) args s mc ms (zA g)) rc rs (pc) (ls) ([.ref v]) (h) := by
  intro ws H locs lsA cells slots a1 a2 a3 a4 a5 a6 a7
  refine vx_ret (W.widen (k := mc) (n := ms) (by omega) (by omega) ?_)
  exact W.aret C.1 C.2.1 C.2.2.2.2.2.2.2.2.1 hrt (Or.inr ⟨v, rfl⟩) (fun t ht _ => ⟨⟨some (.ref v), h, rfl, k, z_end (locs := locs) ht a1 a2 a3⟩, a4.F ht⟩) a4.2.2 d C.2.2.2.2.2.1
/-- not caught here -/
theorem zx_out {E : String} (C : zC g own cc nL ret r mc ms p e R s m args below meth c) (ht : ∀ x ∈ c.exceptionTable.toList, False) (k : PX E h) : ZX g nL mc ms p e R s m args below meth c (vx_MQ below (zQ g PR) (zX g PX) args s mc ms (zA g)) rc rs pc ls E h := by
  intro ws H locs lsA cells slots q ce rest a1 a2 a3 a4 a5 a6 a7 hce hcv hcl
  exact vx_out (fun x hx => (ht x hx).elim) C.2.2.2.2.2.1 hce hcv hcl (fun t hh _ => ⟨⟨h, k, z_end (locs := locs) hh a1 a2 a3⟩, a4.F hh⟩) a4.2.2 (by omega) (by omega)
/-- every cell of the abstract heap is the run's own -/
theorem z_dom (C : zC g own cc nL ret r mc ms p e R s m args below meth c) (k : (∀ q, h q ≠ none → q ≠ g.ea) → Z g nL mc ms p e R s m args below meth c Q rc rs (pc) (ls) (st) (h)) : Z g nL mc ms p e R s m args below meth c Q rc rs (pc) (ls) (st) (h) := by
  intro ws H locs lsA cells slots a1 a2 a3 a4 a5 a6 a7
  refine k (fun q hq z => ?_) ws H locs lsA cells slots a1 a2 a3 a4 a5 a6 a7
  cases he : h q with
  | none => exact hq he
  | some e0 =>
    obtain ⟨j, hj⟩ := zw_at a1 he
    have h1 : g.bs ≤ q := a3.2 j _ hj
    have h2 := C.2.2.2.2.2.2.1.2.2.2.2.2.2.2.1.2.2
    omega
/-! calls -/
theorem z_words {w : Cond} (hw : w ∈ zT) (C : zC g own cc nL ret r mc ms p e R s m args below meth c) : ∀ w1 ∈ w :: zT, ∀ (a' : Array Value) (U : State), s.WarmedH U.vm → w1.before a' U = true := by
  intro w1 h1 a' U hW
  have h2 : w1 ∈ zT := by
    rcases List.mem_cons.mp h1 with rfl | h2
    · exact hw
    · exact h2
  exact word_at hW (good_of_word (zT_good w1 h2)) (C.2.2.2.2.1 w1 h2)
theorem z_blind {av : List Value} : FrameBlind (va_Pc av (fun U => zB g h U ∧ Kz g U U.heap ∧ g.bs ≤ U.heap.size)) := by
  intro a U gf mk q
  obtain ⟨q0, q1, q2, q3⟩ := q
  exact ⟨q0, q1, Kz.to (U := U.calling gf mk a) q2 (State.WarmedH.refl U) (fun _ _ _ => rfl), q3⟩
theorem z_pre {av : List Value} {ws : va_W} {H : Heap} {locs : List Loc} (C : zC g own cc nL ret r mc ms p e R s m args below meth c) (a1 : zw h ws) (a2 : va_P g.2.1 zcl ws H) (a3 : va_D (zA g) ws) (a4 : va_S (zA g) s.heap H locs) (U : State) (hU : U.heap = H) (hW : s.WarmedH U.vm) : va_Pc av (fun U => zB g h U ∧ Kz g U U.heap ∧ g.bs ≤ U.heap.size) av.toArray U := by
  refine ⟨rfl, z_end (locs := locs) hU a1 a2 a3, ?_, ?_⟩
  · rw [hU]
    exact Kz.to C.2.2.2.2.2.2.1 hW a4.2.1
  · rw [hU]
    exact Nat.le_trans C.2.2.2.2.2.2.2.1 a4.1
theorem z_run {mc1 ms1 : Nat} {rest st0 : List Value} {a : Array Value} {H : Heap} {locs : List Loc} {lsA : Array Slot} {cells slots : Nat} (a4 : va_S (zA g) s.heap H locs) (a5 : zLv lsA nL ls) (a6 : cells + rc ≤ mc) (a7 : slots + rs ≤ ms) (hmc : mc1 ≤ rc) (hms : ms1 ≤ rs)
    (hr : vx_Run p g.1 e R s m args below meth c H locs cells slots mc1 ms1 (F0 m pc lsA st0) rest (zQ g (fun v h1 => Z g nL mc ms p e R s m args below meth c Q (rc - mc1) (rs - ms1) (pc + 3) (ls) (zps v rest) (h1)) a) (zX g (fun E h1 => ZX g nL mc ms p e R s m args below meth c Q (rc - mc1) (rs - ms1) pc ls E h1)) (zA g)) :
    W p g.1 e R s m args below meth c H locs cells slots Q (F0 m pc lsA st0) := by
  intro T hT X
  rcases hr T hT X with ⟨v, st₀, t, T', L, h0, X', hL, e1, e2, ⟨⟨v1, h1, hv, hp, ws, b1, b2, b3⟩, hF⟩, st⟩ | ⟨q, st₀, t, T', L, E, ce, h0, X', hL, e1, e2, ⟨⟨h1, hp, ws, b1, b2, b3⟩, hF⟩, hce, hcv, hcl, st⟩
  · cases hv
    obtain ⟨k1, k2, k3⟩ := vx_keep h0 e1 a4 (fun q _ z => z) (fun q z => z) hL hF
    have hw := hp ws T'.heap (locs ++ L) lsA (cells + mc1) (slots + ms1) b1 (by rw [e1]; exact b2) b3 k3 a5 (by omega) (by omega)
    rw [← zps_eq] at hw
    obtain ⟨t2, a1, b1⟩ := hw T' rfl X'
    exact ⟨t2, st t2 a1, b1⟩
  · obtain ⟨k1, k2, k3⟩ := vx_keep h0 e1 a4 (fun q _ z => z) (fun q z => z) hL hF
    obtain ⟨t2, a1, b1⟩ := hp ws T'.heap (locs ++ L) lsA (cells + mc1) (slots + ms1) q ce rest b1 (by rw [e1]; exact b2) b3 k3 a5 (by omega) (by omega) (by rw [e1]; exact hce) hcv hcl T' rfl X'
    exact ⟨t2, st.trans a1, b1⟩
theorem z_callV {y : MethodName} {bytes : ByteArray} {maxL n index : Nat} {rt : Option FieldType} {r1 mc1 ms1 : Nat} {As rest : List Value} {b ci N : Nat} {fs : List Value} {T0 : u_T} (C : zC g own cc nL ret r mc ms p e R s m args below meth c) (d : decode cc pc = .ok (.invokevirtual index, 3)) (hcode : Cond.code y bytes maxL rt ∈ zT) (hlink : Cond.methodLink own index y ∈ zT) (hinst : Cond.instanceMethod y ∈ zT) (hsel : Cond.selects y.cls y y ∈ zT) (hini : Cond.initialized y.cls ∈ zT)
    (hd : y.cls ≠ "java/lang/invoke/MethodHandle" ∧ y.cls ≠ "java/lang/invoke/VarHandle" ∧ (parseMethodDescriptor y.desc).map (fun d => d.parameters.length) = some n) (hn : As.length = n) (hc : zcl[ci]? = some (y.cls, T0, N)) (hb : h b = some (.inr (ci, fs))) (hr : r1 + 1 ≤ r) (hml : maxL ≤ 15) (hst : (rest.map fun v => v.category).sum ≤ 8) (hmc : mc1 ≤ rc) (hms : ms1 ≤ rs) (hstk : st = As.reverse ++ .ref b :: rest)
    (ct : Ct g y (.code y bytes maxL rt) r1 mc1 ms1 (.ref b :: As) h (fun v h1 => Z g nL mc ms p e R s m args below meth c Q (rc - mc1) (rs - ms1) (pc + 3) (ls) (zps v rest) (h1)) (fun E h1 => ZX g nL mc ms p e R s m args below meth c Q (rc - mc1) (rs - ms1) pc ls E h1)) : Z g nL mc ms p e R s m args below meth c Q rc rs (pc) (ls) (st) (h) := by
  subst hstk
  intro ws H locs lsA cells slots a1 a2 a3 a4 a5 a6 a7
  have hw := C.2.2.2.2.1
  have hfr := C.2.2.2.2.2.2.2.2.2.1
  have hlo := C.2.2.2.2.2.2.2.2.2.2.1
  have hce := C.2.2.2.2.2.2.2.2.2.2.2.1
  have hsl := C.2.2.2.2.2.2.2.2.2.2.2.2
  obtain ⟨q0, hq⟩ := zw_at a1 hb
  refine z_run a4 a5 a6 a7 hmc hms (vx_runV (As := As) (rest := rest) ⟨C.1, C.2.1, C.2.2.1, C.2.2.2.1, hw⟩ ct (C := y.cls) (bytes := bytes) (maxL := maxL) (ret := rt) (n := n)
    ⟨⟨rfl, rfl, Nat.le_trans hr hfr, Nat.le_trans (by show 8 + (maxL + 11) + 34 * r1 ≤ 34 * r; omega) hlo, z_words hcode C, List.mem_cons_self, hw _ hcode, hw _ hini, ⟨hd.1, hd.2.1⟩, fun sig hs => by have h2 := hd.2.2; rw [hs] at h2; exact (Option.some.inj h2).symm, hw _ hlink⟩, hw _ hinst, hw _ hsel⟩
    ⟨z_blind, va_recv C.2.2.2.2.2.2.1.2.1 a2 hc hq, z_pre C a1 a2 a3 a4⟩ rfl hn a5.1.1 rfl (lv_room hst) d ⟨by omega, by omega⟩)
theorem z_callS {y : MethodName} {bytes : ByteArray} {maxL n index : Nat} {rt : Option FieldType} {r1 mc1 ms1 : Nat} {As rest : List Value} (C : zC g own cc nL ret r mc ms p e R s m args below meth c) (d : decode cc pc = .ok (.invokestatic index, 3)) (hcode : Cond.code y bytes maxL rt ∈ zT) (hlink : Cond.methodLink own index y ∈ zT) (hstat : Cond.static y ∈ zT) (hini : Cond.initialized y.cls ∈ zT)
    (hd : y.cls ≠ "java/lang/invoke/MethodHandle" ∧ y.cls ≠ "java/lang/invoke/VarHandle" ∧ (parseMethodDescriptor y.desc).map (fun d => d.parameters.length) = some n) (hn : As.length = n) (hr : r1 + 1 ≤ r) (hml : maxL ≤ 15) (hst : (rest.map fun v => v.category).sum ≤ 8) (hmc : mc1 ≤ rc) (hms : ms1 ≤ rs) (hstk : st = As.reverse ++ rest)
    (ct : Ct g y (.code y bytes maxL rt) r1 mc1 ms1 As h (fun v h1 => Z g nL mc ms p e R s m args below meth c Q (rc - mc1) (rs - ms1) (pc + 3) (ls) (zps v rest) (h1)) (fun E h1 => ZX g nL mc ms p e R s m args below meth c Q (rc - mc1) (rs - ms1) pc ls E h1)) : Z g nL mc ms p e R s m args below meth c Q rc rs (pc) (ls) (st) (h) := by
  subst hstk
  intro ws H locs lsA cells slots a1 a2 a3 a4 a5 a6 a7
  have hw := C.2.2.2.2.1
  have hfr := C.2.2.2.2.2.2.2.2.2.1
  have hlo := C.2.2.2.2.2.2.2.2.2.2.1
  have hce := C.2.2.2.2.2.2.2.2.2.2.2.1
  have hsl := C.2.2.2.2.2.2.2.2.2.2.2.2
  refine z_run a4 a5 a6 a7 hmc hms (vx_runS (As := As) (rest := rest) ⟨C.1, C.2.1, C.2.2.1, C.2.2.2.1, hw⟩ ct (bytes := bytes) (maxL := maxL) (ret := rt) (n := n)
    ⟨⟨rfl, rfl, Nat.le_trans hr hfr, Nat.le_trans (by show 8 + (maxL + 11) + 34 * r1 ≤ 34 * r; omega) hlo, z_words hcode C, List.mem_cons_self, hw _ hcode, hw _ hini, ⟨hd.1, hd.2.1⟩, fun sig hs => by have h2 := hd.2.2; rw [hs] at h2; exact (Option.some.inj h2).symm, hw _ hlink⟩, hw _ hstat⟩
    ⟨z_blind, z_pre C a1 a2 a3 a4⟩ rfl hn a5.1.1 rfl (lv_room hst) d ⟨by omega, by omega⟩)
/-- a static method with handlers of its own -/
theorem z_callSW {y : MethodName} {bytes : ByteArray} {maxL n index : Nat} {rt : Option FieldType} {hh : List (Nat × Nat × Nat × Nat)} {r1 mc1 ms1 : Nat} {As rest : List Value} (C : zC g own cc nL ret r mc ms p e R s m args below meth c) (d : decode cc pc = .ok (.invokestatic index, 3)) (hcode : Cond.codeWith y bytes maxL rt hh ∈ zT) (hlink : Cond.methodLink own index y ∈ zT) (hstat : Cond.static y ∈ zT) (hini : Cond.initialized y.cls ∈ zT)
    (hd : y.cls ≠ "java/lang/invoke/MethodHandle" ∧ y.cls ≠ "java/lang/invoke/VarHandle" ∧ (parseMethodDescriptor y.desc).map (fun d => d.parameters.length) = some n) (hn : As.length = n) (hr : r1 + 1 ≤ r) (hml : maxL ≤ 15) (hst : (rest.map fun v => v.category).sum ≤ 8) (hmc : mc1 ≤ rc) (hms : ms1 ≤ rs) (hstk : st = As.reverse ++ rest)
    (ct : Ct g y (.codeWith y bytes maxL rt hh) r1 mc1 ms1 As h (fun v h1 => Z g nL mc ms p e R s m args below meth c Q (rc - mc1) (rs - ms1) (pc + 3) (ls) (zps v rest) (h1)) (fun E h1 => ZX g nL mc ms p e R s m args below meth c Q (rc - mc1) (rs - ms1) pc ls E h1)) : Z g nL mc ms p e R s m args below meth c Q rc rs (pc) (ls) (st) (h) := by
  subst hstk
  intro ws H locs lsA cells slots a1 a2 a3 a4 a5 a6 a7
  have hw := C.2.2.2.2.1
  have hfr := C.2.2.2.2.2.2.2.2.2.1
  have hlo := C.2.2.2.2.2.2.2.2.2.2.1
  have hce := C.2.2.2.2.2.2.2.2.2.2.2.1
  have hsl := C.2.2.2.2.2.2.2.2.2.2.2.2
  refine z_run a4 a5 a6 a7 hmc hms (vx_runSX (hh := hh) (As := As) (rest := rest) ⟨C.1, C.2.1, C.2.2.1, C.2.2.2.1, hw⟩ ct (bytes := bytes) (maxL := maxL) (ret := rt) (n := n)
    ⟨⟨rfl, rfl, Nat.le_trans hr hfr, Nat.le_trans (by show 8 + (maxL + 11) + 34 * r1 ≤ 34 * r; omega) hlo, z_words hcode C, List.mem_cons_self⟩, hw _ hcode, hw _ hini, ⟨hd.1, hd.2.1⟩, fun sig hs => by have h2 := hd.2.2; rw [hs] at h2; exact (Option.some.inj h2).symm, hw _ hlink, hw _ hstat⟩
    ⟨z_blind, z_pre C a1 a2 a3 a4⟩ rfl hn a5.1.1 rfl (lv_room hst) d ⟨by omega, by omega⟩)
/-- a method that never throws, as a contract of the plain kind -/
theorem Ct_Met {y : MethodName} {w : Cond} {av : List Value} (ct : Ct g y w r mc ms av h PR (fun _ _ => False)) : Met g.1 y (w :: zT) (zR r mc ms) (va_Pc av (fun U => zB g h U ∧ Kz g U U.heap ∧ g.bs ≤ U.heap.size)) (zQ g PR) mc ms (zA g) := by
  intro p e h1 h2 h3 s m args below h4 h5 h6 h7
  obtain ⟨n, o, g1, g2, g3, g4⟩ := ct p e h1 h2 h3 s m args below h4 h5 h6 h7
  refine ⟨n, o, g1, g2, g3, ?_⟩
  rcases g4 with g4 | ⟨q, -, E, ce, L, ⟨⟨h9, hf, -⟩, -⟩, -⟩
  · exact g4
  · exact hf.elim
theorem z_callI {y : MethodName} {bytes : ByteArray} {maxL n index : Nat} {r1 mc1 ms1 : Nat} {As rest : List Value} {b : Nat} (C : zC g own cc nL ret r mc ms p e R s m args below meth c) (d : decode cc pc = .ok (.invokespecial index, 3)) (hcode : Cond.code y bytes maxL none ∈ zT) (hlink : Cond.methodLink own index y ∈ zT) (hinst : Cond.instanceMethod y ∈ zT) (hini : Cond.initialized y.cls ∈ zT) (hy1 : y.name = "<init>")
    (hd : y.cls ≠ "java/lang/invoke/MethodHandle" ∧ y.cls ≠ "java/lang/invoke/VarHandle" ∧ (parseMethodDescriptor y.desc).map (fun d => d.parameters.length) = some n) (hn : As.length = n) (hr : r1 + 1 ≤ r) (hml : maxL ≤ 15) (hst : (rest.map fun v => v.category).sum ≤ 8) (hmc : mc1 ≤ rc) (hms : ms1 ≤ rs) (hstk : st = As.reverse ++ .ref b :: rest)
    (ct : Ct g y (.code y bytes maxL none) r1 mc1 ms1 (.ref b :: As) h (fun v h1 => Z g nL mc ms p e R s m args below meth c Q (rc - mc1) (rs - ms1) (pc + 3) (ls) (zps v rest) (h1)) (fun _ _ => False)) : Z g nL mc ms p e R s m args below meth c Q rc rs (pc) (ls) (st) (h) := by
  subst hstk
  intro ws H locs lsA cells slots a1 a2 a3 a4 a5 a6 a7
  have hw := C.2.2.2.2.1
  have hfr := C.2.2.2.2.2.2.2.2.2.1
  have hlo := C.2.2.2.2.2.2.2.2.2.2.1
  have hce := C.2.2.2.2.2.2.2.2.2.2.2.1
  have hsl := C.2.2.2.2.2.2.2.2.2.2.2.2
  have hrun := va_runI (b := b) (As := As) (rest := rest) (H := H) (locs := locs) (cells := cells) (slots := slots) (e := e) (below := below) (meth := meth) (g := F0 m pc lsA (As.reverse ++ .ref b :: rest)) ⟨C.1, C.2.1, C.2.2.1, C.2.2.2.1, hw⟩ (Ct_Met ct) (R := R) (index := index) (bytes := bytes) (maxL := maxL) (n := n)
    ⟨⟨rfl, rfl, Nat.le_trans hr hfr, Nat.le_trans (by show 8 + (maxL + 11) + 34 * r1 ≤ 34 * r; omega) hlo, z_words hcode C, List.mem_cons_self, hw _ hcode, hw _ hini, ⟨hd.1, hd.2.1⟩, fun sig hs => by have h2 := hd.2.2; rw [hs] at h2; exact (Option.some.inj h2).symm, hw _ hlink⟩, hy1, hw _ hinst⟩
    ⟨z_blind, z_pre C a1 a2 a3 a4⟩ rfl hn a5.1.1 rfl (lv_room hst) d ⟨by omega, by omega⟩
  refine z_run (a := (Value.ref b :: As).toArray) (rest := rest) (mc1 := mc1) (ms1 := ms1) a4 a5 a6 a7 hmc hms ?_
  intro T hT X
  obtain ⟨v, st₀, t, T', L, h0, X', hL, e1, e2, hq, stp⟩ := hrun T hT X
  exact Or.inl ⟨v, st₀, t, T', L, h0, X', hL, e1, e2, hq, stp⟩
/-- Object.<init> -/
theorem z_obj {idx : Nat} {a : Nat} (C : zC g own cc nL ret r mc ms p e R s m args below meth c) (d : decode cc pc = .ok (.invokespecial idx, 3)) (hlink : Cond.methodLink own idx objectInit ∈ zT) (hinst : Cond.instanceMethod objectInit ∈ zT) (hcode : Cond.code objectInit ⟨#[0xb1]⟩ 1 none ∈ zT) (hr : 1 ≤ r) (hst : (st.map fun v => v.category).sum ≤ 8) (k : Z g nL mc ms p e R s m args below meth c Q rc rs (pc + 3) (ls) (st) (h)) : Z g nL mc ms p e R s m args below meth c Q rc rs (pc) (ls) (.ref a :: st) (h) := by
  intro ws H locs lsA cells slots a1 a2 a3 a4 a5 a6 a7
  have hw := C.2.2.2.2.1
  have hlo := C.2.2.2.2.2.2.2.2.2.2.1
  refine W.objInit C.1 C.2.1 C.2.2.2.1 (hw _ hlink) (hw _ hinst) (hw _ hcode) rfl (by rw [C.2.2.1]; exact a5.1.1) rfl d (Nat.le_trans hr C.2.2.2.2.2.2.2.2.2.1) (Nat.le_trans ?_ hlo) (k ws H locs lsA cells slots a1 a2 a3 a4 a5 a6 a7)
  have := lv_room (m := m) (pc := pc) (ls := lsA) (rest := (.ref a :: st : List Value)) hst
  omega
/-! throw new E("text") by a method of RollCalls -/
theorem z_throwS {cls text : String} {ik is ic : Nat} (C : zC g "RollCalls" cc nL ret r mc ms p e R s m args below meth c) (ht : ∀ x ∈ c.exceptionTable.toList, False) (d0 : decode cc pc = .ok (.new ik, 3)) (d3 : decode cc (pc + 3) = .ok (.dup, 1)) (d4 : decode cc (pc + 4) = .ok (.ldc is, 2)) (d6 : decode cc (pc + 6) = .ok (.invokespecial ic, 3)) (d9 : decode cc (pc + 9) = .ok (.athrow, 1))
    (hcls : Bundle.fit cls = true) (hk : Cond.classLink "RollCalls" ik cls ∈ zT) (hini : Cond.initialized cls ∈ zT) (hstr : ("RollCalls", is, text) ∈ zstr) (hat : ∀ w ∈ vx_atS "RollCalls" ic cls ["java/lang/RuntimeException", "java/lang/Exception"], w.before args s = true)
    (hgood : ∀ w ∈ Cond.classLink "RollCalls" ik cls :: Cond.initialized cls :: vx_atS "RollCalls" ic cls ["java/lang/RuntimeException", "java/lang/Exception"], vx_ot w = true) (hr : 6 ≤ r) (hst : (st.map fun v => v.category).sum ≤ 8) (hrc : 1 ≤ rc) (hrs : 6 ≤ rs) (k : PX cls h) : Z g nL mc ms p e R s m args below meth c (vx_MQ below (zQ g PR) (zX g PX) args s mc ms (zA g)) rc rs (pc) (ls) (st) (h) := by
  intro ws H locs lsA cells slots a1 a2 a3 a4 a5 a6 a7
  have hw := C.2.2.2.2.1
  have hfr := C.2.2.2.2.2.2.2.2.2.1
  have hlo := C.2.2.2.2.2.2.2.2.2.2.1
  have hce := C.2.2.2.2.2.2.2.2.2.2.2.1
  have hsl := C.2.2.2.2.2.2.2.2.2.2.2.2
  have hK := C.2.2.2.2.2.2.1
  obtain ⟨sa, hsa⟩ := hK.2.2.2.2.1 _ hstr
  have hlt : ∀ (j : Nat) (q : Nat × va_E), ws[j]? = some q → q.1 < H.size := fun j q hq => (a2 j q hq).lt
  refine vx_throwS (names := ["java/lang/RuntimeException", "java/lang/Exception"]) C.1 C.2.1 hK.1 C.2.2.2.1 hcls (by decide +kernel) (hw _ hk) (hw _ hini) hsa hat hgood hK.2.2.1 hK.2.2.2.1 a4 (a5.1.1.trans C.2.2.1.symm) d0 d3 d4 d6 d9 (fun x hx => (ht x hx).elim) (Nat.lt_of_lt_of_le (by show 2 + 3 < r; omega) hfr) (Nat.le_trans (by show _ + (13 * (2 + 1) + 43) ≤ 34 * r; omega) hlo) (Nat.le_trans (by omega) hce) (Nat.le_trans (by omega) hsl) C.2.2.2.2.2.1
    (fun t _ hz hq => ⟨⟨h, k, ws, a1, a2.kept (fun j q hj => hq q.1 (hlt j q hj)), a3⟩, Nat.le_trans a4.1 hz, fun q h1 h2 => (hq q (Nat.lt_of_lt_of_le h1 a4.1)).trans (a4.2.1 q h1 h2)⟩) a4.2.2 (by omega) (by omega)
theorem z_throwSW {cls text : String} {ik is ic : Nat} (C : zC g "RollCalls" cc nL ret r mc ms p e R s m args below meth c) (ht : ∀ x ∈ c.exceptionTable.toList, False) (d0 : decode cc pc = .ok (.new ik, 3)) (d3 : decode cc (pc + 3) = .ok (.dup, 1)) (d4 : decode cc (pc + 4) = .ok (.ldc_w is, 3)) (d7 : decode cc (pc + 7) = .ok (.invokespecial ic, 3)) (d10 : decode cc (pc + 10) = .ok (.athrow, 1))
    (hcls : Bundle.fit cls = true) (hk : Cond.classLink "RollCalls" ik cls ∈ zT) (hini : Cond.initialized cls ∈ zT) (hstr : ("RollCalls", is, text) ∈ zstr) (hat : ∀ w ∈ vx_atS "RollCalls" ic cls ["java/lang/RuntimeException", "java/lang/Exception"], w.before args s = true)
    (hgood : ∀ w ∈ Cond.classLink "RollCalls" ik cls :: Cond.initialized cls :: vx_atS "RollCalls" ic cls ["java/lang/RuntimeException", "java/lang/Exception"], vx_ot w = true) (hr : 6 ≤ r) (hst : (st.map fun v => v.category).sum ≤ 8) (hrc : 1 ≤ rc) (hrs : 6 ≤ rs) (k : PX cls h) : Z g nL mc ms p e R s m args below meth c (vx_MQ below (zQ g PR) (zX g PX) args s mc ms (zA g)) rc rs (pc) (ls) (st) (h) := by
  intro ws H locs lsA cells slots a1 a2 a3 a4 a5 a6 a7
  have hw := C.2.2.2.2.1
  have hfr := C.2.2.2.2.2.2.2.2.2.1
  have hlo := C.2.2.2.2.2.2.2.2.2.2.1
  have hce := C.2.2.2.2.2.2.2.2.2.2.2.1
  have hsl := C.2.2.2.2.2.2.2.2.2.2.2.2
  have hK := C.2.2.2.2.2.2.1
  obtain ⟨sa, hsa⟩ := hK.2.2.2.2.1 _ hstr
  have hlt : ∀ (j : Nat) (q : Nat × va_E), ws[j]? = some q → q.1 < H.size := fun j q hq => (a2 j q hq).lt
  refine vx_throwSW (names := ["java/lang/RuntimeException", "java/lang/Exception"]) C.1 C.2.1 hK.1 C.2.2.2.1 hcls (by decide +kernel) (hw _ hk) (hw _ hini) hsa hat hgood hK.2.2.1 hK.2.2.2.1 a4 (a5.1.1.trans C.2.2.1.symm) d0 d3 d4 d7 d10 (fun x hx => (ht x hx).elim) (Nat.lt_of_lt_of_le (by show 2 + 3 < r; omega) hfr) (Nat.le_trans (by show _ + (13 * (2 + 1) + 43) ≤ 34 * r; omega) hlo) (Nat.le_trans (by omega) hce) (Nat.le_trans (by omega) hsl) C.2.2.2.2.2.1
    (fun t _ hz hq => ⟨⟨h, k, ws, a1, a2.kept (fun j q hj => hq q.1 (hlt j q hj)), a3⟩, Nat.le_trans a4.1 hz, fun q h1 h2 => (hq q (Nat.lt_of_lt_of_le h1 a4.1)).trans (a4.2.1 q h1 h2)⟩) a4.2.2 (by omega) (by omega)
/-- caught by a row of this method's table -/
theorem zx_catch {E : String} (C : zC g own cc nL ret r mc ms p e R s m args below meth c) (pre : List ExceptionTableEntry) (x : ExceptionTableEntry) (suf : List ExceptionTableEntry) (hsplit : c.exceptionTable.toList = pre ++ x :: suf)
    (hpass : ∀ z ∈ pre, covers z pc = false ∨ (z.catchType ≠ 0 ∧ ∃ nm : String, Cond.classLink own z.catchType nm ∈ zT ∧ (E, nm) ∈ znc)) (hx : covers x pc = true) (h0 : x.catchType ≠ 0) (hlink : Cond.classLink own x.catchType E ∈ zT) (hcast : (E, E) ∈ zcast)
    (k : ∀ q : Nat, Z g nL mc ms p e R s m args below meth c Q rc rs (x.handlerPc) (ls) ([.ref q]) (h)) : ZX g nL mc ms p e R s m args below meth c Q rc rs pc ls E h := by
  intro ws H locs lsA cells slots q ce rest a1 a2 a3 a4 a5 a6 a7 hce hcv hcl
  have hw := C.2.2.2.2.1
  have hK := C.2.2.2.2.2.2.1
  exact vx_catch C.2.2.2.1 pre x suf hsplit (fun z hz => (hpass z hz).elim Or.inl (fun q => Or.inr ⟨q.1, q.2.elim fun nm q2 => ⟨nm, hw _ q2.1, hK.2.2.2.2.2.2.1 _ q2.2⟩⟩)) hx h0 (hw _ hlink) (va_Nw.use rfl (hK.2.2.2.2.2.1.1 _ hcast)) hce hcv hcl (k q ws H locs lsA cells slots a1 a2 a3 a4 a5 a6 a7)
/-! arrays made, constants, Math -/
theorem z_newaI {n : Int32} {N0 : Nat} (C : zC g own cc nL ret r mc ms p e R s m args below meth c) (d : decode cc pc = .ok (.newarray .int, 2)) (harr : Cond.arrayClass .int ∈ zT) (hfc : s.vm.findClass "[I" = some (g.ca 0)) (hn : ¬ n < 0) (hN : n.toNatClampNeg = N0) (hb : N0 * 4 ≤ 536870912) (hrc : 1 ≤ rc) (hrs : N0 ≤ rs) (kk : ∀ q, h q = none → Z g nL mc ms p e R s m args below meth c Q (rc - 1) (rs - N0) (pc + 2) (ls) (.ref q :: st) (zu h q (.inl (g.ca 0, N0, .inl (fun _ => 0))))) : Z g nL mc ms p e R s m args below meth c Q rc rs (pc) (ls) (.int n :: st) (h) := by
  intro ws H locs lsA cells slots a1 a2 a3 a4 a5 a6 a7
  have hA : ∀ q, s.heap.size ≤ q → zA g q := fun q hq => Nat.le_trans C.2.2.2.2.2.2.2.1 hq
  refine va_newa (atype := .int) (a0 := (N0, .inl (fun _ => 0))) C.1 C.2.1 (C.2.2.2.2.1 _ harr) rfl C.2.2.2.2.2.2.1.2.1 a2 a3 a4 hA (fun cA => rfl) hn hN hb (Nat.le_trans (by omega) C.2.2.2.2.2.2.2.2.2.2.2.1) (Nat.le_trans (by omega) C.2.2.2.2.2.2.2.2.2.2.2.2) d (fun q cA H1 bK b2 b3 b4 => ?_)
  have hcA : cA = g.ca 0 := by
    have h1 := (bK.2 4 (cA, .int) rfl).2
    exact Option.some.inj (h1.symm.trans hfc)
  subst hcA
  obtain ⟨hq, hw⟩ := zw_push a1 b3
  exact kk q hq _ H1 locs lsA _ _ hw b2 b3 b4 a5 (by omega) (by omega)
theorem z_newaZ {n : Int32} {N0 : Nat} (C : zC g own cc nL ret r mc ms p e R s m args below meth c) (d : decode cc pc = .ok (.newarray .boolean, 2)) (harr : Cond.arrayClass .boolean ∈ zT) (hfc : s.vm.findClass "[Z" = some (g.ca 1)) (hn : ¬ n < 0) (hN : n.toNatClampNeg = N0) (hb : N0 * 1 ≤ 536870912) (hrc : 1 ≤ rc) (hrs : N0 ≤ rs) (kk : ∀ q, h q = none → Z g nL mc ms p e R s m args below meth c Q (rc - 1) (rs - N0) (pc + 2) (ls) (.ref q :: st) (zu h q (.inl (g.ca 1, N0, .inl (fun _ => 0))))) : Z g nL mc ms p e R s m args below meth c Q rc rs (pc) (ls) (.int n :: st) (h) := by
  intro ws H locs lsA cells slots a1 a2 a3 a4 a5 a6 a7
  have hA : ∀ q, s.heap.size ≤ q → zA g q := fun q hq => Nat.le_trans C.2.2.2.2.2.2.2.1 hq
  refine va_newa (atype := .boolean) (a0 := (N0, .inl (fun _ => 0))) C.1 C.2.1 (C.2.2.2.2.1 _ harr) rfl C.2.2.2.2.2.2.1.2.1 a2 a3 a4 hA (fun cA => rfl) hn hN hb (Nat.le_trans (by omega) C.2.2.2.2.2.2.2.2.2.2.2.1) (Nat.le_trans (by omega) C.2.2.2.2.2.2.2.2.2.2.2.2) d (fun q cA H1 bK b2 b3 b4 => ?_)
  have hcA : cA = g.ca 1 := by
    have h1 := (bK.2 4 (cA, .boolean) rfl).2
    exact Option.some.inj (h1.symm.trans hfc)
  subst hcA
  obtain ⟨hq, hw⟩ := zw_push a1 b3
  exact kk q hq _ H1 locs lsA _ _ hw b2 b3 b4 a5 (by omega) (by omega)
theorem z_newaL {n : Int32} {N0 : Nat} (C : zC g own cc nL ret r mc ms p e R s m args below meth c) (d : decode cc pc = .ok (.newarray .long, 2)) (harr : Cond.arrayClass .long ∈ zT) (hfc : s.vm.findClass "[J" = some (g.ca 2)) (hn : ¬ n < 0) (hN : n.toNatClampNeg = N0) (hb : N0 * 8 ≤ 536870912) (hrc : 1 ≤ rc) (hrs : N0 ≤ rs) (kk : ∀ q, h q = none → Z g nL mc ms p e R s m args below meth c Q (rc - 1) (rs - N0) (pc + 2) (ls) (.ref q :: st) (zu h q (.inl (g.ca 2, N0, .inr (.inl (fun _ => 0)))))) : Z g nL mc ms p e R s m args below meth c Q rc rs (pc) (ls) (.int n :: st) (h) := by
  intro ws H locs lsA cells slots a1 a2 a3 a4 a5 a6 a7
  have hA : ∀ q, s.heap.size ≤ q → zA g q := fun q hq => Nat.le_trans C.2.2.2.2.2.2.2.1 hq
  refine va_newa (atype := .long) (a0 := (N0, .inr (.inl (fun _ => 0)))) C.1 C.2.1 (C.2.2.2.2.1 _ harr) rfl C.2.2.2.2.2.2.1.2.1 a2 a3 a4 hA (fun cA => rfl) hn hN hb (Nat.le_trans (by omega) C.2.2.2.2.2.2.2.2.2.2.2.1) (Nat.le_trans (by omega) C.2.2.2.2.2.2.2.2.2.2.2.2) d (fun q cA H1 bK b2 b3 b4 => ?_)
  have hcA : cA = g.ca 2 := by
    have h1 := (bK.2 4 (cA, .long) rfl).2
    exact Option.some.inj (h1.symm.trans hfc)
  subst hcA
  obtain ⟨hq, hw⟩ := zw_push a1 b3
  exact kk q hq _ H1 locs lsA _ _ hw b2 b3 b4 a5 (by omega) (by omega)
/-- the array classes by their names -/
theorem zC_I (C : zC g own cc nL ret r mc ms p e R s m args below meth c) : s.vm.findClass "[I" = some (g.ca 0) := (C.2.2.2.2.2.2.1.2.1.2 0 (g.ca 0, .int) rfl).2
theorem zC_Z (C : zC g own cc nL ret r mc ms p e R s m args below meth c) : s.vm.findClass "[Z" = some (g.ca 1) := (C.2.2.2.2.2.2.1.2.1.2 1 (g.ca 1, .boolean) rfl).2
theorem zC_L (C : zC g own cc nL ret r mc ms p e R s m args below meth c) : s.vm.findClass "[J" = some (g.ca 2) := (C.2.2.2.2.2.2.1.2.1.2 2 (g.ca 2, .long) rfl).2
theorem zC_O (C : zC g own cc nL ret r mc ms p e R s m args below meth c) : s.vm.findClass oaN = some (g.ca 3) := va_nmO (C.2.2.2.2.2.2.1.2.1.2 3 (g.ca 3, .object "java/lang/Object") rfl).2 rfl
theorem z_newaQ {index : Nat} {n : Int32} {N0 : Nat} (C : zC g own cc nL ret r mc ms p e R s m args below meth c) (d : decode cc pc = .ok (.anewarray index, 3)) (hlink : Cond.classLink own index "java/lang/Object" ∈ zT) (hn : ¬ n < 0) (hN : n.toNatClampNeg = N0) (hb : N0 * 4 ≤ 536870912) (hrc : 1 ≤ rc) (hrs : N0 ≤ rs) (kk : ∀ q, h q = none → Z g nL mc ms p e R s m args below meth c Q (rc - 1) (rs - N0) (pc + 3) (ls) (.ref q :: st) (zu h q (.inl (g.ca 3, N0, .inr (.inr (.inr (.inr (fun _ => none)))))))) : Z g nL mc ms p e R s m args below meth c Q rc rs (pc) (ls) (.int n :: st) (h) := by
  intro ws H locs lsA cells slots a1 a2 a3 a4 a5 a6 a7
  have hA : ∀ q, s.heap.size ≤ q → zA g q := fun q hq => Nat.le_trans C.2.2.2.2.2.2.2.1 hq
  refine va_newq C.1 C.2.1 C.2.2.2.1 (C.2.2.2.2.1 _ hlink) C.2.2.2.2.2.2.1.2.2.2.2.2.2.2.2.1 C.2.2.2.2.2.2.1.2.1 a2 a3 a4 hA hn hN hb (Nat.le_trans (by omega) C.2.2.2.2.2.2.2.2.2.2.2.1) (Nat.le_trans (by omega) C.2.2.2.2.2.2.2.2.2.2.2.2) d (fun q cA H1 bK b2 b3 b4 => ?_)
  have hcA : cA = g.ca 3 := by
    have h1 := va_nmO (nm := oaN) (bK.2 4 (cA, .object "java/lang/Object") rfl).2 rfl
    exact Option.some.inj (h1.symm.trans (zC_O C))
  subst hcA
  obtain ⟨hq, hw⟩ := zw_push a1 b3
  exact kk q hq _ H1 locs lsA _ _ hw b2 b3 b4 a5 (by omega) (by omega)
theorem z_ldc {index : Nat} {v : Int32} (C : zC g own cc nL ret r mc ms p e R s m args below meth c) (d : decode cc pc = .ok (.ldc index, 2)) (hc : Cond.constant own index v ∈ zT) (kk : Z g nL mc ms p e R s m args below meth c Q rc rs (pc + 2) (ls) (.int v :: st) (h)) : Z g nL mc ms p e R s m args below meth c Q rc rs (pc) (ls) (st) (h) := fun ws H locs lsA cells slots a1 a2 a3 a4 a5 a6 a7 => lv_ldc C.1 C.2.1 C.2.2.2.1 (C.2.2.2.2.1 _ hc) d (kk ws H locs lsA cells slots a1 a2 a3 a4 a5 a6 a7)
theorem z_ldcw {index : Nat} {v : Int32} (C : zC g own cc nL ret r mc ms p e R s m args below meth c) (d : decode cc pc = .ok (.ldc_w index, 3)) (hc : Cond.constant own index v ∈ zT) (kk : Z g nL mc ms p e R s m args below meth c Q rc rs (pc + 3) (ls) (.int v :: st) (h)) : Z g nL mc ms p e R s m args below meth c Q rc rs (pc) (ls) (st) (h) := fun ws H locs lsA cells slots a1 a2 a3 a4 a5 a6 a7 => lv_ldcw C.1 C.2.1 C.2.2.2.1 (C.2.2.2.2.1 _ hc) d (kk ws H locs lsA cells slots a1 a2 a3 a4 a5 a6 a7)
theorem z_max {index : Nat} {x y : Int32} (C : zC g own cc nL ret r mc ms p e R s m args below meth c) (d : decode cc pc = .ok (.invokestatic index, 3)) (hlink : Cond.methodLink own index Lib.Math.max.name ∈ zT) (hstat : Cond.static Lib.Math.max.name ∈ zT) (hini : Cond.initialized "java/lang/Math" ∈ zT) (hcode : Cond.code Lib.Math.max.name Lib.Math.max.code 2 (some .int) ∈ zT) (hr : 1 ≤ r) (hst : (st.map fun v => v.category).sum ≤ 8) (kk : Z g nL mc ms p e R s m args below meth c Q rc rs (pc + 3) (ls) (.int (if x < y then y else x) :: st) (h)) : Z g nL mc ms p e R s m args below meth c Q rc rs (pc) (ls) (.int y :: .int x :: st) (h) := fun ws H locs lsA cells slots a1 a2 a3 a4 a5 a6 a7 =>
  va_mmax C.1 C.2.1 (C.2.2.1.trans a5.1.1.symm) C.2.2.2.1 (C.2.2.2.2.1 _ hlink) (C.2.2.2.2.1 _ hstat) (C.2.2.2.2.1 _ hini) (C.2.2.2.2.1 _ hcode) (Nat.le_trans hr C.2.2.2.2.2.2.2.2.2.1) (Nat.le_trans (by omega) C.2.2.2.2.2.2.2.2.2.2.1) (Nat.le_trans (by omega) C.2.2.2.2.2.2.2.2.2.2.2.1) (Nat.le_trans (by omega) C.2.2.2.2.2.2.2.2.2.2.2.2) d (kk ws H locs lsA cells slots a1 a2 a3 a4 a5 a6 a7)
theorem z_min {index : Nat} {x y : Int32} (C : zC g own cc nL ret r mc ms p e R s m args below meth c) (d : decode cc pc = .ok (.invokestatic index, 3)) (hlink : Cond.methodLink own index Lib.Math.min.name ∈ zT) (hstat : Cond.static Lib.Math.min.name ∈ zT) (hini : Cond.initialized "java/lang/Math" ∈ zT) (hcode : Cond.code Lib.Math.min.name Lib.Math.min.code 2 (some .int) ∈ zT) (hr : 1 ≤ r) (hst : (st.map fun v => v.category).sum ≤ 8) (kk : Z g nL mc ms p e R s m args below meth c Q rc rs (pc + 3) (ls) (.int (if y < x then y else x) :: st) (h)) : Z g nL mc ms p e R s m args below meth c Q rc rs (pc) (ls) (.int y :: .int x :: st) (h) := fun ws H locs lsA cells slots a1 a2 a3 a4 a5 a6 a7 =>
  va_mmin C.1 C.2.1 (C.2.2.1.trans a5.1.1.symm) C.2.2.2.1 (C.2.2.2.2.1 _ hlink) (C.2.2.2.2.1 _ hstat) (C.2.2.2.2.1 _ hini) (C.2.2.2.2.1 _ hcode) (Nat.le_trans hr C.2.2.2.2.2.2.2.2.2.1) (Nat.le_trans (by omega) C.2.2.2.2.2.2.2.2.2.2.1) (Nat.le_trans (by omega) C.2.2.2.2.2.2.2.2.2.2.2.1) (Nat.le_trans (by omega) C.2.2.2.2.2.2.2.2.2.2.2.2) d (kk ws H locs lsA cells slots a1 a2 a3 a4 a5 a6 a7)
/-- ArrayList's empty array -/
theorem z_empty {index : Nat} (C : zC g "java/util/ArrayList" cc nL ret r mc ms p e R s m args below meth c) (d : decode cc pc = .ok (.getstatic index, 3)) (hlink : Cond.fieldLink "java/util/ArrayList" index "java/util/ArrayList" "DEFAULTCAPACITY_EMPTY_ELEMENTDATA" "[Ljava/lang/Object;" ∈ zT) (kk : Z g nL mc ms p e R s m args below meth c Q rc rs (pc + 3) (ls) (.ref g.ea :: st) (h)) : Z g nL mc ms p e R s m args below meth c Q rc rs (pc) (ls) (st) (h) := fun ws H locs lsA cells slots a1 a2 a3 a4 a5 a6 a7 =>
  va_gets C.1 C.2.1 C.2.2.2.2.2.2.1.2.2.2.2.2.2.2.1.1 a4 C.2.2.2.1 (C.2.2.2.2.1 _ hlink) (fun _ h9 => h9) d (kk ws H locs lsA cells slots a1 a2 a3 a4 a5 a6 a7)
theorem z_emptyLen (C : zC g own cc nL ret r mc ms p e R s m args below meth c) (d : decode cc pc = .ok (.arraylength, 1)) (kk : Z g nL mc ms p e R s m args below meth c Q rc rs (pc + 1) (ls) (.int 0 :: st) (h)) : Z g nL mc ms p e R s m args below meth c Q rc rs (pc) (ls) (.ref g.ea :: st) (h) := by
  intro ws H locs lsA cells slots a1 a2 a3 a4 a5 a6 a7
  obtain ⟨fv, hT⟩ := C.2.2.2.2.2.2.1.2.2.2.2.2.2.2.1.2.1
  exact va_tlen C.1 C.2.1 hT a4 rfl d (kk ws H locs lsA cells slots a1 a2 a3 a4 a5 a6 a7)
end ZC
end
section
/-! the JDK's natives and Class objects; the words of throws -/
section ZJ
variable {g : zG} {own : String} {cc : ByteArray} {nL r mc ms : Nat} {ret : Option FieldType} {p : Program} {e : Env} {R : Room} {s : State} {m : MethodId} {args : Array Value} {below : List Frame} {meth : Method} {c : Code} {Q : State → Prop} {rc rs pc : Nat} {ls : List (Option Value)} {st : List Value} {h : Hp}
theorem z_copyq {own : String} {index a0 a1 n0 n1 ci : Nat} {f f1 : Nat → Option Nat} {q9 : vw_C} {n : Int32} (C : zC g own cc nL ret r mc ms p e R s m args below meth c) (d : decode cc pc = .ok (.invokestatic index, 3)) (hlink : Cond.methodLink own index arraycopyName ∈ zT) (hnat : Cond.native arraycopyName ∈ zT) (hstat : Cond.static arraycopyName ∈ zT) (hini : Cond.initialized "java/lang/System" ∈ zT)
    (ha0 : h a0 = some (.inl (g.ca 3, n0, .inr (.inr (.inr (.inr f)))))) (ha1 : h a1 = some (.inl (g.ca 3, n1, .inr (.inr (.inr (.inr f1)))))) (hc : zcl[ci]? = some q9) (hcast : (q9.1, "java/lang/Object") ∈ zcast) (hn : ¬ n < 0) (h4 : n.toNatClampNeg ≤ n0) (h5 : n.toNatClampNeg ≤ n1) (hel : ∀ i : Nat, i < n.toNatClampNeg → ∀ y : Nat, f i = some y → ∃ vs, h y = some (.inr (ci, vs))) (hr : 2 ≤ r) (hst : (st.map fun v => v.category).sum ≤ 8)
    (kk : Z g nL mc ms p e R s m args below meth c Q rc rs (pc + 3) (ls) (st) (zu h a1 (.inl (g.ca 3, n1, .inr (.inr (.inr (.inr (va_cpy f f1 0 0 n.toNatClampNeg)))))))) : Z g nL mc ms p e R s m args below meth c Q rc rs (pc) (ls) (.int n :: .int 0 :: .ref a1 :: .int 0 :: .ref a0 :: st) (h) := by
  intro ws H locs lsA cells slots a1' a2 a3 a4 a5 a6 a7
  have hw := C.2.2.2.2.1
  have hK := C.2.2.2.2.2.2.1
  have hnf : nativeFrameWords "java/lang/System" "arraycopy" 5 + 11 ≤ 60 := by decide +kernel
  obtain ⟨q0, hq0⟩ := zw_at a1' ha0
  obtain ⟨q1, hq1⟩ := zw_at a1' ha1
  have z0 : (0 : Int32).toNatClampNeg = 0 := sb_cl0
  obtain ⟨k0, k1, g0, g1, g2⟩ := Cond.castable_spec (va_Nw.use (A := args) rfl (hK.2.2.2.2.2.1.1 _ hcast))
  refine va_copyq (E1 := "java/lang/Object") (C := q9.1) C.1 C.2.1 (C.2.2.1.trans a5.1.1.symm) C.2.2.2.1 (hw _ hlink) (hw _ hnat) (hw _ hstat) (hw _ hini) hK.2.1 a2 a3 a4 q0 q1 3 3 hq0 hq1 rfl rfl (sp := 0) (dp := 0) (by decide) (by decide) hn (by rw [z0]; omega) (by rw [z0]; omega)
    (fun i hi y hy => ?_) (fun comp c0 e1 e2 => ?_) (Nat.le_trans (by omega) C.2.2.2.2.2.2.2.2.2.1) (Nat.le_trans (by omega) C.2.2.2.2.2.2.2.2.2.2.1) d (fun H1 locs1 b2 b3 b4 => ?_)
  · rw [z0, Nat.zero_add] at hy
    obtain ⟨vs, hvs⟩ := hel i hi y hy
    obtain ⟨q5, hq5⟩ := zw_at a1' hvs
    exact va_recv hK.2.1 a2 hc hq5
  · cases e1.symm.trans g1
    cases e2.symm.trans g0
    exact g2
  · rw [z0] at b2 b3
    exact kk _ H1 locs1 lsA cells slots (zw_set a1' a3 hq1) b2 b3 b4 a5 a6 a7
theorem z_getC {index a n : Nat} {x : (Nat → Int32) ⊕ (Nat → Int64) ⊕ (Nat → UInt32) ⊕ (Nat → UInt64) ⊕ (Nat → Option Nat)} (C : zC g own cc nL ret r mc ms p e R s m args below meth c) (d : decode cc pc = .ok (.invokevirtual index, 3)) (hlink : Cond.methodLink own index gcN ∈ zT) (hsel : Cond.selects oaN gcN gcN ∈ zT) (hinst : Cond.instanceMethod gcN ∈ zT) (hnat : Cond.native gcN ∈ zT) (ha : h a = some (.inl (g.ca 3, n, x))) (hr : 1 ≤ r) (hst : (st.map fun v => v.category).sum ≤ 8) (kk : Z g nL mc ms p e R s m args below meth c Q rc rs (pc + 3) (ls) (.ref g.mi :: st) (h)) : Z g nL mc ms p e R s m args below meth c Q rc rs (pc) (ls) (.ref a :: st) (h) := by
  intro ws H locs lsA cells slots a1 a2 a3 a4 a5 a6 a7
  have hw := C.2.2.2.2.1
  have hK := C.2.2.2.2.2.2.1
  obtain ⟨q0, hq⟩ := zw_at a1 ha
  have hcell : H[a]? = some (vp_cell (g.ca 3) (n, x)) := a2 q0 _ hq
  refine va_getC (C := oaN) C.1 C.2.1 (C.2.2.1.trans a5.1.1.symm) C.2.2.2.1 (hw _ hlink) (va_Dc.use hK.2.2.2.2.2.2.2.2.2.1) (hw _ hsel) (hw _ hinst) (hw _ hnat) hK.2.2.2.2.2.2.2.2.2.2 ⟨_, hcell, ?_, ?_⟩ (Nat.le_trans hr C.2.2.2.2.2.2.2.2.2.1) (Nat.le_trans (by omega) C.2.2.2.2.2.2.2.2.2.2.1) d (kk ws H locs lsA cells slots a1 a2 a3 a4 a5 a6 a7)
  · obtain f | f | f | f | f := x <;> rfl
  · rw [zC_O C]
    obtain f | f | f | f | f := x <;> rfl
theorem z_ldcM {index : Nat} (C : zC g own cc nL ret r mc ms p e R s m args below meth c) (d : decode cc pc = .ok (.ldc index, 2)) (hlink : Cond.classLink own index oaN ∈ zT) (kk : Z g nL mc ms p e R s m args below meth c Q rc rs (pc + 2) (ls) (.ref g.mi :: st) (h)) : Z g nL mc ms p e R s m args below meth c Q rc rs (pc) (ls) (st) (h) := fun ws H locs lsA cells slots a1 a2 a3 a4 a5 a6 a7 => va_ldcM C.1 C.2.1 C.2.2.2.1 (C.2.2.2.2.1 _ hlink) C.2.2.2.2.2.2.1.2.2.2.2.2.2.2.2.2.2 d (kk ws H locs lsA cells slots a1 a2 a3 a4 a5 a6 a7)
end ZJ

def th_IAE : List Cond := vx_atS "RollCalls" 104 "java/lang/IllegalArgumentException" ["java/lang/RuntimeException", "java/lang/Exception"]
theorem thg_IAE : ∀ w ∈ Cond.classLink "RollCalls" 100 "java/lang/IllegalArgumentException" :: Cond.initialized "java/lang/IllegalArgumentException" :: th_IAE, vx_ot w = true := by decide +kernel
theorem thc_IAE : th_IAE.all (fun w => (goodWord w && decide (w ∈ lw_tbl)) || decide (w ∈ zoth)) = true := by decide +kernel
theorem tho_IAE {g : zG} {own : String} {cc : ByteArray} {nL r mc ms : Nat} {ret : Option FieldType} {p : Program} {e : Env} {R : Room} {s : State} {m : MethodId} {args : Array Value} {below : List Frame} {meth : Method} {c : Code} (C : zC g own cc nL ret r mc ms p e R s m args below meth c) : ∀ w ∈ vx_atS "RollCalls" 104 "java/lang/IllegalArgumentException" ["java/lang/RuntimeException", "java/lang/Exception"], w.before args s = true := by
  intro w hw
  have h1 := List.all_eq_true.mp thc_IAE w hw
  simp only [Bool.or_eq_true, Bool.and_eq_true, decide_eq_true_eq] at h1
  rcases h1 with ⟨a, b⟩ | b
  · exact C.2.2.2.2.1 w (List.mem_filter.mpr ⟨b, a⟩)
  · exact zoth_ok C w b
def th_IOB : List Cond := vx_atS "RollCalls" 86 "java/lang/IndexOutOfBoundsException" ["java/lang/RuntimeException", "java/lang/Exception"]
theorem thg_IOB : ∀ w ∈ Cond.classLink "RollCalls" 82 "java/lang/IndexOutOfBoundsException" :: Cond.initialized "java/lang/IndexOutOfBoundsException" :: th_IOB, vx_ot w = true := by decide +kernel
theorem thc_IOB : th_IOB.all (fun w => (goodWord w && decide (w ∈ lw_tbl)) || decide (w ∈ zoth)) = true := by decide +kernel
theorem tho_IOB {g : zG} {own : String} {cc : ByteArray} {nL r mc ms : Nat} {ret : Option FieldType} {p : Program} {e : Env} {R : Room} {s : State} {m : MethodId} {args : Array Value} {below : List Frame} {meth : Method} {c : Code} (C : zC g own cc nL ret r mc ms p e R s m args below meth c) : ∀ w ∈ vx_atS "RollCalls" 86 "java/lang/IndexOutOfBoundsException" ["java/lang/RuntimeException", "java/lang/Exception"], w.before args s = true := by
  intro w hw
  have h1 := List.all_eq_true.mp thc_IOB w hw
  simp only [Bool.or_eq_true, Bool.and_eq_true, decide_eq_true_eq] at h1
  rcases h1 with ⟨a, b⟩ | b
  · exact C.2.2.2.2.1 w (List.mem_filter.mpr ⟨b, a⟩)
  · exact zoth_ok C w b
def th_ISE : List Cond := vx_atS "RollCalls" 72 "java/lang/IllegalStateException" ["java/lang/RuntimeException", "java/lang/Exception"]
theorem thg_ISE : ∀ w ∈ Cond.classLink "RollCalls" 68 "java/lang/IllegalStateException" :: Cond.initialized "java/lang/IllegalStateException" :: th_ISE, vx_ot w = true := by decide +kernel
theorem thc_ISE : th_ISE.all (fun w => (goodWord w && decide (w ∈ lw_tbl)) || decide (w ∈ zoth)) = true := by decide +kernel
theorem tho_ISE {g : zG} {own : String} {cc : ByteArray} {nL r mc ms : Nat} {ret : Option FieldType} {p : Program} {e : Env} {R : Room} {s : State} {m : MethodId} {args : Array Value} {below : List Frame} {meth : Method} {c : Code} (C : zC g own cc nL ret r mc ms p e R s m args below meth c) : ∀ w ∈ vx_atS "RollCalls" 72 "java/lang/IllegalStateException" ["java/lang/RuntimeException", "java/lang/Exception"], w.before args s = true := by
  intro w hw
  have h1 := List.all_eq_true.mp thc_ISE w hw
  simp only [Bool.or_eq_true, Bool.and_eq_true, decide_eq_true_eq] at h1
  rcases h1 with ⟨a, b⟩ | b
  · exact C.2.2.2.2.1 w (List.mem_filter.mpr ⟨b, a⟩)
  · exact zoth_ok C w b
def th_UOE : List Cond := vx_atS "RollCalls" 47 "java/lang/UnsupportedOperationException" ["java/lang/RuntimeException", "java/lang/Exception"]
theorem thg_UOE : ∀ w ∈ Cond.classLink "RollCalls" 43 "java/lang/UnsupportedOperationException" :: Cond.initialized "java/lang/UnsupportedOperationException" :: th_UOE, vx_ot w = true := by decide +kernel
theorem thc_UOE : th_UOE.all (fun w => (goodWord w && decide (w ∈ lw_tbl)) || decide (w ∈ zoth)) = true := by decide +kernel
theorem tho_UOE {g : zG} {own : String} {cc : ByteArray} {nL r mc ms : Nat} {ret : Option FieldType} {p : Program} {e : Env} {R : Room} {s : State} {m : MethodId} {args : Array Value} {below : List Frame} {meth : Method} {c : Code} (C : zC g own cc nL ret r mc ms p e R s m args below meth c) : ∀ w ∈ vx_atS "RollCalls" 47 "java/lang/UnsupportedOperationException" ["java/lang/RuntimeException", "java/lang/Exception"], w.before args s = true := by
  intro w hw
  have h1 := List.all_eq_true.mp thc_UOE w hw
  simp only [Bool.or_eq_true, Bool.and_eq_true, decide_eq_true_eq] at h1
  rcases h1 with ⟨a, b⟩ | b
  · exact C.2.2.2.2.1 w (List.mem_filter.mpr ⟨b, a⟩)
  · exact zoth_ok C w b
end
section
/-! ARRAYLIST over the abstract heap -/
abbrev qa (g : zG) (n : Nat) (f : Nat → Option Nat) : va_E := .inl (g.ca 3, n, .inr (.inr (.inr (.inr f))))
abbrev ia (g : zG) (n : Nat) (f : Nat → Int32) : va_E := .inl (g.ca 0, n, .inl f)
abbrev ba (g : zG) (n : Nat) (f : Nat → Int32) : va_E := .inl (g.ca 1, n, .inl f)
abbrev la (g : zG) (n : Nat) (f : Nat → Int64) : va_E := .inl (g.ca 2, n, .inr (.inl f))
/-- the ArrayList at a holds the addresses L, in the array dt -/
def AL (g : zG) (h : Hp) (a dt n : Nat) (f : Nat → Option Nat) (mo : Int32) (L : List Nat) : Prop :=
  h a = some (.inr (0, [.ref dt, .int (nI L.length), .int mo])) ∧ L.length ≤ 300 ∧ ((dt = g.ea ∧ L = []) ∨ (dt ≠ a ∧ h dt = some (qa g n f) ∧ L.length ≤ n ∧ 0 < n ∧ n ≤ 450 ∧ ∀ (i x : Nat), L[i]? = some x → f i = some x))
section JL
variable {g : zG} {h : Hp} {PR : Option Value → Hp → Prop} {PX : String → Hp → Prop}
set_option maxRecDepth 100000 in
theorem ct_PR_checkIndex {i n : Int32} (h0 : ¬ i < 0) (h1 : i < n) (k : PR (some (.int i)) h) : Ct g y_PR_checkIndex w_PR_checkIndex 1 0 0 [.int i, .int n, .null] h PR PX := by
  refine Ct_intro (cc := c_PR_checkIndex) (nL := 3) (ret := (some FieldType.int)) (ls := [some (.int i), some (.int n), some (.null)]) (by decide) (Nat.le_of_ble_eq_true rfl) rfl rfl ?_
  intro p e R s m args below meth c C ht hname
  refine z_iload_n C d_PR_checkIndex_0 rfl rfl ?_
  refine z_if_lt 9 C d_PR_checkIndex_1 (by decide) (fun c1 => ?_) (fun c1 => ?_)
  · exact absurd c1 h0
  · refine z_iload_n C d_PR_checkIndex_4 rfl rfl ?_
    refine z_iload_n C d_PR_checkIndex_5 rfl rfl ?_
    refine z_icmp_lt 16 C d_PR_checkIndex_6 (by decide) (fun c6 => ?_) (fun c6 => ?_)
    · refine z_iload_n C d_PR_checkIndex_16 rfl rfl ?_
      refine z_iret C d_PR_checkIndex_17 ?_
      exact k
    · exact absurd h1 c6
set_option maxRecDepth 100000 in
theorem ct_OB_checkIndex {i n : Int32} (h0 : ¬ i < 0) (h1 : i < n) (k : PR (some (.int i)) h) : Ct g y_OB_checkIndex w_OB_checkIndex 2 0 0 [.int i, .int n] h PR PX := by
  refine Ct_intro (cc := c_OB_checkIndex) (nL := 2) (ret := (some FieldType.int)) (ls := [some (.int i), some (.int n)]) (by decide) (Nat.le_of_ble_eq_true rfl) rfl rfl ?_
  intro p e R s m args below meth c C ht hname
  refine z_iload_n C d_OB_checkIndex_0 rfl rfl ?_
  refine z_iload_n C d_OB_checkIndex_1 rfl rfl ?_
  refine z_null C d_OB_checkIndex_2 ?_
  refine z_callS (n := 3) (As := [.int i, .int n, .null]) (rest := []) (r1 := 1) (mc1 := 0) (ms1 := 0) C d_OB_checkIndex_3 k_283 k_281 k_282 k_17 (by decide +kernel) rfl (by decide) (by decide) (Nat.le_of_ble_eq_true rfl) (by first | decide | omega) (by first | decide | omega) rfl ?_
  refine ct_PR_checkIndex h0 h1 ?_
  dsimp only [zps]
  refine z_iret C d_OB_checkIndex_6 ?_
  exact k
set_option maxRecDepth 100000 in
theorem ct_AL_size {a dt n : Nat} {f : Nat → Option Nat} {mo : Int32} {L : List Nat} (hA : AL g h a dt n f mo L) (k : PR (some (.int (nI L.length))) h) : Ct g y_AL_size w_AL_size 1 0 0 [.ref a] h PR PX := by
  obtain ⟨h1, -⟩ := hA
  refine Ct_intro (cc := c_AL_size) (nL := 1) (ret := (some FieldType.int)) (ls := [some (.ref a)]) (by decide) (Nat.le_of_ble_eq_true rfl) rfl rfl ?_
  intro p e R s m args below meth c C ht hname
  refine z_aload_n C d_AL_size_0 rfl rfl ?_
  refine z_get (ci := 0) (T := T_AL) (N := 3) C d_AL_size_1 1 i_AL rfl (by decide) k_48 (fun _ q => q) (by first | assumption | exact zu_s) (by rfl) ?_
  refine z_iret C d_AL_size_4 ?_
  exact k
set_option maxRecDepth 100000 in
theorem ct_AL_isEmpty {a dt n : Nat} {f : Nat → Option Nat} {mo : Int32} {L : List Nat} (hA : AL g h a dt n f mo L) (k : PR (some (.int (if L = [] then 1 else 0))) h) : Ct g y_AL_isEmpty w_AL_isEmpty 1 0 0 [.ref a] h PR PX := by
  obtain ⟨h1, h2, -⟩ := hA
  refine Ct_intro (cc := c_AL_isEmpty) (nL := 1) (ret := (some FieldType.boolean)) (ls := [some (.ref a)]) (by decide) (Nat.le_of_ble_eq_true rfl) rfl rfl ?_
  intro p e R s m args below meth c C ht hname
  refine z_aload_n C d_AL_isEmpty_0 rfl rfl ?_
  refine z_get (ci := 0) (T := T_AL) (N := 3) C d_AL_isEmpty_1 1 i_AL rfl (by decide) k_48 (fun _ q => q) (by first | assumption | exact zu_s) (by rfl) ?_
  refine z_if_ne 11 C d_AL_isEmpty_4 (by decide) (fun c4 => ?_) (fun c4 => ?_)
  · refine z_iconst (v := 0) C d_AL_isEmpty_11 (by decide) ?_
    refine z_zret C d_AL_isEmpty_12 (by first | rfl | assumption) ?_
    have : L ≠ [] := by
      rintro rfl
      exact c4 rfl
    rw [if_neg this] at k
    exact k
  · refine z_iconst (v := 1) C d_AL_isEmpty_7 (by decide) ?_
    refine z_goto 12 C d_AL_isEmpty_8 (by decide) ?_
    refine z_zret C d_AL_isEmpty_12 (by first | rfl | assumption) ?_
    have : L = [] := by
      cases L with
      | nil => rfl
      | cons x l => exact absurd (nI_ne0 (n := (x :: l).length) (by simp) (by omega)) (by simpa using c4)
    rw [if_pos this] at k
    exact k
set_option maxRecDepth 100000 in
theorem ct_AL_elementData {a dt n i x : Nat} {f : Nat → Option Nat} {mo : Int32} {L : List Nat} (hA : AL g h a dt n f mo L) (hx : L[i]? = some x) (k : PR (some (.ref x)) h) : Ct g y_AL_elementData w_AL_elementData 1 0 0 [.ref a, .int (nI i)] h PR PX := by
  have hil := (List.getElem?_eq_some_iff.mp hx).1
  obtain ⟨h1, h2, h3⟩ := hA
  rcases h3 with ⟨-, rfl⟩ | ⟨-, h3, h4, h5, h6, h7⟩
  · simp at hil
  · refine Ct_intro (cc := c_AL_elementData) (nL := 2) (ret := (some (FieldType.object "java/lang/Object"))) (ls := [some (.ref a), some (.int (nI i))]) (by decide) (Nat.le_of_ble_eq_true rfl) rfl rfl ?_
    intro p e R s m args below meth c C ht hname
    refine z_aload_n C d_AL_elementData_0 rfl rfl ?_
    refine z_get (ci := 0) (T := T_AL) (N := 3) C d_AL_elementData_1 0 i_AL rfl (by decide) k_47 (fun _ q => q) (by first | assumption | exact zu_s) (by rfl) ?_
    refine z_iload_n C d_AL_elementData_4 rfl rfl ?_
    refine z_aald C d_AL_elementData_5 h3 (vp_in_nI (by omega) (by omega)) (by rw [nI_clamp (by omega)]; exact h7 i x hx) ?_
    refine z_aret C d_AL_elementData_6 (by first | exact Or.inl ⟨_, rfl⟩ | exact Or.inr ⟨_, rfl⟩) ?_
    exact k
set_option maxRecDepth 100000 in
theorem ct_AL_get {a dt n i x : Nat} {f : Nat → Option Nat} {mo : Int32} {L : List Nat} (hA : AL g h a dt n f mo L) (hx : L[i]? = some x) (k : PR (some (.ref x)) h) : Ct g y_AL_get w_AL_get 3 0 0 [.ref a, .int (nI i)] h PR PX := by
  have hil := (List.getElem?_eq_some_iff.mp hx).1
  have h1 := hA.1
  have h2 := hA.2.1
  refine Ct_intro (cc := c_AL_get) (nL := 2) (ret := (some (FieldType.object "java/lang/Object"))) (ls := [some (.ref a), some (.int (nI i))]) (by decide) (Nat.le_of_ble_eq_true rfl) rfl rfl ?_
  intro p e R s m args below meth c C ht hname
  refine z_iload_n C d_AL_get_0 rfl rfl ?_
  refine z_aload_n C d_AL_get_1 rfl rfl ?_
  refine z_get (ci := 0) (T := T_AL) (N := 3) C d_AL_get_2 1 i_AL rfl (by decide) k_48 (fun _ q => q) (by first | assumption | exact zu_s) (by rfl) ?_
  refine z_callS (n := 2) (As := [.int (nI i), .int (nI L.length)]) (rest := []) (r1 := 2) (mc1 := 0) (ms1 := 0) C d_AL_get_5 k_280 k_278 k_279 k_16 (by decide +kernel) rfl (by decide) (by decide) (Nat.le_of_ble_eq_true rfl) (by first | decide | omega) (by first | decide | omega) rfl ?_
  refine ct_OB_checkIndex (nI_pos (by omega)) (nI_lt hil (by omega)) ?_
  dsimp only [zps]
  refine z_pop C d_AL_get_8 rfl ?_
  refine z_aload_n C d_AL_get_9 rfl rfl ?_
  refine z_iload_n C d_AL_get_10 rfl rfl ?_
  refine z_callV (n := 1) (As := [.int (nI i)]) (rest := []) (r1 := 1) (mc1 := 0) (ms1 := 0) (ci := 0) (T0 := T_AL) C d_AL_get_11 k_287 k_284 k_285 k_286 k_4 (by decide +kernel) rfl rfl (by first | assumption | exact zu_s) (by decide) (by decide) (Nat.le_of_ble_eq_true rfl) (by first | decide | omega) (by first | decide | omega) rfl ?_
  refine ct_AL_elementData hA hx ?_
  dsimp only [zps]
  refine z_aret C d_AL_get_14 (by first | exact Or.inl ⟨_, rfl⟩ | exact Or.inr ⟨_, rfl⟩) ?_
  exact k
end JL
end
section
/-! ArrayList.add and what it calls; Arrays.fill -/
section JA
variable {g : zG} {h : Hp} {PR : Option Value → Hp → Prop} {PX : String → Hp → Prop}
set_option maxRecDepth 100000 in
theorem ct_AS_newLength {a b d : Nat} (ha : a ≤ 10000) (hb : 0 < b) (hb2 : b ≤ 10000) (hd : d ≤ 10000) (k : PR (some (.int (nI (a + (if b < d then d else b))))) h) : Ct g y_AS_newLength w_AS_newLength 2 0 0 [.int (nI a), .int (nI b), .int (nI d)] h PR PX := by
  refine Ct_intro (cc := c_AS_newLength) (nL := 4) (ret := (some FieldType.int)) (ls := [some (.int (nI a)), some (.int (nI b)), some (.int (nI d)), none]) (by decide) (Nat.le_of_ble_eq_true rfl) rfl rfl ?_
  intro p e R s m args below meth c C ht hname
  have e1 : (if nI b < nI d then nI d else nI b) = nI (if b < d then d else b) := by
    by_cases hq : b < d
    · rw [if_pos hq, if_pos (nI_lt hq (by omega))]
    · rw [if_neg hq, if_neg (nI_nlt (by omega) (by omega))]
  generalize hm : (if b < d then d else b) = m0 at *
  have hm0 : 0 < m0 ∧ m0 ≤ 10000 := by
    by_cases hq : b < d
    · rw [if_pos hq] at hm; omega
    · rw [if_neg hq] at hm; omega
  refine z_iload_n C d_AS_newLength_0 rfl rfl ?_
  refine z_iload_n C d_AS_newLength_1 rfl rfl ?_
  refine z_iload_n C d_AS_newLength_2 rfl rfl ?_
  refine z_max C d_AS_newLength_3 k_204 k_205 k_12 k_206 (by decide) (Nat.le_of_ble_eq_true rfl) ?_
  rw [e1]
  refine z_iadd C d_AS_newLength_6 ?_
  refine z_istore_n C d_AS_newLength_7 rfl (by decide) rfl ?_
  dsimp only [List.set]
  rw [nI_add]
  refine z_iconst (v := 0) C d_AS_newLength_8 (by decide) ?_
  refine z_iload_n C d_AS_newLength_9 rfl rfl ?_
  refine z_icmp_ge 21 C d_AS_newLength_10 (by decide) (fun c10 => ?_) (fun c10 => ?_)
  · exact absurd c10 (by rw [← nI_0]; exact nI_ge (by omega) (by omega))
  · refine z_iload_n C d_AS_newLength_13 rfl rfl ?_
    refine z_ldc C d_AS_newLength_14 k_207 ?_
    refine z_icmp_gt 21 C d_AS_newLength_16 (by decide) (fun c16 => ?_) (fun c16 => ?_)
    · refine absurd c16 ?_
      rw [show (2147483639 : Int32) = nI 2147483639 from by decide]
      exact nI_nlt (by omega) (by omega)
    · refine z_iload_n C d_AS_newLength_19 rfl rfl ?_
      refine z_iret C d_AS_newLength_20 ?_
      exact k
set_option maxRecDepth 100000 in
theorem ct_AR_copyOf3 {a n n1 ci : Nat} {f : Nat → Option Nat} {q9 : vw_C} (ha : h a = some (qa g n f)) (hc : zcl[ci]? = some q9) (hcast : (q9.1, "java/lang/Object") ∈ zcast) (hel : ∀ i : Nat, i < n → ∀ y : Nat, f i = some y → ∃ vs, h y = some (.inr (ci, vs))) (hn : n ≤ n1) (hn1 : n1 ≤ 450)
    (k : ∀ q, h q = none → ∀ f1 : Nat → Option Nat, (∀ i, i < n → f1 i = f i) → PR (some (.ref q)) (zu h q (qa g n1 f1))) : Ct g y_AR_copyOf3 w_AR_copyOf3 2 1 450 [.ref a, .int (nI n1), .ref g.mi] h PR PX := by
  refine Ct_intro (cc := c_AR_copyOf3) (nL := 4) (ret := (some (FieldType.array (FieldType.object "java/lang/Object")))) (ls := [some (.ref a), some (.int (nI n1)), some (.ref g.mi), none]) (by decide) (Nat.le_of_ble_eq_true rfl) rfl rfl ?_
  intro p e R s m args below meth c C ht hname
  refine z_aload_n C d_AR_copyOf3_0 rfl rfl ?_
  refine z_ldcM C d_AR_copyOf3_1 k_234 ?_
  refine z_acmp_ne 13 C d_AR_copyOf3_3 (by decide) (fun c3 => ?_) (fun c3 => ?_)
  · exact absurd rfl c3
  · refine z_iload_n C d_AR_copyOf3_6 rfl rfl ?_
    refine z_newaQ C d_AR_copyOf3_7 k_236 (nI_pos (by omega)) (nI_clamp (by omega)) (by omega) (by first | decide | omega) (by first | decide | omega) (fun q7 hq7 => ?_)
    have hqa : a ≠ q7 := by
      rintro rfl
      rw [ha] at hq7
      cases hq7
    have ha2 : zu h q7 (qa g n1 (fun _ => none)) a = some (qa g n f) := by rw [zu_n hqa]; exact ha
    refine z_goto 24 C d_AR_copyOf3_10 (by decide) ?_
    refine z_astore_n C d_AR_copyOf3_24 rfl (by decide) rfl ?_
    dsimp only [List.set]
    refine z_aload_n C d_AR_copyOf3_25 rfl rfl ?_
    refine z_iconst (v := 0) C d_AR_copyOf3_26 (by decide) ?_
    refine z_aload_n C d_AR_copyOf3_27 rfl rfl ?_
    refine z_iconst (v := 0) C d_AR_copyOf3_28 (by decide) ?_
    refine z_aload_n C d_AR_copyOf3_29 rfl rfl ?_
    refine z_alen 3 C d_AR_copyOf3_30 ha2 rfl ?_
    refine z_iload_n C d_AR_copyOf3_31 rfl rfl ?_
    refine z_min C d_AR_copyOf3_32 k_237 k_238 k_12 k_239 (by decide) (Nat.le_of_ble_eq_true rfl) ?_
    have e1 : (if nI n1 < nI n then nI n1 else nI n) = nI n := if_neg (nI_nlt hn (by omega))
    rw [e1]
    refine z_copyq (ci := ci) (q9 := q9) C d_AR_copyOf3_35 k_240 k_242 k_241 k_14 ha2 zu_s hc hcast (nI_pos (by omega)) (by rw [nI_clamp (by omega)]; omega) (by rw [nI_clamp (by omega)]; omega) (fun i hi y hy => ?_) (by decide) (Nat.le_of_ble_eq_true rfl) ?_
    · rw [nI_clamp (by omega)] at hi
      obtain ⟨vs, hv⟩ := hel i hi y hy
      refine ⟨vs, ?_⟩
      rw [zu_n]
      · exact hv
      · rintro rfl
        rw [hv] at hq7
        cases hq7
    · refine z_aload_n C d_AR_copyOf3_38 rfl rfl ?_
      refine z_aret C d_AR_copyOf3_39 (by first | exact Or.inl ⟨_, rfl⟩ | exact Or.inr ⟨_, rfl⟩) ?_
      rw [nI_clamp (by omega)]
      have e2 : zu (zu h q7 (qa g n1 (fun _ => none))) q7 (qa g n1 (va_cpy f (fun _ => none) 0 0 n)) = zu h q7 (qa g n1 (va_cpy f (fun _ => none) 0 0 n)) := by
        funext x
        by_cases hx : x = q7
        · subst hx; rw [zu_s, zu_s]
        · rw [zu_n hx, zu_n hx, zu_n hx]
      rw [e2]
      exact k q7 hq7 _ (fun i hi => by rw [pk_cpy_in (Nat.zero_le _) (by omega)]; simp)
set_option maxRecDepth 100000 in
theorem ct_AR_copyOf {a n n1 ci : Nat} {f : Nat → Option Nat} {q9 : vw_C} (ha : h a = some (qa g n f)) (hc : zcl[ci]? = some q9) (hcast : (q9.1, "java/lang/Object") ∈ zcast) (hel : ∀ i : Nat, i < n → ∀ y : Nat, f i = some y → ∃ vs, h y = some (.inr (ci, vs))) (hn : n ≤ n1) (hn1 : n1 ≤ 450)
    (k : ∀ q, h q = none → ∀ f1 : Nat → Option Nat, (∀ i, i < n → f1 i = f i) → PR (some (.ref q)) (zu h q (qa g n1 f1))) : Ct g y_AR_copyOf w_AR_copyOf 3 1 450 [.ref a, .int (nI n1)] h PR PX := by
  refine Ct_intro (cc := c_AR_copyOf) (nL := 2) (ret := (some (FieldType.array (FieldType.object "java/lang/Object")))) (ls := [some (.ref a), some (.int (nI n1))]) (by decide) (Nat.le_of_ble_eq_true rfl) rfl rfl ?_
  intro p e R s m args below meth c C ht hname
  refine z_aload_n C d_AR_copyOf_0 rfl rfl ?_
  refine z_iload_n C d_AR_copyOf_1 rfl rfl ?_
  refine z_aload_n C d_AR_copyOf_2 rfl rfl ?_
  refine z_getC C d_AR_copyOf_3 k_214 k_999 k_215 k_230 ha (by decide) (Nat.le_of_ble_eq_true rfl) ?_
  refine z_callS (n := 3) (As := [.ref a, .int (nI n1), .ref g.mi]) (rest := []) (r1 := 2) (mc1 := 1) (ms1 := 450) C d_AR_copyOf_6 k_233 k_231 k_232 k_13 (by decide +kernel) rfl (by decide) (by decide) (Nat.le_of_ble_eq_true rfl) (by first | decide | omega) (by first | decide | omega) rfl ?_
  refine ct_AR_copyOf3 ha hc hcast hel hn hn1 (fun q hq f1 hf1 => ?_)
  dsimp only [zps]
  refine z_aret C d_AR_copyOf_9 (by first | exact Or.inl ⟨_, rfl⟩ | exact Or.inr ⟨_, rfl⟩) ?_
  exact k q hq f1 hf1
set_option maxRecDepth 100000 in
/-- grow(size + 1), of a list that is full -/
theorem ct_AL_growI {a dt n ci : Nat} {f : Nat → Option Nat} {mo : Int32} {L : List Nat} {q9 : vw_C} (h1 : h a = some (.inr (0, [.ref dt, .int (nI L.length), .int mo]))) (hl : L.length < 300) (h3 : (dt = g.ea ∧ L = []) ∨ (h dt = some (qa g n f) ∧ L.length = n ∧ 0 < n ∧ ∀ (i x : Nat), L[i]? = some x → f i = some x)) (hc : zcl[ci]? = some q9) (hcast : (q9.1, "java/lang/Object") ∈ zcast) (hel : ∀ y ∈ L, ∃ vs, h y = some (.inr (ci, vs)))
    (k : ∀ (q n1 : Nat) (f1 : Nat → Option Nat), h q = none → L.length < n1 → n1 ≤ 450 → (∀ (i x : Nat), L[i]? = some x → f1 i = some x) → PR (some (.ref q)) (zu (zu h q (qa g n1 f1)) a (.inr (0, [.ref q, .int (nI L.length), .int mo])))) : Ct g y_AL_growI w_AL_growI 4 1 450 [.ref a, .int (nI (L.length + 1))] h PR PX := by
  have hqa : ∀ q, h q = none → a ≠ q := by
    rintro q hq rfl
    rw [h1] at hq
    cases hq
  rcases h3 with ⟨rfl, rfl⟩ | ⟨h4, hln, h6, h8⟩
  · refine Ct_intro (cc := c_AL_growI) (nL := 4) (ret := (some (FieldType.array (FieldType.object "java/lang/Object")))) (ls := [some (.ref a), some (.int (nI (([] : List Nat).length + 1))), none, none]) (by decide) (Nat.le_of_ble_eq_true rfl) rfl rfl ?_
    intro p e R s m args below meth c C ht hname
    refine z_aload_n C d_AL_growI_0 rfl rfl ?_
    refine z_get (ci := 0) (T := T_AL) (N := 3) C d_AL_growI_1 0 i_AL rfl (by decide) k_47 (fun _ q => q) (by first | assumption | exact zu_s) (by rfl) ?_
    refine z_emptyLen C d_AL_growI_4 ?_
    refine z_istore_n C d_AL_growI_5 rfl (by decide) rfl ?_
    dsimp only [List.set]
    refine z_iload_n C d_AL_growI_6 rfl rfl ?_
    refine z_if_gt 20 C d_AL_growI_7 (by decide) (fun c7 => ?_) (fun c7 => ?_)
    · exact absurd c7 (by decide)
    · refine z_aload_n C d_AL_growI_10 rfl rfl ?_
      refine z_get (ci := 0) (T := T_AL) (N := 3) C d_AL_growI_11 0 i_AL rfl (by decide) k_47 (fun _ q => q) (by first | assumption | exact zu_s) (by rfl) ?_
      refine z_empty C d_AL_growI_14 k_45 ?_
      refine z_acmp_eq 45 C d_AL_growI_17 (by decide) (fun c17 => ?_) (fun c17 => ?_)
      · refine z_aload_n C d_AL_growI_45 rfl rfl ?_
        refine z_bipush (v := 10) C d_AL_growI_46 (by decide) ?_
        refine z_iload_n C d_AL_growI_48 rfl rfl ?_
        refine z_max C d_AL_growI_49 k_243 k_205 k_12 k_206 (by decide) (Nat.le_of_ble_eq_true rfl) ?_
        have e1 : (if (10 : Int32) < nI (([] : List Nat).length + 1) then nI (([] : List Nat).length + 1) else 10) = nI 10 := by decide
        rw [e1]
        refine z_newaQ C d_AL_growI_52 k_244 (nI_pos (by omega)) (nI_clamp (by omega)) (by omega) (by first | decide | omega) (by first | decide | omega) (fun q52 hq52 => ?_)
        refine z_dup_x1 C d_AL_growI_55 rfl rfl ?_
        have ha2 : zu h q52 (qa g 10 (fun _ => none)) a = some (.inr (0, [.ref g.ea, .int (nI ([] : List Nat).length), .int mo])) := by rw [zu_n (hqa q52 hq52)]; exact h1
        refine z_put (ci := 0) (T := T_AL) (N := 3) (ty := .array (.object "java/lang/Object")) C d_AL_growI_56 0 ty_AL t_AL n_AL i_AL rfl (by decide) k_47 (fun _ q => q) rfl (by decide +kernel) (by rfl) (by rfl) ha2 (by exact Nat.le_of_ble_eq_true rfl) ?_
        refine z_aret C d_AL_growI_59 (by first | exact Or.inl ⟨_, rfl⟩ | exact Or.inr ⟨_, rfl⟩) ?_
        exact k q52 10 _ hq52 (by simp) (by omega) (fun i x hx => by simp at hx)
      · exact absurd rfl c17
  · subst hln
    refine Ct_intro (cc := c_AL_growI) (nL := 4) (ret := (some (FieldType.array (FieldType.object "java/lang/Object")))) (ls := [some (.ref a), some (.int (nI (L.length + 1))), none, none]) (by decide) (Nat.le_of_ble_eq_true rfl) rfl rfl ?_
    intro p e R s m args below meth c C ht hname
    refine z_aload_n C d_AL_growI_0 rfl rfl ?_
    refine z_get (ci := 0) (T := T_AL) (N := 3) C d_AL_growI_1 0 i_AL rfl (by decide) k_47 (fun _ q => q) (by first | assumption | exact zu_s) (by rfl) ?_
    refine z_alen 3 C d_AL_growI_4 h4 rfl ?_
    refine z_istore_n C d_AL_growI_5 rfl (by decide) rfl ?_
    dsimp only [List.set]
    refine z_iload_n C d_AL_growI_6 rfl rfl ?_
    refine z_if_gt 20 C d_AL_growI_7 (by decide) (fun c7 => ?_) (fun c7 => ?_)
    · refine z_iload_n C d_AL_growI_20 rfl rfl ?_
      refine z_iload_n C d_AL_growI_21 rfl rfl ?_
      refine z_iload_n C d_AL_growI_22 rfl rfl ?_
      refine z_isub C d_AL_growI_23 ?_
      refine z_iload_n C d_AL_growI_24 rfl rfl ?_
      refine z_iconst (v := 1) C d_AL_growI_25 (by decide) ?_
      refine z_ishr C d_AL_growI_26 ?_
      have e1 : nI (L.length + 1) - nI L.length = nI 1 := by rw [pk_sub (by omega)]; congr 1; omega
      have e2 : nI L.length >>> ((1 : Int32) &&& 31) = nI (L.length / 2) := by
        rw [pk_shrN (by omega) _ 1 (by decide)]
      rw [e1, e2]
      refine z_callS (n := 3) (As := [.int (nI L.length), .int (nI 1), .int (nI (L.length / 2))]) (rest := []) (r1 := 2) (mc1 := 0) (ms1 := 0) C d_AL_growI_27 k_203 k_201 k_202 k_11 (by decide +kernel) rfl (by decide) (by decide) (Nat.le_of_ble_eq_true rfl) (by first | decide | omega) (by first | decide | omega) rfl ?_
      refine ct_AS_newLength (by omega) (by omega) (by omega) (by omega) ?_
      dsimp only [zps]
      generalize hm : L.length + (if 1 < L.length / 2 then L.length / 2 else 1) = n1
      have hn1 : L.length < n1 ∧ n1 ≤ 450 := by
        by_cases hq : 1 < L.length / 2
        · rw [if_pos hq] at hm; omega
        · rw [if_neg hq] at hm; omega
      refine z_istore_n C d_AL_growI_30 rfl (by decide) rfl ?_
      dsimp only [List.set]
      refine z_aload_n C d_AL_growI_31 rfl rfl ?_
      refine z_aload_n C d_AL_growI_32 rfl rfl ?_
      refine z_get (ci := 0) (T := T_AL) (N := 3) C d_AL_growI_33 0 i_AL rfl (by decide) k_47 (fun _ q => q) (by first | assumption | exact zu_s) (by rfl) ?_
      refine z_iload_n C d_AL_growI_36 rfl rfl ?_
      refine z_callS (n := 2) (As := [.ref dt, .int (nI n1)]) (rest := [.ref a]) (r1 := 3) (mc1 := 1) (ms1 := 450) C d_AL_growI_37 k_213 k_211 k_212 k_13 (by decide +kernel) rfl (by decide) (by decide) (Nat.le_of_ble_eq_true rfl) (by first | decide | omega) (by first | decide | omega) rfl ?_
      refine ct_AR_copyOf (ci := ci) (q9 := q9) h4 hc hcast (fun i hi y hy => ?_) (by omega) hn1.2 (fun q hq f1 hf1 => ?_)
      · obtain ⟨x, hx⟩ : ∃ x, L[i]? = some x := ⟨_, List.getElem?_eq_getElem hi⟩
        have := h8 i x hx
        rw [hy] at this
        cases this
        exact hel y (List.mem_of_getElem? hx)
      · dsimp only [zps]
        refine z_dup_x1 C d_AL_growI_40 rfl rfl ?_
        have ha2 : zu h q (qa g n1 f1) a = some (.inr (0, [.ref dt, .int (nI L.length), .int mo])) := by rw [zu_n (hqa q hq)]; exact h1
        refine z_put (ci := 0) (T := T_AL) (N := 3) (ty := .array (.object "java/lang/Object")) C d_AL_growI_41 0 ty_AL t_AL n_AL i_AL rfl (by decide) k_47 (fun _ q => q) rfl (by decide +kernel) (by rfl) (by rfl) ha2 (by exact Nat.le_of_ble_eq_true rfl) ?_
        refine z_aret C d_AL_growI_44 (by first | exact Or.inl ⟨_, rfl⟩ | exact Or.inr ⟨_, rfl⟩) ?_
        exact k q n1 f1 hq hn1.1 hn1.2 (fun i x hx => by rw [hf1 i (List.getElem?_eq_some_iff.mp hx).1]; exact h8 i x hx)
    · exact absurd (by rw [show (0 : Int32) = nI 0 from rfl]; exact nI_lt (a := 0) (b := L.length) (by omega) (by omega)) c7

set_option maxRecDepth 100000 in
theorem ct_AL_grow {a dt n ci : Nat} {f : Nat → Option Nat} {mo : Int32} {L : List Nat} {q9 : vw_C} (h1 : h a = some (.inr (0, [.ref dt, .int (nI L.length), .int mo]))) (hl : L.length < 300) (h3 : (dt = g.ea ∧ L = []) ∨ (h dt = some (qa g n f) ∧ L.length = n ∧ 0 < n ∧ ∀ (i x : Nat), L[i]? = some x → f i = some x)) (hc : zcl[ci]? = some q9) (hcast : (q9.1, "java/lang/Object") ∈ zcast) (hel : ∀ y ∈ L, ∃ vs, h y = some (.inr (ci, vs)))
    (k : ∀ (q n1 : Nat) (f1 : Nat → Option Nat), h q = none → L.length < n1 → n1 ≤ 450 → (∀ (i x : Nat), L[i]? = some x → f1 i = some x) → PR (some (.ref q)) (zu (zu h q (qa g n1 f1)) a (.inr (0, [.ref q, .int (nI L.length), .int mo])))) : Ct g y_AL_grow w_AL_grow 5 1 450 [.ref a] h PR PX := by
  refine Ct_intro (cc := c_AL_grow) (nL := 1) (ret := (some (FieldType.array (FieldType.object "java/lang/Object")))) (ls := [some (.ref a)]) (by decide) (Nat.le_of_ble_eq_true rfl) rfl rfl ?_
  intro p e R s m args below meth c C ht hname
  refine z_aload_n C d_AL_grow_0 rfl rfl ?_
  refine z_aload_n C d_AL_grow_1 rfl rfl ?_
  refine z_get (ci := 0) (T := T_AL) (N := 3) C d_AL_grow_2 1 i_AL rfl (by decide) k_48 (fun _ q => q) (by first | assumption | exact zu_s) (by rfl) ?_
  refine z_iconst (v := 1) C d_AL_grow_5 (by decide) ?_
  refine z_iadd C d_AL_grow_6 ?_
  rw [nI_1]
  refine z_callV (n := 1) (As := [.int (nI (L.length + 1))]) (rest := []) (r1 := 4) (mc1 := 1) (ms1 := 450) (ci := 0) (T0 := T_AL) C d_AL_grow_7 k_200 k_197 k_199 ks_3 k_4 (by decide +kernel) rfl rfl (by first | assumption | exact zu_s) (by decide) (by decide) (Nat.le_of_ble_eq_true rfl) (by first | decide | omega) (by first | decide | omega) rfl ?_
  refine ct_AL_growI (ci := ci) (q9 := q9) h1 hl h3 hc hcast hel (fun q n1 f1 hq hn1 hn2 hf1 => ?_)
  dsimp only [zps]
  refine z_aret C d_AL_grow_10 (by first | exact Or.inl ⟨_, rfl⟩ | exact Or.inr ⟨_, rfl⟩) ?_
  exact k q n1 f1 hq hn1 hn2 hf1
set_option maxRecDepth 100000 in
theorem ct_AL_add3 {a dt n ci x : Nat} {f : Nat → Option Nat} {mo : Int32} {L : List Nat} {q9 : vw_C} {vs : List Value} (hA : AL g h a dt n f mo L) (hl : L.length < 300) (hc : zcl[ci]? = some q9) (hcast : (q9.1, "java/lang/Object") ∈ zcast) (hel : ∀ y ∈ L, ∃ vs, h y = some (.inr (ci, vs))) (hx : h x = some (.inr (ci, vs))) (hxa : x ≠ a)
    (k : ∀ (h1 : Hp) (dt1 n1 : Nat) (f1 : Nat → Option Nat), AL g h1 a dt1 n1 f1 mo (L ++ [x]) → (∀ q, q ≠ a → q ≠ dt1 → h1 q = h q) → (h dt1 = none ∨ (dt1 = dt ∧ dt ≠ g.ea)) → PR none h1) : Ct g y_AL_add3 w_AL_add3 6 1 450 [.ref a, .ref x, .ref dt, .int (nI L.length)] h PR PX := by
  obtain ⟨h1, h2, h3⟩ := hA
  have fin : ∀ (hh : Hp) (d n1 : Nat) (f1 : Nat → Option Nat), d ≠ a → hh a = some (.inr (0, [.ref d, .int (nI L.length), .int mo])) → hh d = some (qa g n1 f1) → L.length < n1 → n1 ≤ 450 → (∀ (i y : Nat), L[i]? = some y → f1 i = some y) → AL g (zu (zu hh d (qa g n1 (va_up f1 L.length (some x)))) a (.inr (0, [.ref d, .int (nI (L.length + 1)), .int mo]))) a d n1 (va_up f1 L.length (some x)) mo (L ++ [x]) := by
    intro hh d n1 f1 hda e1 e2 e3 e4 e5
    refine ⟨?_, by simp; omega, Or.inr ⟨hda, ?_, by simp; omega, by omega, e4, fun i y hy => ?_⟩⟩
    · rw [zu_s]; simp
    · rw [zu_n hda, zu_s]
    · by_cases hi : i < L.length
      · rw [List.getElem?_append_left hi] at hy
        rw [va_up_ne _ _ (by omega)]
        exact e5 i y hy
      · rw [List.getElem?_append_right (by omega)] at hy
        have h0 := (List.getElem?_eq_some_iff.mp hy).1
        have hi2 : i = L.length := by simp at h0; omega
        subst hi2
        simp at hy
        subst hy
        exact va_up_self _ _ _
  have grown : ∀ (p : Program) (e : Env) (R : Room) (s : State) (m : MethodId) (args : Array Value) (below : List Frame) (meth : Method) (c : Code) (dt0 : Nat) (C : zC g y_AL_add3.cls c_AL_add3 4 none 6 1 450 p e R s m args below meth c), dt0 = dt → ((dt = g.ea ∧ L = []) ∨ (h dt = some (qa g n f) ∧ L.length = n ∧ 0 < n ∧ ∀ (i x : Nat), L[i]? = some x → f i = some x)) → Z g 4 1 450 p e R s m args below meth c (vx_MQ below (zQ g PR) (zX g PX) args s 1 450 (zA g)) 1 450 6 [some (.ref a), some (.ref x), some (.ref dt0), some (.int (nI L.length))] [] h := by
    intro p e R s m args below meth c dt0 C hdt0 hG
    refine z_aload_n C d_AL_add3_6 rfl rfl ?_
    refine z_callV (n := 0) (As := []) (rest := []) (r1 := 5) (mc1 := 1) (ms1 := 450) (ci := 0) (T0 := T_AL) C d_AL_add3_7 k_196 k_193 k_195 ks_2 k_4 (by decide +kernel) rfl rfl (by first | assumption | exact zu_s) (by decide) (by decide) (Nat.le_of_ble_eq_true rfl) (by first | decide | omega) (by first | decide | omega) rfl ?_
    refine ct_AL_grow (ci := ci) (q9 := q9) h1 hl hG hc hcast hel (fun q n1 f1 hq hn1 hn2 hf1 => ?_)
    dsimp only [zps]
    have hqa : q ≠ a := by
      rintro rfl
      rw [h1] at hq
      cases hq
    have hqx : x ≠ q := by
      rintro rfl
      rw [hx] at hq
      cases hq
    refine z_astore_n C d_AL_add3_10 rfl (by decide) rfl ?_
    dsimp only [List.set]
    refine z_aload_n C d_AL_add3_11 rfl rfl ?_
    refine z_iload_n C d_AL_add3_12 rfl rfl ?_
    refine z_aload_n C d_AL_add3_13 rfl rfl ?_
    have e2 : zu (zu h q (qa g n1 f1)) a (.inr (0, [.ref q, .int (nI L.length), .int mo])) q = some (qa g n1 f1) := by rw [zu_n hqa, zu_s]
    have e3 : zu (zu h q (qa g n1 f1)) a (.inr (0, [.ref q, .int (nI L.length), .int mo])) x = some (.inr (ci, vs)) := by rw [zu_n hxa, zu_n hqx]; exact hx
    refine z_aast (q9 := q9) C d_AL_add3_14 e2 e3 hc hcast (vp_in_nI hn1 (by omega)) ?_
    rw [nI_clamp (by omega)]
    refine z_aload_n C d_AL_add3_15 rfl rfl ?_
    refine z_iload_n C d_AL_add3_16 rfl rfl ?_
    refine z_iconst (v := 1) C d_AL_add3_17 (by decide) ?_
    refine z_iadd C d_AL_add3_18 ?_
    rw [nI_1]
    have e4 : zu (zu (zu h q (qa g n1 f1)) a (.inr (0, [.ref q, .int (nI L.length), .int mo]))) q (qa g n1 (va_up f1 L.length (some x))) a = some (.inr (0, [.ref q, .int (nI L.length), .int mo])) := by rw [zu_n hqa.symm, zu_s]
    refine z_put (ci := 0) (T := T_AL) (N := 3) (ty := .int) C d_AL_add3_19 1 ty_AL t_AL n_AL i_AL rfl (by decide) k_48 (fun _ q => q) rfl (by decide +kernel) (by rfl) (by rfl) e4 (by exact Nat.le_of_ble_eq_true rfl) ?_
    refine z_vret C d_AL_add3_22 ?_
    refine k _ q n1 _ (fin _ q n1 f1 hqa zu_s e2 hn1 hn2 hf1) (fun y hy1 hy2 => ?_) (Or.inl hq)
    rw [zu_n hy1, zu_n hy2, zu_n hy1, zu_n hy2]
  rcases h3 with ⟨h3, h4⟩ | ⟨h3, h4, h5, h6, h7, h8⟩
  · refine Ct_intro (cc := c_AL_add3) (nL := 4) (ret := none) (ls := [some (.ref a), some (.ref x), some (.ref dt), some (.int (nI L.length))]) (by decide) (Nat.le_of_ble_eq_true rfl) rfl rfl ?_
    intro p e R s m args below meth c C ht hname
    refine z_iload_n C d_AL_add3_0 rfl rfl ?_
    refine z_aload_n C d_AL_add3_1 rfl rfl ?_
    subst h3
    refine z_emptyLen C d_AL_add3_2 ?_
    refine z_icmp_ne 11 C d_AL_add3_3 (by decide) (fun c3 => ?_) (fun c3 => ?_)
    · exact absurd (by rw [h4]; rfl) c3
    · exact grown p e R s m args below meth c g.ea C rfl (Or.inl ⟨rfl, h4⟩)
  · refine Ct_intro (cc := c_AL_add3) (nL := 4) (ret := none) (ls := [some (.ref a), some (.ref x), some (.ref dt), some (.int (nI L.length))]) (by decide) (Nat.le_of_ble_eq_true rfl) rfl rfl ?_
    intro p e R s m args below meth c C ht hname
    refine z_dom C (fun hdom => ?_)
    have hdea : dt ≠ g.ea := hdom dt (by rw [h4]; exact fun z => by cases z)
    refine z_iload_n C d_AL_add3_0 rfl rfl ?_
    refine z_aload_n C d_AL_add3_1 rfl rfl ?_
    refine z_alen 3 C d_AL_add3_2 h4 rfl ?_
    refine z_icmp_ne 11 C d_AL_add3_3 (by decide) (fun c3 => ?_) (fun c3 => ?_)
    · have hln : L.length < n := by
        rcases Nat.lt_or_ge L.length n with q | q
        · exact q
        · exact absurd (by rw [show L.length = n by omega]) c3
      refine z_aload_n C d_AL_add3_11 rfl rfl ?_
      refine z_iload_n C d_AL_add3_12 rfl rfl ?_
      refine z_aload_n C d_AL_add3_13 rfl rfl ?_
      refine z_aast (q9 := q9) C d_AL_add3_14 h4 hx hc hcast (vp_in_nI hln (by omega)) ?_
      rw [nI_clamp (by omega)]
      refine z_aload_n C d_AL_add3_15 rfl rfl ?_
      refine z_iload_n C d_AL_add3_16 rfl rfl ?_
      refine z_iconst (v := 1) C d_AL_add3_17 (by decide) ?_
      refine z_iadd C d_AL_add3_18 ?_
      rw [nI_1]
      have e4 : zu h dt (qa g n (va_up f L.length (some x))) a = some (.inr (0, [.ref dt, .int (nI L.length), .int mo])) := by rw [zu_n h3.symm]; exact h1
      refine z_put (ci := 0) (T := T_AL) (N := 3) (ty := .int) C d_AL_add3_19 1 ty_AL t_AL n_AL i_AL rfl (by decide) k_48 (fun _ q => q) rfl (by decide +kernel) (by rfl) (by rfl) e4 (by exact Nat.le_of_ble_eq_true rfl) ?_
      refine z_vret C d_AL_add3_22 ?_
      refine k _ dt n _ (fin _ dt n f h3 h1 h4 hln h7 h8) (fun y hy1 hy2 => ?_) (Or.inr ⟨rfl, hdea⟩)
      rw [zu_n hy1, zu_n hy2]
    · refine grown p e R s m args below meth c dt C rfl (Or.inr ⟨h4, ?_, h6, h8⟩)
      exact (nI_eq (by omega) (by omega)).mp c3
set_option maxRecDepth 100000 in
theorem ct_AL_add {a dt n ci x : Nat} {f : Nat → Option Nat} {mo : Int32} {L : List Nat} {q9 : vw_C} {vs : List Value} (hA : AL g h a dt n f mo L) (hl : L.length < 300) (hc : zcl[ci]? = some q9) (hci : ci ≠ 0) (hcast : (q9.1, "java/lang/Object") ∈ zcast) (hel : ∀ y ∈ L, ∃ vs, h y = some (.inr (ci, vs))) (hx : h x = some (.inr (ci, vs)))
    (k : ∀ (h1 : Hp) (dt1 n1 : Nat) (f1 : Nat → Option Nat), AL g h1 a dt1 n1 f1 (mo + 1) (L ++ [x]) → (∀ q, q ≠ a → q ≠ dt1 → h1 q = h q) → (h dt1 = none ∨ (dt1 = dt ∧ dt ≠ g.ea)) → PR (some (.int 1)) h1) : Ct g y_AL_add w_AL_add 7 1 450 [.ref a, .ref x] h PR PX := by
  have h1 := hA.1
  have hxa : ∀ (y : Nat) (ws : List Value), h y = some (.inr (ci, ws)) → y ≠ a := by
    rintro y ws hy rfl
    rw [h1] at hy
    simp at hy
    exact hci hy.1.symm
  refine Ct_intro (cc := c_AL_add) (nL := 2) (ret := (some FieldType.boolean)) (ls := [some (.ref a), some (.ref x)]) (by decide) (Nat.le_of_ble_eq_true rfl) rfl rfl ?_
  intro p e R s m args below meth c C ht hname
  refine z_aload_n C d_AL_add_0 rfl rfl ?_
  refine z_dup C d_AL_add_1 rfl ?_
  refine z_get (ci := 0) (T := T_AL) (N := 3) C d_AL_add_2 2 i_AL rfl (by decide) k_50 (u_same (C.2.2.2.2.1 _ k_51)) (by first | assumption | exact zu_s) (by rfl) ?_
  refine z_iconst (v := 1) C d_AL_add_5 (by decide) ?_
  refine z_iadd C d_AL_add_6 ?_
  refine z_put (ci := 0) (T := T_AL) (N := 3) (ty := .int) C d_AL_add_7 2 ty_AL t_AL n_AL i_AL rfl (by decide) k_50 (u_same (C.2.2.2.2.1 _ k_51)) rfl (by decide +kernel) (by rfl) (by rfl) (by first | assumption | exact zu_s) (by exact Nat.le_of_ble_eq_true rfl) ?_
  dsimp only [List.set]
  obtain ⟨h0, eh⟩ : ∃ z, z = zu h a (.inr (0, [.ref dt, .int (nI L.length), .int (mo + 1)])) := ⟨_, rfl⟩
  rw [← eh]
  have k1 : h0 a = some (.inr (0, [.ref dt, .int (nI L.length), .int (mo + 1)])) := by rw [eh, zu_s]
  have kn : ∀ q, q ≠ a → h0 q = h q := fun q hq => by rw [eh, zu_n hq]
  have hA0 : AL g h0 a dt n f (mo + 1) L := by
    refine ⟨k1, hA.2.1, ?_⟩
    rcases hA.2.2 with q | ⟨q1, q2, q3⟩
    · exact Or.inl q
    · exact Or.inr ⟨q1, by rw [kn _ q1]; exact q2, q3⟩
  refine z_aload_n C d_AL_add_10 rfl rfl ?_
  refine z_aload_n C d_AL_add_11 rfl rfl ?_
  refine z_aload_n C d_AL_add_12 rfl rfl ?_
  refine z_get (ci := 0) (T := T_AL) (N := 3) C d_AL_add_13 0 i_AL rfl (by decide) k_47 (fun _ q => q) (by first | assumption | exact zu_s) (by rfl) ?_
  refine z_aload_n C d_AL_add_16 rfl rfl ?_
  refine z_get (ci := 0) (T := T_AL) (N := 3) C d_AL_add_17 1 i_AL rfl (by decide) k_48 (fun _ q => q) (by first | assumption | exact zu_s) (by rfl) ?_
  refine z_callV (n := 3) (As := [.ref x, .ref dt, .int (nI L.length)]) (rest := []) (r1 := 6) (mc1 := 1) (ms1 := 450) (ci := 0) (T0 := T_AL) C d_AL_add_20 k_192 k_189 k_191 ks_1 k_4 (by decide +kernel) rfl rfl (by first | assumption | exact zu_s) (by decide) (by decide) (Nat.le_of_ble_eq_true rfl) (by first | decide | omega) (by first | decide | omega) rfl ?_
  refine ct_AL_add3 (ci := ci) (q9 := q9) (vs := vs) hA0 hl hc hcast (fun y hy => ?_) (by rw [kn x (hxa x vs hx)]; exact hx) (hxa x vs hx) (fun hh dt1 n1 f1 b1 b2 b3 => ?_)
  · obtain ⟨ws, hw⟩ := hel y hy
    exact ⟨ws, by rw [kn y (hxa y ws hw)]; exact hw⟩
  · dsimp only [zps]
    refine z_iconst (v := 1) C d_AL_add_23 (by decide) ?_
    refine z_zret C d_AL_add_24 (by first | rfl | assumption) ?_
    refine k hh dt1 n1 f1 b1 (fun q q1 q2 => by rw [b2 q q1 q2, kn q q1]) ?_
    rcases b3 with b3 | b3
    · left
      by_cases hq : dt1 = a
      · rw [hq, k1] at b3
        cases b3
      · rw [← kn dt1 hq]; exact b3
    · exact Or.inr b3
end JA
end
section
/-! TAGS AND LISTS OF OBJECTS. A tag (kind, place) for every address; kind 0 is not the class's. -/
abbrev Tg : Type := Nat → Nat × Nat
/-- what a call of the class leaves: old tags stay, cells of kind 0 stay, no cell goes -/
def Ext (T : Tg) (h : Hp) (T1 : Tg) (h1 : Hp) : Prop := (∀ q, h q ≠ none → T1 q = T q) ∧ (∀ q, h q ≠ none → (T q).1 = 0 → h1 q = h q) ∧ (∀ q, h q ≠ none → h1 q ≠ none)
theorem Ext.rf {T : Tg} {h : Hp} : Ext T h T h := ⟨fun _ _ => rfl, fun _ _ _ => rfl, fun _ q => q⟩
theorem Ext.trans {T T1 T2 : Tg} {h h1 h2 : Hp} (a : Ext T h T1 h1) (b : Ext T1 h1 T2 h2) : Ext T h T2 h2 :=
  ⟨fun q hq => (b.1 q (a.2.2 q hq)).trans (a.1 q hq), fun q hq hk => (b.2.1 q (a.2.2 q hq) (by rw [a.1 q hq]; exact hk)).trans (a.2.1 q hq hk), fun q hq => b.2.2 q (a.2.2 q hq)⟩
theorem Ext.put {T : Tg} {h : Hp} {a : Nat} {e : va_E} (hk : (T a).1 ≠ 0) : Ext T h T (zu h a e) :=
  ⟨fun _ _ => rfl, fun q _ h0 => zu_n (fun z => hk (z ▸ h0)), fun q hq => by
    by_cases hqa : q = a
    · rw [hqa, zu_s]; exact fun z => by cases z
    · rw [zu_n hqa]; exact hq⟩
/-- a new cell gets a tag -/
def tg (T : Tg) (a : Nat) (t : Nat × Nat) : Tg := fun q => if q = a then t else T q
theorem tg_s {T : Tg} {a : Nat} {t : Nat × Nat} : tg T a t a = t := if_pos rfl
theorem tg_n {T : Tg} {a q : Nat} {t : Nat × Nat} (h : q ≠ a) : tg T a t q = T q := if_neg h
theorem Ext.new {T : Tg} {h : Hp} {a : Nat} {e : va_E} {t : Nat × Nat} (ha : h a = none) : Ext T h (tg T a t) (zu h a e) := by
  have key : ∀ q, h q ≠ none → q ≠ a := fun q hq z => hq (z ▸ ha)
  exact ⟨fun q hq => tg_n (key q hq), fun q hq _ => zu_n (key q hq), fun q hq => by rw [zu_n (key q hq)]; exact hq⟩
/-- the list at a, of kind kd, holds the objects at L, with these cells -/
def zLS (g : zG) (T : Tg) (h : Hp) (kd a : Nat) (L : List Nat) (cells : List va_E) : Prop := ∃ (dt n : Nat) (f : Nat → Option Nat) (mo : Int32),
  AL g h a dt n f mo L ∧ T a = (kd, 0) ∧ ((dt = g.ea ∧ L = []) ∨ T dt = (kd, 1)) ∧ L.length = cells.length ∧ ∀ (i y : Nat), L[i]? = some y → T y = (kd, 2 + i) ∧ h y = cells[i]?
section ZLR
variable {g : zG} {T T1 : Tg} {h h1 : Hp} {kd a : Nat} {L : List Nat} {cells : List va_E}
theorem zLS.len (hL : zLS g T h kd a L cells) : L.length = cells.length := by
  obtain ⟨dt, n, f, mo, a1, -, -, b4, -⟩ := hL
  exact b4
theorem zLS.lt (hL : zLS g T h kd a L cells) : cells.length ≤ 300 := by
  obtain ⟨dt, n, f, mo, a1, -, -, b4, -⟩ := hL
  rw [← b4]
  exact a1.2.1
theorem zLS.obj (hL : zLS g T h kd a L cells) : ∃ vs, h a = some (.inr (0, vs)) := by
  obtain ⟨dt, n, f, mo, a1, -⟩ := hL
  exact ⟨_, a1.1⟩
theorem zLS.ne (hL : zLS g T h kd a L cells) : h a ≠ none := by
  obtain ⟨vs, hv⟩ := hL.obj
  rw [hv]
  exact fun z => by cases z
theorem zLS.tag (hL : zLS g T h kd a L cells) : T a = (kd, 0) := by
  obtain ⟨dt, n, f, mo, -, b2, -⟩ := hL
  exact b2
/-- the object at place i -/
theorem zLS.at (hL : zLS g T h kd a L cells) {i : Nat} {e : va_E} (he : cells[i]? = some e) : ∃ y, L[i]? = some y ∧ h y = some e ∧ T y = (kd, 2 + i) := by
  obtain ⟨dt, n, f, mo, -, -, -, b4, b5⟩ := hL
  have hi : i < L.length := by rw [b4]; exact (List.getElem?_eq_some_iff.mp he).1
  obtain ⟨c1, c2⟩ := b5 i _ (List.getElem?_eq_getElem hi)
  exact ⟨_, List.getElem?_eq_getElem hi, c2.trans he, c1⟩
theorem zLS.el (hL : zLS g T h kd a L cells) {i y : Nat} (hy : L[i]? = some y) : T y = (kd, 2 + i) ∧ ∃ e, cells[i]? = some e ∧ h y = some e := by
  obtain ⟨dt, n, f, mo, -, -, -, b4, b5⟩ := hL
  obtain ⟨c1, c2⟩ := b5 i y hy
  have hi : i < cells.length := by rw [← b4]; exact (List.getElem?_eq_some_iff.mp hy).1
  exact ⟨c1, _, List.getElem?_eq_getElem hi, c2.trans (List.getElem?_eq_getElem hi)⟩
theorem zLS.elne (hL : zLS g T h kd a L cells) {i y : Nat} (hy : L[i]? = some y) : h y ≠ none := by
  obtain ⟨-, e, -, he⟩ := hL.el hy
  rw [he]
  exact fun z => by cases z
/-- what leaves the kind's cells alone leaves the list -/
theorem zLS.keep (hL : zLS g T h kd a L cells) (hT : ∀ q, h q ≠ none → T1 q = T q) (hh : ∀ q, h q ≠ none → (T q).1 = kd → h1 q = h q) : zLS g T1 h1 kd a L cells := by
  have hel : ∀ (i y : Nat), L[i]? = some y → h y ≠ none := fun i y hy => hL.elne hy
  have na := hL.ne
  obtain ⟨dt, n, f, mo, ⟨a1, a2, a3⟩, b2, b3, b4, b5⟩ := hL
  refine ⟨dt, n, f, mo, ⟨by rw [hh a na (by rw [b2])]; exact a1, a2, ?_⟩, by rw [hT a na]; exact b2, ?_, b4, fun i y hy => ?_⟩
  · rcases a3 with a3 | ⟨a3, a4, a5⟩
    · exact Or.inl a3
    · rcases b3 with b3 | b3
      · exact Or.inl b3
      · exact Or.inr ⟨a3, by rw [hh dt (by rw [a4]; exact fun z => by cases z) (by rw [b3])]; exact a4, a5⟩
  · rcases b3 with b3 | b3
    · exact Or.inl b3
    · rcases a3 with a3 | ⟨a3, a4, a5⟩
      · exact Or.inl a3
      · exact Or.inr (by rw [hT dt (by rw [a4]; exact fun z => by cases z)]; exact b3)
  · obtain ⟨c1, c2⟩ := b5 i y hy
    exact ⟨by rw [hT y (hel i y hy)]; exact c1, by rw [hh y (hel i y hy) (by rw [c1])]; exact c2⟩
/-- a cell of another kind is written -/
theorem zLS.put (hL : zLS g T h kd a L cells) {b : Nat} {e : va_E} (hb : (T b).1 ≠ kd) : zLS g T (zu h b e) kd a L cells := hL.keep (fun _ _ => rfl) (fun q _ hq => zu_n (fun z => hb (z ▸ hq)))
/-- a cell is made -/
theorem zLS.new (hL : zLS g T h kd a L cells) {b : Nat} {e : va_E} {t : Nat × Nat} (hb : h b = none) : zLS g (tg T b t) (zu h b e) kd a L cells := hL.keep (fun q hq => tg_n (fun z => hq (z ▸ hb))) (fun q hq _ => zu_n (fun z => hq (z ▸ hb)))
/-- an object of the list is written -/
theorem zLS.set (hL : zLS g T h kd a L cells) {i y : Nat} {e : va_E} (hy : L[i]? = some y) : zLS g T (zu h y e) kd a L (cells.set i e) := by
  obtain ⟨dt, n, f, mo, ⟨a1, a2, a3⟩, b2, b3, b4, b5⟩ := hL
  have hty := (b5 i y hy).1
  have hay : a ≠ y := by
    rintro rfl
    rw [b2] at hty
    have := congrArg Prod.snd hty
    simp at this
    omega
  have hi : i < cells.length := by rw [← b4]; exact (List.getElem?_eq_some_iff.mp hy).1
  refine ⟨dt, n, f, mo, ⟨by rw [zu_n hay]; exact a1, a2, ?_⟩, b2, b3, by rw [List.length_set]; exact b4, fun j z hz => ?_⟩
  · rcases a3 with a3 | ⟨a3, a4, a5⟩
    · exact Or.inl a3
    · rcases b3 with b3 | b3
      · exact Or.inl b3
      · refine Or.inr ⟨a3, ?_, a5⟩
        rw [zu_n]
        · exact a4
        · rintro rfl
          rw [b3] at hty
          have := congrArg Prod.snd hty
          simp at this
          omega
  · obtain ⟨c1, c2⟩ := b5 j z hz
    refine ⟨c1, ?_⟩
    by_cases hji : j = i
    · subst hji
      cases hz.symm.trans hy
      rw [zu_s, List.getElem?_set_self hi]
    · rw [zu_n, List.getElem?_set_ne (Ne.symm hji)]
      · exact c2
      · rintro rfl
        rw [c1] at hty
        have := congrArg Prod.snd hty
        simp at this
        omega
variable {PR : Option Value → Hp → Prop} {PX : String → Hp → Prop}
theorem cl_size (hL : zLS g T h kd a L cells) (k : PR (some (.int (nI cells.length))) h) : Ct g y_AL_size w_AL_size 1 0 0 [.ref a] h PR PX := by
  obtain ⟨dt, n, f, mo, a1, -, -, b4, -⟩ := hL
  rw [← b4] at k
  exact ct_AL_size a1 k
theorem cl_isEmpty (hL : zLS g T h kd a L cells) (k : PR (some (.int (if cells = [] then 1 else 0))) h) : Ct g y_AL_isEmpty w_AL_isEmpty 1 0 0 [.ref a] h PR PX := by
  obtain ⟨dt, n, f, mo, a1, -, -, b4, -⟩ := hL
  refine ct_AL_isEmpty a1 ?_
  have : (L = []) = (cells = []) := propext ⟨fun q => by rw [q] at b4; exact List.eq_nil_of_length_eq_zero b4.symm, fun q => by rw [q] at b4; exact List.eq_nil_of_length_eq_zero b4⟩
  rw [show (if L = [] then (1 : Int32) else 0) = (if cells = [] then 1 else 0) by simp only [this]]
  exact k
theorem cl_get (hL : zLS g T h kd a L cells) {i y : Nat} (hy : L[i]? = some y) (k : PR (some (.ref y)) h) : Ct g y_AL_get w_AL_get 3 0 0 [.ref a, .int (nI i)] h PR PX := by
  obtain ⟨dt, n, f, mo, a1, -⟩ := hL
  exact ct_AL_get a1 hy k
theorem cl_add {ci x : Nat} {q9 : vw_C} {vs : List Value} (hL : zLS g T h kd a L cells) (hl : cells.length < 300) (hc : zcl[ci]? = some q9) (hci : ci ≠ 0) (hcast : (q9.1, "java/lang/Object") ∈ zcast) (hcls : ∀ e ∈ cells, ∃ vs, e = .inr (ci, vs)) (hx : h x = some (.inr (ci, vs))) (hTx : T x = (kd, 2 + cells.length))
    (k : ∀ (h1 : Hp) (T1 : Tg), zLS g T1 h1 kd a (L ++ [x]) (cells ++ [.inr (ci, vs)]) → (∀ q, h q ≠ none → T1 q = T q) → (∀ q, h q ≠ none → T q ≠ (kd, 0) → T q ≠ (kd, 1) → h1 q = h q) → (∀ q, h q ≠ none → h1 q ≠ none) → PR (some (.int 1)) h1) : Ct g y_AL_add w_AL_add 7 1 450 [.ref a, .ref x] h PR PX := by
  have hL0 := hL
  obtain ⟨dt, n, f, mo, a1, b2, b3, b4, b5⟩ := hL
  refine ct_AL_add (ci := ci) (q9 := q9) (vs := vs) a1 (by omega) hc hci hcast (fun y hy => ?_) hx (fun h1 dt1 n1 f1 c1 c2 c3 => ?_)
  · obtain ⟨i, hi⟩ := List.getElem?_of_mem hy
    obtain ⟨-, e, he, hye⟩ := hL0.el hi
    obtain ⟨ws, rfl⟩ := hcls e (List.mem_of_getElem? he)
    exact ⟨ws, hye⟩
  · have hxn : h x ≠ none := by rw [hx]; exact fun z => by cases z
    have na := hL0.ne
    have hdt : h dt1 = none ∨ T dt1 = (kd, 1) := by
      rcases c3 with c3 | ⟨rfl, c3⟩
      · exact Or.inl c3
      · rcases b3 with b3 | b3
        · exact absurd b3.1 c3
        · exact Or.inr b3
    have hT1 : ∀ q, h q ≠ none → tg T dt1 (kd, 1) q = T q := by
      intro q hq
      by_cases hqd : q = dt1
      · subst hqd
        rw [tg_s]
        exact (hdt.resolve_left hq).symm
      · exact tg_n hqd
    have hkeep : ∀ q, h q ≠ none → T q ≠ (kd, 0) → T q ≠ (kd, 1) → h1 q = h q := by
      intro q hq h0 h9
      refine c2 q (fun z => h0 (by rw [z]; exact b2)) (fun z => ?_)
      rcases hdt with hd | hd
      · exact hq (by rw [z]; exact hd)
      · exact h9 (by rw [z]; exact hd)
    have htag : ∀ (i y : Nat), L[i]? = some y → T y ≠ (kd, 0) ∧ T y ≠ (kd, 1) := by
      intro i y hy
      rw [(b5 i y hy).1]
      constructor <;> intro z <;> have := congrArg Prod.snd z <;> simp at this <;> omega
    have hxt : T x ≠ (kd, 0) ∧ T x ≠ (kd, 1) := by
      rw [hTx]
      constructor <;> intro z <;> have := congrArg Prod.snd z <;> simp at this <;> omega
    refine k h1 (tg T dt1 (kd, 1)) ⟨dt1, n1, f1, mo + 1, c1, by rw [hT1 a na]; exact b2, Or.inr tg_s, by simp [b4], fun i y hy => ?_⟩ hT1 hkeep (fun q hq => ?_)
    · by_cases hi : i < L.length
      · rw [List.getElem?_append_left hi] at hy
        obtain ⟨d1, d2⟩ := b5 i y hy
        have hyn : h y ≠ none := hL0.elne hy
        refine ⟨by rw [hT1 y hyn]; exact d1, ?_⟩
        rw [hkeep y hyn (htag i y hy).1 (htag i y hy).2, List.getElem?_append_left (by omega)]
        exact d2
      · have h0 := (List.getElem?_eq_some_iff.mp hy).1
        have hiL : i = L.length := by simp at h0; omega
        subst hiL
        simp at hy
        subst hy
        refine ⟨by rw [hT1 x hxn, hTx, b4], ?_⟩
        rw [hkeep x hxn hxt.1 hxt.2, hx, b4]
        simp
    · by_cases hqa : q = a
      · rw [hqa, c1.1]
        exact fun z => by cases z
      · by_cases hqd : q = dt1
        · subst hqd
          rcases c1.2.2 with z | ⟨-, z, -⟩
          · exact absurd z.2 (by simp)
          · rw [z]
            exact fun z => by cases z
        · rw [c2 q hqa hqd]
          exact hq
end ZLR
end
section
/-! THE CLASS'S SMALL OBJECTS -/
abbrev peC (s r k : Int32) : va_E := .inr (1, [.int s, .int r, .int k])
abbrev mvC (p s t : Int32) : va_E := .inr (2, [.int p, .int s, .int t])
abbrev roC (num sec : Int32) (ct : Nat) (rd as co ga gs st mi : Int32) : va_E := .inr (3, [.int num, .int sec, .ref ct, .int rd, .int as, .int co, .int ga, .int gs, .int st, .int mi])
abbrev dcC (p f o r : Int32) : va_E := .inr (4, [.int p, .int f, .int o, .int r])
abbrev mdC (p pl t op tm : Int32) : va_E := .inr (5, [.int p, .int pl, .int t, .int op, .int tm])
abbrev evC (ls : Int32) (mu lt : Nat) (lf told : Int32) : va_E := .inr (6, [.int ls, .ref mu, .ref lt, .int lf, .int told])
abbrev rcC (gu lp lm lr ld ly le : Nat) (sec : Int32) : va_E := .inr (7, [.ref gu, .ref lp, .ref lm, .ref lr, .ref ld, .ref ly, .ref le, .int sec])
theorem zi1 : Int32.ofInt 1 = 1 := by decide
theorem zim1 : Int32.ofInt (-1) = -1 := by decide
theorem zu_zu {h : Hp} {a : Nat} {e e1 : va_E} : zu (zu h a e) a e1 = zu h a e1 := by
  funext x
  by_cases hx : x = a
  · subst hx; rw [zu_s, zu_s]
  · rw [zu_n hx, zu_n hx, zu_n hx]
theorem zu_sw {h : Hp} {a b : Nat} {e e1 : va_E} (hab : a ≠ b) : zu (zu h a e) b e1 = zu (zu h b e1) a e := by
  funext x
  by_cases hx : x = a
  · subst hx; rw [zu_s, zu_n hab, zu_s]
  · rw [zu_n hx]
    by_cases hb : x = b
    · subst hb; rw [zu_s, zu_s]
    · rw [zu_n hb, zu_n hb, zu_n hx]
section CE
variable {g : zG} {h : Hp} {PR : Option Value → Hp → Prop} {PX : String → Hp → Prop}
set_option maxRecDepth 100000 in
theorem ct_PE_init {q : Nat} (h0 : h q = some (peC 0 0 0)) (k : PR none (zu h q (peC (-1) 0 (-1)))) : Ct g y_PE_init w_PE_init 1 0 0 [.ref q] h PR PX := by
  refine Ct_intro (cc := c_PE_init) (nL := 1) (ret := none) (ls := [some (.ref q)]) (by decide) (Nat.le_of_ble_eq_true rfl) rfl rfl ?_
  intro p e R s m args below meth c C ht hname
  refine z_aload_n C d_PE_init_0 rfl rfl ?_
  refine z_obj C d_PE_init_1 k_171 k_31 k_32 (by first | decide | omega) (Nat.le_of_ble_eq_true rfl) ?_
  refine z_aload_n C d_PE_init_4 rfl rfl ?_
  refine z_iconst (v := (-1)) C d_PE_init_5 (by decide) ?_
  refine z_put (ci := 1) (T := T_PE) (N := 3) (ty := .int) C d_PE_init_6 0 ty_PE t_PE n_PE i_PE rfl (by decide) k_172 (fun _ q => q) rfl (by decide +kernel) (by rfl) (by rfl) (by first | assumption | exact zu_s) (by exact Nat.le_of_ble_eq_true rfl) ?_
  dsimp only [List.set]
  refine z_aload_n C d_PE_init_9 rfl rfl ?_
  refine z_iconst (v := 0) C d_PE_init_10 (by decide) ?_
  refine z_put (ci := 1) (T := T_PE) (N := 3) (ty := .int) C d_PE_init_11 1 ty_PE t_PE n_PE i_PE rfl (by decide) k_174 (fun _ q => q) rfl (by decide +kernel) (by rfl) (by rfl) (by first | assumption | exact zu_s) (by exact Nat.le_of_ble_eq_true rfl) ?_
  dsimp only [List.set]
  refine z_aload_n C d_PE_init_14 rfl rfl ?_
  refine z_iconst (v := (-1)) C d_PE_init_15 (by decide) ?_
  refine z_put (ci := 1) (T := T_PE) (N := 3) (ty := .int) C d_PE_init_16 2 ty_PE t_PE n_PE i_PE rfl (by decide) k_176 (fun _ q => q) rfl (by decide +kernel) (by rfl) (by rfl) (by first | assumption | exact zu_s) (by exact Nat.le_of_ble_eq_true rfl) ?_
  dsimp only [List.set]
  refine z_vret C d_PE_init_19 ?_
  rw [zu_zu, zu_zu]
  exact k
set_option maxRecDepth 100000 in
theorem ct_PE_cameOutSince {q : Nat} {s0 r0 k0 x : Int32} (h0 : h q = some (peC s0 r0 k0)) (k : PR (some (.int (if x < r0 then 1 else 0))) h) : Ct g y_PE_cameOutSince w_PE_cameOutSince 1 0 0 [.ref q, .int x] h PR PX := by
  refine Ct_intro (cc := c_PE_cameOutSince) (nL := 2) (ret := (some FieldType.boolean)) (ls := [some (.ref q), some (.int x)]) (by decide) (Nat.le_of_ble_eq_true rfl) rfl rfl ?_
  intro p e R s m args below meth c C ht hname
  refine z_iload_n C d_PE_cameOutSince_0 rfl rfl ?_
  refine z_aload_n C d_PE_cameOutSince_1 rfl rfl ?_
  refine z_get (ci := 1) (T := T_PE) (N := 3) C d_PE_cameOutSince_2 1 i_PE rfl (by decide) k_174 (fun _ q => q) (by first | assumption | exact zu_s) (by rfl) ?_
  refine z_icmp_ge 12 C d_PE_cameOutSince_5 (by decide) (fun c5 => ?_) (fun c5 => ?_)
  · refine z_iconst (v := 0) C d_PE_cameOutSince_12 (by decide) ?_
    refine z_zret C d_PE_cameOutSince_13 (by first | rfl | assumption) ?_
    rw [if_neg (Int32.not_lt.mpr c5)] at k
    exact k
  · refine z_iconst (v := 1) C d_PE_cameOutSince_8 (by decide) ?_
    refine z_goto 13 C d_PE_cameOutSince_9 (by decide) ?_
    refine z_zret C d_PE_cameOutSince_13 (by first | rfl | assumption) ?_
    rw [if_pos (Int32.not_le.mp c5)] at k
    exact k
set_option maxRecDepth 100000 in
theorem ct_MO_init {q : Nat} {a b d : Int32} (h0 : h q = some (mvC 0 0 0)) (k : PR none (zu h q (mvC a b d))) : Ct g y_MO_init w_MO_init 1 0 0 [.ref q, .int a, .int b, .int d] h PR PX := by
  refine Ct_intro (cc := c_MO_init) (nL := 4) (ret := none) (ls := [some (.ref q), some (.int a), some (.int b), some (.int d)]) (by decide) (Nat.le_of_ble_eq_true rfl) rfl rfl ?_
  intro p e R s m args below meth c C ht hname
  refine z_aload_n C d_MO_init_0 rfl rfl ?_
  refine z_obj C d_MO_init_1 k_318 k_31 k_32 (by first | decide | omega) (Nat.le_of_ble_eq_true rfl) ?_
  refine z_aload_n C d_MO_init_4 rfl rfl ?_
  refine z_iload_n C d_MO_init_5 rfl rfl ?_
  refine z_putF (ci := 2) (T := T_MO) (N := 3) (ty := .int) C d_MO_init_6 hname 0 ty_MO t_MO n_MO i_MO rfl (by decide) k_319 (fun _ q => q) rfl rfl (by decide +kernel) (by rfl) (by rfl) (by first | assumption | exact zu_s) (by exact Nat.le_of_ble_eq_true rfl) ?_
  dsimp only [List.set]
  refine z_aload_n C d_MO_init_9 rfl rfl ?_
  refine z_iload_n C d_MO_init_10 rfl rfl ?_
  refine z_putF (ci := 2) (T := T_MO) (N := 3) (ty := .int) C d_MO_init_11 hname 1 ty_MO t_MO n_MO i_MO rfl (by decide) k_321 (fun _ q => q) rfl rfl (by decide +kernel) (by rfl) (by rfl) (by first | assumption | exact zu_s) (by exact Nat.le_of_ble_eq_true rfl) ?_
  dsimp only [List.set]
  refine z_aload_n C d_MO_init_14 rfl rfl ?_
  refine z_iload_n C d_MO_init_15 rfl rfl ?_
  refine z_putF (ci := 2) (T := T_MO) (N := 3) (ty := .int) C d_MO_init_16 hname 2 ty_MO t_MO n_MO i_MO rfl (by decide) k_323 (fun _ q => q) rfl rfl (by decide +kernel) (by rfl) (by rfl) (by first | assumption | exact zu_s) (by exact Nat.le_of_ble_eq_true rfl) ?_
  dsimp only [List.set]
  refine z_vret C d_MO_init_19 ?_
  rw [zu_zu, zu_zu]
  exact k
set_option maxRecDepth 100000 in
theorem ct_DC_init {q : Nat} {a b d f : Int32} (h0 : h q = some (dcC 0 0 0 0)) (k : PR none (zu h q (dcC a b d f))) : Ct g y_DC_init w_DC_init 1 0 0 [.ref q, .int a, .int b, .int d, .int f] h PR PX := by
  refine Ct_intro (cc := c_DC_init) (nL := 5) (ret := none) (ls := [some (.ref q), some (.int a), some (.int b), some (.int d), some (.int f)]) (by decide) (Nat.le_of_ble_eq_true rfl) rfl rfl ?_
  intro p e R s m args below meth c C ht hname
  refine z_aload_n C d_DC_init_0 rfl rfl ?_
  refine z_obj C d_DC_init_1 k_478 k_31 k_32 (by first | decide | omega) (Nat.le_of_ble_eq_true rfl) ?_
  refine z_aload_n C d_DC_init_4 rfl rfl ?_
  refine z_iload_n C d_DC_init_5 rfl rfl ?_
  refine z_putF (ci := 4) (T := T_DC) (N := 4) (ty := .int) C d_DC_init_6 hname 0 ty_DC t_DC n_DC i_DC rfl (by decide) k_479 (fun _ q => q) rfl rfl (by decide +kernel) (by rfl) (by rfl) (by first | assumption | exact zu_s) (by exact Nat.le_of_ble_eq_true rfl) ?_
  dsimp only [List.set]
  refine z_aload_n C d_DC_init_9 rfl rfl ?_
  refine z_iload_n C d_DC_init_10 rfl rfl ?_
  refine z_putF (ci := 4) (T := T_DC) (N := 4) (ty := .int) C d_DC_init_11 hname 1 ty_DC t_DC n_DC i_DC rfl (by decide) k_481 (fun _ q => q) rfl rfl (by decide +kernel) (by rfl) (by rfl) (by first | assumption | exact zu_s) (by exact Nat.le_of_ble_eq_true rfl) ?_
  dsimp only [List.set]
  refine z_aload_n C d_DC_init_14 rfl rfl ?_
  refine z_iload_n C d_DC_init_15 rfl rfl ?_
  refine z_putF (ci := 4) (T := T_DC) (N := 4) (ty := .int) C d_DC_init_16 hname 2 ty_DC t_DC n_DC i_DC rfl (by decide) k_483 (fun _ q => q) rfl rfl (by decide +kernel) (by rfl) (by rfl) (by first | assumption | exact zu_s) (by exact Nat.le_of_ble_eq_true rfl) ?_
  dsimp only [List.set]
  refine z_aload_n C d_DC_init_19 rfl rfl ?_
  refine z_iload C d_DC_init_20 rfl ?_
  refine z_putF (ci := 4) (T := T_DC) (N := 4) (ty := .int) C d_DC_init_22 hname 3 ty_DC t_DC n_DC i_DC rfl (by decide) k_485 (fun _ q => q) rfl rfl (by decide +kernel) (by rfl) (by rfl) (by first | assumption | exact zu_s) (by exact Nat.le_of_ble_eq_true rfl) ?_
  dsimp only [List.set]
  refine z_vret C d_DC_init_25 ?_
  rw [zu_zu, zu_zu, zu_zu]
  exact k
set_option maxRecDepth 100000 in
theorem ct_MD_init {q : Nat} {a b d f : Int32} (h0 : h q = some (mdC 0 0 0 0 0)) (k : PR none (zu h q (mdC a b d 1 f))) : Ct g y_MD_init w_MD_init 1 0 0 [.ref q, .int a, .int b, .int d, .int f] h PR PX := by
  refine Ct_intro (cc := c_MD_init) (nL := 5) (ret := none) (ls := [some (.ref q), some (.int a), some (.int b), some (.int d), some (.int f)]) (by decide) (Nat.le_of_ble_eq_true rfl) rfl rfl ?_
  intro p e R s m args below meth c C ht hname
  refine z_aload_n C d_MD_init_0 rfl rfl ?_
  refine z_obj C d_MD_init_1 k_585 k_31 k_32 (by first | decide | omega) (Nat.le_of_ble_eq_true rfl) ?_
  refine z_aload_n C d_MD_init_4 rfl rfl ?_
  refine z_iload_n C d_MD_init_5 rfl rfl ?_
  refine z_putF (ci := 5) (T := T_MD) (N := 5) (ty := .int) C d_MD_init_6 hname 0 ty_MD t_MD n_MD i_MD rfl (by decide) k_586 (fun _ q => q) rfl rfl (by decide +kernel) (by rfl) (by rfl) (by first | assumption | exact zu_s) (by exact Nat.le_of_ble_eq_true rfl) ?_
  dsimp only [List.set]
  refine z_aload_n C d_MD_init_9 rfl rfl ?_
  refine z_iload_n C d_MD_init_10 rfl rfl ?_
  refine z_putF (ci := 5) (T := T_MD) (N := 5) (ty := .int) C d_MD_init_11 hname 1 ty_MD t_MD n_MD i_MD rfl (by decide) k_588 (fun _ q => q) rfl rfl (by decide +kernel) (by rfl) (by rfl) (by first | assumption | exact zu_s) (by exact Nat.le_of_ble_eq_true rfl) ?_
  dsimp only [List.set]
  refine z_aload_n C d_MD_init_14 rfl rfl ?_
  refine z_iload_n C d_MD_init_15 rfl rfl ?_
  refine z_putF (ci := 5) (T := T_MD) (N := 5) (ty := .int) C d_MD_init_16 hname 2 ty_MD t_MD n_MD i_MD rfl (by decide) k_590 (fun _ q => q) rfl rfl (by decide +kernel) (by rfl) (by rfl) (by first | assumption | exact zu_s) (by exact Nat.le_of_ble_eq_true rfl) ?_
  dsimp only [List.set]
  refine z_aload_n C d_MD_init_19 rfl rfl ?_
  refine z_iload C d_MD_init_20 rfl ?_
  refine z_put (ci := 5) (T := T_MD) (N := 5) (ty := .int) C d_MD_init_22 4 ty_MD t_MD n_MD i_MD rfl (by decide) k_594 (fun _ q => q) rfl (by decide +kernel) (by rfl) (by rfl) (by first | assumption | exact zu_s) (by exact Nat.le_of_ble_eq_true rfl) ?_
  dsimp only [List.set]
  refine z_aload_n C d_MD_init_25 rfl rfl ?_
  refine z_iconst (v := 1) C d_MD_init_26 (by decide) ?_
  refine z_put (ci := 5) (T := T_MD) (N := 5) (ty := .boolean) C d_MD_init_27 3 ty_MD t_MD n_MD i_MD rfl (by decide) k_592 (fun _ q => q) rfl (by decide +kernel) (by rfl) (by rfl) (by first | assumption | exact zu_s) (by exact Nat.le_of_ble_eq_true rfl) ?_
  dsimp only [List.set]
  refine z_vret C d_MD_init_30 ?_
  rw [zu_zu, zu_zu, zu_zu, zu_zu]
  exact k
set_option maxRecDepth 100000 in
theorem ct_EV_init {q : Nat} {a : Int32} (h0 : h q = some (.inr (6, [.int 0, .null, .null, .int 0, .int 0]))) (k : ∀ q1 q2, h q1 = none → h q2 = none → q1 ≠ q2 → PR none (zu (zu (zu h q (evC a q1 q2 0 0)) q1 (ba g 10 (fun _ => 0))) q2 (ba g 10 (fun _ => 0)))) : Ct g y_EV_init w_EV_init 1 2 20 [.ref q, .int a] h PR PX := by
  refine Ct_intro (cc := c_EV_init) (nL := 2) (ret := none) (ls := [some (.ref q), some (.int a)]) (by decide) (Nat.le_of_ble_eq_true rfl) rfl rfl ?_
  intro p e R s m args below meth c C ht hname
  refine z_aload_n C d_EV_init_0 rfl rfl ?_
  refine z_obj C d_EV_init_1 k_658 k_31 k_32 (by first | decide | omega) (Nat.le_of_ble_eq_true rfl) ?_
  refine z_aload_n C d_EV_init_4 rfl rfl ?_
  refine z_iload_n C d_EV_init_5 rfl rfl ?_
  refine z_putF (ci := 6) (T := T_EV) (N := 5) (ty := .int) C d_EV_init_6 hname 0 ty_EV t_EV n_EV i_EV rfl (by decide) k_659 (fun _ q => q) rfl rfl (by decide +kernel) (by rfl) (by rfl) (by first | assumption | exact zu_s) (by exact Nat.le_of_ble_eq_true rfl) ?_
  dsimp only [List.set]
  refine z_aload_n C d_EV_init_9 rfl rfl ?_
  refine z_bipush (v := 10) C d_EV_init_10 (by decide) ?_
  refine z_newaZ (N0 := 10) C d_EV_init_12 k_678 (zC_Z C) (by decide) (by decide) (by decide) (by first | decide | omega) (by first | decide | omega) (fun q12 hq12 => ?_)
  have n1 : q ≠ q12 := by
    rintro rfl
    rw [zu_s] at hq12
    cases hq12
  have e1 : zu (zu h q (.inr (6, [.int a, .null, .null, .int 0, .int 0]))) q12 (ba g 10 (fun _ => 0)) q = some (.inr (6, [.int a, .null, .null, .int 0, .int 0])) := by rw [zu_n n1, zu_s]
  refine z_putF (ci := 6) (T := T_EV) (N := 5) (ty := .array .boolean) C d_EV_init_14 hname 1 ty_EV t_EV n_EV i_EV rfl (by decide) k_660 (fun _ q => q) rfl rfl (by decide +kernel) (by rfl) (by rfl) e1 (by exact Nat.le_of_ble_eq_true rfl) ?_
  dsimp only [List.set]
  refine z_aload_n C d_EV_init_17 rfl rfl ?_
  refine z_bipush (v := 10) C d_EV_init_18 (by decide) ?_
  refine z_newaZ (N0 := 10) C d_EV_init_20 k_678 (zC_Z C) (by decide) (by decide) (by decide) (by first | decide | omega) (by first | decide | omega) (fun q20 hq20 => ?_)
  have n2 : q ≠ q20 := by
    rintro rfl
    rw [zu_s] at hq20
    cases hq20
  have n3 : q12 ≠ q20 := by
    rintro rfl
    rw [zu_n n1.symm, zu_s] at hq20
    cases hq20
  have e2 : zu (zu (zu (zu h q (.inr (6, [.int a, .null, .null, .int 0, .int 0]))) q12 (ba g 10 (fun _ => 0))) q (.inr (6, [.int a, .ref q12, .null, .int 0, .int 0]))) q20 (ba g 10 (fun _ => 0)) q = some (.inr (6, [.int a, .ref q12, .null, .int 0, .int 0])) := by rw [zu_n n2, zu_s]
  refine z_putF (ci := 6) (T := T_EV) (N := 5) (ty := .array .boolean) C d_EV_init_22 hname 2 ty_EV t_EV n_EV i_EV rfl (by decide) k_662 (fun _ q => q) rfl rfl (by decide +kernel) (by rfl) (by rfl) e2 (by exact Nat.le_of_ble_eq_true rfl) ?_
  dsimp only [List.set]
  refine z_vret C d_EV_init_25 ?_
  have e3 : zu (zu (zu (zu (zu h q (.inr (6, [.int a, .null, .null, .int 0, .int 0]))) q12 (ba g 10 (fun _ => 0))) q (.inr (6, [.int a, .ref q12, .null, .int 0, .int 0]))) q20 (ba g 10 (fun _ => 0))) q (evC a q12 q20 0 0) = zu (zu (zu h q (evC a q12 q20 0 0)) q12 (ba g 10 (fun _ => 0))) q20 (ba g 10 (fun _ => 0)) := by
    rw [zu_sw n2.symm, zu_zu, zu_sw n1.symm, zu_zu]
  rw [e3]
  rw [zu_n n1.symm] at hq12
  refine k q12 q20 hq12 ?_ n3
  rw [zu_n n2.symm, zu_n n3.symm, zu_n n2.symm] at hq20
  exact hq20
set_option maxRecDepth 100000 in
theorem ct_AR_fill {a n : Nat} {f : Nat → Int32} {v : Int32} (h0 : h a = some (ia g n f)) (hn : n ≤ 1000) (k : PR none (zu h a (ia g n (fun i => if i < n then v else f i)))) : Ct g y_AR_fill w_AR_fill 1 0 0 [.ref a, .int v] h PR PX := by
  refine Ct_intro (cc := c_AR_fill) (nL := 4) (ret := none) (ls := [some (.ref a), some (.int v), none, none]) (by decide) (Nat.le_of_ble_eq_true rfl) rfl rfl ?_
  intro p e R s m args below meth c C ht hname
  have loop : ∀ (j i : Nat), i + j = n → Z g 4 0 0 p e R s m args below meth c (vx_MQ below (zQ g PR) (zX g PX) args s 0 0 (zA g)) 0 0 5 [some (.ref a), some (.int v), some (.int (nI i)), some (.int (nI n))] [] (zu h a (ia g n (fun x => if x < i then v else f x))) := by
    intro j
    induction j with
    | zero =>
      intro i hi
      have : i = n := by omega
      subst this
      refine z_iload_n C d_AR_fill_5 rfl rfl ?_
      refine z_iload_n C d_AR_fill_6 rfl rfl ?_
      refine z_icmp_ge 20 C d_AR_fill_7 (by decide) (fun c7 => ?_) (fun c7 => ?_)
      · refine z_vret C d_AR_fill_20 ?_
        exact k
      · exact absurd (Int32.le_refl _) c7
    | succ j ih =>
      intro i hi
      refine z_iload_n C d_AR_fill_5 rfl rfl ?_
      refine z_iload_n C d_AR_fill_6 rfl rfl ?_
      refine z_icmp_ge 20 C d_AR_fill_7 (by decide) (fun c7 => ?_) (fun c7 => ?_)
      · exact absurd c7 (nI_ge (by omega) (by omega))
      · refine z_aload_n C d_AR_fill_10 rfl rfl ?_
        refine z_iload_n C d_AR_fill_11 rfl rfl ?_
        refine z_iload_n C d_AR_fill_12 rfl rfl ?_
        refine z_iast C d_AR_fill_13 zu_s (vp_in_nI (by omega) (by omega)) ?_
        rw [zu_zu, nI_clamp (by omega)]
        have e1 : upd (fun x => if x < i then v else f x) i v = (fun x => if x < i + 1 then v else f x) := by
          funext x
          by_cases hx : x = i
          · subst hx; rw [pk_us, if_pos (by omega)]
          · rw [pk_un hx]
            by_cases hl : x < i
            · rw [if_pos hl, if_pos (by omega)]
            · rw [if_neg hl, if_neg (by omega)]
        rw [e1]
        refine z_iinc C d_AR_fill_14 rfl (by decide) rfl ?_
        simp only [List.set, zi1, zim1]
        rw [nI_1]
        refine z_goto 5 C d_AR_fill_17 (by decide) ?_
        exact ih (i + 1) (by omega)
  refine z_iconst (v := 0) C d_AR_fill_0 (by decide) ?_
  refine z_istore_n C d_AR_fill_1 rfl (by decide) rfl ?_
  dsimp only [List.set]
  refine z_aload_n C d_AR_fill_2 rfl rfl ?_
  refine z_alen 0 C d_AR_fill_3 h0 rfl ?_
  refine z_istore_n C d_AR_fill_4 rfl (by decide) rfl ?_
  dsimp only [List.set]
  have h1 := loop n 0 (by omega)
  have e0 : zu h a (ia g n (fun x => if x < 0 then v else f x)) = h := by
    funext x
    by_cases hx : x = a
    · subst hx; rw [zu_s, h0]; rfl
    · rw [zu_n hx]
  rw [e0] at h1
  exact h1
set_option maxRecDepth 100000 in
theorem ct_RO_init {q N : Nat} {a b : Int32} (hN : N ≤ 60) (h0 : h q = some (.inr (3, [.int 0, .int 0, .null, .int 0, .int 0, .int 0, .int 0, .int 0, .int 0, .int 0]))) (k : ∀ ct, h ct = none → PR none (zu (zu h q (roC a b ct 1 0 0 0 0 0 0)) ct (ia g N (fun i => if i < N then -2 else 0)))) : Ct g y_RO_init w_RO_init 2 1 60 [.ref q, .int a, .int b, .int (nI N)] h PR PX := by
  refine Ct_intro (cc := c_RO_init) (nL := 4) (ret := none) (ls := [some (.ref q), some (.int a), some (.int b), some (.int (nI N))]) (by decide) (Nat.le_of_ble_eq_true rfl) rfl rfl ?_
  intro p e R s m args below meth c C ht hname
  refine z_aload_n C d_RO_init_0 rfl rfl ?_
  refine z_obj C d_RO_init_1 k_395 k_31 k_32 (by first | decide | omega) (Nat.le_of_ble_eq_true rfl) ?_
  refine z_aload_n C d_RO_init_4 rfl rfl ?_
  refine z_iload_n C d_RO_init_5 rfl rfl ?_
  refine z_putF (ci := 3) (T := T_RO) (N := 10) (ty := .int) C d_RO_init_6 hname 0 ty_RO t_RO n_RO i_RO rfl (by decide) k_400 (fun _ q => q) rfl rfl (by decide +kernel) (by rfl) (by rfl) (by first | assumption | exact zu_s) (by exact Nat.le_of_ble_eq_true rfl) ?_
  dsimp only [List.set]
  refine z_aload_n C d_RO_init_9 rfl rfl ?_
  refine z_iload_n C d_RO_init_10 rfl rfl ?_
  refine z_putF (ci := 3) (T := T_RO) (N := 10) (ty := .int) C d_RO_init_11 hname 1 ty_RO t_RO n_RO i_RO rfl (by decide) k_402 (fun _ q => q) rfl rfl (by decide +kernel) (by rfl) (by rfl) (by first | assumption | exact zu_s) (by exact Nat.le_of_ble_eq_true rfl) ?_
  dsimp only [List.set]
  rw [zu_zu]
  refine z_aload_n C d_RO_init_14 rfl rfl ?_
  refine z_iconst (v := 0) C d_RO_init_15 (by decide) ?_
  refine z_iload_n C d_RO_init_16 rfl rfl ?_
  refine z_max C d_RO_init_17 k_396 k_205 k_12 k_206 (by decide) (Nat.le_of_ble_eq_true rfl) ?_
  have e1 : (if (0 : Int32) < nI N then nI N else 0) = nI N := by
    by_cases hz : N = 0
    · subst hz; rfl
    · rw [if_pos]
      rw [← nI_0]
      exact nI_lt (by omega) (by omega)
  rw [e1]
  refine z_newaI C d_RO_init_20 k_59 (zC_I C) (nI_pos (by omega)) (nI_clamp (by omega)) (by omega) (by first | decide | omega) (by first | decide | omega) (fun q20 hq20 => ?_)
  have n1 : q ≠ q20 := by
    rintro rfl
    rw [zu_s] at hq20
    cases hq20
  have e2 : zu (zu h q (.inr (3, [.int a, .int b, .null, .int 0, .int 0, .int 0, .int 0, .int 0, .int 0, .int 0]))) q20 (ia g N (fun _ => 0)) q = some (.inr (3, [.int a, .int b, .null, .int 0, .int 0, .int 0, .int 0, .int 0, .int 0, .int 0])) := by rw [zu_n n1, zu_s]
  refine z_putF (ci := 3) (T := T_RO) (N := 10) (ty := .array .int) C d_RO_init_22 hname 2 ty_RO t_RO n_RO i_RO rfl (by decide) k_403 (fun _ q => q) rfl rfl (by decide +kernel) (by rfl) (by rfl) e2 (by exact Nat.le_of_ble_eq_true rfl) ?_
  dsimp only [List.set]
  have e3 : zu (zu (zu h q (.inr (3, [.int a, .int b, .null, .int 0, .int 0, .int 0, .int 0, .int 0, .int 0, .int 0]))) q20 (ia g N (fun _ => 0))) q (roC a b q20 0 0 0 0 0 0 0) = zu (zu h q (roC a b q20 0 0 0 0 0 0 0)) q20 (ia g N (fun _ => 0)) := by rw [zu_sw n1.symm, zu_zu]
  rw [e3]
  have e4 : zu (zu h q (roC a b q20 0 0 0 0 0 0 0)) q20 (ia g N (fun _ => 0)) q = some (roC a b q20 0 0 0 0 0 0 0) := by rw [zu_n n1, zu_s]
  refine z_aload_n C d_RO_init_25 rfl rfl ?_
  refine z_get (ci := 3) (T := T_RO) (N := 10) C d_RO_init_26 2 i_RO rfl (by decide) k_403 (fun _ q => q) (by first | assumption | exact zu_s) (by rfl) ?_
  refine z_bipush (v := (-2)) C d_RO_init_29 (by decide) ?_
  refine z_callS (n := 2) (As := [.ref q20, .int (-2)]) (rest := []) (r1 := 1) (mc1 := 0) (ms1 := 0) C d_RO_init_31 k_399 k_397 k_398 k_13 (by decide +kernel) rfl (by decide) (by decide) (Nat.le_of_ble_eq_true rfl) (by first | decide | omega) (by first | decide | omega) rfl ?_
  refine ct_AR_fill zu_s (by omega) ?_
  dsimp only [zps]
  rw [zu_zu]
  have e5 : zu (zu h q (roC a b q20 0 0 0 0 0 0 0)) q20 (ia g N (fun i => if i < N then -2 else 0)) q = some (roC a b q20 0 0 0 0 0 0 0) := by rw [zu_n n1, zu_s]
  refine z_aload_n C d_RO_init_34 rfl rfl ?_
  refine z_iconst (v := 1) C d_RO_init_35 (by decide) ?_
  refine z_put (ci := 3) (T := T_RO) (N := 10) (ty := .int) C d_RO_init_36 3 ty_RO t_RO n_RO i_RO rfl (by decide) k_404 (fun _ q => q) rfl (by decide +kernel) (by rfl) (by rfl) e5 (by exact Nat.le_of_ble_eq_true rfl) ?_
  dsimp only [List.set]
  refine z_vret C d_RO_init_39 ?_
  rw [zu_sw n1.symm, zu_zu]
  rw [zu_n n1.symm] at hq20
  exact k q20 hq20
set_option maxRecDepth 100000 in
theorem ct_RO_asksSector {q ct : Nat} {num sec rd as co ga gs st mi x : Int32} (h0 : h q = some (roC num sec ct rd as co ga gs st mi)) (k : PR (some (.int (if sec = -1 ∨ sec = x then 1 else 0))) h) : Ct g y_RO_asksSector w_RO_asksSector 1 0 0 [.ref q, .int x] h PR PX := by
  refine Ct_intro (cc := c_RO_asksSector) (nL := 2) (ret := (some FieldType.boolean)) (ls := [some (.ref q), some (.int x)]) (by decide) (Nat.le_of_ble_eq_true rfl) rfl rfl ?_
  intro p e R s m args below meth c C ht hname
  refine z_aload_n C d_RO_asksSector_0 rfl rfl ?_
  refine z_get (ci := 3) (T := T_RO) (N := 10) C d_RO_asksSector_1 1 i_RO rfl (by decide) k_402 (fun _ q => q) (by first | assumption | exact zu_s) (by rfl) ?_
  refine z_iconst (v := (-1)) C d_RO_asksSector_4 (by decide) ?_
  refine z_icmp_eq 16 C d_RO_asksSector_5 (by decide) (fun c5 => ?_) (fun c5 => ?_)
  · refine z_iconst (v := 1) C d_RO_asksSector_16 (by decide) ?_
    refine z_goto 21 C d_RO_asksSector_17 (by decide) ?_
    refine z_zret C d_RO_asksSector_21 (by first | rfl | assumption) ?_
    rw [if_pos (Or.inl c5)] at k
    exact k
  · refine z_aload_n C d_RO_asksSector_8 rfl rfl ?_
    refine z_get (ci := 3) (T := T_RO) (N := 10) C d_RO_asksSector_9 1 i_RO rfl (by decide) k_402 (fun _ q => q) (by first | assumption | exact zu_s) (by rfl) ?_
    refine z_iload_n C d_RO_asksSector_12 rfl rfl ?_
    refine z_icmp_ne 20 C d_RO_asksSector_13 (by decide) (fun c13 => ?_) (fun c13 => ?_)
    · refine z_iconst (v := 0) C d_RO_asksSector_20 (by decide) ?_
      refine z_zret C d_RO_asksSector_21 (by first | rfl | assumption) ?_
      rw [if_neg (by rintro (z | z); exact c5 z; exact c13 z)] at k
      exact k
    · refine z_iconst (v := 1) C d_RO_asksSector_16 (by decide) ?_
      refine z_goto 21 C d_RO_asksSector_17 (by decide) ?_
      refine z_zret C d_RO_asksSector_21 (by first | rfl | assumption) ?_
      rw [if_pos (Or.inr c13)] at k
      exact k
set_option maxRecDepth 100000 in
theorem ct_RO_isOver {q ct : Nat} {num sec rd as co ga gs st mi : Int32} (h0 : h q = some (roC num sec ct rd as co ga gs st mi)) (k : PR (some (.int (if rd < 3 then 0 else 1))) h) : Ct g y_RO_isOver w_RO_isOver 1 0 0 [.ref q] h PR PX := by
  refine Ct_intro (cc := c_RO_isOver) (nL := 1) (ret := (some FieldType.boolean)) (ls := [some (.ref q)]) (by decide) (Nat.le_of_ble_eq_true rfl) rfl rfl ?_
  intro p e R s m args below meth c C ht hname
  refine z_aload_n C d_RO_isOver_0 rfl rfl ?_
  refine z_get (ci := 3) (T := T_RO) (N := 10) C d_RO_isOver_1 3 i_RO rfl (by decide) k_404 (fun _ q => q) (by first | assumption | exact zu_s) (by rfl) ?_
  refine z_iconst (v := 3) C d_RO_isOver_4 (by decide) ?_
  refine z_icmp_lt 12 C d_RO_isOver_5 (by decide) (fun c5 => ?_) (fun c5 => ?_)
  · refine z_iconst (v := 0) C d_RO_isOver_12 (by decide) ?_
    refine z_zret C d_RO_isOver_13 (by first | rfl | assumption) ?_
    rw [if_pos c5] at k
    exact k
  · refine z_iconst (v := 1) C d_RO_isOver_8 (by decide) ?_
    refine z_goto 13 C d_RO_isOver_9 (by decide) ?_
    refine z_zret C d_RO_isOver_13 (by first | rfl | assumption) ?_
    rw [if_neg c5] at k
    exact k
set_option maxRecDepth 100000 in
theorem ct_RO_endIfNobodyIsAsked {q ct : Nat} {num sec rd as co ga gs st mi : Int32} (h0 : h q = some (roC num sec ct rd as co ga gs st mi)) (k : PR none (zu h q (roC num sec ct (if as = 0 ∧ ga = 0 then 3 else rd) as co ga gs st mi))) : Ct g y_RO_endIfNobodyIsAsked w_RO_endIfNobodyIsAsked 1 0 0 [.ref q] h PR PX := by
  have same : zu h q (roC num sec ct rd as co ga gs st mi) = h := by
    funext x
    by_cases hx : x = q
    · subst hx; rw [zu_s, h0]
    · rw [zu_n hx]
  refine Ct_intro (cc := c_RO_endIfNobodyIsAsked) (nL := 1) (ret := none) (ls := [some (.ref q)]) (by decide) (Nat.le_of_ble_eq_true rfl) rfl rfl ?_
  intro p e R s m args below meth c C ht hname
  refine z_aload_n C d_RO_endIfNobodyIsAsked_0 rfl rfl ?_
  refine z_get (ci := 3) (T := T_RO) (N := 10) C d_RO_endIfNobodyIsAsked_1 4 i_RO rfl (by decide) k_406 (fun _ q => q) (by first | assumption | exact zu_s) (by rfl) ?_
  refine z_if_ne 19 C d_RO_endIfNobodyIsAsked_4 (by decide) (fun c4 => ?_) (fun c4 => ?_)
  · refine z_vret C d_RO_endIfNobodyIsAsked_19 ?_
    rw [if_neg (fun z => c4 z.1), same] at k
    exact k
  · refine z_aload_n C d_RO_endIfNobodyIsAsked_7 rfl rfl ?_
    refine z_get (ci := 3) (T := T_RO) (N := 10) C d_RO_endIfNobodyIsAsked_8 6 i_RO rfl (by decide) k_410 (fun _ q => q) (by first | assumption | exact zu_s) (by rfl) ?_
    refine z_if_ne 19 C d_RO_endIfNobodyIsAsked_11 (by decide) (fun c11 => ?_) (fun c11 => ?_)
    · refine z_vret C d_RO_endIfNobodyIsAsked_19 ?_
      rw [if_neg (fun z => c11 z.2), same] at k
      exact k
    · refine z_aload_n C d_RO_endIfNobodyIsAsked_14 rfl rfl ?_
      refine z_iconst (v := 3) C d_RO_endIfNobodyIsAsked_15 (by decide) ?_
      refine z_put (ci := 3) (T := T_RO) (N := 10) (ty := .int) C d_RO_endIfNobodyIsAsked_16 3 ty_RO t_RO n_RO i_RO rfl (by decide) k_404 (fun _ q => q) rfl (by decide +kernel) (by rfl) (by rfl) (by first | assumption | exact zu_s) (by exact Nat.le_of_ble_eq_true rfl) ?_
      dsimp only [List.set]
      refine z_vret C d_RO_endIfNobodyIsAsked_19 ?_
      rw [if_pos ⟨c4, c11⟩] at k
      exact k
/-- what counterOf answers -/
def cof (n : Nat) (f : Nat → Int32) (x : Int32) : Int32 := if x < 0 ∨ nI n ≤ x then -2 else f x.toNatClampNeg
set_option maxRecDepth 100000 in
theorem ct_RO_counterOf {q ct n : Nat} {f : Nat → Int32} {num sec rd as co ga gs st mi x : Int32} (h0 : h q = some (roC num sec ct rd as co ga gs st mi)) (h1 : h ct = some (ia g n f)) (hn : n ≤ 60) (k : PR (some (.int (cof n f x))) h) : Ct g y_RO_counterOf w_RO_counterOf 1 0 0 [.ref q, .int x] h PR PX := by
  unfold cof at k
  refine Ct_intro (cc := c_RO_counterOf) (nL := 2) (ret := (some FieldType.int)) (ls := [some (.ref q), some (.int x)]) (by decide) (Nat.le_of_ble_eq_true rfl) rfl rfl ?_
  intro p e R s m args below meth c C ht hname
  refine z_iload_n C d_RO_counterOf_0 rfl rfl ?_
  refine z_if_lt 22 C d_RO_counterOf_1 (by decide) (fun c1 => ?_) (fun c1 => ?_)
  · refine z_bipush (v := (-2)) C d_RO_counterOf_22 (by decide) ?_
    refine z_iret C d_RO_counterOf_24 ?_
    rw [if_pos (Or.inl c1)] at k
    exact k
  · refine z_iload_n C d_RO_counterOf_4 rfl rfl ?_
    refine z_aload_n C d_RO_counterOf_5 rfl rfl ?_
    refine z_get (ci := 3) (T := T_RO) (N := 10) C d_RO_counterOf_6 2 i_RO rfl (by decide) k_403 (fun _ q => q) (by first | assumption | exact zu_s) (by rfl) ?_
    refine z_alen 0 C d_RO_counterOf_9 h1 rfl ?_
    refine z_icmp_ge 22 C d_RO_counterOf_10 (by decide) (fun c10 => ?_) (fun c10 => ?_)
    · refine z_bipush (v := (-2)) C d_RO_counterOf_22 (by decide) ?_
      refine z_iret C d_RO_counterOf_24 ?_
      rw [if_pos (Or.inr c10)] at k
      exact k
    · obtain ⟨j, hj, rfl, -⟩ := pk_mu c1 c10 (by omega)
      refine z_aload_n C d_RO_counterOf_13 rfl rfl ?_
      refine z_get (ci := 3) (T := T_RO) (N := 10) C d_RO_counterOf_14 2 i_RO rfl (by decide) k_403 (fun _ q => q) (by first | assumption | exact zu_s) (by rfl) ?_
      refine z_iload_n C d_RO_counterOf_17 rfl rfl ?_
      refine z_iald C d_RO_counterOf_18 h1 (vp_in_nI hj (by omega)) ?_
      refine z_goto 24 C d_RO_counterOf_19 (by decide) ?_
      refine z_iret C d_RO_counterOf_24 ?_
      rw [if_neg (by rintro (z | z); exact c1 z; exact c10 z)] at k
      exact k
set_option maxRecDepth 100000 in
theorem ct_RO_askPerson {q ct n i : Nat} {f : Nat → Int32} {num sec rd as co ga gs st mi : Int32} (h0 : h q = some (roC num sec ct rd as co ga gs st mi)) (h1 : h ct = some (ia g n f)) (hn : n ≤ 60) (hi : i < n) (hne : q ≠ ct) (k : PR none (zu (zu h ct (ia g n (upd f i (-1)))) q (roC num sec ct rd (as + 1) co ga gs st mi))) : Ct g y_RO_askPerson w_RO_askPerson 1 0 0 [.ref q, .int (nI i)] h PR PX := by
  refine Ct_intro (cc := c_RO_askPerson) (nL := 2) (ret := none) (ls := [some (.ref q), some (.int (nI i))]) (by decide) (Nat.le_of_ble_eq_true rfl) rfl rfl ?_
  intro p e R s m args below meth c C ht hname
  refine z_iload_n C d_RO_askPerson_0 rfl rfl ?_
  refine z_if_lt 30 C d_RO_askPerson_1 (by decide) (fun c1 => ?_) (fun c1 => ?_)
  · exact absurd c1 (nI_pos (by omega))
  · refine z_iload_n C d_RO_askPerson_4 rfl rfl ?_
    refine z_aload_n C d_RO_askPerson_5 rfl rfl ?_
    refine z_get (ci := 3) (T := T_RO) (N := 10) C d_RO_askPerson_6 2 i_RO rfl (by decide) k_403 (fun _ q => q) (by first | assumption | exact zu_s) (by rfl) ?_
    refine z_alen 0 C d_RO_askPerson_9 h1 rfl ?_
    refine z_icmp_ge 30 C d_RO_askPerson_10 (by decide) (fun c10 => ?_) (fun c10 => ?_)
    · exact absurd c10 (nI_ge hi (by omega))
    · refine z_aload_n C d_RO_askPerson_13 rfl rfl ?_
      refine z_get (ci := 3) (T := T_RO) (N := 10) C d_RO_askPerson_14 2 i_RO rfl (by decide) k_403 (fun _ q => q) (by first | assumption | exact zu_s) (by rfl) ?_
      refine z_iload_n C d_RO_askPerson_17 rfl rfl ?_
      refine z_iconst (v := (-1)) C d_RO_askPerson_18 (by decide) ?_
      refine z_iast C d_RO_askPerson_19 h1 (vp_in_nI hi (by omega)) ?_
      rw [nI_clamp (by omega)]
      have e1 : zu h ct (ia g n (upd f i (-1))) q = some (roC num sec ct rd as co ga gs st mi) := by rw [zu_n hne]; exact h0
      refine z_aload_n C d_RO_askPerson_20 rfl rfl ?_
      refine z_dup C d_RO_askPerson_21 rfl ?_
      refine z_get (ci := 3) (T := T_RO) (N := 10) C d_RO_askPerson_22 4 i_RO rfl (by decide) k_406 (fun _ q => q) (by first | assumption | exact zu_s) (by rfl) ?_
      refine z_iconst (v := 1) C d_RO_askPerson_25 (by decide) ?_
      refine z_iadd C d_RO_askPerson_26 ?_
      refine z_put (ci := 3) (T := T_RO) (N := 10) (ty := .int) C d_RO_askPerson_27 4 ty_RO t_RO n_RO i_RO rfl (by decide) k_406 (fun _ q => q) rfl (by decide +kernel) (by rfl) (by rfl) (by first | assumption | exact zu_s) (by exact Nat.le_of_ble_eq_true rfl) ?_
      dsimp only [List.set]
      refine z_vret C d_RO_askPerson_30 ?_
      exact k
set_option maxRecDepth 100000 in
theorem ct_RO_countPerson {q ct n i : Nat} {f : Nat → Int32} {num sec rd as co ga gs st mi v : Int32} (h0 : h q = some (roC num sec ct rd as co ga gs st mi)) (h1 : h ct = some (ia g n f)) (hn : n ≤ 60) (hi : i < n) (hne : q ≠ ct) (k : PR none (zu (zu h ct (ia g n (upd f i v))) q (roC num sec ct rd as (co + 1) ga gs st mi))) : Ct g y_RO_countPerson w_RO_countPerson 1 0 0 [.ref q, .int (nI i), .int v] h PR PX := by
  refine Ct_intro (cc := c_RO_countPerson) (nL := 3) (ret := none) (ls := [some (.ref q), some (.int (nI i)), some (.int v)]) (by decide) (Nat.le_of_ble_eq_true rfl) rfl rfl ?_
  intro p e R s m args below meth c C ht hname
  refine z_iload_n C d_RO_countPerson_0 rfl rfl ?_
  refine z_if_lt 30 C d_RO_countPerson_1 (by decide) (fun c1 => ?_) (fun c1 => ?_)
  · exact absurd c1 (nI_pos (by omega))
  · refine z_iload_n C d_RO_countPerson_4 rfl rfl ?_
    refine z_aload_n C d_RO_countPerson_5 rfl rfl ?_
    refine z_get (ci := 3) (T := T_RO) (N := 10) C d_RO_countPerson_6 2 i_RO rfl (by decide) k_403 (fun _ q => q) (by first | assumption | exact zu_s) (by rfl) ?_
    refine z_alen 0 C d_RO_countPerson_9 h1 rfl ?_
    refine z_icmp_ge 30 C d_RO_countPerson_10 (by decide) (fun c10 => ?_) (fun c10 => ?_)
    · exact absurd c10 (nI_ge hi (by omega))
    · refine z_aload_n C d_RO_countPerson_13 rfl rfl ?_
      refine z_get (ci := 3) (T := T_RO) (N := 10) C d_RO_countPerson_14 2 i_RO rfl (by decide) k_403 (fun _ q => q) (by first | assumption | exact zu_s) (by rfl) ?_
      refine z_iload_n C d_RO_countPerson_17 rfl rfl ?_
      refine z_iload_n C d_RO_countPerson_18 rfl rfl ?_
      refine z_iast C d_RO_countPerson_19 h1 (vp_in_nI hi (by omega)) ?_
      rw [nI_clamp (by omega)]
      have e1 : zu h ct (ia g n (upd f i v)) q = some (roC num sec ct rd as co ga gs st mi) := by rw [zu_n hne]; exact h0
      refine z_aload_n C d_RO_countPerson_20 rfl rfl ?_
      refine z_dup C d_RO_countPerson_21 rfl ?_
      refine z_get (ci := 3) (T := T_RO) (N := 10) C d_RO_countPerson_22 5 i_RO rfl (by decide) k_408 (fun _ q => q) (by first | assumption | exact zu_s) (by rfl) ?_
      refine z_iconst (v := 1) C d_RO_countPerson_25 (by decide) ?_
      refine z_iadd C d_RO_countPerson_26 ?_
      refine z_put (ci := 3) (T := T_RO) (N := 10) (ty := .int) C d_RO_countPerson_27 5 ty_RO t_RO n_RO i_RO rfl (by decide) k_408 (fun _ q => q) rfl (by decide +kernel) (by rfl) (by rfl) (by first | assumption | exact zu_s) (by exact Nat.le_of_ble_eq_true rfl) ?_
      dsimp only [List.set]
      refine z_vret C d_RO_countPerson_30 ?_
      exact k
set_option maxRecDepth 100000 in
theorem ct_EV_tellLate {q mu lt : Nat} {fm fl : Nat → Int32} {ls lf told x : Int32} (h0 : h q = some (evC ls mu lt lf told)) (h1 : h mu = some (ba g 10 fm)) (h2 : h lt = some (ba g 10 fl)) (hb : ∀ i, vp_nar .boolean (fm i) = fm i) (n1 : q ≠ mu) (n2 : q ≠ lt) (n3 : mu ≠ lt)
    (k1 : ¬ told = 0 ∨ x ≤ ls → PR (some (.int 0)) h) (k2 : told = 0 → ls < x → PR (some (.int lf)) (zu (zu h q (evC ls mu lt lf 1)) lt (ba g 10 (fun i => if i < 10 then fm i else fl i)))) : Ct g y_EV_tellLate w_EV_tellLate 1 0 0 [.ref q, .int x] h PR PX := by
  refine Ct_intro (cc := c_EV_tellLate) (nL := 3) (ret := (some FieldType.int)) (ls := [some (.ref q), some (.int x), none]) (by decide) (Nat.le_of_ble_eq_true rfl) rfl rfl ?_
  intro p e R s m args below meth c C ht hname
  have loop : ∀ (j i : Nat), i + j = 10 → told = 0 → ls < x → Z g 3 0 0 p e R s m args below meth c (vx_MQ below (zQ g PR) (zX g PX) args s 0 0 (zA g)) 0 0 24 [some (.ref q), some (.int x), some (.int (nI i))] [] (zu (zu h q (evC ls mu lt lf 1)) lt (ba g 10 (fun y => if y < i then fm y else fl y))) := by
    intro j
    induction j with
    | zero =>
      intro i hi ht0 hlx
      have : i = 10 := by omega
      subst this
      refine z_iload_n C d_EV_tellLate_24 rfl rfl ?_
      refine z_bipush (v := 10) C d_EV_tellLate_25 (by decide) ?_
      refine z_icmp_ge 48 C d_EV_tellLate_27 (by decide) (fun c27 => ?_) (fun c27 => ?_)
      · have e1 : zu (zu h q (evC ls mu lt lf 1)) lt (ba g 10 (fun y => if y < 10 then fm y else fl y)) q = some (evC ls mu lt lf 1) := by rw [zu_n n2, zu_s]
        refine z_aload_n C d_EV_tellLate_48 rfl rfl ?_
        refine z_get (ci := 6) (T := T_EV) (N := 5) C d_EV_tellLate_49 3 i_EV rfl (by decide) k_664 (fun _ q => q) (by first | assumption | exact zu_s) (by rfl) ?_
        refine z_iret C d_EV_tellLate_52 ?_
        exact k2 ht0 hlx
      · exact absurd (by decide) c27
    | succ j ih =>
      intro i hi ht0 hlx
      refine z_iload_n C d_EV_tellLate_24 rfl rfl ?_
      refine z_bipush (v := 10) C d_EV_tellLate_25 (by decide) ?_
      refine z_icmp_ge 48 C d_EV_tellLate_27 (by decide) (fun c27 => ?_) (fun c27 => ?_)
      · exact absurd c27 (by rw [show (10 : Int32) = nI 10 from rfl]; exact nI_ge (by omega) (by omega))
      · have e1 : zu (zu h q (evC ls mu lt lf 1)) lt (ba g 10 (fun y => if y < i then fm y else fl y)) q = some (evC ls mu lt lf 1) := by rw [zu_n n2, zu_s]
        have e2 : zu (zu h q (evC ls mu lt lf 1)) lt (ba g 10 (fun y => if y < i then fm y else fl y)) mu = some (ba g 10 fm) := by rw [zu_n n3, zu_n n1.symm]; exact h1
        refine z_aload_n C d_EV_tellLate_30 rfl rfl ?_
        refine z_get (ci := 6) (T := T_EV) (N := 5) C d_EV_tellLate_31 2 i_EV rfl (by decide) k_662 (fun _ q => q) (by first | assumption | exact zu_s) (by rfl) ?_
        refine z_iload_n C d_EV_tellLate_34 rfl rfl ?_
        refine z_aload_n C d_EV_tellLate_35 rfl rfl ?_
        refine z_get (ci := 6) (T := T_EV) (N := 5) C d_EV_tellLate_36 1 i_EV rfl (by decide) k_660 (fun _ q => q) (by first | assumption | exact zu_s) (by rfl) ?_
        refine z_iload_n C d_EV_tellLate_39 rfl rfl ?_
        refine z_zald C d_EV_tellLate_40 e2 (vp_in_nI (by omega) (by omega)) ?_
        rw [nI_clamp (by omega)]
        have e4 := hb i
        refine z_zast C d_EV_tellLate_41 zu_s (vp_in_nI (by omega) (by omega)) (by first | rfl | assumption) ?_
        rw [zu_zu, nI_clamp (by omega)]
        have e3 : upd (fun y => if y < i then fm y else fl y) i (fm i) = (fun y => if y < i + 1 then fm y else fl y) := by
          funext y
          by_cases hy : y = i
          · subst hy; rw [pk_us, if_pos (by omega)]
          · rw [pk_un hy]
            by_cases hl : y < i
            · rw [if_pos hl, if_pos (by omega)]
            · rw [if_neg hl, if_neg (by omega)]
        rw [e3]
        refine z_iinc C d_EV_tellLate_42 rfl (by decide) rfl ?_
        simp only [List.set, zi1, zim1]
        rw [nI_1]
        refine z_goto 24 C d_EV_tellLate_45 (by decide) ?_
        exact ih (i + 1) (by omega) ht0 hlx
  refine z_aload_n C d_EV_tellLate_0 rfl rfl ?_
  refine z_get (ci := 6) (T := T_EV) (N := 5) C d_EV_tellLate_1 4 i_EV rfl (by decide) k_666 (fun _ q => q) (by first | assumption | exact zu_s) (by rfl) ?_
  have go : told = 0 → ls < x → Z g 3 0 0 p e R s m args below meth c (vx_MQ below (zQ g PR) (zX g PX) args s 0 0 (zA g)) 0 0 17 [some (.ref q), some (.int x), none] [] h := by
    intro ht0 hlx
    refine z_aload_n C d_EV_tellLate_17 rfl rfl ?_
    refine z_iconst (v := 1) C d_EV_tellLate_18 (by decide) ?_
    refine z_put (ci := 6) (T := T_EV) (N := 5) (ty := .boolean) C d_EV_tellLate_19 4 ty_EV t_EV n_EV i_EV rfl (by decide) k_666 (fun _ q => q) rfl (by decide +kernel) (by rfl) (by rfl) (by first | assumption | exact zu_s) (by exact Nat.le_of_ble_eq_true rfl) ?_
    dsimp only [List.set]
    refine z_iconst (v := 0) C d_EV_tellLate_22 (by decide) ?_
    refine z_istore_n C d_EV_tellLate_23 rfl (by decide) rfl ?_
    dsimp only [List.set]
    have e0 : zu (zu h q (evC ls mu lt lf 1)) lt (ba g 10 (fun y => if y < 0 then fm y else fl y)) = zu h q (evC ls mu lt lf 1) := by
      funext y
      by_cases hy : y = lt
      · subst hy; rw [zu_s, zu_n n2.symm, h2]; rfl
      · rw [zu_n hy]
    have := loop 10 0 (by omega) ht0 hlx
    rw [e0] at this
    exact this
  refine z_if_ne 15 C d_EV_tellLate_4 (by decide) (fun c4 => ?_) (fun c4 => ?_)
  · refine z_iconst (v := 0) C d_EV_tellLate_15 (by decide) ?_
    refine z_iret C d_EV_tellLate_16 ?_
    exact k1 (Or.inl c4)
  · refine z_iload_n C d_EV_tellLate_7 rfl rfl ?_
    refine z_aload_n C d_EV_tellLate_8 rfl rfl ?_
    refine z_get (ci := 6) (T := T_EV) (N := 5) C d_EV_tellLate_9 0 i_EV rfl (by decide) k_659 (fun _ q => q) (by first | assumption | exact zu_s) (by rfl) ?_
    refine z_icmp_gt 17 C d_EV_tellLate_12 (by decide) (fun c12 => ?_) (fun c12 => ?_)
    · exact go c4 c12
    · refine z_iconst (v := 0) C d_EV_tellLate_15 (by decide) ?_
      refine z_iret C d_EV_tellLate_16 ?_
      exact k1 (Or.inr (Int32.not_lt.mp c12))
end CE
end
section
/-! THE CLASS'S STATE, and the helpers that only read -/
abbrev PeT : Type := Int32 × Int32 × Int32
abbrev MvT : Type := Int32 × Int32 × Int32
abbrev RoT : Type := (Int32 × Int32) × (Nat × Nat × (Nat → Int32)) × (Int32 × Int32 × Int32 × Int32 × Int32 × Int32 × Int32)
abbrev DcT : Type := Int32 × Int32 × Int32 × Int32
abbrev MdT : Type := Int32 × Int32 × Int32 × Int32 × Int32
abbrev EvT : Type := Int32 × (Nat × Nat × (Nat → Int32) × (Nat → Int32)) × (Int32 × Int32)
abbrev peE (x : PeT) : va_E := peC x.1 x.2.1 x.2.2
abbrev mvE (x : MvT) : va_E := mvC x.1 x.2.1 x.2.2
abbrev roE (r : RoT) : va_E := roC r.1.1 r.1.2 r.2.1.1 r.2.2.1 r.2.2.2.1 r.2.2.2.2.1 r.2.2.2.2.2.1 r.2.2.2.2.2.2.1 r.2.2.2.2.2.2.2.1 r.2.2.2.2.2.2.2.2
abbrev dcE (x : DcT) : va_E := dcC x.1 x.2.1 x.2.2.1 x.2.2.2
abbrev mdE (x : MdT) : va_E := mdC x.1 x.2.1 x.2.2.1 x.2.2.2.1 x.2.2.2.2
abbrev evE (x : EvT) : va_E := evC x.1 x.2.1.1 x.2.1.2.1 x.2.2.1 x.2.2.2
/-- a roll's round, counters -/
abbrev RoT.rd (r : RoT) : Int32 := r.2.2.1
abbrev RoT.ct (r : RoT) : Nat := r.2.1.1
abbrev RoT.n (r : RoT) : Nat := r.2.1.2.1
abbrev RoT.f (r : RoT) : Nat → Int32 := r.2.1.2.2
abbrev MdT.op (x : MdT) : Int32 := x.2.2.2.1
abbrev MdT.tm (x : MdT) : Int32 := x.2.2.2.2
abbrev xIAE : String := "java/lang/IllegalArgumentException"
abbrev xIOB : String := "java/lang/IndexOutOfBoundsException"
abbrev xISE : String := "java/lang/IllegalStateException"
abbrev xUOE : String := "java/lang/UnsupportedOperationException"
theorem zLS.atm {g : zG} {T : Tg} {h : Hp} {kd a : Nat} {L : List Nat} {α : Type} {l : List α} {f : α → va_E} (hL : zLS g T h kd a L (l.map f)) {i : Nat} {e : α} (he : l[i]? = some e) : ∃ y, L[i]? = some y ∧ h y = some (f e) ∧ T y = (kd, 2 + i) := hL.at (by rw [List.getElem?_map, he]; rfl)
theorem zdrop {α : Type} {l : List α} {k : Nat} (hk : k < l.length) : ∃ e, l[k]? = some e ∧ l.drop k = e :: l.drop (k + 1) := ⟨l[k], List.getElem?_eq_getElem hk, List.drop_eq_getElem_cons hk⟩
section RH
variable {g : zG} {T : Tg} {h : Hp} {PR : Option Value → Hp → Prop} {PX : String → Hp → Prop} {x gu lp lm lr ld ly le : Nat} {sec : Int32} {LP LM LR LD LY LE : List Nat}

set_option maxRecDepth 100000 in
theorem ct_RC_knownPerson {l : List PeT} {i : Int32} (hx : h x = some (rcC gu lp lm lr ld ly le sec)) (hL : zLS g T h 1 lp LP (l.map peE)) (kx : (i < 0 ∨ nI l.length ≤ i) → PX xIAE h) (k : ∀ (j y : Nat) (e : PeT), i = nI j → l[j]? = some e → LP[j]? = some y → h y = some (peE e) → T y = (1, 2 + j) → PR (some (.ref y)) h) : Ct g y_RC_knownPerson w_RC_knownPerson 6 1 6 [.ref x, .int i] h PR PX := by
  have hlt := hL.lt
  rw [List.length_map] at hlt
  obtain ⟨vs, hvs⟩ := hL.obj
  refine Ct_intro (cc := c_RC_knownPerson) (nL := 2) (ret := (some (FieldType.object "RollCalls$Person"))) (ls := [some (.ref x), some (.int i)]) (by decide) (Nat.le_of_ble_eq_true rfl) rfl rfl ?_
  intro p e R s m args below meth c C ht hname
  refine z_iload_n C d_RC_knownPerson_0 rfl rfl ?_
  refine z_if_lt 15 C d_RC_knownPerson_1 (by decide) (fun c1 => ?_) (fun c1 => ?_)
  · refine z_throwS (text := "no such person") (cls := "java/lang/IllegalArgumentException") C ht d_RC_knownPerson_15 d_RC_knownPerson_18 d_RC_knownPerson_19 d_RC_knownPerson_21 d_RC_knownPerson_24 (by decide +kernel) k_258 k_15 (by decide +kernel) (tho_IAE C) thg_IAE (by decide) (Nat.le_of_ble_eq_true rfl) (by first | decide | omega) (by first | decide | omega) ?_
    exact kx (Or.inl c1)
  · refine z_iload_n C d_RC_knownPerson_4 rfl rfl ?_
    refine z_aload_n C d_RC_knownPerson_5 rfl rfl ?_
    refine z_get (ci := 7) (T := T_RC) (N := 8) C d_RC_knownPerson_6 1 i_RC rfl (by decide) k_61 (fun _ q => q) (by first | assumption | exact zu_s) (by rfl) ?_
    refine z_callV (n := 0) (As := []) (rest := [.int i]) (r1 := 1) (mc1 := 0) (ms1 := 0) (ci := 0) (T0 := T_AL) C d_RC_knownPerson_9 k_96 k_93 k_94 k_95 k_4 (by decide +kernel) rfl rfl (by first | assumption | exact zu_s) (by decide) (by decide) (Nat.le_of_ble_eq_true rfl) (by first | decide | omega) (by first | decide | omega) rfl ?_
    refine cl_size hL ?_
    dsimp only [zps]
    rw [List.length_map]
    refine z_icmp_lt 25 C d_RC_knownPerson_12 (by decide) (fun c12 => ?_) (fun c12 => ?_)
    · obtain ⟨j, hj, rfl, -⟩ := pk_mu c1 (Int32.not_le.mpr c12) (by omega)
      obtain ⟨e, he⟩ : ∃ e, l[j]? = some e := ⟨_, List.getElem?_eq_getElem hj⟩
      obtain ⟨y, hy, hye, hyT⟩ := hL.atm he
      refine z_aload_n C d_RC_knownPerson_25 rfl rfl ?_
      refine z_get (ci := 7) (T := T_RC) (N := 8) C d_RC_knownPerson_26 1 i_RC rfl (by decide) k_61 (fun _ q => q) (by first | assumption | exact zu_s) (by rfl) ?_
      refine z_iload_n C d_RC_knownPerson_29 rfl rfl ?_
      refine z_callV (n := 1) (As := [.int (nI j)]) (rest := []) (r1 := 3) (mc1 := 0) (ms1 := 0) (ci := 0) (T0 := T_AL) C d_RC_knownPerson_30 k_277 k_274 k_275 k_276 k_4 (by decide +kernel) rfl rfl (by first | assumption | exact zu_s) (by decide) (by decide) (Nat.le_of_ble_eq_true rfl) (by first | decide | omega) (by first | decide | omega) rfl ?_
      refine cl_get hL hy ?_
      dsimp only [zps]
      refine z_cast (ci := 1) C d_RC_knownPerson_33 rfl k_166 hye ?_
      refine z_aret C d_RC_knownPerson_36 (by first | exact Or.inl ⟨_, rfl⟩ | exact Or.inr ⟨_, rfl⟩) ?_
      exact k j y e rfl he hy hye hyT
    · refine z_throwS (text := "no such person") (cls := "java/lang/IllegalArgumentException") C ht d_RC_knownPerson_15 d_RC_knownPerson_18 d_RC_knownPerson_19 d_RC_knownPerson_21 d_RC_knownPerson_24 (by decide +kernel) k_258 k_15 (by decide +kernel) (tho_IAE C) thg_IAE (by decide) (Nat.le_of_ble_eq_true rfl) (by first | decide | omega) (by first | decide | omega) ?_
      exact kx (Or.inr (Int32.not_lt.mp c12))
set_option maxRecDepth 100000 in
theorem ct_RC_knownRoll {l : List RoT} {i : Int32} (hx : h x = some (rcC gu lp lm lr ld ly le sec)) (hL : zLS g T h 3 lr LR (l.map roE)) (kx : (i < 0 ∨ nI l.length ≤ i) → PX xIAE h) (k : ∀ (j y : Nat) (e : RoT), i = nI j → l[j]? = some e → LR[j]? = some y → h y = some (roE e) → T y = (3, 2 + j) → PR (some (.ref y)) h) : Ct g y_RC_knownRoll w_RC_knownRoll 6 1 6 [.ref x, .int i] h PR PX := by
  have hlt := hL.lt
  rw [List.length_map] at hlt
  obtain ⟨vs, hvs⟩ := hL.obj
  refine Ct_intro (cc := c_RC_knownRoll) (nL := 2) (ret := (some (FieldType.object "RollCalls$Roll"))) (ls := [some (.ref x), some (.int i)]) (by decide) (Nat.le_of_ble_eq_true rfl) rfl rfl ?_
  intro p e R s m args below meth c C ht hname
  refine z_iload_n C d_RC_knownRoll_0 rfl rfl ?_
  refine z_if_lt 15 C d_RC_knownRoll_1 (by decide) (fun c1 => ?_) (fun c1 => ?_)
  · refine z_throwS (text := "no such roll") (cls := "java/lang/IllegalArgumentException") C ht d_RC_knownRoll_15 d_RC_knownRoll_18 d_RC_knownRoll_19 d_RC_knownRoll_21 d_RC_knownRoll_24 (by decide +kernel) k_258 k_15 (by decide +kernel) (tho_IAE C) thg_IAE (by decide) (Nat.le_of_ble_eq_true rfl) (by first | decide | omega) (by first | decide | omega) ?_
    exact kx (Or.inl c1)
  · refine z_iload_n C d_RC_knownRoll_4 rfl rfl ?_
    refine z_aload_n C d_RC_knownRoll_5 rfl rfl ?_
    refine z_get (ci := 7) (T := T_RC) (N := 8) C d_RC_knownRoll_6 3 i_RC rfl (by decide) k_63 (fun _ q => q) (by first | assumption | exact zu_s) (by rfl) ?_
    refine z_callV (n := 0) (As := []) (rest := [.int i]) (r1 := 1) (mc1 := 0) (ms1 := 0) (ci := 0) (T0 := T_AL) C d_RC_knownRoll_9 k_96 k_93 k_94 k_95 k_4 (by decide +kernel) rfl rfl (by first | assumption | exact zu_s) (by decide) (by decide) (Nat.le_of_ble_eq_true rfl) (by first | decide | omega) (by first | decide | omega) rfl ?_
    refine cl_size hL ?_
    dsimp only [zps]
    rw [List.length_map]
    refine z_icmp_lt 25 C d_RC_knownRoll_12 (by decide) (fun c12 => ?_) (fun c12 => ?_)
    · obtain ⟨j, hj, rfl, -⟩ := pk_mu c1 (Int32.not_le.mpr c12) (by omega)
      obtain ⟨e, he⟩ : ∃ e, l[j]? = some e := ⟨_, List.getElem?_eq_getElem hj⟩
      obtain ⟨y, hy, hye, hyT⟩ := hL.atm he
      refine z_aload_n C d_RC_knownRoll_25 rfl rfl ?_
      refine z_get (ci := 7) (T := T_RC) (N := 8) C d_RC_knownRoll_26 3 i_RC rfl (by decide) k_63 (fun _ q => q) (by first | assumption | exact zu_s) (by rfl) ?_
      refine z_iload_n C d_RC_knownRoll_29 rfl rfl ?_
      refine z_callV (n := 1) (As := [.int (nI j)]) (rest := []) (r1 := 3) (mc1 := 0) (ms1 := 0) (ci := 0) (T0 := T_AL) C d_RC_knownRoll_30 k_277 k_274 k_275 k_276 k_4 (by decide +kernel) rfl rfl (by first | assumption | exact zu_s) (by decide) (by decide) (Nat.le_of_ble_eq_true rfl) (by first | decide | omega) (by first | decide | omega) rfl ?_
      refine cl_get hL hy ?_
      dsimp only [zps]
      refine z_cast (ci := 3) C d_RC_knownRoll_33 rfl k_375 hye ?_
      refine z_aret C d_RC_knownRoll_36 (by first | exact Or.inl ⟨_, rfl⟩ | exact Or.inr ⟨_, rfl⟩) ?_
      exact k j y e rfl he hy hye hyT
    · refine z_throwS (text := "no such roll") (cls := "java/lang/IllegalArgumentException") C ht d_RC_knownRoll_15 d_RC_knownRoll_18 d_RC_knownRoll_19 d_RC_knownRoll_21 d_RC_knownRoll_24 (by decide +kernel) k_258 k_15 (by decide +kernel) (tho_IAE C) thg_IAE (by decide) (Nat.le_of_ble_eq_true rfl) (by first | decide | omega) (by first | decide | omega) ?_
      exact kx (Or.inr (Int32.not_lt.mp c12))
set_option maxRecDepth 100000 in
theorem ct_RC_knownMayday {l : List MdT} {i : Int32} (hx : h x = some (rcC gu lp lm lr ld ly le sec)) (hL : zLS g T h 5 ly LY (l.map mdE)) (kx : (i < 0 ∨ nI l.length ≤ i) → PX xIAE h) (k : ∀ (j y : Nat) (e : MdT), i = nI j → l[j]? = some e → LY[j]? = some y → h y = some (mdE e) → T y = (5, 2 + j) → PR (some (.ref y)) h) : Ct g y_RC_knownMayday w_RC_knownMayday 6 1 6 [.ref x, .int i] h PR PX := by
  have hlt := hL.lt
  rw [List.length_map] at hlt
  obtain ⟨vs, hvs⟩ := hL.obj
  refine Ct_intro (cc := c_RC_knownMayday) (nL := 2) (ret := (some (FieldType.object "RollCalls$Mayday"))) (ls := [some (.ref x), some (.int i)]) (by decide) (Nat.le_of_ble_eq_true rfl) rfl rfl ?_
  intro p e R s m args below meth c C ht hname
  refine z_iload_n C d_RC_knownMayday_0 rfl rfl ?_
  refine z_if_lt 15 C d_RC_knownMayday_1 (by decide) (fun c1 => ?_) (fun c1 => ?_)
  · refine z_throwSW (text := "no such mayday") (cls := "java/lang/IllegalArgumentException") C ht d_RC_knownMayday_15 d_RC_knownMayday_18 d_RC_knownMayday_19 d_RC_knownMayday_22 d_RC_knownMayday_25 (by decide +kernel) k_258 k_15 (by decide +kernel) (tho_IAE C) thg_IAE (by decide) (Nat.le_of_ble_eq_true rfl) (by first | decide | omega) (by first | decide | omega) ?_
    exact kx (Or.inl c1)
  · refine z_iload_n C d_RC_knownMayday_4 rfl rfl ?_
    refine z_aload_n C d_RC_knownMayday_5 rfl rfl ?_
    refine z_get (ci := 7) (T := T_RC) (N := 8) C d_RC_knownMayday_6 5 i_RC rfl (by decide) k_65 (fun _ q => q) (by first | assumption | exact zu_s) (by rfl) ?_
    refine z_callV (n := 0) (As := []) (rest := [.int i]) (r1 := 1) (mc1 := 0) (ms1 := 0) (ci := 0) (T0 := T_AL) C d_RC_knownMayday_9 k_96 k_93 k_94 k_95 k_4 (by decide +kernel) rfl rfl (by first | assumption | exact zu_s) (by decide) (by decide) (Nat.le_of_ble_eq_true rfl) (by first | decide | omega) (by first | decide | omega) rfl ?_
    refine cl_size hL ?_
    dsimp only [zps]
    rw [List.length_map]
    refine z_icmp_lt 26 C d_RC_knownMayday_12 (by decide) (fun c12 => ?_) (fun c12 => ?_)
    · obtain ⟨j, hj, rfl, -⟩ := pk_mu c1 (Int32.not_le.mpr c12) (by omega)
      obtain ⟨e, he⟩ : ∃ e, l[j]? = some e := ⟨_, List.getElem?_eq_getElem hj⟩
      obtain ⟨y, hy, hye, hyT⟩ := hL.atm he
      refine z_aload_n C d_RC_knownMayday_26 rfl rfl ?_
      refine z_get (ci := 7) (T := T_RC) (N := 8) C d_RC_knownMayday_27 5 i_RC rfl (by decide) k_65 (fun _ q => q) (by first | assumption | exact zu_s) (by rfl) ?_
      refine z_iload_n C d_RC_knownMayday_30 rfl rfl ?_
      refine z_callV (n := 1) (As := [.int (nI j)]) (rest := []) (r1 := 3) (mc1 := 0) (ms1 := 0) (ci := 0) (T0 := T_AL) C d_RC_knownMayday_31 k_277 k_274 k_275 k_276 k_4 (by decide +kernel) rfl rfl (by first | assumption | exact zu_s) (by decide) (by decide) (Nat.le_of_ble_eq_true rfl) (by first | decide | omega) (by first | decide | omega) rfl ?_
      refine cl_get hL hy ?_
      dsimp only [zps]
      refine z_cast (ci := 5) C d_RC_knownMayday_34 rfl k_388 hye ?_
      refine z_aret C d_RC_knownMayday_37 (by first | exact Or.inl ⟨_, rfl⟩ | exact Or.inr ⟨_, rfl⟩) ?_
      exact k j y e rfl he hy hye hyT
    · refine z_throwSW (text := "no such mayday") (cls := "java/lang/IllegalArgumentException") C ht d_RC_knownMayday_15 d_RC_knownMayday_18 d_RC_knownMayday_19 d_RC_knownMayday_22 d_RC_knownMayday_25 (by decide +kernel) k_258 k_15 (by decide +kernel) (tho_IAE C) thg_IAE (by decide) (Nat.le_of_ble_eq_true rfl) (by first | decide | omega) (by first | decide | omega) ?_
      exact kx (Or.inr (Int32.not_lt.mp c12))
set_option maxRecDepth 100000 in
theorem ct_RC_knownEvacuation {l : List EvT} {i : Int32} (hx : h x = some (rcC gu lp lm lr ld ly le sec)) (hL : zLS g T h 6 le LE (l.map evE)) (kx : (i < 0 ∨ nI l.length ≤ i) → PX xIAE h) (k : ∀ (j y : Nat) (e : EvT), i = nI j → l[j]? = some e → LE[j]? = some y → h y = some (evE e) → T y = (6, 2 + j) → PR (some (.ref y)) h) : Ct g y_RC_knownEvacuation w_RC_knownEvacuation 6 1 6 [.ref x, .int i] h PR PX := by
  have hlt := hL.lt
  rw [List.length_map] at hlt
  obtain ⟨vs, hvs⟩ := hL.obj
  refine Ct_intro (cc := c_RC_knownEvacuation) (nL := 2) (ret := (some (FieldType.object "RollCalls$Evacuation"))) (ls := [some (.ref x), some (.int i)]) (by decide) (Nat.le_of_ble_eq_true rfl) rfl rfl ?_
  intro p e R s m args below meth c C ht hname
  refine z_iload_n C d_RC_knownEvacuation_0 rfl rfl ?_
  refine z_if_lt 15 C d_RC_knownEvacuation_1 (by decide) (fun c1 => ?_) (fun c1 => ?_)
  · refine z_throwSW (text := "no such evacuation") (cls := "java/lang/IllegalArgumentException") C ht d_RC_knownEvacuation_15 d_RC_knownEvacuation_18 d_RC_knownEvacuation_19 d_RC_knownEvacuation_22 d_RC_knownEvacuation_25 (by decide +kernel) k_258 k_15 (by decide +kernel) (tho_IAE C) thg_IAE (by decide) (Nat.le_of_ble_eq_true rfl) (by first | decide | omega) (by first | decide | omega) ?_
    exact kx (Or.inl c1)
  · refine z_iload_n C d_RC_knownEvacuation_4 rfl rfl ?_
    refine z_aload_n C d_RC_knownEvacuation_5 rfl rfl ?_
    refine z_get (ci := 7) (T := T_RC) (N := 8) C d_RC_knownEvacuation_6 6 i_RC rfl (by decide) k_66 (fun _ q => q) (by first | assumption | exact zu_s) (by rfl) ?_
    refine z_callV (n := 0) (As := []) (rest := [.int i]) (r1 := 1) (mc1 := 0) (ms1 := 0) (ci := 0) (T0 := T_AL) C d_RC_knownEvacuation_9 k_96 k_93 k_94 k_95 k_4 (by decide +kernel) rfl rfl (by first | assumption | exact zu_s) (by decide) (by decide) (Nat.le_of_ble_eq_true rfl) (by first | decide | omega) (by first | decide | omega) rfl ?_
    refine cl_size hL ?_
    dsimp only [zps]
    rw [List.length_map]
    refine z_icmp_lt 26 C d_RC_knownEvacuation_12 (by decide) (fun c12 => ?_) (fun c12 => ?_)
    · obtain ⟨j, hj, rfl, -⟩ := pk_mu c1 (Int32.not_le.mpr c12) (by omega)
      obtain ⟨e, he⟩ : ∃ e, l[j]? = some e := ⟨_, List.getElem?_eq_getElem hj⟩
      obtain ⟨y, hy, hye, hyT⟩ := hL.atm he
      refine z_aload_n C d_RC_knownEvacuation_26 rfl rfl ?_
      refine z_get (ci := 7) (T := T_RC) (N := 8) C d_RC_knownEvacuation_27 6 i_RC rfl (by decide) k_66 (fun _ q => q) (by first | assumption | exact zu_s) (by rfl) ?_
      refine z_iload_n C d_RC_knownEvacuation_30 rfl rfl ?_
      refine z_callV (n := 1) (As := [.int (nI j)]) (rest := []) (r1 := 3) (mc1 := 0) (ms1 := 0) (ci := 0) (T0 := T_AL) C d_RC_knownEvacuation_31 k_277 k_274 k_275 k_276 k_4 (by decide +kernel) rfl rfl (by first | assumption | exact zu_s) (by decide) (by decide) (Nat.le_of_ble_eq_true rfl) (by first | decide | omega) (by first | decide | omega) rfl ?_
      refine cl_get hL hy ?_
      dsimp only [zps]
      refine z_cast (ci := 6) C d_RC_knownEvacuation_34 rfl k_652 hye ?_
      refine z_aret C d_RC_knownEvacuation_37 (by first | exact Or.inl ⟨_, rfl⟩ | exact Or.inr ⟨_, rfl⟩) ?_
      exact k j y e rfl he hy hye hyT
    · refine z_throwSW (text := "no such evacuation") (cls := "java/lang/IllegalArgumentException") C ht d_RC_knownEvacuation_15 d_RC_knownEvacuation_18 d_RC_knownEvacuation_19 d_RC_knownEvacuation_22 d_RC_knownEvacuation_25 (by decide +kernel) k_258 k_15 (by decide +kernel) (tho_IAE C) thg_IAE (by decide) (Nat.le_of_ble_eq_true rfl) (by first | decide | omega) (by first | decide | omega) ?_
      exact kx (Or.inr (Int32.not_lt.mp c12))
set_option maxRecDepth 100000 in
theorem ct_RC_checkSector {i : Int32} (kx : (i < 0 ∨ 10 ≤ i) → PX xIAE h) (k : ¬ i < 0 → i < 10 → PR none h) : Ct g y_RC_checkSector w_RC_checkSector 6 1 6 [.int i] h PR PX := by
  refine Ct_intro (cc := c_RC_checkSector) (nL := 1) (ret := none) (ls := [some (.int i)]) (by decide) (Nat.le_of_ble_eq_true rfl) rfl rfl ?_
  intro p e R s m args below meth c C ht hname
  refine z_iload_n C d_RC_checkSector_0 rfl rfl ?_
  refine z_if_lt 10 C d_RC_checkSector_1 (by decide) (fun c1 => ?_) (fun c1 => ?_)
  · refine z_throwS (text := "no such sector") (cls := "java/lang/IllegalArgumentException") C ht d_RC_checkSector_10 d_RC_checkSector_13 d_RC_checkSector_14 d_RC_checkSector_16 d_RC_checkSector_19 (by decide +kernel) k_258 k_15 (by decide +kernel) (tho_IAE C) thg_IAE (by decide) (Nat.le_of_ble_eq_true rfl) (by first | decide | omega) (by first | decide | omega) ?_
    exact kx (Or.inl c1)
  · refine z_iload_n C d_RC_checkSector_4 rfl rfl ?_
    refine z_bipush (v := 10) C d_RC_checkSector_5 (by decide) ?_
    refine z_icmp_lt 20 C d_RC_checkSector_7 (by decide) (fun c7 => ?_) (fun c7 => ?_)
    · refine z_vret C d_RC_checkSector_20 ?_
      exact k c1 c7
    · refine z_throwS (text := "no such sector") (cls := "java/lang/IllegalArgumentException") C ht d_RC_checkSector_10 d_RC_checkSector_13 d_RC_checkSector_14 d_RC_checkSector_16 d_RC_checkSector_19 (by decide +kernel) k_258 k_15 (by decide +kernel) (tho_IAE C) thg_IAE (by decide) (Nat.le_of_ble_eq_true rfl) (by first | decide | omega) (by first | decide | omega) ?_
      exact kx (Or.inr (Int32.not_lt.mp c7))
set_option maxRecDepth 100000 in
theorem ct_RC_checkIsOn {q : Nat} {r : RoT} (h0 : h q = some (roE r)) (kx : ¬ r.rd < 3 → PX xISE h) (k : r.rd < 3 → PR none h) : Ct g y_RC_checkIsOn w_RC_checkIsOn 6 1 6 [.ref q] h PR PX := by
  refine Ct_intro (cc := c_RC_checkIsOn) (nL := 1) (ret := none) (ls := [some (.ref q)]) (by decide) (Nat.le_of_ble_eq_true rfl) rfl rfl ?_
  intro p e R s m args below meth c C ht hname
  refine z_aload_n C d_RC_checkIsOn_0 rfl rfl ?_
  refine z_callV (n := 0) (As := []) (rest := []) (r1 := 1) (mc1 := 0) (ms1 := 0) (ci := 3) (T0 := T_RO) C d_RC_checkIsOn_1 k_379 k_376 k_377 k_378 k_21 (by decide +kernel) rfl rfl (by first | assumption | exact zu_s) (by decide) (by decide) (Nat.le_of_ble_eq_true rfl) (by first | decide | omega) (by first | decide | omega) rfl ?_
  refine ct_RO_isOver h0 ?_
  dsimp only [zps]
  by_cases hr : r.rd < 3
  · rw [if_pos hr]
    refine z_if_eq 17 C d_RC_checkIsOn_4 (by decide) (fun c4 => ?_) (fun c4 => ?_)
    · refine z_vret C d_RC_checkIsOn_17 ?_
      exact k hr
    · exact absurd rfl c4
  · rw [if_neg hr]
    refine z_if_eq 17 C d_RC_checkIsOn_4 (by decide) (fun c4 => ?_) (fun c4 => ?_)
    · exact absurd c4 (by decide)
    · refine z_throwS (text := "the roll is over") (cls := "java/lang/IllegalStateException") C ht d_RC_checkIsOn_7 d_RC_checkIsOn_10 d_RC_checkIsOn_11 d_RC_checkIsOn_13 d_RC_checkIsOn_16 (by decide +kernel) k_292 k_18 (by decide +kernel) (tho_ISE C) thg_ISE (by decide) (Nat.le_of_ble_eq_true rfl) (by first | decide | omega) (by first | decide | omega) ?_
      exact kx hr
set_option maxRecDepth 100000 in
theorem ct_RC_openMaydays {l : List MdT} (hx : h x = some (rcC gu lp lm lr ld ly le sec)) (hL : zLS g T h 5 ly LY (l.map mdE)) (k : PR (some (.int (nI (l.countP (fun e => e.op ≠ 0))))) h) : Ct g y_RC_openMaydays w_RC_openMaydays 4 0 0 [.ref x] h PR PX := by
  have hlt := hL.lt
  rw [List.length_map] at hlt
  obtain ⟨vs, hvs⟩ := hL.obj
  refine Ct_intro (cc := c_RC_openMaydays) (nL := 3) (ret := (some FieldType.int)) (ls := [some (.ref x), none, none]) (by decide) (Nat.le_of_ble_eq_true rfl) rfl rfl ?_
  intro p e R s m args below meth c C ht hname
  have loop : ∀ (j i acc : Nat), i + j = l.length → PR (some (.int (nI (acc + (l.drop i).countP (fun e => e.op ≠ 0))))) h → Z g 3 0 0 p e R s m args below meth c (vx_MQ below (zQ g PR) (zX g PX) args s 0 0 (zA g)) 0 0 4 [some (.ref x), some (.int (nI acc)), some (.int (nI i))] [] h := by
    intro j
    induction j with
    | zero =>
      intro i acc hi hp
      have : i = l.length := by omega
      subst this
      rw [List.drop_length] at hp
      refine z_iload_n C d_RC_openMaydays_4 rfl rfl ?_
      refine z_aload_n C d_RC_openMaydays_5 rfl rfl ?_
      refine z_get (ci := 7) (T := T_RC) (N := 8) C d_RC_openMaydays_6 5 i_RC rfl (by decide) k_65 (fun _ q => q) (by first | assumption | exact zu_s) (by rfl) ?_
      refine z_callV (n := 0) (As := []) (rest := [.int (nI l.length)]) (r1 := 1) (mc1 := 0) (ms1 := 0) (ci := 0) (T0 := T_AL) C d_RC_openMaydays_9 k_96 k_93 k_94 k_95 k_4 (by decide +kernel) rfl rfl (by first | assumption | exact zu_s) (by decide) (by decide) (Nat.le_of_ble_eq_true rfl) (by first | decide | omega) (by first | decide | omega) rfl ?_
      refine cl_size hL ?_
      dsimp only [zps]
      rw [List.length_map]
      refine z_icmp_ge 41 C d_RC_openMaydays_12 (by decide) (fun c12 => ?_) (fun c12 => ?_)
      · refine z_iload_n C d_RC_openMaydays_41 rfl rfl ?_
        refine z_iret C d_RC_openMaydays_42 ?_
        exact hp
      · exact absurd (Int32.le_refl _) c12
    | succ j ih =>
      intro i acc hi hp
      obtain ⟨e0, he, hd⟩ := zdrop (l := l) (k := i) (by omega)
      rw [hd, List.countP_cons] at hp
      obtain ⟨y, hy, hye, hyT⟩ := hL.atm he
      refine z_iload_n C d_RC_openMaydays_4 rfl rfl ?_
      refine z_aload_n C d_RC_openMaydays_5 rfl rfl ?_
      refine z_get (ci := 7) (T := T_RC) (N := 8) C d_RC_openMaydays_6 5 i_RC rfl (by decide) k_65 (fun _ q => q) (by first | assumption | exact zu_s) (by rfl) ?_
      refine z_callV (n := 0) (As := []) (rest := [.int (nI i)]) (r1 := 1) (mc1 := 0) (ms1 := 0) (ci := 0) (T0 := T_AL) C d_RC_openMaydays_9 k_96 k_93 k_94 k_95 k_4 (by decide +kernel) rfl rfl (by first | assumption | exact zu_s) (by decide) (by decide) (Nat.le_of_ble_eq_true rfl) (by first | decide | omega) (by first | decide | omega) rfl ?_
      refine cl_size hL ?_
      dsimp only [zps]
      rw [List.length_map]
      refine z_icmp_ge 41 C d_RC_openMaydays_12 (by decide) (fun c12 => ?_) (fun c12 => ?_)
      · exact absurd c12 (nI_ge (by omega) (by omega))
      · refine z_aload_n C d_RC_openMaydays_15 rfl rfl ?_
        refine z_get (ci := 7) (T := T_RC) (N := 8) C d_RC_openMaydays_16 5 i_RC rfl (by decide) k_65 (fun _ q => q) (by first | assumption | exact zu_s) (by rfl) ?_
        refine z_iload_n C d_RC_openMaydays_19 rfl rfl ?_
        refine z_callV (n := 1) (As := [.int (nI i)]) (rest := []) (r1 := 3) (mc1 := 0) (ms1 := 0) (ci := 0) (T0 := T_AL) C d_RC_openMaydays_20 k_277 k_274 k_275 k_276 k_4 (by decide +kernel) rfl rfl (by first | assumption | exact zu_s) (by decide) (by decide) (Nat.le_of_ble_eq_true rfl) (by first | decide | omega) (by first | decide | omega) rfl ?_
        refine cl_get hL hy ?_
        dsimp only [zps]
        refine z_cast (ci := 5) C d_RC_openMaydays_23 rfl k_388 hye ?_
        refine z_get (ci := 5) (T := T_MD) (N := 5) C d_RC_openMaydays_26 3 i_MD rfl (by decide) k_593 (fun _ q => q) hye (by rfl) ?_
        refine z_if_eq 35 C d_RC_openMaydays_29 (by decide) (fun c29 => ?_) (fun c29 => ?_)
        · refine z_iinc C d_RC_openMaydays_35 rfl (by decide) rfl ?_
          simp only [List.set, zi1, zim1]
          rw [nI_1]
          refine z_goto 4 C d_RC_openMaydays_38 (by decide) ?_
          refine ih (i + 1) acc (by omega) ?_
          rw [if_neg (by simpa using c29)] at hp
          exact hp
        · refine z_iinc C d_RC_openMaydays_32 rfl (by decide) rfl ?_
          simp only [List.set, zi1, zim1]
          refine z_iinc C d_RC_openMaydays_35 rfl (by decide) rfl ?_
          simp only [List.set, zi1, zim1]
          rw [nI_1, nI_1]
          refine z_goto 4 C d_RC_openMaydays_38 (by decide) ?_
          refine ih (i + 1) (acc + 1) (by omega) ?_
          rw [if_pos (by simpa using c29)] at hp
          rw [show acc + 1 + (l.drop (i + 1)).countP (fun e => e.op ≠ 0) = acc + ((l.drop (i + 1)).countP (fun e => e.op ≠ 0) + 1) by omega]
          exact hp
  refine z_iconst (v := 0) C d_RC_openMaydays_0 (by decide) ?_
  refine z_istore_n C d_RC_openMaydays_1 rfl (by decide) rfl ?_
  dsimp only [List.set]
  refine z_iconst (v := 0) C d_RC_openMaydays_2 (by decide) ?_
  refine z_istore_n C d_RC_openMaydays_3 rfl (by decide) rfl ?_
  dsimp only [List.set]
  exact loop l.length 0 0 (by omega) (by simpa using k)
set_option maxRecDepth 100000 in
theorem ct_RC_personsInside {l : List PeT} (hx : h x = some (rcC gu lp lm lr ld ly le sec)) (hL : zLS g T h 1 lp LP (l.map peE)) (k : PR (some (.int (nI (l.countP (fun e => e.1 ≠ -1))))) h) : Ct g y_RC_personsInside w_RC_personsInside 4 0 0 [.ref x] h PR PX := by
  have hlt := hL.lt
  rw [List.length_map] at hlt
  obtain ⟨vs, hvs⟩ := hL.obj
  refine Ct_intro (cc := c_RC_personsInside) (nL := 3) (ret := (some FieldType.int)) (ls := [some (.ref x), none, none]) (by decide) (Nat.le_of_ble_eq_true rfl) rfl rfl ?_
  intro p e R s m args below meth c C ht hname
  have loop : ∀ (j i acc : Nat), i + j = l.length → PR (some (.int (nI (acc + (l.drop i).countP (fun e => e.1 ≠ -1))))) h → Z g 3 0 0 p e R s m args below meth c (vx_MQ below (zQ g PR) (zX g PX) args s 0 0 (zA g)) 0 0 4 [some (.ref x), some (.int (nI acc)), some (.int (nI i))] [] h := by
    intro j
    induction j with
    | zero =>
      intro i acc hi hp
      have : i = l.length := by omega
      subst this
      rw [List.drop_length] at hp
      refine z_iload_n C d_RC_personsInside_4 rfl rfl ?_
      refine z_aload_n C d_RC_personsInside_5 rfl rfl ?_
      refine z_get (ci := 7) (T := T_RC) (N := 8) C d_RC_personsInside_6 1 i_RC rfl (by decide) k_61 (fun _ q => q) (by first | assumption | exact zu_s) (by rfl) ?_
      refine z_callV (n := 0) (As := []) (rest := [.int (nI l.length)]) (r1 := 1) (mc1 := 0) (ms1 := 0) (ci := 0) (T0 := T_AL) C d_RC_personsInside_9 k_96 k_93 k_94 k_95 k_4 (by decide +kernel) rfl rfl (by first | assumption | exact zu_s) (by decide) (by decide) (Nat.le_of_ble_eq_true rfl) (by first | decide | omega) (by first | decide | omega) rfl ?_
      refine cl_size hL ?_
      dsimp only [zps]
      rw [List.length_map]
      refine z_icmp_ge 42 C d_RC_personsInside_12 (by decide) (fun c12 => ?_) (fun c12 => ?_)
      · refine z_iload_n C d_RC_personsInside_42 rfl rfl ?_
        refine z_iret C d_RC_personsInside_43 ?_
        exact hp
      · exact absurd (Int32.le_refl _) c12
    | succ j ih =>
      intro i acc hi hp
      obtain ⟨e0, he, hd⟩ := zdrop (l := l) (k := i) (by omega)
      rw [hd, List.countP_cons] at hp
      obtain ⟨y, hy, hye, hyT⟩ := hL.atm he
      refine z_iload_n C d_RC_personsInside_4 rfl rfl ?_
      refine z_aload_n C d_RC_personsInside_5 rfl rfl ?_
      refine z_get (ci := 7) (T := T_RC) (N := 8) C d_RC_personsInside_6 1 i_RC rfl (by decide) k_61 (fun _ q => q) (by first | assumption | exact zu_s) (by rfl) ?_
      refine z_callV (n := 0) (As := []) (rest := [.int (nI i)]) (r1 := 1) (mc1 := 0) (ms1 := 0) (ci := 0) (T0 := T_AL) C d_RC_personsInside_9 k_96 k_93 k_94 k_95 k_4 (by decide +kernel) rfl rfl (by first | assumption | exact zu_s) (by decide) (by decide) (Nat.le_of_ble_eq_true rfl) (by first | decide | omega) (by first | decide | omega) rfl ?_
      refine cl_size hL ?_
      dsimp only [zps]
      rw [List.length_map]
      refine z_icmp_ge 42 C d_RC_personsInside_12 (by decide) (fun c12 => ?_) (fun c12 => ?_)
      · exact absurd c12 (nI_ge (by omega) (by omega))
      · refine z_aload_n C d_RC_personsInside_15 rfl rfl ?_
        refine z_get (ci := 7) (T := T_RC) (N := 8) C d_RC_personsInside_16 1 i_RC rfl (by decide) k_61 (fun _ q => q) (by first | assumption | exact zu_s) (by rfl) ?_
        refine z_iload_n C d_RC_personsInside_19 rfl rfl ?_
        refine z_callV (n := 1) (As := [.int (nI i)]) (rest := []) (r1 := 3) (mc1 := 0) (ms1 := 0) (ci := 0) (T0 := T_AL) C d_RC_personsInside_20 k_277 k_274 k_275 k_276 k_4 (by decide +kernel) rfl rfl (by first | assumption | exact zu_s) (by decide) (by decide) (Nat.le_of_ble_eq_true rfl) (by first | decide | omega) (by first | decide | omega) rfl ?_
        refine cl_get hL hy ?_
        dsimp only [zps]
        refine z_cast (ci := 1) C d_RC_personsInside_23 rfl k_166 hye ?_
        refine z_get (ci := 1) (T := T_PE) (N := 3) C d_RC_personsInside_26 0 i_PE rfl (by decide) k_173 (fun _ q => q) hye (by rfl) ?_
        refine z_iconst (v := (-1)) C d_RC_personsInside_29 (by decide) ?_
        refine z_icmp_eq 36 C d_RC_personsInside_30 (by decide) (fun c30 => ?_) (fun c30 => ?_)
        · refine z_iinc C d_RC_personsInside_36 rfl (by decide) rfl ?_
          simp only [List.set, zi1, zim1]
          rw [nI_1]
          refine z_goto 4 C d_RC_personsInside_39 (by decide) ?_
          refine ih (i + 1) acc (by omega) ?_
          rw [if_neg (by simpa using c30)] at hp
          exact hp
        · refine z_iinc C d_RC_personsInside_33 rfl (by decide) rfl ?_
          simp only [List.set, zi1, zim1]
          refine z_iinc C d_RC_personsInside_36 rfl (by decide) rfl ?_
          simp only [List.set, zi1, zim1]
          rw [nI_1, nI_1]
          refine z_goto 4 C d_RC_personsInside_39 (by decide) ?_
          refine ih (i + 1) (acc + 1) (by omega) ?_
          rw [if_pos (by simpa using c30)] at hp
          rw [show acc + 1 + (l.drop (i + 1)).countP (fun e => e.1 ≠ -1) = acc + ((l.drop (i + 1)).countP (fun e => e.1 ≠ -1) + 1) by omega]
          exact hp
  refine z_iconst (v := 0) C d_RC_personsInside_0 (by decide) ?_
  refine z_istore_n C d_RC_personsInside_1 rfl (by decide) rfl ?_
  dsimp only [List.set]
  refine z_iconst (v := 0) C d_RC_personsInside_2 (by decide) ?_
  refine z_istore_n C d_RC_personsInside_3 rfl (by decide) rfl ?_
  dsimp only [List.set]
  exact loop l.length 0 0 (by omega) (by simpa using k)
end RH
end
section
/-! more helpers of the class that only read -/
section RI
variable {g : zG} {T : Tg} {h : Hp} {PR : Option Value → Hp → Prop} {PX : String → Hp → Prop} {x gu lp lm lr ld ly le : Nat} {sec : Int32} {LP LM LR LD LY LE : List Nat}

set_option maxRecDepth 100000 in
theorem ct_RC_isSomebodyIn {l : List PeT} {i0 : Int32} (hx : h x = some (rcC gu lp lm lr ld ly le sec)) (hL : zLS g T h 1 lp LP (l.map peE)) (k : PR (some (.int (if l.any (fun e => e.1 == i0) = true then 1 else 0))) h) : Ct g y_RC_isSomebodyIn w_RC_isSomebodyIn 4 0 0 [.ref x, .int i0] h PR PX := by
  have hlt := hL.lt
  rw [List.length_map] at hlt
  obtain ⟨vs, hvs⟩ := hL.obj
  refine Ct_intro (cc := c_RC_isSomebodyIn) (nL := 3) (ret := (some FieldType.boolean)) (ls := [some (.ref x), some (.int i0), none]) (by decide) (Nat.le_of_ble_eq_true rfl) rfl rfl ?_
  intro p e R s m args below meth c C ht hname
  have loop : ∀ (j i : Nat) , i + j = l.length → PR (some (.int (if (l.drop i).any (fun e => e.1 == i0) = true then 1 else 0))) h → Z g 3 0 0 p e R s m args below meth c (vx_MQ below (zQ g PR) (zX g PX) args s 0 0 (zA g)) 0 0 2 [some (.ref x), some (.int i0), some (.int (nI i))] [] h := by
    intro j
    induction j with
    | zero =>
      intro i hi hp
      have : i = l.length := by omega
      subst this
      rw [List.drop_length] at hp
      refine z_iload_n C d_RC_isSomebodyIn_2 rfl rfl ?_
      refine z_aload_n C d_RC_isSomebodyIn_3 rfl rfl ?_
      refine z_get (ci := 7) (T := T_RC) (N := 8) C d_RC_isSomebodyIn_4 1 i_RC rfl (by decide) k_61 (fun _ q => q) (by first | assumption | exact zu_s) (by rfl) ?_
      refine z_callV (n := 0) (As := []) (rest := [.int (nI l.length)]) (r1 := 1) (mc1 := 0) (ms1 := 0) (ci := 0) (T0 := T_AL) C d_RC_isSomebodyIn_7 k_96 k_93 k_94 k_95 k_4 (by decide +kernel) rfl rfl (by first | assumption | exact zu_s) (by decide) (by decide) (Nat.le_of_ble_eq_true rfl) (by first | decide | omega) (by first | decide | omega) rfl ?_
      refine cl_size hL ?_
      dsimp only [zps]
      rw [List.length_map]
      refine z_icmp_ge 39 C d_RC_isSomebodyIn_10 (by decide) (fun c10 => ?_) (fun c10 => ?_)
      · refine z_iconst (v := 0) C d_RC_isSomebodyIn_39 (by decide) ?_
        refine z_zret C d_RC_isSomebodyIn_40 (by first | rfl | assumption) ?_
        exact hp
      · exact absurd (Int32.le_refl _) c10
    | succ j ih =>
      intro i hi hp
      obtain ⟨e0, he, hd⟩ := zdrop (l := l) (k := i) (by omega)
      rw [hd, List.any_cons] at hp
      obtain ⟨y, hy, hye, hyT⟩ := hL.atm he
      refine z_iload_n C d_RC_isSomebodyIn_2 rfl rfl ?_
      refine z_aload_n C d_RC_isSomebodyIn_3 rfl rfl ?_
      refine z_get (ci := 7) (T := T_RC) (N := 8) C d_RC_isSomebodyIn_4 1 i_RC rfl (by decide) k_61 (fun _ q => q) (by first | assumption | exact zu_s) (by rfl) ?_
      refine z_callV (n := 0) (As := []) (rest := [.int (nI i)]) (r1 := 1) (mc1 := 0) (ms1 := 0) (ci := 0) (T0 := T_AL) C d_RC_isSomebodyIn_7 k_96 k_93 k_94 k_95 k_4 (by decide +kernel) rfl rfl (by first | assumption | exact zu_s) (by decide) (by decide) (Nat.le_of_ble_eq_true rfl) (by first | decide | omega) (by first | decide | omega) rfl ?_
      refine cl_size hL ?_
      dsimp only [zps]
      rw [List.length_map]
      refine z_icmp_ge 39 C d_RC_isSomebodyIn_10 (by decide) (fun c10 => ?_) (fun c10 => ?_)
      · exact absurd c10 (nI_ge (by omega) (by omega))
      · refine z_aload_n C d_RC_isSomebodyIn_13 rfl rfl ?_
        refine z_get (ci := 7) (T := T_RC) (N := 8) C d_RC_isSomebodyIn_14 1 i_RC rfl (by decide) k_61 (fun _ q => q) (by first | assumption | exact zu_s) (by rfl) ?_
        refine z_iload_n C d_RC_isSomebodyIn_17 rfl rfl ?_
        refine z_callV (n := 1) (As := [.int (nI i)]) (rest := []) (r1 := 3) (mc1 := 0) (ms1 := 0) (ci := 0) (T0 := T_AL) C d_RC_isSomebodyIn_18 k_277 k_274 k_275 k_276 k_4 (by decide +kernel) rfl rfl (by first | assumption | exact zu_s) (by decide) (by decide) (Nat.le_of_ble_eq_true rfl) (by first | decide | omega) (by first | decide | omega) rfl ?_
        refine cl_get hL hy ?_
        dsimp only [zps]
        refine z_cast (ci := 1) C d_RC_isSomebodyIn_21 rfl k_166 hye ?_
        refine z_get (ci := 1) (T := T_PE) (N := 3) C d_RC_isSomebodyIn_24 0 i_PE rfl (by decide) k_173 (fun _ q => q) hye (by rfl) ?_
        refine z_iload_n C d_RC_isSomebodyIn_27 rfl rfl ?_
        refine z_icmp_ne 33 C d_RC_isSomebodyIn_28 (by decide) (fun c28 => ?_) (fun c28 => ?_)
        · refine z_iinc C d_RC_isSomebodyIn_33 rfl (by decide) rfl ?_
          simp only [List.set, zi1, zim1]
          rw [nI_1]
          refine z_goto 2 C d_RC_isSomebodyIn_36 (by decide) ?_
          refine ih (i + 1) (by omega) ?_
          rw [show (e0.1 == i0) = false from beq_eq_false_iff_ne.mpr c28, Bool.false_or] at hp
          exact hp
        · refine z_iconst (v := 1) C d_RC_isSomebodyIn_31 (by decide) ?_
          refine z_zret C d_RC_isSomebodyIn_32 (by first | rfl | assumption) ?_
          rw [show (e0.1 == i0) = true from beq_iff_eq.mpr c28, Bool.true_or, if_pos rfl] at hp
          exact hp
  refine z_iconst (v := 0) C d_RC_isSomebodyIn_0 (by decide) ?_
  refine z_istore_n C d_RC_isSomebodyIn_1 rfl (by decide) rfl ?_
  dsimp only [List.set]
  exact loop l.length 0 (by omega) (by rw [List.drop_zero]; exact k)
set_option maxRecDepth 100000 in
theorem ct_RC_isSent {l : List MdT} {i0 : Int32} (hx : h x = some (rcC gu lp lm lr ld ly le sec)) (hL : zLS g T h 5 ly LY (l.map mdE)) (k : PR (some (.int (if l.any (fun e => e.tm == i0) = true then 1 else 0))) h) : Ct g y_RC_isSent w_RC_isSent 4 0 0 [.ref x, .int i0] h PR PX := by
  have hlt := hL.lt
  rw [List.length_map] at hlt
  obtain ⟨vs, hvs⟩ := hL.obj
  refine Ct_intro (cc := c_RC_isSent) (nL := 3) (ret := (some FieldType.boolean)) (ls := [some (.ref x), some (.int i0), none]) (by decide) (Nat.le_of_ble_eq_true rfl) rfl rfl ?_
  intro p e R s m args below meth c C ht hname
  have loop : ∀ (j i : Nat) , i + j = l.length → PR (some (.int (if (l.drop i).any (fun e => e.tm == i0) = true then 1 else 0))) h → Z g 3 0 0 p e R s m args below meth c (vx_MQ below (zQ g PR) (zX g PX) args s 0 0 (zA g)) 0 0 2 [some (.ref x), some (.int i0), some (.int (nI i))] [] h := by
    intro j
    induction j with
    | zero =>
      intro i hi hp
      have : i = l.length := by omega
      subst this
      rw [List.drop_length] at hp
      refine z_iload_n C d_RC_isSent_2 rfl rfl ?_
      refine z_aload_n C d_RC_isSent_3 rfl rfl ?_
      refine z_get (ci := 7) (T := T_RC) (N := 8) C d_RC_isSent_4 5 i_RC rfl (by decide) k_65 (fun _ q => q) (by first | assumption | exact zu_s) (by rfl) ?_
      refine z_callV (n := 0) (As := []) (rest := [.int (nI l.length)]) (r1 := 1) (mc1 := 0) (ms1 := 0) (ci := 0) (T0 := T_AL) C d_RC_isSent_7 k_96 k_93 k_94 k_95 k_4 (by decide +kernel) rfl rfl (by first | assumption | exact zu_s) (by decide) (by decide) (Nat.le_of_ble_eq_true rfl) (by first | decide | omega) (by first | decide | omega) rfl ?_
      refine cl_size hL ?_
      dsimp only [zps]
      rw [List.length_map]
      refine z_icmp_ge 39 C d_RC_isSent_10 (by decide) (fun c10 => ?_) (fun c10 => ?_)
      · refine z_iconst (v := 0) C d_RC_isSent_39 (by decide) ?_
        refine z_zret C d_RC_isSent_40 (by first | rfl | assumption) ?_
        exact hp
      · exact absurd (Int32.le_refl _) c10
    | succ j ih =>
      intro i hi hp
      obtain ⟨e0, he, hd⟩ := zdrop (l := l) (k := i) (by omega)
      rw [hd, List.any_cons] at hp
      obtain ⟨y, hy, hye, hyT⟩ := hL.atm he
      refine z_iload_n C d_RC_isSent_2 rfl rfl ?_
      refine z_aload_n C d_RC_isSent_3 rfl rfl ?_
      refine z_get (ci := 7) (T := T_RC) (N := 8) C d_RC_isSent_4 5 i_RC rfl (by decide) k_65 (fun _ q => q) (by first | assumption | exact zu_s) (by rfl) ?_
      refine z_callV (n := 0) (As := []) (rest := [.int (nI i)]) (r1 := 1) (mc1 := 0) (ms1 := 0) (ci := 0) (T0 := T_AL) C d_RC_isSent_7 k_96 k_93 k_94 k_95 k_4 (by decide +kernel) rfl rfl (by first | assumption | exact zu_s) (by decide) (by decide) (Nat.le_of_ble_eq_true rfl) (by first | decide | omega) (by first | decide | omega) rfl ?_
      refine cl_size hL ?_
      dsimp only [zps]
      rw [List.length_map]
      refine z_icmp_ge 39 C d_RC_isSent_10 (by decide) (fun c10 => ?_) (fun c10 => ?_)
      · exact absurd c10 (nI_ge (by omega) (by omega))
      · refine z_aload_n C d_RC_isSent_13 rfl rfl ?_
        refine z_get (ci := 7) (T := T_RC) (N := 8) C d_RC_isSent_14 5 i_RC rfl (by decide) k_65 (fun _ q => q) (by first | assumption | exact zu_s) (by rfl) ?_
        refine z_iload_n C d_RC_isSent_17 rfl rfl ?_
        refine z_callV (n := 1) (As := [.int (nI i)]) (rest := []) (r1 := 3) (mc1 := 0) (ms1 := 0) (ci := 0) (T0 := T_AL) C d_RC_isSent_18 k_277 k_274 k_275 k_276 k_4 (by decide +kernel) rfl rfl (by first | assumption | exact zu_s) (by decide) (by decide) (Nat.le_of_ble_eq_true rfl) (by first | decide | omega) (by first | decide | omega) rfl ?_
        refine cl_get hL hy ?_
        dsimp only [zps]
        refine z_cast (ci := 5) C d_RC_isSent_21 rfl k_388 hye ?_
        refine z_get (ci := 5) (T := T_MD) (N := 5) C d_RC_isSent_24 4 i_MD rfl (by decide) k_595 (fun _ q => q) hye (by rfl) ?_
        refine z_iload_n C d_RC_isSent_27 rfl rfl ?_
        refine z_icmp_ne 33 C d_RC_isSent_28 (by decide) (fun c28 => ?_) (fun c28 => ?_)
        · refine z_iinc C d_RC_isSent_33 rfl (by decide) rfl ?_
          simp only [List.set, zi1, zim1]
          rw [nI_1]
          refine z_goto 2 C d_RC_isSent_36 (by decide) ?_
          refine ih (i + 1) (by omega) ?_
          rw [show (e0.tm == i0) = false from beq_eq_false_iff_ne.mpr c28, Bool.false_or] at hp
          exact hp
        · refine z_iconst (v := 1) C d_RC_isSent_31 (by decide) ?_
          refine z_zret C d_RC_isSent_32 (by first | rfl | assumption) ?_
          rw [show (e0.tm == i0) = true from beq_iff_eq.mpr c28, Bool.true_or, if_pos rfl] at hp
          exact hp
  refine z_iconst (v := 0) C d_RC_isSent_0 (by decide) ?_
  refine z_istore_n C d_RC_isSent_1 rfl (by decide) rfl ?_
  dsimp only [List.set]
  exact loop l.length 0 (by omega) (by rw [List.drop_zero]; exact k)
set_option maxRecDepth 100000 in
theorem ct_RC_hasOpenMayday {l : List MdT} {i0 : Int32} (hx : h x = some (rcC gu lp lm lr ld ly le sec)) (hL : zLS g T h 5 ly LY (l.map mdE)) (k : PR (some (.int (if l.any (fun e => e.op != 0 && e.1 == i0) = true then 1 else 0))) h) : Ct g y_RC_hasOpenMayday w_RC_hasOpenMayday 4 0 0 [.ref x, .int i0] h PR PX := by
  have hlt := hL.lt
  rw [List.length_map] at hlt
  obtain ⟨vs, hvs⟩ := hL.obj
  refine Ct_intro (cc := c_RC_hasOpenMayday) (nL := 4) (ret := (some FieldType.boolean)) (ls := [some (.ref x), some (.int i0), none, none]) (by decide) (Nat.le_of_ble_eq_true rfl) rfl rfl ?_
  intro p e R s m args below meth c C ht hname
  have loop : ∀ (j i : Nat) (z3 : Option Value), i + j = l.length → PR (some (.int (if (l.drop i).any (fun e => e.op != 0 && e.1 == i0) = true then 1 else 0))) h → Z g 4 0 0 p e R s m args below meth c (vx_MQ below (zQ g PR) (zX g PX) args s 0 0 (zA g)) 0 0 2 [some (.ref x), some (.int i0), some (.int (nI i)), z3] [] h := by
    intro j
    induction j with
    | zero =>
      intro i z3 hi hp
      have : i = l.length := by omega
      subst this
      rw [List.drop_length] at hp
      refine z_iload_n C d_RC_hasOpenMayday_2 rfl rfl ?_
      refine z_aload_n C d_RC_hasOpenMayday_3 rfl rfl ?_
      refine z_get (ci := 7) (T := T_RC) (N := 8) C d_RC_hasOpenMayday_4 5 i_RC rfl (by decide) k_65 (fun _ q => q) (by first | assumption | exact zu_s) (by rfl) ?_
      refine z_callV (n := 0) (As := []) (rest := [.int (nI l.length)]) (r1 := 1) (mc1 := 0) (ms1 := 0) (ci := 0) (T0 := T_AL) C d_RC_hasOpenMayday_7 k_96 k_93 k_94 k_95 k_4 (by decide +kernel) rfl rfl (by first | assumption | exact zu_s) (by decide) (by decide) (Nat.le_of_ble_eq_true rfl) (by first | decide | omega) (by first | decide | omega) rfl ?_
      refine cl_size hL ?_
      dsimp only [zps]
      rw [List.length_map]
      refine z_icmp_ge 48 C d_RC_hasOpenMayday_10 (by decide) (fun c10 => ?_) (fun c10 => ?_)
      · refine z_iconst (v := 0) C d_RC_hasOpenMayday_48 (by decide) ?_
        refine z_zret C d_RC_hasOpenMayday_49 (by first | rfl | assumption) ?_
        exact hp
      · exact absurd (Int32.le_refl _) c10
    | succ j ih =>
      intro i z3 hi hp
      obtain ⟨e0, he, hd⟩ := zdrop (l := l) (k := i) (by omega)
      rw [hd, List.any_cons] at hp
      obtain ⟨y, hy, hye, hyT⟩ := hL.atm he
      refine z_iload_n C d_RC_hasOpenMayday_2 rfl rfl ?_
      refine z_aload_n C d_RC_hasOpenMayday_3 rfl rfl ?_
      refine z_get (ci := 7) (T := T_RC) (N := 8) C d_RC_hasOpenMayday_4 5 i_RC rfl (by decide) k_65 (fun _ q => q) (by first | assumption | exact zu_s) (by rfl) ?_
      refine z_callV (n := 0) (As := []) (rest := [.int (nI i)]) (r1 := 1) (mc1 := 0) (ms1 := 0) (ci := 0) (T0 := T_AL) C d_RC_hasOpenMayday_7 k_96 k_93 k_94 k_95 k_4 (by decide +kernel) rfl rfl (by first | assumption | exact zu_s) (by decide) (by decide) (Nat.le_of_ble_eq_true rfl) (by first | decide | omega) (by first | decide | omega) rfl ?_
      refine cl_size hL ?_
      dsimp only [zps]
      rw [List.length_map]
      refine z_icmp_ge 48 C d_RC_hasOpenMayday_10 (by decide) (fun c10 => ?_) (fun c10 => ?_)
      · exact absurd c10 (nI_ge (by omega) (by omega))
      · refine z_aload_n C d_RC_hasOpenMayday_13 rfl rfl ?_
        refine z_get (ci := 7) (T := T_RC) (N := 8) C d_RC_hasOpenMayday_14 5 i_RC rfl (by decide) k_65 (fun _ q => q) (by first | assumption | exact zu_s) (by rfl) ?_
        refine z_iload_n C d_RC_hasOpenMayday_17 rfl rfl ?_
        refine z_callV (n := 1) (As := [.int (nI i)]) (rest := []) (r1 := 3) (mc1 := 0) (ms1 := 0) (ci := 0) (T0 := T_AL) C d_RC_hasOpenMayday_18 k_277 k_274 k_275 k_276 k_4 (by decide +kernel) rfl rfl (by first | assumption | exact zu_s) (by decide) (by decide) (Nat.le_of_ble_eq_true rfl) (by first | decide | omega) (by first | decide | omega) rfl ?_
        refine cl_get hL hy ?_
        dsimp only [zps]
        refine z_cast (ci := 5) C d_RC_hasOpenMayday_21 rfl k_388 hye ?_
        refine z_astore_n C d_RC_hasOpenMayday_24 rfl (by decide) rfl ?_
        dsimp only [List.set]
        refine z_aload_n C d_RC_hasOpenMayday_25 rfl rfl ?_
        refine z_get (ci := 5) (T := T_MD) (N := 5) C d_RC_hasOpenMayday_26 3 i_MD rfl (by decide) k_593 (fun _ q => q) hye (by rfl) ?_
        refine z_if_eq 42 C d_RC_hasOpenMayday_29 (by decide) (fun c29 => ?_) (fun c29 => ?_)
        · refine z_iinc C d_RC_hasOpenMayday_42 rfl (by decide) rfl ?_
          simp only [List.set, zi1, zim1]
          rw [nI_1]
          refine z_goto 2 C d_RC_hasOpenMayday_45 (by decide) ?_
          refine ih (i + 1) _ (by omega) ?_
          rw [show (e0.op != 0) = false from by simpa using c29, Bool.false_and, Bool.false_or] at hp
          exact hp
        · refine z_aload_n C d_RC_hasOpenMayday_32 rfl rfl ?_
          refine z_get (ci := 5) (T := T_MD) (N := 5) C d_RC_hasOpenMayday_33 0 i_MD rfl (by decide) k_587 (fun _ q => q) hye (by rfl) ?_
          refine z_iload_n C d_RC_hasOpenMayday_36 rfl rfl ?_
          refine z_icmp_ne 42 C d_RC_hasOpenMayday_37 (by decide) (fun c37 => ?_) (fun c37 => ?_)
          · refine z_iinc C d_RC_hasOpenMayday_42 rfl (by decide) rfl ?_
            simp only [List.set, zi1, zim1]
            rw [nI_1]
            refine z_goto 2 C d_RC_hasOpenMayday_45 (by decide) ?_
            refine ih (i + 1) _ (by omega) ?_
            rw [show (e0.1 == i0) = false from beq_eq_false_iff_ne.mpr c37, Bool.and_false, Bool.false_or] at hp
            exact hp
          · refine z_iconst (v := 1) C d_RC_hasOpenMayday_40 (by decide) ?_
            refine z_zret C d_RC_hasOpenMayday_41 (by first | rfl | assumption) ?_
            rw [show (e0.1 == i0) = true from beq_iff_eq.mpr c37, show (e0.op != 0) = true from by simpa using c29, Bool.and_true, Bool.true_or, if_pos rfl] at hp
            exact hp
  refine z_iconst (v := 0) C d_RC_hasOpenMayday_0 (by decide) ?_
  refine z_istore_n C d_RC_hasOpenMayday_1 rfl (by decide) rfl ?_
  dsimp only [List.set]
  exact loop l.length 0 none (by omega) (by rw [List.drop_zero]; exact k)
set_option maxRecDepth 100000 in
theorem ct_RC_isAskedNow {l : List RoT} {i0 : Int32} (hx : h x = some (rcC gu lp lm lr ld ly le sec)) (hL : zLS g T h 3 lr LR (l.map roE)) (k : PR (some (.int (if l.any (fun e => decide (e.rd < 3) && (i0 == -1 || decide (e.1.2 = -1 ∨ e.1.2 = i0))) = true then 1 else 0))) h) : Ct g y_RC_isAskedNow w_RC_isAskedNow 4 0 0 [.ref x, .int i0] h PR PX := by
  have hlt := hL.lt
  rw [List.length_map] at hlt
  obtain ⟨vs, hvs⟩ := hL.obj
  refine Ct_intro (cc := c_RC_isAskedNow) (nL := 4) (ret := (some FieldType.boolean)) (ls := [some (.ref x), some (.int i0), none, none]) (by decide) (Nat.le_of_ble_eq_true rfl) rfl rfl ?_
  intro p e R s m args below meth c C ht hname
  have loop : ∀ (j i : Nat) (z3 : Option Value), i + j = l.length → PR (some (.int (if (l.drop i).any (fun e => decide (e.rd < 3) && (i0 == -1 || decide (e.1.2 = -1 ∨ e.1.2 = i0))) = true then 1 else 0))) h → Z g 4 0 0 p e R s m args below meth c (vx_MQ below (zQ g PR) (zX g PX) args s 0 0 (zA g)) 0 0 2 [some (.ref x), some (.int i0), some (.int (nI i)), z3] [] h := by
    intro j
    induction j with
    | zero =>
      intro i z3 hi hp
      have : i = l.length := by omega
      subst this
      rw [List.drop_length] at hp
      refine z_iload_n C d_RC_isAskedNow_2 rfl rfl ?_
      refine z_aload_n C d_RC_isAskedNow_3 rfl rfl ?_
      refine z_get (ci := 7) (T := T_RC) (N := 8) C d_RC_isAskedNow_4 3 i_RC rfl (by decide) k_63 (fun _ q => q) (by first | assumption | exact zu_s) (by rfl) ?_
      refine z_callV (n := 0) (As := []) (rest := [.int (nI l.length)]) (r1 := 1) (mc1 := 0) (ms1 := 0) (ci := 0) (T0 := T_AL) C d_RC_isAskedNow_7 k_96 k_93 k_94 k_95 k_4 (by decide +kernel) rfl rfl (by first | assumption | exact zu_s) (by decide) (by decide) (Nat.le_of_ble_eq_true rfl) (by first | decide | omega) (by first | decide | omega) rfl ?_
      refine cl_size hL ?_
      dsimp only [zps]
      rw [List.length_map]
      refine z_icmp_ge 53 C d_RC_isAskedNow_10 (by decide) (fun c10 => ?_) (fun c10 => ?_)
      · refine z_iconst (v := 0) C d_RC_isAskedNow_53 (by decide) ?_
        refine z_zret C d_RC_isAskedNow_54 (by first | rfl | assumption) ?_
        exact hp
      · exact absurd (Int32.le_refl _) c10
    | succ j ih =>
      intro i z3 hi hp
      obtain ⟨e0, he, hd⟩ := zdrop (l := l) (k := i) (by omega)
      rw [hd, List.any_cons] at hp
      obtain ⟨y, hy, hye, hyT⟩ := hL.atm he
      refine z_iload_n C d_RC_isAskedNow_2 rfl rfl ?_
      refine z_aload_n C d_RC_isAskedNow_3 rfl rfl ?_
      refine z_get (ci := 7) (T := T_RC) (N := 8) C d_RC_isAskedNow_4 3 i_RC rfl (by decide) k_63 (fun _ q => q) (by first | assumption | exact zu_s) (by rfl) ?_
      refine z_callV (n := 0) (As := []) (rest := [.int (nI i)]) (r1 := 1) (mc1 := 0) (ms1 := 0) (ci := 0) (T0 := T_AL) C d_RC_isAskedNow_7 k_96 k_93 k_94 k_95 k_4 (by decide +kernel) rfl rfl (by first | assumption | exact zu_s) (by decide) (by decide) (Nat.le_of_ble_eq_true rfl) (by first | decide | omega) (by first | decide | omega) rfl ?_
      refine cl_size hL ?_
      dsimp only [zps]
      rw [List.length_map]
      refine z_icmp_ge 53 C d_RC_isAskedNow_10 (by decide) (fun c10 => ?_) (fun c10 => ?_)
      · exact absurd c10 (nI_ge (by omega) (by omega))
      · refine z_aload_n C d_RC_isAskedNow_13 rfl rfl ?_
        refine z_get (ci := 7) (T := T_RC) (N := 8) C d_RC_isAskedNow_14 3 i_RC rfl (by decide) k_63 (fun _ q => q) (by first | assumption | exact zu_s) (by rfl) ?_
        refine z_iload_n C d_RC_isAskedNow_17 rfl rfl ?_
        refine z_callV (n := 1) (As := [.int (nI i)]) (rest := []) (r1 := 3) (mc1 := 0) (ms1 := 0) (ci := 0) (T0 := T_AL) C d_RC_isAskedNow_18 k_277 k_274 k_275 k_276 k_4 (by decide +kernel) rfl rfl (by first | assumption | exact zu_s) (by decide) (by decide) (Nat.le_of_ble_eq_true rfl) (by first | decide | omega) (by first | decide | omega) rfl ?_
        refine cl_get hL hy ?_
        dsimp only [zps]
        refine z_cast (ci := 3) C d_RC_isAskedNow_21 rfl k_375 hye ?_
        refine z_astore_n C d_RC_isAskedNow_24 rfl (by decide) rfl ?_
        dsimp only [List.set]
        refine z_aload_n C d_RC_isAskedNow_25 rfl rfl ?_
        refine z_callV (n := 0) (As := []) (rest := []) (r1 := 1) (mc1 := 0) (ms1 := 0) (ci := 3) (T0 := T_RO) C d_RC_isAskedNow_26 k_379 k_376 k_377 k_378 k_21 (by decide +kernel) rfl rfl hye (by decide) (by decide) (Nat.le_of_ble_eq_true rfl) (by first | decide | omega) (by first | decide | omega) rfl ?_
        refine ct_RO_isOver hye ?_
        dsimp only [zps]
        by_cases hr : e0.rd < 3
        · rw [if_pos hr]
          rw [decide_eq_true hr, Bool.true_and] at hp
          refine z_if_ne 47 C d_RC_isAskedNow_29 (by decide) (fun c29 => ?_) (fun c29 => ?_)
          · exact absurd rfl c29
          · refine z_iload_n C d_RC_isAskedNow_32 rfl rfl ?_
            refine z_iconst (v := (-1)) C d_RC_isAskedNow_33 (by decide) ?_
            refine z_icmp_eq 45 C d_RC_isAskedNow_34 (by decide) (fun c34 => ?_) (fun c34 => ?_)
            · refine z_iconst (v := 1) C d_RC_isAskedNow_45 (by decide) ?_
              refine z_zret C d_RC_isAskedNow_46 (by first | rfl | assumption) ?_
              rw [show (i0 == -1) = true from beq_iff_eq.mpr c34, Bool.true_or, Bool.true_or, if_pos rfl] at hp
              exact hp
            · have hq0 : (i0 == -1) = false := beq_eq_false_iff_ne.mpr c34
              rw [hq0, Bool.false_or] at hp
              refine z_aload_n C d_RC_isAskedNow_37 rfl rfl ?_
              refine z_iload_n C d_RC_isAskedNow_38 rfl rfl ?_
              refine z_callV (n := 1) (As := [.int i0]) (rest := []) (r1 := 1) (mc1 := 0) (ms1 := 0) (ci := 3) (T0 := T_RO) C d_RC_isAskedNow_39 k_383 k_380 k_381 k_382 k_21 (by decide +kernel) rfl rfl hye (by decide) (by decide) (Nat.le_of_ble_eq_true rfl) (by first | decide | omega) (by first | decide | omega) rfl ?_
              refine ct_RO_asksSector hye ?_
              dsimp only [zps]
              by_cases ha : e0.1.2 = -1 ∨ e0.1.2 = i0
              · rw [if_pos ha]
                rw [decide_eq_true ha, Bool.true_or, if_pos rfl] at hp
                refine z_if_eq 47 C d_RC_isAskedNow_42 (by decide) (fun c42 => ?_) (fun c42 => ?_)
                · exact absurd c42 (by decide)
                · refine z_iconst (v := 1) C d_RC_isAskedNow_45 (by decide) ?_
                  refine z_zret C d_RC_isAskedNow_46 (by first | rfl | assumption) ?_
                  exact hp
              · rw [if_neg ha]
                rw [decide_eq_false ha, Bool.false_or] at hp
                refine z_if_eq 47 C d_RC_isAskedNow_42 (by decide) (fun c42 => ?_) (fun c42 => ?_)
                · refine z_iinc C d_RC_isAskedNow_47 rfl (by decide) rfl ?_
                  simp only [List.set, zi1, zim1]
                  rw [nI_1]
                  refine z_goto 2 C d_RC_isAskedNow_50 (by decide) ?_
                  refine ih (i + 1) _ (by omega) ?_
                  rw [hq0]
                  exact hp
                · exact absurd rfl c42
        · rw [if_neg hr]
          rw [decide_eq_false hr, Bool.false_and, Bool.false_or] at hp
          refine z_if_ne 47 C d_RC_isAskedNow_29 (by decide) (fun c29 => ?_) (fun c29 => ?_)
          · refine z_iinc C d_RC_isAskedNow_47 rfl (by decide) rfl ?_
            simp only [List.set, zi1, zim1]
            rw [nI_1]
            refine z_goto 2 C d_RC_isAskedNow_50 (by decide) ?_
            exact ih (i + 1) _ (by omega) hp
          · exact absurd c29 (by decide)
  refine z_iconst (v := 0) C d_RC_isAskedNow_0 (by decide) ?_
  refine z_istore_n C d_RC_isAskedNow_1 rfl (by decide) rfl ?_
  dsimp only [List.set]
  exact loop l.length 0 none (by omega) (by rw [List.drop_zero]; exact k)
set_option maxRecDepth 100000 in
theorem ct_RC_rollsOn {l : List RoT} (hx : h x = some (rcC gu lp lm lr ld ly le sec)) (hL : zLS g T h 3 lr LR (l.map roE)) (k : PR (some (.int (nI (l.countP (fun e => decide (e.rd < 3)))))) h) : Ct g y_RC_rollsOn w_RC_rollsOn 4 0 0 [.ref x] h PR PX := by
  have hlt := hL.lt
  rw [List.length_map] at hlt
  obtain ⟨vs, hvs⟩ := hL.obj
  refine Ct_intro (cc := c_RC_rollsOn) (nL := 3) (ret := (some FieldType.int)) (ls := [some (.ref x), none, none]) (by decide) (Nat.le_of_ble_eq_true rfl) rfl rfl ?_
  intro p e R s m args below meth c C ht hname
  have loop : ∀ (j i acc : Nat), i + j = l.length → PR (some (.int (nI (acc + (l.drop i).countP (fun e => decide (e.rd < 3)))))) h → Z g 3 0 0 p e R s m args below meth c (vx_MQ below (zQ g PR) (zX g PX) args s 0 0 (zA g)) 0 0 4 [some (.ref x), some (.int (nI acc)), some (.int (nI i))] [] h := by
    intro j
    induction j with
    | zero =>
      intro i acc hi hp
      have : i = l.length := by omega
      subst this
      rw [List.drop_length] at hp
      refine z_iload_n C d_RC_rollsOn_4 rfl rfl ?_
      refine z_aload_n C d_RC_rollsOn_5 rfl rfl ?_
      refine z_get (ci := 7) (T := T_RC) (N := 8) C d_RC_rollsOn_6 3 i_RC rfl (by decide) k_63 (fun _ q => q) (by first | assumption | exact zu_s) (by rfl) ?_
      refine z_callV (n := 0) (As := []) (rest := [.int (nI l.length)]) (r1 := 1) (mc1 := 0) (ms1 := 0) (ci := 0) (T0 := T_AL) C d_RC_rollsOn_9 k_96 k_93 k_94 k_95 k_4 (by decide +kernel) rfl rfl (by first | assumption | exact zu_s) (by decide) (by decide) (Nat.le_of_ble_eq_true rfl) (by first | decide | omega) (by first | decide | omega) rfl ?_
      refine cl_size hL ?_
      dsimp only [zps]
      rw [List.length_map]
      refine z_icmp_ge 41 C d_RC_rollsOn_12 (by decide) (fun c12 => ?_) (fun c12 => ?_)
      · refine z_iload_n C d_RC_rollsOn_41 rfl rfl ?_
        refine z_iret C d_RC_rollsOn_42 ?_
        exact hp
      · exact absurd (Int32.le_refl _) c12
    | succ j ih =>
      intro i acc hi hp
      obtain ⟨e0, he, hd⟩ := zdrop (l := l) (k := i) (by omega)
      rw [hd, List.countP_cons] at hp
      obtain ⟨y, hy, hye, hyT⟩ := hL.atm he
      refine z_iload_n C d_RC_rollsOn_4 rfl rfl ?_
      refine z_aload_n C d_RC_rollsOn_5 rfl rfl ?_
      refine z_get (ci := 7) (T := T_RC) (N := 8) C d_RC_rollsOn_6 3 i_RC rfl (by decide) k_63 (fun _ q => q) (by first | assumption | exact zu_s) (by rfl) ?_
      refine z_callV (n := 0) (As := []) (rest := [.int (nI i)]) (r1 := 1) (mc1 := 0) (ms1 := 0) (ci := 0) (T0 := T_AL) C d_RC_rollsOn_9 k_96 k_93 k_94 k_95 k_4 (by decide +kernel) rfl rfl (by first | assumption | exact zu_s) (by decide) (by decide) (Nat.le_of_ble_eq_true rfl) (by first | decide | omega) (by first | decide | omega) rfl ?_
      refine cl_size hL ?_
      dsimp only [zps]
      rw [List.length_map]
      refine z_icmp_ge 41 C d_RC_rollsOn_12 (by decide) (fun c12 => ?_) (fun c12 => ?_)
      · exact absurd c12 (nI_ge (by omega) (by omega))
      · refine z_aload_n C d_RC_rollsOn_15 rfl rfl ?_
        refine z_get (ci := 7) (T := T_RC) (N := 8) C d_RC_rollsOn_16 3 i_RC rfl (by decide) k_63 (fun _ q => q) (by first | assumption | exact zu_s) (by rfl) ?_
        refine z_iload_n C d_RC_rollsOn_19 rfl rfl ?_
        refine z_callV (n := 1) (As := [.int (nI i)]) (rest := []) (r1 := 3) (mc1 := 0) (ms1 := 0) (ci := 0) (T0 := T_AL) C d_RC_rollsOn_20 k_277 k_274 k_275 k_276 k_4 (by decide +kernel) rfl rfl (by first | assumption | exact zu_s) (by decide) (by decide) (Nat.le_of_ble_eq_true rfl) (by first | decide | omega) (by first | decide | omega) rfl ?_
        refine cl_get hL hy ?_
        dsimp only [zps]
        refine z_cast (ci := 3) C d_RC_rollsOn_23 rfl k_375 hye ?_
        refine z_callV (n := 0) (As := []) (rest := []) (r1 := 1) (mc1 := 0) (ms1 := 0) (ci := 3) (T0 := T_RO) C d_RC_rollsOn_26 k_379 k_376 k_377 k_378 k_21 (by decide +kernel) rfl rfl hye (by decide) (by decide) (Nat.le_of_ble_eq_true rfl) (by first | decide | omega) (by first | decide | omega) rfl ?_
        refine ct_RO_isOver hye ?_
        dsimp only [zps]
        by_cases hr : e0.rd < 3
        · rw [if_pos hr]
          rw [if_pos (by simpa using hr)] at hp
          refine z_if_ne 35 C d_RC_rollsOn_29 (by decide) (fun c29 => ?_) (fun c29 => ?_)
          · exact absurd rfl c29
          · refine z_iinc C d_RC_rollsOn_32 rfl (by decide) rfl ?_
            simp only [List.set, zi1, zim1]
            refine z_iinc C d_RC_rollsOn_35 rfl (by decide) rfl ?_
            simp only [List.set, zi1, zim1]
            rw [nI_1, nI_1]
            refine z_goto 4 C d_RC_rollsOn_38 (by decide) ?_
            refine ih (i + 1) (acc + 1) (by omega) ?_
            rw [show acc + 1 + (l.drop (i + 1)).countP (fun e => decide (e.rd < 3)) = acc + ((l.drop (i + 1)).countP (fun e => decide (e.rd < 3)) + 1) by omega]
            exact hp
        · rw [if_neg hr]
          rw [if_neg (by simpa using hr)] at hp
          refine z_if_ne 35 C d_RC_rollsOn_29 (by decide) (fun c29 => ?_) (fun c29 => ?_)
          · refine z_iinc C d_RC_rollsOn_35 rfl (by decide) rfl ?_
            simp only [List.set, zi1, zim1]
            rw [nI_1]
            refine z_goto 4 C d_RC_rollsOn_38 (by decide) ?_
            exact ih (i + 1) acc (by omega) hp
          · exact absurd c29 (by decide)
  refine z_iconst (v := 0) C d_RC_rollsOn_0 (by decide) ?_
  refine z_istore_n C d_RC_rollsOn_1 rfl (by decide) rfl ?_
  dsimp only [List.set]
  refine z_iconst (v := 0) C d_RC_rollsOn_2 (by decide) ?_
  refine z_istore_n C d_RC_rollsOn_3 rfl (by decide) rfl ?_
  dsimp only [List.set]
  exact loop l.length 0 0 (by omega) (by simpa using k)
/-- the lowest team that no mayday has -/
def lft (l : List MdT) : Int32 := if l.any (fun e => e.tm == 0) = false then 0 else if l.any (fun e => e.tm == 1) = false then 1 else if l.any (fun e => e.tm == 2) = false then 2 else if l.any (fun e => e.tm == 3) = false then 3 else -1
set_option maxRecDepth 100000 in
theorem ct_RC_lowestFreeTeam {l : List MdT} (hx : h x = some (rcC gu lp lm lr ld ly le sec)) (hL : zLS g T h 5 ly LY (l.map mdE)) (k : PR (some (.int (lft l))) h) : Ct g y_RC_lowestFreeTeam w_RC_lowestFreeTeam 5 0 0 [.ref x] h PR PX := by
  refine Ct_intro (cc := c_RC_lowestFreeTeam) (nL := 2) (ret := (some FieldType.int)) (ls := [some (.ref x), none]) (by decide) (Nat.le_of_ble_eq_true rfl) rfl rfl ?_
  intro p e R s m args below meth c C ht hname
  have step : ∀ (t : Int32), t < 4 → (l.any (fun e => e.tm == t) = false → PR (some (.int t)) h) → (l.any (fun e => e.tm == t) = true → Z g 2 0 0 p e R s m args below meth c (vx_MQ below (zQ g PR) (zX g PX) args s 0 0 (zA g)) 0 0 2 [some (.ref x), some (.int (t + 1))] [] h) → Z g 2 0 0 p e R s m args below meth c (vx_MQ below (zQ g PR) (zX g PX) args s 0 0 (zA g)) 0 0 2 [some (.ref x), some (.int t)] [] h := by
    intro t ht4 h1 h2
    refine z_iload_n C d_RC_lowestFreeTeam_2 rfl rfl ?_
    refine z_iconst (v := 4) C d_RC_lowestFreeTeam_3 (by decide) ?_
    refine z_icmp_ge 23 C d_RC_lowestFreeTeam_4 (by decide) (fun c4 => ?_) (fun c4 => ?_)
    · exact absurd c4 (Int32.not_le.mpr ht4)
    · refine z_aload_n C d_RC_lowestFreeTeam_7 rfl rfl ?_
      refine z_iload_n C d_RC_lowestFreeTeam_8 rfl rfl ?_
      refine z_callV (n := 1) (As := [.int t]) (rest := []) (r1 := 4) (mc1 := 0) (ms1 := 0) (ci := 7) (T0 := T_RC) C d_RC_lowestFreeTeam_9 k_581 k_578 k_580 ks_16 k_1 (by decide +kernel) rfl rfl (by first | assumption | exact zu_s) (by decide) (by decide) (Nat.le_of_ble_eq_true rfl) (by first | decide | omega) (by first | decide | omega) rfl ?_
      refine ct_RC_isSent hx hL ?_
      dsimp only [zps]
      cases ha : l.any (fun e => e.tm == t) with
      | false =>
        rw [if_neg (by decide)]
        refine z_if_ne 17 C d_RC_lowestFreeTeam_12 (by decide) (fun c12 => ?_) (fun c12 => ?_)
        · exact absurd rfl c12
        · refine z_iload_n C d_RC_lowestFreeTeam_15 rfl rfl ?_
          refine z_iret C d_RC_lowestFreeTeam_16 ?_
          exact h1 ha
      | true =>
        rw [if_pos rfl]
        refine z_if_ne 17 C d_RC_lowestFreeTeam_12 (by decide) (fun c12 => ?_) (fun c12 => ?_)
        · refine z_iinc C d_RC_lowestFreeTeam_17 rfl (by decide) rfl ?_
          simp only [List.set, zi1, zim1]
          refine z_goto 2 C d_RC_lowestFreeTeam_20 (by decide) ?_
          exact h2 ha
        · exact absurd c12 (by decide)
  refine z_iconst (v := 0) C d_RC_lowestFreeTeam_0 (by decide) ?_
  refine z_istore_n C d_RC_lowestFreeTeam_1 rfl (by decide) rfl ?_
  dsimp only [List.set]
  unfold lft at k
  refine step 0 (by decide) (fun a0 => by rw [if_pos a0] at k; exact k) (fun a0 => ?_)
  rw [if_neg (by rw [a0]; decide)] at k
  refine step 1 (by decide) (fun a1 => by rw [if_pos a1] at k; exact k) (fun a1 => ?_)
  rw [if_neg (by rw [a1]; decide)] at k
  refine step 2 (by decide) (fun a2 => by rw [if_pos a2] at k; exact k) (fun a2 => ?_)
  rw [if_neg (by rw [a2]; decide)] at k
  refine step 3 (by decide) (fun a3 => by rw [if_pos a3] at k; exact k) (fun a3 => ?_)
  rw [if_neg (by rw [a3]; decide)] at k
  refine z_iload_n C d_RC_lowestFreeTeam_2 rfl rfl ?_
  refine z_iconst (v := 4) C d_RC_lowestFreeTeam_3 (by decide) ?_
  refine z_icmp_ge 23 C d_RC_lowestFreeTeam_4 (by decide) (fun c4 => ?_) (fun c4 => ?_)
  · refine z_iconst (v := (-1)) C d_RC_lowestFreeTeam_23 (by decide) ?_
    refine z_iret C d_RC_lowestFreeTeam_24 ?_
    exact k
  · exact absurd (by decide) c4
/-- an evacuation is on: the last one has sectors left -/
def isOnE (l : List EvT) : Bool := match l.getLast? with
  | none => false
  | some e => decide (0 < e.2.2.1)
theorem zlast {α : Type} {l : List α} (hl : l ≠ []) : ∃ e, l[l.length - 1]? = some e ∧ l.getLast? = some e := by
  have h1 : 0 < l.length := List.length_pos_iff.mpr hl
  refine ⟨l[l.length - 1], List.getElem?_eq_getElem (by omega), ?_⟩
  rw [List.getLast?_eq_getElem?, List.getElem?_eq_getElem (by omega)]
theorem znI_pred {n : Nat} (h : 0 < n) : nI n - 1 = nI (n - 1) := by
  obtain ⟨m, rfl⟩ : ∃ m, n = m + 1 := ⟨n - 1, by omega⟩
  rw [nI_pred]
  rfl
set_option maxRecDepth 100000 in
theorem ct_RC_isEvacuating {l : List EvT} (hx : h x = some (rcC gu lp lm lr ld ly le sec)) (hL : zLS g T h 6 le LE (l.map evE)) (k : PR (some (.int (if isOnE l = true then 1 else 0))) h) : Ct g y_RC_isEvacuating w_RC_isEvacuating 7 1 6 [.ref x] h PR PX := by
  obtain ⟨vs, hvs⟩ := hL.obj
  have hlt := hL.lt
  rw [List.length_map] at hlt
  refine Ct_intro (cc := c_RC_isEvacuating) (nL := 1) (ret := (some FieldType.boolean)) (ls := [some (.ref x)]) (by decide) (Nat.le_of_ble_eq_true rfl) rfl rfl ?_
  intro p e R s m args below meth c C ht hname
  refine z_aload_n C d_RC_isEvacuating_0 rfl rfl ?_
  refine z_get (ci := 7) (T := T_RC) (N := 8) C d_RC_isEvacuating_1 6 i_RC rfl (by decide) k_66 (fun _ q => q) (by first | assumption | exact zu_s) (by rfl) ?_
  refine z_callV (n := 0) (As := []) (rest := []) (r1 := 1) (mc1 := 0) (ms1 := 0) (ci := 0) (T0 := T_AL) C d_RC_isEvacuating_4 k_646 k_643 k_644 k_645 k_4 (by decide +kernel) rfl rfl (by first | assumption | exact zu_s) (by decide) (by decide) (Nat.le_of_ble_eq_true rfl) (by first | decide | omega) (by first | decide | omega) rfl ?_
  refine cl_isEmpty hL ?_
  dsimp only [zps]
  by_cases hl : l = []
  · subst hl
    rw [if_pos (show List.map evE [] = [] from rfl)]
    refine z_if_ne 33 C d_RC_isEvacuating_7 (by decide) (fun c7 => ?_) (fun c7 => ?_)
    · refine z_iconst (v := 0) C d_RC_isEvacuating_33 (by decide) ?_
      refine z_zret C d_RC_isEvacuating_34 (by first | rfl | assumption) ?_
      exact k
    · exact absurd c7 (by decide)
  · rw [if_neg (by simpa using hl)]
    refine z_if_ne 33 C d_RC_isEvacuating_7 (by decide) (fun c7 => ?_) (fun c7 => ?_)
    · exact absurd rfl c7
    · obtain ⟨e0, he, hg⟩ := zlast hl
      have h1 : 0 < l.length := List.length_pos_iff.mpr hl
      unfold isOnE at k
      rw [hg] at k
      refine z_aload_n C d_RC_isEvacuating_10 rfl rfl ?_
      refine z_aload_n C d_RC_isEvacuating_11 rfl rfl ?_
      refine z_get (ci := 7) (T := T_RC) (N := 8) C d_RC_isEvacuating_12 6 i_RC rfl (by decide) k_66 (fun _ q => q) (by first | assumption | exact zu_s) (by rfl) ?_
      refine z_callV (n := 0) (As := []) (rest := [.ref x]) (r1 := 1) (mc1 := 0) (ms1 := 0) (ci := 0) (T0 := T_AL) C d_RC_isEvacuating_15 k_96 k_93 k_94 k_95 k_4 (by decide +kernel) rfl rfl (by first | assumption | exact zu_s) (by decide) (by decide) (Nat.le_of_ble_eq_true rfl) (by first | decide | omega) (by first | decide | omega) rfl ?_
      refine cl_size hL ?_
      dsimp only [zps]
      rw [List.length_map]
      refine z_iconst (v := 1) C d_RC_isEvacuating_18 (by decide) ?_
      refine z_isub C d_RC_isEvacuating_19 ?_
      rw [znI_pred h1]
      refine z_callV (n := 1) (As := [.int (nI (l.length - 1))]) (rest := []) (r1 := 6) (mc1 := 1) (ms1 := 6) (ci := 7) (T0 := T_RC) C d_RC_isEvacuating_20 k_650 k_647 k_649 ks_20 k_1 (by decide +kernel) rfl rfl (by first | assumption | exact zu_s) (by decide) (by decide) (Nat.le_of_ble_eq_true rfl) (by first | decide | omega) (by first | decide | omega) rfl ?_
      refine ct_RC_knownEvacuation hx hL (fun z => ?_) (fun j y e1 hj1 hj2 hj3 hj4 hj5 => ?_)
      · rcases z with z | z
        · exact absurd z (nI_pos (by omega))
        · exact absurd z (nI_ge (by omega) (by omega))
      · dsimp only [zps]
        have hjl := (List.getElem?_eq_some_iff.mp hj2).1
        have : l.length - 1 = j := (nI_eq (by omega) (by omega)).mp hj1
        subst this
        cases hj2.symm.trans he
        refine z_get (ci := 6) (T := T_EV) (N := 5) C d_RC_isEvacuating_23 3 i_EV rfl (by decide) k_665 (fun _ q => q) hj4 (by rfl) ?_
        refine z_if_le 33 C d_RC_isEvacuating_26 (by decide) (fun c26 => ?_) (fun c26 => ?_)
        · refine z_iconst (v := 0) C d_RC_isEvacuating_33 (by decide) ?_
          refine z_zret C d_RC_isEvacuating_34 (by first | rfl | assumption) ?_
          rw [if_neg (by simpa using c26)] at k
          exact k
        · refine z_iconst (v := 1) C d_RC_isEvacuating_29 (by decide) ?_
          refine z_goto 34 C d_RC_isEvacuating_30 (by decide) ?_
          refine z_zret C d_RC_isEvacuating_34 (by first | rfl | assumption) ?_
          rw [if_pos (by simpa using c26)] at k
          exact k
end RI
end
