/-- the good words of the tables -/
def zT : List Cond := lw_tbl.filter goodWord
theorem zT_of {w : Cond} (i : Nat) (h : lw_tbl[i]? = some w) (hg : goodWord w = true) : w ∈ zT := List.mem_filter.mpr ⟨List.mem_of_getElem? h, hg⟩
theorem zT_good : ∀ w ∈ zT, goodWord w = true := fun w h => (List.mem_filter.mp h).2
def T_AL : u_T := fun k => match k with
  | 0 => ("java/util/ArrayList", "elementData", "[Ljava/lang/Object;", false)
  | 1 => ("java/util/ArrayList", "size", "I", false)
  | _ => ("java/util/AbstractList", "modCount", "I", false)
def ty_AL : Nat → FieldType := fun k => match k with
  | 0 => .array (.object "java/lang/Object")
  | 1 => .int
  | _ => .int
theorem n_AL : ∀ a, a < 3 → ∀ b, b < 3 → a ≠ b → (T_AL a).2.1 ≠ (T_AL b).2.1 := by decide +kernel
theorem t_AL : ∀ k, k < 3 → parseFieldDescriptor (T_AL k).2.2.1 = some (ty_AL k) := by decide +kernel
theorem i_AL : ∀ w ∈ u_ws "java/util/ArrayList" T_AL 3, w ∈ zT := by
  intro w hw
  rcases List.mem_map.mp hw with ⟨k, hk, rfl⟩
  have hk := List.mem_range.mp hk
  match k, hk with
  | 0, _ => exact zT_of 93 (by decide +kernel) (by decide +kernel)
  | 1, _ => exact zT_of 95 (by decide +kernel) (by decide +kernel)
  | 2, _ => exact zT_of 97 (by decide +kernel) (by decide +kernel)
  | k + 3, hk => exact absurd hk (by omega)
def T_PE : u_T := fun k => match k with
  | 0 => ("RollCalls$Person", "sector", "I", false)
  | 1 => ("RollCalls$Person", "rollsBegunAtLeaving", "I", false)
  | _ => ("RollCalls$Person", "greatestRollCounted", "I", false)
def ty_PE : Nat → FieldType := fun k => match k with
  | 0 => .int
  | 1 => .int
  | _ => .int
theorem n_PE : ∀ a, a < 3 → ∀ b, b < 3 → a ≠ b → (T_PE a).2.1 ≠ (T_PE b).2.1 := by decide +kernel
theorem t_PE : ∀ k, k < 3 → parseFieldDescriptor (T_PE k).2.2.1 = some (ty_PE k) := by decide +kernel
theorem i_PE : ∀ w ∈ u_ws "RollCalls$Person" T_PE 3, w ∈ zT := by
  intro w hw
  rcases List.mem_map.mp hw with ⟨k, hk, rfl⟩
  have hk := List.mem_range.mp hk
  match k, hk with
  | 0, _ => exact zT_of 219 (by decide +kernel) (by decide +kernel)
  | 1, _ => exact zT_of 221 (by decide +kernel) (by decide +kernel)
  | 2, _ => exact zT_of 223 (by decide +kernel) (by decide +kernel)
  | k + 3, hk => exact absurd hk (by omega)
def T_MO : u_T := fun k => match k with
  | 0 => ("RollCalls$Move", "person", "I", true)
  | 1 => ("RollCalls$Move", "sector", "I", true)
  | _ => ("RollCalls$Move", "second", "I", true)
def ty_MO : Nat → FieldType := fun k => match k with
  | 0 => .int
  | 1 => .int
  | _ => .int
theorem n_MO : ∀ a, a < 3 → ∀ b, b < 3 → a ≠ b → (T_MO a).2.1 ≠ (T_MO b).2.1 := by decide +kernel
theorem t_MO : ∀ k, k < 3 → parseFieldDescriptor (T_MO k).2.2.1 = some (ty_MO k) := by decide +kernel
theorem i_MO : ∀ w ∈ u_ws "RollCalls$Move" T_MO 3, w ∈ zT := by
  intro w hw
  rcases List.mem_map.mp hw with ⟨k, hk, rfl⟩
  have hk := List.mem_range.mp hk
  match k, hk with
  | 0, _ => exact zT_of 366 (by decide +kernel) (by decide +kernel)
  | 1, _ => exact zT_of 368 (by decide +kernel) (by decide +kernel)
  | 2, _ => exact zT_of 370 (by decide +kernel) (by decide +kernel)
  | k + 3, hk => exact absurd hk (by omega)
def T_RO : u_T := fun k => match k with
  | 0 => ("RollCalls$Roll", "number", "I", true)
  | 1 => ("RollCalls$Roll", "sector", "I", true)
  | 2 => ("RollCalls$Roll", "counters", "[I", true)
  | 3 => ("RollCalls$Roll", "round", "I", false)
  | 4 => ("RollCalls$Roll", "personsAsked", "I", false)
  | 5 => ("RollCalls$Roll", "personsCounted", "I", false)
  | 6 => ("RollCalls$Roll", "guestsAsked", "I", false)
  | 7 => ("RollCalls$Roll", "guestsSeen", "I", false)
  | 8 => ("RollCalls$Roll", "strangers", "I", false)
  | _ => ("RollCalls$Roll", "missingAtEnd", "I", false)
def ty_RO : Nat → FieldType := fun k => match k with
  | 0 => .int
  | 1 => .int
  | 2 => .array .int
  | 3 => .int
  | 4 => .int
  | 5 => .int
  | 6 => .int
  | 7 => .int
  | 8 => .int
  | _ => .int
theorem n_RO : ∀ a, a < 10 → ∀ b, b < 10 → a ≠ b → (T_RO a).2.1 ≠ (T_RO b).2.1 := by decide +kernel
theorem t_RO : ∀ k, k < 10 → parseFieldDescriptor (T_RO k).2.2.1 = some (ty_RO k) := by decide +kernel
theorem i_RO : ∀ w ∈ u_ws "RollCalls$Roll" T_RO 10, w ∈ zT := by
  intro w hw
  rcases List.mem_map.mp hw with ⟨k, hk, rfl⟩
  have hk := List.mem_range.mp hk
  match k, hk with
  | 0, _ => exact zT_of 456 (by decide +kernel) (by decide +kernel)
  | 1, _ => exact zT_of 458 (by decide +kernel) (by decide +kernel)
  | 2, _ => exact zT_of 460 (by decide +kernel) (by decide +kernel)
  | 3, _ => exact zT_of 462 (by decide +kernel) (by decide +kernel)
  | 4, _ => exact zT_of 464 (by decide +kernel) (by decide +kernel)
  | 5, _ => exact zT_of 466 (by decide +kernel) (by decide +kernel)
  | 6, _ => exact zT_of 468 (by decide +kernel) (by decide +kernel)
  | 7, _ => exact zT_of 470 (by decide +kernel) (by decide +kernel)
  | 8, _ => exact zT_of 472 (by decide +kernel) (by decide +kernel)
  | 9, _ => exact zT_of 474 (by decide +kernel) (by decide +kernel)
  | k + 10, hk => exact absurd hk (by omega)
def T_DC : u_T := fun k => match k with
  | 0 => ("RollCalls$DoubleCount", "person", "I", true)
  | 1 => ("RollCalls$DoubleCount", "firstSector", "I", true)
  | 2 => ("RollCalls$DoubleCount", "otherSector", "I", true)
  | _ => ("RollCalls$DoubleCount", "roll", "I", true)
def ty_DC : Nat → FieldType := fun k => match k with
  | 0 => .int
  | 1 => .int
  | 2 => .int
  | _ => .int
theorem n_DC : ∀ a, a < 4 → ∀ b, b < 4 → a ≠ b → (T_DC a).2.1 ≠ (T_DC b).2.1 := by decide +kernel
theorem t_DC : ∀ k, k < 4 → parseFieldDescriptor (T_DC k).2.2.1 = some (ty_DC k) := by decide +kernel
theorem i_DC : ∀ w ∈ u_ws "RollCalls$DoubleCount" T_DC 4, w ∈ zT := by
  intro w hw
  rcases List.mem_map.mp hw with ⟨k, hk, rfl⟩
  have hk := List.mem_range.mp hk
  match k, hk with
  | 0, _ => exact zT_of 528 (by decide +kernel) (by decide +kernel)
  | 1, _ => exact zT_of 530 (by decide +kernel) (by decide +kernel)
  | 2, _ => exact zT_of 532 (by decide +kernel) (by decide +kernel)
  | 3, _ => exact zT_of 534 (by decide +kernel) (by decide +kernel)
  | k + 4, hk => exact absurd hk (by omega)
def T_MD : u_T := fun k => match k with
  | 0 => ("RollCalls$Mayday", "person", "I", true)
  | 1 => ("RollCalls$Mayday", "place", "I", true)
  | 2 => ("RollCalls$Mayday", "second", "I", true)
  | 3 => ("RollCalls$Mayday", "open", "Z", false)
  | _ => ("RollCalls$Mayday", "team", "I", false)
def ty_MD : Nat → FieldType := fun k => match k with
  | 0 => .int
  | 1 => .int
  | 2 => .int
  | 3 => .boolean
  | _ => .int
theorem n_MD : ∀ a, a < 5 → ∀ b, b < 5 → a ≠ b → (T_MD a).2.1 ≠ (T_MD b).2.1 := by decide +kernel
theorem t_MD : ∀ k, k < 5 → parseFieldDescriptor (T_MD k).2.2.1 = some (ty_MD k) := by decide +kernel
theorem i_MD : ∀ w ∈ u_ws "RollCalls$Mayday" T_MD 5, w ∈ zT := by
  intro w hw
  rcases List.mem_map.mp hw with ⟨k, hk, rfl⟩
  have hk := List.mem_range.mp hk
  match k, hk with
  | 0, _ => exact zT_of 637 (by decide +kernel) (by decide +kernel)
  | 1, _ => exact zT_of 639 (by decide +kernel) (by decide +kernel)
  | 2, _ => exact zT_of 641 (by decide +kernel) (by decide +kernel)
  | 3, _ => exact zT_of 643 (by decide +kernel) (by decide +kernel)
  | 4, _ => exact zT_of 645 (by decide +kernel) (by decide +kernel)
  | k + 5, hk => exact absurd hk (by omega)
def T_EV : u_T := fun k => match k with
  | 0 => ("RollCalls$Evacuation", "lastSecond", "I", true)
  | 1 => ("RollCalls$Evacuation", "mustConfirm", "[Z", true)
  | 2 => ("RollCalls$Evacuation", "isLate", "[Z", true)
  | 3 => ("RollCalls$Evacuation", "left", "I", false)
  | _ => ("RollCalls$Evacuation", "lateTold", "Z", false)
def ty_EV : Nat → FieldType := fun k => match k with
  | 0 => .int
  | 1 => .array .boolean
  | 2 => .array .boolean
  | 3 => .int
  | _ => .boolean
theorem n_EV : ∀ a, a < 5 → ∀ b, b < 5 → a ≠ b → (T_EV a).2.1 ≠ (T_EV b).2.1 := by decide +kernel
theorem t_EV : ∀ k, k < 5 → parseFieldDescriptor (T_EV k).2.2.1 = some (ty_EV k) := by decide +kernel
theorem i_EV : ∀ w ∈ u_ws "RollCalls$Evacuation" T_EV 5, w ∈ zT := by
  intro w hw
  rcases List.mem_map.mp hw with ⟨k, hk, rfl⟩
  have hk := List.mem_range.mp hk
  match k, hk with
  | 0, _ => exact zT_of 708 (by decide +kernel) (by decide +kernel)
  | 1, _ => exact zT_of 710 (by decide +kernel) (by decide +kernel)
  | 2, _ => exact zT_of 712 (by decide +kernel) (by decide +kernel)
  | 3, _ => exact zT_of 714 (by decide +kernel) (by decide +kernel)
  | 4, _ => exact zT_of 716 (by decide +kernel) (by decide +kernel)
  | k + 5, hk => exact absurd hk (by omega)
def T_RC : u_T := fun k => match k with
  | 0 => ("RollCalls", "guestsIn", "[I", true)
  | 1 => ("RollCalls", "persons", "Ljava/util/ArrayList;", true)
  | 2 => ("RollCalls", "moves", "Ljava/util/ArrayList;", true)
  | 3 => ("RollCalls", "rolls", "Ljava/util/ArrayList;", true)
  | 4 => ("RollCalls", "doubles", "Ljava/util/ArrayList;", true)
  | 5 => ("RollCalls", "maydays", "Ljava/util/ArrayList;", true)
  | 6 => ("RollCalls", "evacuations", "Ljava/util/ArrayList;", true)
  | _ => ("RollCalls", "second", "I", false)
def ty_RC : Nat → FieldType := fun k => match k with
  | 0 => .array .int
  | 1 => .object "java/util/ArrayList"
  | 2 => .object "java/util/ArrayList"
  | 3 => .object "java/util/ArrayList"
  | 4 => .object "java/util/ArrayList"
  | 5 => .object "java/util/ArrayList"
  | 6 => .object "java/util/ArrayList"
  | _ => .int
theorem n_RC : ∀ a, a < 8 → ∀ b, b < 8 → a ≠ b → (T_RC a).2.1 ≠ (T_RC b).2.1 := by decide +kernel
theorem t_RC : ∀ k, k < 8 → parseFieldDescriptor (T_RC k).2.2.1 = some (ty_RC k) := by decide +kernel
theorem i_RC : ∀ w ∈ u_ws "RollCalls" T_RC 8, w ∈ zT := by
  intro w hw
  rcases List.mem_map.mp hw with ⟨k, hk, rfl⟩
  have hk := List.mem_range.mp hk
  match k, hk with
  | 0, _ => exact zT_of 109 (by decide +kernel) (by decide +kernel)
  | 1, _ => exact zT_of 111 (by decide +kernel) (by decide +kernel)
  | 2, _ => exact zT_of 113 (by decide +kernel) (by decide +kernel)
  | 3, _ => exact zT_of 115 (by decide +kernel) (by decide +kernel)
  | 4, _ => exact zT_of 117 (by decide +kernel) (by decide +kernel)
  | 5, _ => exact zT_of 119 (by decide +kernel) (by decide +kernel)
  | 6, _ => exact zT_of 121 (by decide +kernel) (by decide +kernel)
  | 7, _ => exact zT_of 123 (by decide +kernel) (by decide +kernel)
  | k + 8, hk => exact absurd hk (by omega)
def T_MM : u_T := fun k => match k with
  | 0 => ("RollCallsModel", "thrown", "I", false)
  | 1 => ("RollCallsModel", "now", "I", false)
  | 2 => ("RollCallsModel", "persons", "I", false)
  | 3 => ("RollCallsModel", "guests", "[I", true)
  | 4 => ("RollCallsModel", "moves", "I", false)
  | 5 => ("RollCallsModel", "mover", "[I", true)
  | 6 => ("RollCallsModel", "moveTo", "[I", true)
  | 7 => ("RollCallsModel", "moveAt", "[I", true)
  | 8 => ("RollCallsModel", "rolls", "I", false)
  | 9 => ("RollCallsModel", "rollOf", "[I", true)
  | 10 => ("RollCallsModel", "round", "[I", true)
  | 11 => ("RollCallsModel", "firstMove", "[I", true)
  | 12 => ("RollCallsModel", "guestsAsked", "[I", true)
  | 13 => ("RollCallsModel", "guestsSeen", "[I", true)
  | 14 => ("RollCallsModel", "strangers", "[I", true)
  | 15 => ("RollCallsModel", "asked", "[Z", true)
  | 16 => ("RollCallsModel", "counted", "[I", true)
  | 17 => ("RollCallsModel", "missing", "[Z", true)
  | 18 => ("RollCallsModel", "doubles", "I", false)
  | 19 => ("RollCallsModel", "twice", "[I", true)
  | 20 => ("RollCallsModel", "maydays", "I", false)
  | 21 => ("RollCallsModel", "isOpen", "[Z", true)
  | 22 => ("RollCallsModel", "team", "[I", true)
  | 23 => ("RollCallsModel", "who", "[I", true)
  | 24 => ("RollCallsModel", "place", "[I", true)
  | 25 => ("RollCallsModel", "told", "[I", true)
  | 26 => ("RollCallsModel", "evacuations", "I", false)
  | 27 => ("RollCallsModel", "until", "[I", true)
  | _ => ("RollCallsModel", "confirmed", "[I", true)
def ty_MM : Nat → FieldType := fun k => match k with
  | 0 => .int
  | 1 => .int
  | 2 => .int
  | 3 => .array .int
  | 4 => .int
  | 5 => .array .int
  | 6 => .array .int
  | 7 => .array .int
  | 8 => .int
  | 9 => .array .int
  | 10 => .array .int
  | 11 => .array .int
  | 12 => .array .int
  | 13 => .array .int
  | 14 => .array .int
  | 15 => .array .boolean
  | 16 => .array .int
  | 17 => .array .boolean
  | 18 => .int
  | 19 => .array .int
  | 20 => .int
  | 21 => .array .boolean
  | 22 => .array .int
  | 23 => .array .int
  | 24 => .array .int
  | 25 => .array .int
  | 26 => .int
  | 27 => .array .int
  | _ => .array .int
theorem n_MM : ∀ a, a < 29 → ∀ b, b < 29 → a ≠ b → (T_MM a).2.1 ≠ (T_MM b).2.1 := by decide +kernel
theorem t_MM : ∀ k, k < 29 → parseFieldDescriptor (T_MM k).2.2.1 = some (ty_MM k) := by decide +kernel
theorem i_MM : ∀ w ∈ u_ws "RollCallsModel" T_MM 29, w ∈ zT := by
  intro w hw
  rcases List.mem_map.mp hw with ⟨k, hk, rfl⟩
  have hk := List.mem_range.mp hk
  match k, hk with
  | 0, _ => exact zT_of 817 (by decide +kernel) (by decide +kernel)
  | 1, _ => exact zT_of 819 (by decide +kernel) (by decide +kernel)
  | 2, _ => exact zT_of 821 (by decide +kernel) (by decide +kernel)
  | 3, _ => exact zT_of 823 (by decide +kernel) (by decide +kernel)
  | 4, _ => exact zT_of 825 (by decide +kernel) (by decide +kernel)
  | 5, _ => exact zT_of 827 (by decide +kernel) (by decide +kernel)
  | 6, _ => exact zT_of 829 (by decide +kernel) (by decide +kernel)
  | 7, _ => exact zT_of 831 (by decide +kernel) (by decide +kernel)
  | 8, _ => exact zT_of 833 (by decide +kernel) (by decide +kernel)
  | 9, _ => exact zT_of 835 (by decide +kernel) (by decide +kernel)
  | 10, _ => exact zT_of 837 (by decide +kernel) (by decide +kernel)
  | 11, _ => exact zT_of 839 (by decide +kernel) (by decide +kernel)
  | 12, _ => exact zT_of 841 (by decide +kernel) (by decide +kernel)
  | 13, _ => exact zT_of 843 (by decide +kernel) (by decide +kernel)
  | 14, _ => exact zT_of 845 (by decide +kernel) (by decide +kernel)
  | 15, _ => exact zT_of 847 (by decide +kernel) (by decide +kernel)
  | 16, _ => exact zT_of 849 (by decide +kernel) (by decide +kernel)
  | 17, _ => exact zT_of 851 (by decide +kernel) (by decide +kernel)
  | 18, _ => exact zT_of 853 (by decide +kernel) (by decide +kernel)
  | 19, _ => exact zT_of 855 (by decide +kernel) (by decide +kernel)
  | 20, _ => exact zT_of 857 (by decide +kernel) (by decide +kernel)
  | 21, _ => exact zT_of 859 (by decide +kernel) (by decide +kernel)
  | 22, _ => exact zT_of 861 (by decide +kernel) (by decide +kernel)
  | 23, _ => exact zT_of 863 (by decide +kernel) (by decide +kernel)
  | 24, _ => exact zT_of 865 (by decide +kernel) (by decide +kernel)
  | 25, _ => exact zT_of 867 (by decide +kernel) (by decide +kernel)
  | 26, _ => exact zT_of 869 (by decide +kernel) (by decide +kernel)
  | 27, _ => exact zT_of 871 (by decide +kernel) (by decide +kernel)
  | 28, _ => exact zT_of 873 (by decide +kernel) (by decide +kernel)
  | k + 29, hk => exact absurd hk (by omega)
abbrev zcl : List vw_C := [("java/util/ArrayList", T_AL, 3), ("RollCalls$Person", T_PE, 3), ("RollCalls$Move", T_MO, 3), ("RollCalls$Roll", T_RO, 10), ("RollCalls$DoubleCount", T_DC, 4), ("RollCalls$Mayday", T_MD, 5), ("RollCalls$Evacuation", T_EV, 5), ("RollCalls", T_RC, 8), ("RollCallsModel", T_MM, 29)]
