section
-- ===== PART A: goes FIRST, ahead of the names: the tables' words, and 'selects' of the private methods out of them =====
/-- a private method of a class that the tables say can be made, by its rows of tables_1 -/
def lw_okq (q : MethodName × Nat) : Prop := (q.1.cls ≠ "java/lang/invoke/MethodHandle" ∧ q.1.cls ≠ "java/lang/invoke/VarHandle") ∧ Cond.instantiable q.1.cls q.2 ∈ tables_1 ∧ Cond.privateMethod q.1 ∈ tables_1 ∧ Cond.instanceMethod q.1 ∈ tables_1
theorem lw_p0 : lw_okq (⟨"GantryHall", "isVehicle", "(I)Z"⟩, 14) := ⟨⟨by decide +kernel, by decide +kernel⟩, List.mem_of_getElem? (i := 26) (by decide +kernel), List.mem_of_getElem? (i := 181) (by decide +kernel), List.mem_of_getElem? (i := 182) (by decide +kernel)⟩
theorem lw_p1 : lw_okq (⟨"java/lang/Throwable", "fillInStackTrace", "(I)Ljava/lang/Throwable;"⟩, 6) := ⟨⟨by decide +kernel, by decide +kernel⟩, List.mem_of_getElem? (i := 233) (by decide +kernel), List.mem_of_getElem? (i := 231) (by decide +kernel), List.mem_of_getElem? (i := 232) (by decide +kernel)⟩
theorem lw_p2 : lw_okq (⟨"GantryHall", "isSegment", "(I)Z"⟩, 14) := ⟨⟨by decide +kernel, by decide +kernel⟩, List.mem_of_getElem? (i := 26) (by decide +kernel), List.mem_of_getElem? (i := 301) (by decide +kernel), List.mem_of_getElem? (i := 302) (by decide +kernel)⟩
theorem lw_p3 : lw_okq (⟨"GantryHall", "isClosed", "(I)Z"⟩, 14) := ⟨⟨by decide +kernel, by decide +kernel⟩, List.mem_of_getElem? (i := 26) (by decide +kernel), List.mem_of_getElem? (i := 305) (by decide +kernel), List.mem_of_getElem? (i := 306) (by decide +kernel)⟩
theorem lw_p4 : lw_okq (⟨"GantryHall", "today", "()I"⟩, 14) := ⟨⟨by decide +kernel, by decide +kernel⟩, List.mem_of_getElem? (i := 26) (by decide +kernel), List.mem_of_getElem? (i := 309) (by decide +kernel), List.mem_of_getElem? (i := 310) (by decide +kernel)⟩
theorem lw_p5 : lw_okq (⟨"GantryHall", "hasPassed", "(LGantryHall$Vehicle;LGantryHall$Segment;I)Z"⟩, 14) := ⟨⟨by decide +kernel, by decide +kernel⟩, List.mem_of_getElem? (i := 26) (by decide +kernel), List.mem_of_getElem? (i := 333) (by decide +kernel), List.mem_of_getElem? (i := 334) (by decide +kernel)⟩
theorem lw_p6 : lw_okq (⟨"GantryHall$DayBook", "pick", "(Ljava/util/ArrayList;LGantryHall$Vehicle;I)V"⟩, 6) := ⟨⟨by decide +kernel, by decide +kernel⟩, List.mem_of_getElem? (i := 108) (by decide +kernel), List.mem_of_getElem? (i := 341) (by decide +kernel), List.mem_of_getElem? (i := 342) (by decide +kernel)⟩
theorem lw_p7 : lw_okq (⟨"GantryHall$DayBook", "placeOf", "(LGantryHall$Sighting;)I"⟩, 6) := ⟨⟨by decide +kernel, by decide +kernel⟩, List.mem_of_getElem? (i := 108) (by decide +kernel), List.mem_of_getElem? (i := 356) (by decide +kernel), List.mem_of_getElem? (i := 357) (by decide +kernel)⟩
theorem lw_p8 : lw_okq (⟨"java/util/ArrayList", "rangeCheckForAdd", "(I)V"⟩, 3) := ⟨⟨by decide +kernel, by decide +kernel⟩, List.mem_of_getElem? (i := 34) (by decide +kernel), List.mem_of_getElem? (i := 368) (by decide +kernel), List.mem_of_getElem? (i := 369) (by decide +kernel)⟩
theorem lw_p9 : lw_okq (⟨"java/util/ArrayList", "grow", "()[Ljava/lang/Object;"⟩, 3) := ⟨⟨by decide +kernel, by decide +kernel⟩, List.mem_of_getElem? (i := 34) (by decide +kernel), List.mem_of_getElem? (i := 372) (by decide +kernel), List.mem_of_getElem? (i := 373) (by decide +kernel)⟩
theorem lw_p10 : lw_okq (⟨"java/util/ArrayList", "grow", "(I)[Ljava/lang/Object;"⟩, 3) := ⟨⟨by decide +kernel, by decide +kernel⟩, List.mem_of_getElem? (i := 34) (by decide +kernel), List.mem_of_getElem? (i := 376) (by decide +kernel), List.mem_of_getElem? (i := 377) (by decide +kernel)⟩
theorem lw_p11 : lw_okq (⟨"GantryHall$DayBook", "joinPicked", "()V"⟩, 6) := ⟨⟨by decide +kernel, by decide +kernel⟩, List.mem_of_getElem? (i := 108) (by decide +kernel), List.mem_of_getElem? (i := 425) (by decide +kernel), List.mem_of_getElem? (i := 426) (by decide +kernel)⟩
theorem lw_p12 : lw_okq (⟨"GantryHall$DayBook", "lastOn", "(LGantryHall$Segment;)LGantryHall$Passage;"⟩, 6) := ⟨⟨by decide +kernel, by decide +kernel⟩, List.mem_of_getElem? (i := 108) (by decide +kernel), List.mem_of_getElem? (i := 429) (by decide +kernel), List.mem_of_getElem? (i := 430) (by decide +kernel)⟩
theorem lw_p13 : lw_okq (⟨"GantryHall$DayBook", "begin", "(LGantryHall$Segment;I)LGantryHall$Passage;"⟩, 6) := ⟨⟨by decide +kernel, by decide +kernel⟩, List.mem_of_getElem? (i := 108) (by decide +kernel), List.mem_of_getElem? (i := 434) (by decide +kernel), List.mem_of_getElem? (i := 435) (by decide +kernel)⟩
theorem lw_p14 : lw_okq (⟨"java/util/ArrayList", "add", "(Ljava/lang/Object;[Ljava/lang/Object;I)V"⟩, 3) := ⟨⟨by decide +kernel, by decide +kernel⟩, List.mem_of_getElem? (i := 34) (by decide +kernel), List.mem_of_getElem? (i := 472) (by decide +kernel), List.mem_of_getElem? (i := 473) (by decide +kernel)⟩
theorem lw_p15 : lw_okq (⟨"GantryHall$DayBook", "addSure", "(Ljava/util/ArrayList;)V"⟩, 6) := ⟨⟨by decide +kernel, by decide +kernel⟩, List.mem_of_getElem? (i := 108) (by decide +kernel), List.mem_of_getElem? (i := 484) (by decide +kernel), List.mem_of_getElem? (i := 485) (by decide +kernel)⟩
def lw_privs_1 : List (MethodName × Nat) := [(⟨"GantryHall", "isVehicle", "(I)Z"⟩, 14), (⟨"java/lang/Throwable", "fillInStackTrace", "(I)Ljava/lang/Throwable;"⟩, 6), (⟨"GantryHall", "isSegment", "(I)Z"⟩, 14), (⟨"GantryHall", "isClosed", "(I)Z"⟩, 14), (⟨"GantryHall", "today", "()I"⟩, 14), (⟨"GantryHall", "hasPassed", "(LGantryHall$Vehicle;LGantryHall$Segment;I)Z"⟩, 14), (⟨"GantryHall$DayBook", "pick", "(Ljava/util/ArrayList;LGantryHall$Vehicle;I)V"⟩, 6), (⟨"GantryHall$DayBook", "placeOf", "(LGantryHall$Sighting;)I"⟩, 6), (⟨"java/util/ArrayList", "rangeCheckForAdd", "(I)V"⟩, 3), (⟨"java/util/ArrayList", "grow", "()[Ljava/lang/Object;"⟩, 3), (⟨"java/util/ArrayList", "grow", "(I)[Ljava/lang/Object;"⟩, 3), (⟨"GantryHall$DayBook", "joinPicked", "()V"⟩, 6), (⟨"GantryHall$DayBook", "lastOn", "(LGantryHall$Segment;)LGantryHall$Passage;"⟩, 6), (⟨"GantryHall$DayBook", "begin", "(LGantryHall$Segment;I)LGantryHall$Passage;"⟩, 6), (⟨"java/util/ArrayList", "add", "(Ljava/lang/Object;[Ljava/lang/Object;I)V"⟩, 3), (⟨"GantryHall$DayBook", "addSure", "(Ljava/util/ArrayList;)V"⟩, 6)]
theorem lw_r1 : ∀ q ∈ lw_privs_1, lw_okq q := List.forall_mem_cons.mpr ⟨lw_p0, List.forall_mem_cons.mpr ⟨lw_p1, List.forall_mem_cons.mpr ⟨lw_p2, List.forall_mem_cons.mpr ⟨lw_p3, List.forall_mem_cons.mpr ⟨lw_p4, List.forall_mem_cons.mpr ⟨lw_p5, List.forall_mem_cons.mpr ⟨lw_p6, List.forall_mem_cons.mpr ⟨lw_p7, List.forall_mem_cons.mpr ⟨lw_p8, List.forall_mem_cons.mpr ⟨lw_p9, List.forall_mem_cons.mpr ⟨lw_p10, List.forall_mem_cons.mpr ⟨lw_p11, List.forall_mem_cons.mpr ⟨lw_p12, List.forall_mem_cons.mpr ⟨lw_p13, List.forall_mem_cons.mpr ⟨lw_p14, List.forall_mem_cons.mpr ⟨lw_p15, fun _ h => absurd h List.not_mem_nil⟩⟩⟩⟩⟩⟩⟩⟩⟩⟩⟩⟩⟩⟩⟩⟩
theorem lw_p16 : lw_okq (⟨"GantryHall$DayBook", "addInferred", "(Ljava/util/ArrayList;LGantryHall$Passage;LGantryHall$Passage;)V"⟩, 6) := ⟨⟨by decide +kernel, by decide +kernel⟩, List.mem_of_getElem? (i := 108) (by decide +kernel), List.mem_of_getElem? (i := 488) (by decide +kernel), List.mem_of_getElem? (i := 489) (by decide +kernel)⟩
theorem lw_p17 : lw_okq (⟨"GantryHall$DayBook", "addDoubtful", "()V"⟩, 6) := ⟨⟨by decide +kernel, by decide +kernel⟩, List.mem_of_getElem? (i := 108) (by decide +kernel), List.mem_of_getElem? (i := 496) (by decide +kernel), List.mem_of_getElem? (i := 497) (by decide +kernel)⟩
theorem lw_p18 : lw_okq (⟨"GantryHall", "tollOf", "(LGantryHall$Vehicle;LGantryHall$Segment;I)I"⟩, 14) := ⟨⟨by decide +kernel, by decide +kernel⟩, List.mem_of_getElem? (i := 26) (by decide +kernel), List.mem_of_getElem? (i := 505) (by decide +kernel), List.mem_of_getElem? (i := 506) (by decide +kernel)⟩
theorem lw_p19 : lw_okq (⟨"GantryHall$Ledger", "share", "(III)V"⟩, 6) := ⟨⟨by decide +kernel, by decide +kernel⟩, List.mem_of_getElem? (i := 79) (by decide +kernel), List.mem_of_getElem? (i := 570) (by decide +kernel), List.mem_of_getElem? (i := 571) (by decide +kernel)⟩
theorem lw_p20 : lw_okq (⟨"GantryHall", "closeDay", "(I)I"⟩, 14) := ⟨⟨by decide +kernel, by decide +kernel⟩, List.mem_of_getElem? (i := 26) (by decide +kernel), List.mem_of_getElem? (i := 579) (by decide +kernel), List.mem_of_getElem? (i := 580) (by decide +kernel)⟩
theorem lw_p21 : lw_okq (⟨"GantryHall", "takeBill", "(LGantryHall$Vehicle;I)I"⟩, 14) := ⟨⟨by decide +kernel, by decide +kernel⟩, List.mem_of_getElem? (i := 26) (by decide +kernel), List.mem_of_getElem? (i := 587) (by decide +kernel), List.mem_of_getElem? (i := 588) (by decide +kernel)⟩
theorem lw_p22 : lw_okq (⟨"GantryHall", "blockedSet", "()I"⟩, 14) := ⟨⟨by decide +kernel, by decide +kernel⟩, List.mem_of_getElem? (i := 26) (by decide +kernel), List.mem_of_getElem? (i := 595) (by decide +kernel), List.mem_of_getElem? (i := 596) (by decide +kernel)⟩
theorem lw_p23 : lw_okq (⟨"GantryHall", "eraseDay", "(I)V"⟩, 14) := ⟨⟨by decide +kernel, by decide +kernel⟩, List.mem_of_getElem? (i := 26) (by decide +kernel), List.mem_of_getElem? (i := 603) (by decide +kernel), List.mem_of_getElem? (i := 604) (by decide +kernel)⟩
theorem lw_p24 : lw_okq (⟨"GantryHall", "setReach", "(II)V"⟩, 14) := ⟨⟨by decide +kernel, by decide +kernel⟩, List.mem_of_getElem? (i := 26) (by decide +kernel), List.mem_of_getElem? (i := 626) (by decide +kernel), List.mem_of_getElem? (i := 627) (by decide +kernel)⟩
theorem lw_p25 : lw_okq (⟨"GantryHall", "extendWays", "(LGantryHall$Vehicle;)Z"⟩, 14) := ⟨⟨by decide +kernel, by decide +kernel⟩, List.mem_of_getElem? (i := 26) (by decide +kernel), List.mem_of_getElem? (i := 630) (by decide +kernel), List.mem_of_getElem? (i := 631) (by decide +kernel)⟩
theorem lw_p26 : lw_okq (⟨"GantryHall", "reachOf", "(I)I"⟩, 14) := ⟨⟨by decide +kernel, by decide +kernel⟩, List.mem_of_getElem? (i := 26) (by decide +kernel), List.mem_of_getElem? (i := 634) (by decide +kernel), List.mem_of_getElem? (i := 635) (by decide +kernel)⟩
theorem lw_p27 : lw_okq (⟨"GantryHall", "isSighting", "(I)Z"⟩, 14) := ⟨⟨by decide +kernel, by decide +kernel⟩, List.mem_of_getElem? (i := 26) (by decide +kernel), List.mem_of_getElem? (i := 672) (by decide +kernel), List.mem_of_getElem? (i := 673) (by decide +kernel)⟩
theorem lw_p28 : lw_okq (⟨"GantryHall", "foldVehicle", "(JLGantryHall$Vehicle;)J"⟩, 14) := ⟨⟨by decide +kernel, by decide +kernel⟩, List.mem_of_getElem? (i := 26) (by decide +kernel), List.mem_of_getElem? (i := 676) (by decide +kernel), List.mem_of_getElem? (i := 677) (by decide +kernel)⟩
theorem lw_p29 : lw_okq (⟨"GantryHall", "foldDay", "(JLGantryHall$Vehicle;I)J"⟩, 14) := ⟨⟨by decide +kernel, by decide +kernel⟩, List.mem_of_getElem? (i := 26) (by decide +kernel), List.mem_of_getElem? (i := 684) (by decide +kernel), List.mem_of_getElem? (i := 685) (by decide +kernel)⟩
theorem lw_p30 : lw_okq (⟨"GantryHall", "isDayToTell", "(I)Z"⟩, 14) := ⟨⟨by decide +kernel, by decide +kernel⟩, List.mem_of_getElem? (i := 26) (by decide +kernel), List.mem_of_getElem? (i := 772) (by decide +kernel), List.mem_of_getElem? (i := 773) (by decide +kernel)⟩
def lw_privs_2 : List (MethodName × Nat) := [(⟨"GantryHall$DayBook", "addInferred", "(Ljava/util/ArrayList;LGantryHall$Passage;LGantryHall$Passage;)V"⟩, 6), (⟨"GantryHall$DayBook", "addDoubtful", "()V"⟩, 6), (⟨"GantryHall", "tollOf", "(LGantryHall$Vehicle;LGantryHall$Segment;I)I"⟩, 14), (⟨"GantryHall$Ledger", "share", "(III)V"⟩, 6), (⟨"GantryHall", "closeDay", "(I)I"⟩, 14), (⟨"GantryHall", "takeBill", "(LGantryHall$Vehicle;I)I"⟩, 14), (⟨"GantryHall", "blockedSet", "()I"⟩, 14), (⟨"GantryHall", "eraseDay", "(I)V"⟩, 14), (⟨"GantryHall", "setReach", "(II)V"⟩, 14), (⟨"GantryHall", "extendWays", "(LGantryHall$Vehicle;)Z"⟩, 14), (⟨"GantryHall", "reachOf", "(I)I"⟩, 14), (⟨"GantryHall", "isSighting", "(I)Z"⟩, 14), (⟨"GantryHall", "foldVehicle", "(JLGantryHall$Vehicle;)J"⟩, 14), (⟨"GantryHall", "foldDay", "(JLGantryHall$Vehicle;I)J"⟩, 14), (⟨"GantryHall", "isDayToTell", "(I)Z"⟩, 14)]
theorem lw_r2 : ∀ q ∈ lw_privs_2, lw_okq q := List.forall_mem_cons.mpr ⟨lw_p16, List.forall_mem_cons.mpr ⟨lw_p17, List.forall_mem_cons.mpr ⟨lw_p18, List.forall_mem_cons.mpr ⟨lw_p19, List.forall_mem_cons.mpr ⟨lw_p20, List.forall_mem_cons.mpr ⟨lw_p21, List.forall_mem_cons.mpr ⟨lw_p22, List.forall_mem_cons.mpr ⟨lw_p23, List.forall_mem_cons.mpr ⟨lw_p24, List.forall_mem_cons.mpr ⟨lw_p25, List.forall_mem_cons.mpr ⟨lw_p26, List.forall_mem_cons.mpr ⟨lw_p27, List.forall_mem_cons.mpr ⟨lw_p28, List.forall_mem_cons.mpr ⟨lw_p29, List.forall_mem_cons.mpr ⟨lw_p30, fun _ h => absurd h List.not_mem_nil⟩⟩⟩⟩⟩⟩⟩⟩⟩⟩⟩⟩⟩⟩⟩
def lw_privs : List (MethodName × Nat) := lw_privs_1 ++ (lw_privs_2)
def lw_tbl : List Cond := k2_sels lw_privs ++ tables_1
theorem lw_privs_ok : ∀ q ∈ lw_privs, lw_okq q := by
  show ∀ q ∈ lw_privs_1 ++ (lw_privs_2), lw_okq q
  exact List.forall_mem_append.mpr ⟨lw_r1, lw_r2⟩

/-- the words that move along with every call -/
def zGT : List Cond := lw_tbl.filter goodWord
theorem z_good : ∀ w ∈ zGT, (w.onTables && w.keeps) = true ∨ ∃ ty, w = .arrayClass ty := fun w h => good_of_word (List.mem_filter.mp h).2
theorem z_gt {w : Cond} (i : Nat) (h : tables_1[i]? = some w) (g : goodWord w = true) : w ∈ zGT := List.mem_filter.mpr ⟨List.mem_append_right _ (List.mem_of_getElem? h), g⟩
theorem z_gs {w : Cond} (i : Nat) (h : (k2_sels lw_privs)[i]? = some w) (g : goodWord w = true) : w ∈ zGT := List.mem_filter.mpr ⟨List.mem_append_left _ (List.mem_of_getElem? h), g⟩
theorem z_goodIn {w0 : Cond} (h : w0 ∈ zGT) : GoodIn zGT (w0 :: zGT) := fun w hw => by
  rcases List.mem_cons.mp hw with e | e
  · subst e; exact ⟨h, z_good _ h⟩
  · exact ⟨e, z_good _ e⟩
end
section
def RX0 : String := "GantryHall$DayBook"
def TX0 : u_T := fun k => match k with
  | 0 => ("GantryHall$DayBook", "picked", "Ljava/util/ArrayList;", true)
  | 1 => ("GantryHall$DayBook", "joined", "Ljava/util/ArrayList;", true)
  | 2 => ("GantryHall$DayBook", "rows", "Ljava/util/ArrayList;", true)
  | 3 => ("GantryHall$DayBook", "pool", "Ljava/util/ArrayList;", true)
  | 4 => ("GantryHall$DayBook", "poolUsed", "I", false)
  | _ => ("GantryHall$DayBook", "certain", "I", false)
def tyX0 : Nat → FieldType := fun k => match k with
  | 0 => .object "java/util/ArrayList"
  | 1 => .object "java/util/ArrayList"
  | 2 => .object "java/util/ArrayList"
  | 3 => .object "java/util/ArrayList"
  | 4 => .int
  | _ => .int
abbrev wsX00 : List Cond := u_ws RX0 TX0 6
theorem nmX0 : ∀ a, a < 6 → ∀ b, b < 6 → a ≠ b → (TX0 a).2.1 ≠ (TX0 b).2.1 := by decide +kernel
theorem tyX0_ok : ∀ k, k < 6 → parseFieldDescriptor (TX0 k).2.2.1 = some (tyX0 k) := by decide +kernel
abbrev cX0_init : ByteArray := prog_2_method_1_code
def yX0_init : MethodName := ⟨RX0, "<init>", "()V"⟩
abbrev cX0_size : ByteArray := prog_2_method_2_code
def yX0_size : MethodName := ⟨RX0, "size", "()I"⟩
abbrev cX0_gather : ByteArray := prog_2_method_3_code
def yX0_gather : MethodName := ⟨RX0, "gather", "(Ljava/util/ArrayList;Ljava/util/ArrayList;LGantryHall$Vehicle;I)V"⟩
abbrev cX0_pick : ByteArray := prog_2_method_4_code
def yX0_pick : MethodName := ⟨RX0, "pick", "(Ljava/util/ArrayList;LGantryHall$Vehicle;I)V"⟩
abbrev cX0_placeOf : ByteArray := prog_2_method_5_code
def yX0_placeOf : MethodName := ⟨RX0, "placeOf", "(LGantryHall$Sighting;)I"⟩
abbrev cX0_joinPicked : ByteArray := prog_2_method_6_code
def yX0_joinPicked : MethodName := ⟨RX0, "joinPicked", "()V"⟩
abbrev cX0_lastOn : ByteArray := prog_2_method_7_code
def yX0_lastOn : MethodName := ⟨RX0, "lastOn", "(LGantryHall$Segment;)LGantryHall$Passage;"⟩
abbrev cX0_begin : ByteArray := prog_2_method_8_code
def yX0_begin : MethodName := ⟨RX0, "begin", "(LGantryHall$Segment;I)LGantryHall$Passage;"⟩
abbrev cX0_addSure : ByteArray := prog_2_method_9_code
def yX0_addSure : MethodName := ⟨RX0, "addSure", "(Ljava/util/ArrayList;)V"⟩
abbrev cX0_addInferred : ByteArray := prog_2_method_10_code
def yX0_addInferred : MethodName := ⟨RX0, "addInferred", "(Ljava/util/ArrayList;LGantryHall$Passage;LGantryHall$Passage;)V"⟩
abbrev cX0_onlyBetween : ByteArray := prog_2_method_11_code
def yX0_onlyBetween : MethodName := ⟨RX0, "onlyBetween", "(Ljava/util/ArrayList;II)LGantryHall$Segment;"⟩
abbrev cX0_addDoubtful : ByteArray := prog_2_method_12_code
def yX0_addDoubtful : MethodName := ⟨RX0, "addDoubtful", "()V"⟩
abbrev cX0_charge : ByteArray := prog_2_method_13_code
def yX0_charge : MethodName := ⟨RX0, "charge", "(LGantryHall$Vehicle;IILGantryHall$Tariffs;)I"⟩
abbrev cX0_reasonOf : ByteArray := prog_2_method_14_code
def yX0_reasonOf : MethodName := ⟨RX0, "reasonOf", "(LGantryHall$Passage;LGantryHall$Vehicle;II)I"⟩
abbrev cX0_dueFor : ByteArray := prog_2_method_15_code
def yX0_dueFor : MethodName := ⟨RX0, "dueFor", "(III)I"⟩
abbrev cX0_dueTo : ByteArray := prog_2_method_16_code
def yX0_dueTo : MethodName := ⟨RX0, "dueTo", "(I)I"⟩
abbrev cX0_journeyCount : ByteArray := prog_2_method_17_code
def yX0_journeyCount : MethodName := ⟨RX0, "journeyCount", "()I"⟩
abbrev cX0_hasBegun : ByteArray := prog_2_method_18_code
def yX0_hasBegun : MethodName := ⟨RX0, "hasBegun", "(LGantryHall$Segment;I)Z"⟩
abbrev cX0_fact : ByteArray := prog_2_method_19_code
def yX0_fact : MethodName := ⟨RX0, "fact", "(II)I"⟩
def RX1 : String := "GantryHall$Ledger"
def TX1 : u_T := fun k => match k with
  | 0 => ("GantryHall$Ledger", "coins", "[I", true)
  | 1 => ("GantryHall$Ledger", "caps", "[I", true)
  | 2 => ("GantryHall$Ledger", "paid", "[I", true)
  | 3 => ("GantryHall$Ledger", "hall", "I", false)
  | 4 => ("GantryHall$Ledger", "taken", "I", false)
  | _ => ("GantryHall$Ledger", "givenBack", "I", false)
def tyX1 : Nat → FieldType := fun k => match k with
  | 0 => .array .int
  | 1 => .array .int
  | 2 => .array .int
  | 3 => .int
  | 4 => .int
  | _ => .int
abbrev wsX10 : List Cond := u_ws RX1 TX1 6
theorem nmX1 : ∀ a, a < 6 → ∀ b, b < 6 → a ≠ b → (TX1 a).2.1 ≠ (TX1 b).2.1 := by decide +kernel
theorem tyX1_ok : ∀ k, k < 6 → parseFieldDescriptor (TX1 k).2.2.1 = some (tyX1 k) := by decide +kernel
abbrev cX1_init : ByteArray := prog_3_method_1_code
def yX1_init : MethodName := ⟨RX1, "<init>", "()V"⟩
abbrev cX1_coinsOf : ByteArray := prog_3_method_2_code
def yX1_coinsOf : MethodName := ⟨RX1, "coinsOf", "(I)I"⟩
abbrev cX1_keepCap : ByteArray := prog_3_method_3_code
def yX1_keepCap : MethodName := ⟨RX1, "keepCap", "(II)V"⟩
abbrev cX1_capOfClosing : ByteArray := prog_3_method_4_code
def yX1_capOfClosing : MethodName := ⟨RX1, "capOfClosing", "(I)I"⟩
abbrev cX1_receive : ByteArray := prog_3_method_5_code
def yX1_receive : MethodName := ⟨RX1, "receive", "(IIII)V"⟩
abbrev cX1_giveBack : ByteArray := prog_3_method_6_code
def yX1_giveBack : MethodName := ⟨RX1, "giveBack", "(IIII)I"⟩
abbrev cX1_placeOf : ByteArray := prog_3_method_7_code
def yX1_placeOf : MethodName := ⟨RX1, "placeOf", "(III)I"⟩
abbrev cX1_share : ByteArray := prog_3_method_8_code
def yX1_share : MethodName := ⟨RX1, "share", "(III)V"⟩
def RX2 : String := "GantryHall$Passage"
def TX2 : u_T := fun k => match k with
  | 0 => ("GantryHall$Passage", "segment", "LGantryHall$Segment;", false)
  | 1 => ("GantryHall$Passage", "minute", "I", false)
  | 2 => ("GantryHall$Passage", "sightings", "I", false)
  | 3 => ("GantryHall$Passage", "isDoubtful", "Z", false)
  | 4 => ("GantryHall$Passage", "reason", "I", false)
  | _ => ("GantryHall$Passage", "due", "I", false)
def tyX2 : Nat → FieldType := fun k => match k with
  | 0 => .object "GantryHall$Segment"
  | 1 => .int
  | 2 => .int
  | 3 => .boolean
  | 4 => .int
  | _ => .int
abbrev wsX20 : List Cond := u_ws RX2 TX2 6
theorem nmX2 : ∀ a, a < 6 → ∀ b, b < 6 → a ≠ b → (TX2 a).2.1 ≠ (TX2 b).2.1 := by decide +kernel
theorem tyX2_ok : ∀ k, k < 6 → parseFieldDescriptor (TX2 k).2.2.1 = some (tyX2 k) := by decide +kernel
abbrev cX2_init : ByteArray := prog_4_method_1_code
def yX2_init : MethodName := ⟨RX2, "<init>", "(LGantryHall$Segment;I)V"⟩
abbrev cX2_restart : ByteArray := prog_4_method_2_code
def yX2_restart : MethodName := ⟨RX2, "restart", "(LGantryHall$Segment;I)V"⟩
abbrev cX2_join : ByteArray := prog_4_method_3_code
def yX2_join : MethodName := ⟨RX2, "join", "(LGantryHall$Sighting;)V"⟩
def RX3 : String := "GantryHall$Segment"
def TX3 : u_T := fun k => match k with
  | 0 => ("GantryHall$Segment", "number", "I", true)
  | 1 => ("GantryHall$Segment", "from", "I", true)
  | 2 => ("GantryHall$Segment", "to", "I", true)
  | 3 => ("GantryHall$Segment", "length", "I", true)
  | 4 => ("GantryHall$Segment", "owner", "I", true)
  | 5 => ("GantryHall$Segment", "shutFrom", "[I", true)
  | 6 => ("GantryHall$Segment", "shutTo", "[I", true)
  | _ => ("GantryHall$Segment", "shutTimes", "I", false)
def tyX3 : Nat → FieldType := fun k => match k with
  | 0 => .int
  | 1 => .int
  | 2 => .int
  | 3 => .int
  | 4 => .int
  | 5 => .array .int
  | 6 => .array .int
  | _ => .int
abbrev wsX30 : List Cond := u_ws RX3 TX3 8
theorem nmX3 : ∀ a, a < 8 → ∀ b, b < 8 → a ≠ b → (TX3 a).2.1 ≠ (TX3 b).2.1 := by decide +kernel
theorem tyX3_ok : ∀ k, k < 8 → parseFieldDescriptor (TX3 k).2.2.1 = some (tyX3 k) := by decide +kernel
abbrev cX3_init : ByteArray := prog_5_method_1_code
def yX3_init : MethodName := ⟨RX3, "<init>", "(IIIII)V"⟩
abbrev cX3_isShut : ByteArray := prog_5_method_3_code
def yX3_isShut : MethodName := ⟨RX3, "isShut", "(I)Z"⟩
def RX4 : String := "GantryHall$Sighting"
def TX4 : u_T := fun k => match k with
  | 0 => ("GantryHall$Sighting", "vehicle", "LGantryHall$Vehicle;", false)
  | 1 => ("GantryHall$Sighting", "segment", "LGantryHall$Segment;", true)
  | 2 => ("GantryHall$Sighting", "minute", "I", true)
  | 3 => ("GantryHall$Sighting", "source", "I", true)
  | _ => ("GantryHall$Sighting", "isErased", "Z", false)
def tyX4 : Nat → FieldType := fun k => match k with
  | 0 => .object "GantryHall$Vehicle"
  | 1 => .object "GantryHall$Segment"
  | 2 => .int
  | 3 => .int
  | _ => .boolean
abbrev wsX40 : List Cond := u_ws RX4 TX4 5
theorem nmX4 : ∀ a, a < 5 → ∀ b, b < 5 → a ≠ b → (TX4 a).2.1 ≠ (TX4 b).2.1 := by decide +kernel
theorem tyX4_ok : ∀ k, k < 5 → parseFieldDescriptor (TX4 k).2.2.1 = some (tyX4 k) := by decide +kernel
abbrev cX4_init : ByteArray := prog_6_method_1_code
def yX4_init : MethodName := ⟨RX4, "<init>", "(LGantryHall$Vehicle;LGantryHall$Segment;II)V"⟩
abbrev cX4_isOf : ByteArray := prog_6_method_2_code
def yX4_isOf : MethodName := ⟨RX4, "isOf", "(LGantryHall$Vehicle;I)Z"⟩
abbrev cX4_isAheadOf : ByteArray := prog_6_method_3_code
def yX4_isAheadOf : MethodName := ⟨RX4, "isAheadOf", "(LGantryHall$Sighting;)Z"⟩
def RX5 : String := "GantryHall$Tariff"
def TX5 : u_T := fun k => match k with
  | 0 => ("GantryHall$Tariff", "owner", "I", true)
  | 1 => ("GantryHall$Tariff", "rate", "I", true)
  | 2 => ("GantryHall$Tariff", "step", "I", true)
  | 3 => ("GantryHall$Tariff", "peak", "I", true)
  | _ => ("GantryHall$Tariff", "firstDay", "I", true)
def tyX5 : Nat → FieldType := fun k => match k with
  | 0 => .int
  | 1 => .int
  | 2 => .int
  | 3 => .int
  | _ => .int
abbrev wsX50 : List Cond := u_ws RX5 TX5 5
theorem nmX5 : ∀ a, a < 5 → ∀ b, b < 5 → a ≠ b → (TX5 a).2.1 ≠ (TX5 b).2.1 := by decide +kernel
theorem tyX5_ok : ∀ k, k < 5 → parseFieldDescriptor (TX5 k).2.2.1 = some (tyX5 k) := by decide +kernel
abbrev cX5_init : ByteArray := prog_7_method_1_code
def yX5_init : MethodName := ⟨RX5, "<init>", "(IIIII)V"⟩
def RX6 : String := "GantryHall$Tariffs"
def TX6 : u_T := fun k => match k with
  | 0 => ("GantryHall$Tariffs", "tariffs", "Ljava/util/ArrayList;", true)
  | 1 => ("GantryHall$Tariffs", "holidays", "[Z", true)
  | _ => ("GantryHall$Tariffs", "holidayCount", "I", false)
def tyX6 : Nat → FieldType := fun k => match k with
  | 0 => .object "java/util/ArrayList"
  | 1 => .array .boolean
  | _ => .int
abbrev wsX60 : List Cond := u_ws RX6 TX6 3
theorem nmX6 : ∀ a, a < 3 → ∀ b, b < 3 → a ≠ b → (TX6 a).2.1 ≠ (TX6 b).2.1 := by decide +kernel
theorem tyX6_ok : ∀ k, k < 3 → parseFieldDescriptor (TX6 k).2.2.1 = some (tyX6 k) := by decide +kernel
abbrev cX6_init : ByteArray := prog_8_method_1_code
def yX6_init : MethodName := ⟨RX6, "<init>", "()V"⟩
abbrev cX6_size : ByteArray := prog_8_method_2_code
def yX6_size : MethodName := ⟨RX6, "size", "()I"⟩
abbrev cX6_addTariff : ByteArray := prog_8_method_3_code
def yX6_addTariff : MethodName := ⟨RX6, "addTariff", "(LGantryHall$Tariff;)V"⟩
abbrev cX6_isHoliday : ByteArray := prog_8_method_5_code
def yX6_isHoliday : MethodName := ⟨RX6, "isHoliday", "(I)Z"⟩
abbrev cX6_inForce : ByteArray := prog_8_method_6_code
def yX6_inForce : MethodName := ⟨RX6, "inForce", "(II)LGantryHall$Tariff;"⟩
abbrev cX6_price : ByteArray := prog_8_method_7_code
def yX6_price : MethodName := ⟨RX6, "price", "(LGantryHall$Segment;III)I"⟩
abbrev cX6_isPeakHour : ByteArray := prog_8_method_8_code
def yX6_isPeakHour : MethodName := ⟨RX6, "isPeakHour", "(I)Z"⟩
def RX7 : String := "GantryHall$Vehicle"
def TX7 : u_T := fun k => match k with
  | 0 => ("GantryHall$Vehicle", "number", "I", true)
  | 1 => ("GantryHall$Vehicle", "rank", "I", true)
  | 2 => ("GantryHall$Vehicle", "emission", "I", true)
  | 3 => ("GantryHall$Vehicle", "account", "I", true)
  | 4 => ("GantryHall$Vehicle", "balance", "I", false)
  | 5 => ("GantryHall$Vehicle", "exemptions", "I", false)
  | 6 => ("GantryHall$Vehicle", "taken", "I", false)
  | _ => ("GantryHall$Vehicle", "fines", "I", false)
def tyX7 : Nat → FieldType := fun k => match k with
  | 0 => .int
  | 1 => .int
  | 2 => .int
  | 3 => .int
  | 4 => .int
  | 5 => .int
  | 6 => .int
  | _ => .int
abbrev wsX70 : List Cond := u_ws RX7 TX7 8
theorem nmX7 : ∀ a, a < 8 → ∀ b, b < 8 → a ≠ b → (TX7 a).2.1 ≠ (TX7 b).2.1 := by decide +kernel
theorem tyX7_ok : ∀ k, k < 8 → parseFieldDescriptor (TX7 k).2.2.1 = some (tyX7 k) := by decide +kernel
abbrev cX7_init : ByteArray := prog_9_method_1_code
def yX7_init : MethodName := ⟨RX7, "<init>", "(IIII)V"⟩
abbrev cX7_isBlocked : ByteArray := prog_9_method_2_code
def yX7_isBlocked : MethodName := ⟨RX7, "isBlocked", "()Z"⟩
abbrev cX7_isExempt : ByteArray := prog_9_method_3_code
def yX7_isExempt : MethodName := ⟨RX7, "isExempt", "(I)Z"⟩
abbrev cX7_setExempt : ByteArray := prog_9_method_4_code
def yX7_setExempt : MethodName := ⟨RX7, "setExempt", "(IZ)V"⟩
def RX8 : String := "GantryHall"
def TX8 : u_T := fun k => match k with
  | 0 => ("GantryHall", "segments", "Ljava/util/ArrayList;", true)
  | 1 => ("GantryHall", "vehicles", "Ljava/util/ArrayList;", true)
  | 2 => ("GantryHall", "sightings", "Ljava/util/ArrayList;", true)
  | 3 => ("GantryHall", "tariffs", "LGantryHall$Tariffs;", true)
  | 4 => ("GantryHall", "ledger", "LGantryHall$Ledger;", true)
  | 5 => ("GantryHall", "book", "LGantryHall$DayBook;", true)
  | 6 => ("GantryHall", "reach", "[I", true)
  | 7 => ("GantryHall", "shuts", "I", false)
  | 8 => ("GantryHall", "now", "I", false)
  | 9 => ("GantryHall", "capNow", "I", false)
  | 10 => ("GantryHall", "listed", "I", false)
  | 11 => ("GantryHall", "alarms", "I", false)
  | 12 => ("GantryHall", "catches", "I", false)
  | _ => ("GantryHall", "erased", "I", false)
def tyX8 : Nat → FieldType := fun k => match k with
  | 0 => .object "java/util/ArrayList"
  | 1 => .object "java/util/ArrayList"
  | 2 => .object "java/util/ArrayList"
  | 3 => .object "GantryHall$Tariffs"
  | 4 => .object "GantryHall$Ledger"
  | 5 => .object "GantryHall$DayBook"
  | 6 => .array .int
  | 7 => .int
  | 8 => .int
  | 9 => .int
  | 10 => .int
  | 11 => .int
  | 12 => .int
  | _ => .int
abbrev wsX80 : List Cond := u_ws RX8 TX8 14
theorem nmX8 : ∀ a, a < 14 → ∀ b, b < 14 → a ≠ b → (TX8 a).2.1 ≠ (TX8 b).2.1 := by decide +kernel
theorem tyX8_ok : ∀ k, k < 14 → parseFieldDescriptor (TX8 k).2.2.1 = some (tyX8 k) := by decide +kernel
abbrev cX8_init : ByteArray := prog_1_method_1_code
def yX8_init : MethodName := ⟨RX8, "<init>", "()V"⟩
abbrev cX8_segment : ByteArray := prog_1_method_2_code
def yX8_segment : MethodName := ⟨RX8, "segment", "(IIII)I"⟩
abbrev cX8_tariff : ByteArray := prog_1_method_4_code
def yX8_tariff : MethodName := ⟨RX8, "tariff", "(IIIII)I"⟩
abbrev cX8_vehicle : ByteArray := prog_1_method_7_code
def yX8_vehicle : MethodName := ⟨RX8, "vehicle", "(III)I"⟩
abbrev cX8_exempt : ByteArray := prog_1_method_8_code
def yX8_exempt : MethodName := ⟨RX8, "exempt", "(IIZ)Z"⟩
abbrev cX8_pay : ByteArray := prog_1_method_9_code
def yX8_pay : MethodName := ⟨RX8, "pay", "(II)I"⟩
abbrev cX8_see : ByteArray := prog_1_method_10_code
def yX8_see : MethodName := ⟨RX8, "see", "(IIII)I"⟩
abbrev cX8_control : ByteArray := prog_1_method_12_code
def yX8_control : MethodName := ⟨RX8, "control", "(III)I"⟩
abbrev cX8_dispute : ByteArray := prog_1_method_13_code
def yX8_dispute : MethodName := ⟨RX8, "dispute", "(II)I"⟩
abbrev cX8_pass : ByteArray := prog_1_method_14_code
def yX8_pass : MethodName := ⟨RX8, "pass", "(I)I"⟩
abbrev cX8_ofSegment : ByteArray := prog_1_method_15_code
def yX8_ofSegment : MethodName := ⟨RX8, "ofSegment", "(II)I"⟩
abbrev cX8_ofVehicle : ByteArray := prog_1_method_16_code
def yX8_ofVehicle : MethodName := ⟨RX8, "ofVehicle", "(II)I"⟩
abbrev cX8_ofSighting : ByteArray := prog_1_method_17_code
def yX8_ofSighting : MethodName := ⟨RX8, "ofSighting", "(II)I"⟩
abbrev cX8_ofOwner : ByteArray := prog_1_method_18_code
def yX8_ofOwner : MethodName := ⟨RX8, "ofOwner", "(II)I"⟩
abbrev cX8_passages : ByteArray := prog_1_method_19_code
def yX8_passages : MethodName := ⟨RX8, "passages", "(II)I"⟩
abbrev cX8_ofPassage : ByteArray := prog_1_method_20_code
def yX8_ofPassage : MethodName := ⟨RX8, "ofPassage", "(IIII)I"⟩
abbrev cX8_journeys : ByteArray := prog_1_method_21_code
def yX8_journeys : MethodName := ⟨RX8, "journeys", "(II)I"⟩
abbrev cX8_many : ByteArray := prog_1_method_22_code
def yX8_many : MethodName := ⟨RX8, "many", "(I)I"⟩
abbrev cX8_toll : ByteArray := prog_1_method_24_code
def yX8_toll : MethodName := ⟨RX8, "toll", "(III)I"⟩
abbrev cX8_bill : ByteArray := prog_1_method_25_code
def yX8_bill : MethodName := ⟨RX8, "bill", "(III)I"⟩
abbrev cX8_cheapest : ByteArray := prog_1_method_26_code
def yX8_cheapest : MethodName := ⟨RX8, "cheapest", "(III)I"⟩
abbrev cX8_bestMinute : ByteArray := prog_1_method_27_code
def yX8_bestMinute : MethodName := ⟨RX8, "bestMinute", "(II)I"⟩
abbrev cX8_wouldSave : ByteArray := prog_1_method_28_code
def yX8_wouldSave : MethodName := ⟨RX8, "wouldSave", "(I)I"⟩
abbrev cX8_digest : ByteArray := prog_1_method_29_code
def yX8_digest : MethodName := ⟨RX8, "digest", "()J"⟩
abbrev cX8_needIndex : ByteArray := prog_1_method_30_code
def yX8_needIndex : MethodName := ⟨RX8, "needIndex", "(Z)V"⟩
abbrev cX8_needArgument : ByteArray := prog_1_method_31_code
def yX8_needArgument : MethodName := ⟨RX8, "needArgument", "(Z)V"⟩
abbrev cX8_needState : ByteArray := prog_1_method_32_code
def yX8_needState : MethodName := ⟨RX8, "needState", "(Z)V"⟩
abbrev cX8_isIn : ByteArray := prog_1_method_33_code
def yX8_isIn : MethodName := ⟨RX8, "isIn", "(III)Z"⟩
abbrev cX8_isKnot : ByteArray := prog_1_method_34_code
def yX8_isKnot : MethodName := ⟨RX8, "isKnot", "(I)Z"⟩
abbrev cX8_isOwner : ByteArray := prog_1_method_35_code
def yX8_isOwner : MethodName := ⟨RX8, "isOwner", "(I)Z"⟩
abbrev cX8_hasBit : ByteArray := prog_1_method_36_code
def yX8_hasBit : MethodName := ⟨RX8, "hasBit", "(II)Z"⟩
abbrev cX8_fold : ByteArray := prog_1_method_37_code
def yX8_fold : MethodName := ⟨RX8, "fold", "(JI)J"⟩
abbrev cX8_isSegment : ByteArray := prog_1_method_38_code
def yX8_isSegment : MethodName := ⟨RX8, "isSegment", "(I)Z"⟩
abbrev cX8_isVehicle : ByteArray := prog_1_method_39_code
def yX8_isVehicle : MethodName := ⟨RX8, "isVehicle", "(I)Z"⟩
abbrev cX8_isSighting : ByteArray := prog_1_method_40_code
def yX8_isSighting : MethodName := ⟨RX8, "isSighting", "(I)Z"⟩
abbrev cX8_isDayToTell : ByteArray := prog_1_method_41_code
def yX8_isDayToTell : MethodName := ⟨RX8, "isDayToTell", "(I)Z"⟩
abbrev cX8_today : ByteArray := prog_1_method_42_code
def yX8_today : MethodName := ⟨RX8, "today", "()I"⟩
abbrev cX8_isClosed : ByteArray := prog_1_method_43_code
def yX8_isClosed : MethodName := ⟨RX8, "isClosed", "(I)Z"⟩
abbrev cX8_blockedSet : ByteArray := prog_1_method_44_code
def yX8_blockedSet : MethodName := ⟨RX8, "blockedSet", "()I"⟩
abbrev cX8_tollOf : ByteArray := prog_1_method_45_code
def yX8_tollOf : MethodName := ⟨RX8, "tollOf", "(LGantryHall$Vehicle;LGantryHall$Segment;I)I"⟩
abbrev cX8_hasPassed : ByteArray := prog_1_method_46_code
def yX8_hasPassed : MethodName := ⟨RX8, "hasPassed", "(LGantryHall$Vehicle;LGantryHall$Segment;I)Z"⟩
abbrev cX8_closeDay : ByteArray := prog_1_method_47_code
def yX8_closeDay : MethodName := ⟨RX8, "closeDay", "(I)I"⟩
abbrev cX8_takeBill : ByteArray := prog_1_method_48_code
def yX8_takeBill : MethodName := ⟨RX8, "takeBill", "(LGantryHall$Vehicle;I)I"⟩
abbrev cX8_eraseDay : ByteArray := prog_1_method_49_code
def yX8_eraseDay : MethodName := ⟨RX8, "eraseDay", "(I)V"⟩
abbrev cX8_reachOf : ByteArray := prog_1_method_50_code
def yX8_reachOf : MethodName := ⟨RX8, "reachOf", "(I)I"⟩
abbrev cX8_setReach : ByteArray := prog_1_method_51_code
def yX8_setReach : MethodName := ⟨RX8, "setReach", "(II)V"⟩
abbrev cX8_extendWays : ByteArray := prog_1_method_52_code
def yX8_extendWays : MethodName := ⟨RX8, "extendWays", "(LGantryHall$Vehicle;)Z"⟩
abbrev cX8_foldVehicle : ByteArray := prog_1_method_53_code
def yX8_foldVehicle : MethodName := ⟨RX8, "foldVehicle", "(JLGantryHall$Vehicle;)J"⟩
abbrev cX8_foldDay : ByteArray := prog_1_method_54_code
def yX8_foldDay : MethodName := ⟨RX8, "foldDay", "(JLGantryHall$Vehicle;I)J"⟩
def RX9 : String := "GantryHallModel$Vehicle"
def TX9 : u_T := fun k => match k with
  | _ => ("", "", "", false)
def tyX9 : Nat → FieldType := fun k => match k with
  | _ => .int
abbrev wsX90 : List Cond := u_ws RX9 TX9 0
theorem nmX9 : ∀ a, a < 0 → ∀ b, b < 0 → a ≠ b → (TX9 a).2.1 ≠ (TX9 b).2.1 := by decide +kernel
theorem tyX9_ok : ∀ k, k < 0 → parseFieldDescriptor (TX9 k).2.2.1 = some (tyX9 k) := by decide +kernel
def RX10 : String := "GantryHallModel"
def TX10 : u_T := fun k => match k with
  | _ => ("", "", "", false)
def tyX10 : Nat → FieldType := fun k => match k with
  | _ => .int
abbrev wsX100 : List Cond := u_ws RX10 TX10 0
theorem nmX10 : ∀ a, a < 0 → ∀ b, b < 0 → a ≠ b → (TX10 a).2.1 ≠ (TX10 b).2.1 := by decide +kernel
theorem tyX10_ok : ∀ k, k < 0 → parseFieldDescriptor (TX10 k).2.2.1 = some (tyX10 k) := by decide +kernel
def RJx145de : String := "java/io/Serializable"
def TJx145de : u_T := fun k => match k with
  | _ => ("", "", "", false)
def tyJx145de : Nat → FieldType := fun k => match k with
  | _ => .int
abbrev wsJx145de0 : List Cond := u_ws RJx145de TJx145de 0
theorem nmJx145de : ∀ a, a < 0 → ∀ b, b < 0 → a ≠ b → (TJx145de a).2.1 ≠ (TJx145de b).2.1 := by decide +kernel
theorem tyJx145de_ok : ∀ k, k < 0 → parseFieldDescriptor (TJx145de k).2.2.1 = some (tyJx145de k) := by decide +kernel
def RJx8e188 : String := "java/lang/Cloneable"
def TJx8e188 : u_T := fun k => match k with
  | _ => ("", "", "", false)
def tyJx8e188 : Nat → FieldType := fun k => match k with
  | _ => .int
abbrev wsJx8e1880 : List Cond := u_ws RJx8e188 TJx8e188 0
theorem nmJx8e188 : ∀ a, a < 0 → ∀ b, b < 0 → a ≠ b → (TJx8e188 a).2.1 ≠ (TJx8e188 b).2.1 := by decide +kernel
theorem tyJx8e188_ok : ∀ k, k < 0 → parseFieldDescriptor (TJx8e188 k).2.2.1 = some (tyJx8e188 k) := by decide +kernel
def RJxab1ab : String := "java/lang/Iterable"
def TJxab1ab : u_T := fun k => match k with
  | _ => ("", "", "", false)
def tyJxab1ab : Nat → FieldType := fun k => match k with
  | _ => .int
abbrev wsJxab1ab0 : List Cond := u_ws RJxab1ab TJxab1ab 0
theorem nmJxab1ab : ∀ a, a < 0 → ∀ b, b < 0 → a ≠ b → (TJxab1ab a).2.1 ≠ (TJxab1ab b).2.1 := by decide +kernel
theorem tyJxab1ab_ok : ∀ k, k < 0 → parseFieldDescriptor (TJxab1ab k).2.2.1 = some (tyJxab1ab k) := by decide +kernel
def RJ9 : String := "java/lang/Math"
def TJ9 : u_T := fun k => match k with
  | _ => ("", "", "", false)
def tyJ9 : Nat → FieldType := fun k => match k with
  | _ => .int
abbrev wsJ90 : List Cond := u_ws RJ9 TJ9 0
theorem nmJ9 : ∀ a, a < 0 → ∀ b, b < 0 → a ≠ b → (TJ9 a).2.1 ≠ (TJ9 b).2.1 := by decide +kernel
theorem tyJ9_ok : ∀ k, k < 0 → parseFieldDescriptor (TJ9 k).2.2.1 = some (tyJ9 k) := by decide +kernel
abbrev cJ9_max_7cf53 : ByteArray := prog_20_method_65_code
def yJ9_max_7cf53 : MethodName := ⟨RJ9, "max", "(II)I"⟩
abbrev cJ9_min_7cf53 : ByteArray := prog_20_method_69_code
def yJ9_min_7cf53 : MethodName := ⟨RJ9, "min", "(II)I"⟩
def RJ0 : String := "java/lang/String"
def TJ0 : u_T := fun k => match k with
  | _ => ("", "", "", false)
def tyJ0 : Nat → FieldType := fun k => match k with
  | _ => .int
abbrev wsJ00 : List Cond := u_ws RJ0 TJ0 0
theorem nmJ0 : ∀ a, a < 0 → ∀ b, b < 0 → a ≠ b → (TJ0 a).2.1 ≠ (TJ0 b).2.1 := by decide +kernel
theorem tyJ0_ok : ∀ k, k < 0 → parseFieldDescriptor (TJ0 k).2.2.1 = some (tyJ0 k) := by decide +kernel
def RJ10 : String := "java/lang/System"
def TJ10 : u_T := fun k => match k with
  | _ => ("", "", "", false)
def tyJ10 : Nat → FieldType := fun k => match k with
  | _ => .int
abbrev wsJ100 : List Cond := u_ws RJ10 TJ10 0
theorem nmJ10 : ∀ a, a < 0 → ∀ b, b < 0 → a ≠ b → (TJ10 a).2.1 ≠ (TJ10 b).2.1 := by decide +kernel
theorem tyJ10_ok : ∀ k, k < 0 → parseFieldDescriptor (TJ10 k).2.2.1 = some (tyJ10 k) := by decide +kernel
def RJxa1e45 : String := "java/util/AbstractCollection"
def TJxa1e45 : u_T := fun k => match k with
  | _ => ("", "", "", false)
def tyJxa1e45 : Nat → FieldType := fun k => match k with
  | _ => .int
abbrev wsJxa1e450 : List Cond := u_ws RJxa1e45 TJxa1e45 0
theorem nmJxa1e45 : ∀ a, a < 0 → ∀ b, b < 0 → a ≠ b → (TJxa1e45 a).2.1 ≠ (TJxa1e45 b).2.1 := by decide +kernel
theorem tyJxa1e45_ok : ∀ k, k < 0 → parseFieldDescriptor (TJxa1e45 k).2.2.1 = some (tyJxa1e45 k) := by decide +kernel
abbrev cJxa1e45_init_da8c8 : ByteArray := prog_25_method_1_code
def yJxa1e45_init_da8c8 : MethodName := ⟨RJxa1e45, "<init>", "()V"⟩
def RJxc12de : String := "java/util/AbstractList"
def TJxc12de : u_T := fun k => match k with
  | _ => ("", "", "", false)
def tyJxc12de : Nat → FieldType := fun k => match k with
  | _ => .int
abbrev wsJxc12de0 : List Cond := u_ws RJxc12de TJxc12de 0
theorem nmJxc12de : ∀ a, a < 0 → ∀ b, b < 0 → a ≠ b → (TJxc12de a).2.1 ≠ (TJxc12de b).2.1 := by decide +kernel
theorem tyJxc12de_ok : ∀ k, k < 0 → parseFieldDescriptor (TJxc12de k).2.2.1 = some (tyJxc12de k) := by decide +kernel
abbrev cJxc12de_init_da8c8 : ByteArray := prog_26_method_1_code
def yJxc12de_init_da8c8 : MethodName := ⟨RJxc12de, "<init>", "()V"⟩
def RJx4a65c : String := "java/util/ArrayList"
def TJx4a65c : u_T := fun k => match k with
  | 0 => ("java/util/AbstractList", "modCount", "I", false)
  | 1 => ("java/util/ArrayList", "elementData", "[Ljava/lang/Object;", false)
  | _ => ("java/util/ArrayList", "size", "I", false)
def tyJx4a65c : Nat → FieldType := fun k => match k with
  | 0 => .int
  | 1 => .array (.object "java/lang/Object")
  | _ => .int
abbrev wsJx4a65c0 : List Cond := u_ws RJx4a65c TJx4a65c 3
theorem nmJx4a65c : ∀ a, a < 3 → ∀ b, b < 3 → a ≠ b → (TJx4a65c a).2.1 ≠ (TJx4a65c b).2.1 := by decide +kernel
theorem tyJx4a65c_ok : ∀ k, k < 3 → parseFieldDescriptor (TJx4a65c k).2.2.1 = some (tyJx4a65c k) := by decide +kernel
abbrev cJx4a65c_init_da8c8 : ByteArray := prog_27_method_2_code
def yJx4a65c_init_da8c8 : MethodName := ⟨RJx4a65c, "<init>", "()V"⟩
abbrev cJx4a65c_grow_92f84 : ByteArray := prog_27_method_6_code
def yJx4a65c_grow_92f84 : MethodName := ⟨RJx4a65c, "grow", "(I)[Ljava/lang/Object;"⟩
abbrev cJx4a65c_grow_d5877 : ByteArray := prog_27_method_7_code
def yJx4a65c_grow_d5877 : MethodName := ⟨RJx4a65c, "grow", "()[Ljava/lang/Object;"⟩
abbrev cJx4a65c_size_8abf5 : ByteArray := prog_27_method_8_code
def yJx4a65c_size_8abf5 : MethodName := ⟨RJx4a65c, "size", "()I"⟩
abbrev cJx4a65c_elementData_915e3 : ByteArray := prog_27_method_18_code
def yJx4a65c_elementData_915e3 : MethodName := ⟨RJx4a65c, "elementData", "(I)Ljava/lang/Object;"⟩
abbrev cJx4a65c_get_915e3 : ByteArray := prog_27_method_20_code
def yJx4a65c_get_915e3 : MethodName := ⟨RJx4a65c, "get", "(I)Ljava/lang/Object;"⟩
abbrev cJx4a65c_add_72be8 : ByteArray := prog_27_method_24_code
def yJx4a65c_add_72be8 : MethodName := ⟨RJx4a65c, "add", "(Ljava/lang/Object;[Ljava/lang/Object;I)V"⟩
abbrev cJx4a65c_add_9ea2d : ByteArray := prog_27_method_25_code
def yJx4a65c_add_9ea2d : MethodName := ⟨RJx4a65c, "add", "(Ljava/lang/Object;)Z"⟩
abbrev cJx4a65c_add_7a177 : ByteArray := prog_27_method_26_code
def yJx4a65c_add_7a177 : MethodName := ⟨RJx4a65c, "add", "(ILjava/lang/Object;)V"⟩
abbrev cJx4a65c_clear_da8c8 : ByteArray := prog_27_method_40_code
def yJx4a65c_clear_da8c8 : MethodName := ⟨RJx4a65c, "clear", "()V"⟩
abbrev cJx4a65c_rangeCheckForAdd_d00df : ByteArray := prog_27_method_45_code
def yJx4a65c_rangeCheckForAdd_d00df : MethodName := ⟨RJx4a65c, "rangeCheckForAdd", "(I)V"⟩
def RJ7 : String := "java/util/Arrays"
def TJ7 : u_T := fun k => match k with
  | _ => ("", "", "", false)
def tyJ7 : Nat → FieldType := fun k => match k with
  | _ => .int
abbrev wsJ70 : List Cond := u_ws RJ7 TJ7 0
theorem nmJ7 : ∀ a, a < 0 → ∀ b, b < 0 → a ≠ b → (TJ7 a).2.1 ≠ (TJ7 b).2.1 := by decide +kernel
theorem tyJ7_ok : ∀ k, k < 0 → parseFieldDescriptor (TJ7 k).2.2.1 = some (tyJ7 k) := by decide +kernel
abbrev cJ7_fill_53178 : ByteArray := prog_28_method_103_code
def yJ7_fill_53178 : MethodName := ⟨RJ7, "fill", "([II)V"⟩
abbrev cJ7_copyOf_1904c : ByteArray := prog_28_method_119_code
def yJ7_copyOf_1904c : MethodName := ⟨RJ7, "copyOf", "([Ljava/lang/Object;I)[Ljava/lang/Object;"⟩
abbrev cJ7_copyOf_6403c : ByteArray := prog_28_method_120_code
def yJ7_copyOf_6403c : MethodName := ⟨RJ7, "copyOf", "([Ljava/lang/Object;ILjava/lang/Class;)[Ljava/lang/Object;"⟩
def RJx5ef63 : String := "java/util/Collection"
def TJx5ef63 : u_T := fun k => match k with
  | _ => ("", "", "", false)
def tyJx5ef63 : Nat → FieldType := fun k => match k with
  | _ => .int
abbrev wsJx5ef630 : List Cond := u_ws RJx5ef63 TJx5ef63 0
theorem nmJx5ef63 : ∀ a, a < 0 → ∀ b, b < 0 → a ≠ b → (TJx5ef63 a).2.1 ≠ (TJx5ef63 b).2.1 := by decide +kernel
theorem tyJx5ef63_ok : ∀ k, k < 0 → parseFieldDescriptor (TJx5ef63 k).2.2.1 = some (tyJx5ef63 k) := by decide +kernel
def RJxbd725 : String := "java/util/List"
def TJxbd725 : u_T := fun k => match k with
  | _ => ("", "", "", false)
def tyJxbd725 : Nat → FieldType := fun k => match k with
  | _ => .int
abbrev wsJxbd7250 : List Cond := u_ws RJxbd725 TJxbd725 0
theorem nmJxbd725 : ∀ a, a < 0 → ∀ b, b < 0 → a ≠ b → (TJxbd725 a).2.1 ≠ (TJxbd725 b).2.1 := by decide +kernel
theorem tyJxbd725_ok : ∀ k, k < 0 → parseFieldDescriptor (TJxbd725 k).2.2.1 = some (tyJxbd725 k) := by decide +kernel
def RJ15 : String := "java/util/Objects"
def TJ15 : u_T := fun k => match k with
  | _ => ("", "", "", false)
def tyJ15 : Nat → FieldType := fun k => match k with
  | _ => .int
abbrev wsJ150 : List Cond := u_ws RJ15 TJ15 0
theorem nmJ15 : ∀ a, a < 0 → ∀ b, b < 0 → a ≠ b → (TJ15 a).2.1 ≠ (TJ15 b).2.1 := by decide +kernel
theorem tyJ15_ok : ∀ k, k < 0 → parseFieldDescriptor (TJ15 k).2.2.1 = some (tyJ15 k) := by decide +kernel
abbrev cJ15_checkIndex_7cf53 : ByteArray := prog_31_method_17_code
def yJ15_checkIndex_7cf53 : MethodName := ⟨RJ15, "checkIndex", "(II)I"⟩
def RJxf0a74 : String := "java/util/RandomAccess"
def TJxf0a74 : u_T := fun k => match k with
  | _ => ("", "", "", false)
def tyJxf0a74 : Nat → FieldType := fun k => match k with
  | _ => .int
abbrev wsJxf0a740 : List Cond := u_ws RJxf0a74 TJxf0a74 0
theorem nmJxf0a74 : ∀ a, a < 0 → ∀ b, b < 0 → a ≠ b → (TJxf0a74 a).2.1 ≠ (TJxf0a74 b).2.1 := by decide +kernel
theorem tyJxf0a74_ok : ∀ k, k < 0 → parseFieldDescriptor (TJxf0a74 k).2.2.1 = some (tyJxf0a74 k) := by decide +kernel
def RJxa66e6 : String := "java/util/SequencedCollection"
def TJxa66e6 : u_T := fun k => match k with
  | _ => ("", "", "", false)
def tyJxa66e6 : Nat → FieldType := fun k => match k with
  | _ => .int
abbrev wsJxa66e60 : List Cond := u_ws RJxa66e6 TJxa66e6 0
theorem nmJxa66e6 : ∀ a, a < 0 → ∀ b, b < 0 → a ≠ b → (TJxa66e6 a).2.1 ≠ (TJxa66e6 b).2.1 := by decide +kernel
theorem tyJxa66e6_ok : ∀ k, k < 0 → parseFieldDescriptor (TJxa66e6 k).2.2.1 = some (tyJxa66e6 k) := by decide +kernel
def RJ8 : String := "jdk/internal/util/ArraysSupport"
def TJ8 : u_T := fun k => match k with
  | _ => ("", "", "", false)
def tyJ8 : Nat → FieldType := fun k => match k with
  | _ => .int
abbrev wsJ80 : List Cond := u_ws RJ8 TJ8 0
theorem nmJ8 : ∀ a, a < 0 → ∀ b, b < 0 → a ≠ b → (TJ8 a).2.1 ≠ (TJ8 b).2.1 := by decide +kernel
theorem tyJ8_ok : ∀ k, k < 0 → parseFieldDescriptor (TJ8 k).2.2.1 = some (tyJ8 k) := by decide +kernel
abbrev cJ8_newLength_cabcc : ByteArray := prog_34_method_27_code
def yJ8_newLength_cabcc : MethodName := ⟨RJ8, "newLength", "(III)I"⟩
abbrev cJ8_hugeLength_7cf53 : ByteArray := prog_34_method_28_code
def yJ8_hugeLength_7cf53 : MethodName := ⟨RJ8, "hugeLength", "(II)I"⟩
def RJ3 : String := "jdk/internal/util/Preconditions"
def TJ3 : u_T := fun k => match k with
  | _ => ("", "", "", false)
def tyJ3 : Nat → FieldType := fun k => match k with
  | _ => .int
abbrev wsJ30 : List Cond := u_ws RJ3 TJ3 0
theorem nmJ3 : ∀ a, a < 0 → ∀ b, b < 0 → a ≠ b → (TJ3 a).2.1 ≠ (TJ3 b).2.1 := by decide +kernel
theorem tyJ3_ok : ∀ k, k < 0 → parseFieldDescriptor (TJ3 k).2.2.1 = some (tyJ3 k) := by decide +kernel
abbrev cJ3_checkIndex_8e157 : ByteArray := prog_35_method_11_code
def yJ3_checkIndex_8e157 : MethodName := ⟨RJ3, "checkIndex", "(IILjava/util/function/BiFunction;)I"⟩
def RL : String := "GantryHallLaw"
abbrev cL_below : ByteArray := method_2_code
def yL_below : MethodName := ⟨RL, "below", "(II)I"⟩
abbrev cL_cell : ByteArray := method_3_code
def yL_cell : MethodName := ⟨RL, "cell", "([II)I"⟩
abbrev cL_write : ByteArray := method_4_code
def yL_write : MethodName := ⟨RL, "write", "(LGantryHall;[II)V"⟩
abbrev cL_drive : ByteArray := method_5_code
def yL_drive : MethodName := ⟨RL, "drive", "(LGantryHall;[IIII)V"⟩
abbrev cL_law : ByteArray := code
def yL_law : MethodName := ⟨RL, "law", "([I)Z"⟩
abbrev cL_isSound : ByteArray := method_7_code
def yL_isSound : MethodName := ⟨RL, "isSound", "(LGantryHall;I)Z"⟩
theorem dX0_init_0 : decode cX0_init 0 = .ok (.aload_n 0, 1) := by decide +kernel
theorem dX0_init_1 : decode cX0_init 1 = .ok (.invokespecial 3, 3) := by decide +kernel
theorem dX0_init_4 : decode cX0_init 4 = .ok (.aload_n 0, 1) := by decide +kernel
theorem dX0_init_5 : decode cX0_init 5 = .ok (.new 9, 3) := by decide +kernel
theorem dX0_init_8 : decode cX0_init 8 = .ok (.dup, 1) := by decide +kernel
theorem dX0_init_9 : decode cX0_init 9 = .ok (.invokespecial 11, 3) := by decide +kernel
theorem dX0_init_12 : decode cX0_init 12 = .ok (.putfield 12, 3) := by decide +kernel
theorem dX0_init_15 : decode cX0_init 15 = .ok (.aload_n 0, 1) := by decide +kernel
theorem dX0_init_16 : decode cX0_init 16 = .ok (.new 9, 3) := by decide +kernel
theorem dX0_init_19 : decode cX0_init 19 = .ok (.dup, 1) := by decide +kernel
theorem dX0_init_20 : decode cX0_init 20 = .ok (.invokespecial 11, 3) := by decide +kernel
theorem dX0_init_23 : decode cX0_init 23 = .ok (.putfield 18, 3) := by decide +kernel
theorem dX0_init_26 : decode cX0_init 26 = .ok (.aload_n 0, 1) := by decide +kernel
theorem dX0_init_27 : decode cX0_init 27 = .ok (.new 9, 3) := by decide +kernel
theorem dX0_init_30 : decode cX0_init 30 = .ok (.dup, 1) := by decide +kernel
theorem dX0_init_31 : decode cX0_init 31 = .ok (.invokespecial 11, 3) := by decide +kernel
theorem dX0_init_34 : decode cX0_init 34 = .ok (.putfield 21, 3) := by decide +kernel
theorem dX0_init_37 : decode cX0_init 37 = .ok (.aload_n 0, 1) := by decide +kernel
theorem dX0_init_38 : decode cX0_init 38 = .ok (.new 9, 3) := by decide +kernel
theorem dX0_init_41 : decode cX0_init 41 = .ok (.dup, 1) := by decide +kernel
theorem dX0_init_42 : decode cX0_init 42 = .ok (.invokespecial 11, 3) := by decide +kernel
theorem dX0_init_45 : decode cX0_init 45 = .ok (.putfield 24, 3) := by decide +kernel
theorem dX0_init_48 : decode cX0_init 48 = .ok (.return_, 1) := by decide +kernel
theorem dX0_size_0 : decode cX0_size 0 = .ok (.aload_n 0, 1) := by decide +kernel
theorem dX0_size_1 : decode cX0_size 1 = .ok (.getfield 21, 3) := by decide +kernel
theorem dX0_size_4 : decode cX0_size 4 = .ok (.invokevirtual 27, 3) := by decide +kernel
theorem dX0_size_7 : decode cX0_size 7 = .ok (.ireturn, 1) := by decide +kernel
theorem dX0_gather_0 : decode cX0_gather 0 = .ok (.aload_n 0, 1) := by decide +kernel
theorem dX0_gather_1 : decode cX0_gather 1 = .ok (.iconst 0, 1) := by decide +kernel
theorem dX0_gather_2 : decode cX0_gather 2 = .ok (.putfield 31, 3) := by decide +kernel
theorem dX0_gather_5 : decode cX0_gather 5 = .ok (.aload_n 0, 1) := by decide +kernel
theorem dX0_gather_6 : decode cX0_gather 6 = .ok (.aload_n 1, 1) := by decide +kernel
theorem dX0_gather_7 : decode cX0_gather 7 = .ok (.aload_n 3, 1) := by decide +kernel
theorem dX0_gather_8 : decode cX0_gather 8 = .ok (.iload 4, 2) := by decide +kernel
theorem dX0_gather_10 : decode cX0_gather 10 = .ok (.invokevirtual 35, 3) := by decide +kernel
theorem dX0_gather_13 : decode cX0_gather 13 = .ok (.aload_n 0, 1) := by decide +kernel
theorem dX0_gather_14 : decode cX0_gather 14 = .ok (.invokevirtual 39, 3) := by decide +kernel
theorem dX0_gather_17 : decode cX0_gather 17 = .ok (.aload_n 0, 1) := by decide +kernel
theorem dX0_gather_18 : decode cX0_gather 18 = .ok (.getfield 21, 3) := by decide +kernel
theorem dX0_gather_21 : decode cX0_gather 21 = .ok (.invokevirtual 42, 3) := by decide +kernel
theorem dX0_gather_24 : decode cX0_gather 24 = .ok (.aload_n 0, 1) := by decide +kernel
theorem dX0_gather_25 : decode cX0_gather 25 = .ok (.aload_n 2, 1) := by decide +kernel
theorem dX0_gather_26 : decode cX0_gather 26 = .ok (.invokevirtual 45, 3) := by decide +kernel
theorem dX0_gather_29 : decode cX0_gather 29 = .ok (.aload_n 0, 1) := by decide +kernel
theorem dX0_gather_30 : decode cX0_gather 30 = .ok (.aload_n 0, 1) := by decide +kernel
theorem dX0_gather_31 : decode cX0_gather 31 = .ok (.getfield 21, 3) := by decide +kernel
theorem dX0_gather_34 : decode cX0_gather 34 = .ok (.invokevirtual 27, 3) := by decide +kernel
theorem dX0_gather_37 : decode cX0_gather 37 = .ok (.putfield 49, 3) := by decide +kernel
theorem dX0_gather_40 : decode cX0_gather 40 = .ok (.aload_n 0, 1) := by decide +kernel
theorem dX0_gather_41 : decode cX0_gather 41 = .ok (.invokevirtual 52, 3) := by decide +kernel
theorem dX0_gather_44 : decode cX0_gather 44 = .ok (.return_, 1) := by decide +kernel
theorem dX0_pick_0 : decode cX0_pick 0 = .ok (.aload_n 0, 1) := by decide +kernel
theorem dX0_pick_1 : decode cX0_pick 1 = .ok (.getfield 12, 3) := by decide +kernel
theorem dX0_pick_4 : decode cX0_pick 4 = .ok (.invokevirtual 42, 3) := by decide +kernel
theorem dX0_pick_7 : decode cX0_pick 7 = .ok (.iconst 0, 1) := by decide +kernel
theorem dX0_pick_8 : decode cX0_pick 8 = .ok (.istore 4, 2) := by decide +kernel
theorem dX0_pick_10 : decode cX0_pick 10 = .ok (.iload 4, 2) := by decide +kernel
theorem dX0_pick_12 : decode cX0_pick 12 = .ok (.aload_n 1, 1) := by decide +kernel
theorem dX0_pick_13 : decode cX0_pick 13 = .ok (.invokevirtual 27, 3) := by decide +kernel
theorem dX0_pick_16 : decode cX0_pick 16 = .ok (.if_icmp .ge 45, 3) := by decide +kernel
theorem dX0_pick_19 : decode cX0_pick 19 = .ok (.aload_n 1, 1) := by decide +kernel
theorem dX0_pick_20 : decode cX0_pick 20 = .ok (.iload 4, 2) := by decide +kernel
theorem dX0_pick_22 : decode cX0_pick 22 = .ok (.invokevirtual 55, 3) := by decide +kernel
theorem dX0_pick_25 : decode cX0_pick 25 = .ok (.checkcast 59, 3) := by decide +kernel
theorem dX0_pick_28 : decode cX0_pick 28 = .ok (.astore 5, 2) := by decide +kernel
theorem dX0_pick_30 : decode cX0_pick 30 = .ok (.aload 5, 2) := by decide +kernel
theorem dX0_pick_32 : decode cX0_pick 32 = .ok (.aload_n 2, 1) := by decide +kernel
theorem dX0_pick_33 : decode cX0_pick 33 = .ok (.iload_n 3, 1) := by decide +kernel
theorem dX0_pick_34 : decode cX0_pick 34 = .ok (.invokevirtual 61, 3) := by decide +kernel
theorem dX0_pick_37 : decode cX0_pick 37 = .ok (.ifCond .eq 18, 3) := by decide +kernel
theorem dX0_pick_40 : decode cX0_pick 40 = .ok (.aload_n 0, 1) := by decide +kernel
theorem dX0_pick_41 : decode cX0_pick 41 = .ok (.getfield 12, 3) := by decide +kernel
theorem dX0_pick_44 : decode cX0_pick 44 = .ok (.aload_n 0, 1) := by decide +kernel
theorem dX0_pick_45 : decode cX0_pick 45 = .ok (.aload 5, 2) := by decide +kernel
theorem dX0_pick_47 : decode cX0_pick 47 = .ok (.invokevirtual 65, 3) := by decide +kernel
theorem dX0_pick_50 : decode cX0_pick 50 = .ok (.aload 5, 2) := by decide +kernel
theorem dX0_pick_52 : decode cX0_pick 52 = .ok (.invokevirtual 69, 3) := by decide +kernel
theorem dX0_pick_55 : decode cX0_pick 55 = .ok (.iinc 4 1, 3) := by decide +kernel
theorem dX0_pick_58 : decode cX0_pick 58 = .ok (.goto (-48), 3) := by decide +kernel
theorem dX0_pick_61 : decode cX0_pick 61 = .ok (.return_, 1) := by decide +kernel
theorem dX0_placeOf_0 : decode cX0_placeOf 0 = .ok (.iconst 0, 1) := by decide +kernel
theorem dX0_placeOf_1 : decode cX0_placeOf 1 = .ok (.istore_n 2, 1) := by decide +kernel
theorem dX0_placeOf_2 : decode cX0_placeOf 2 = .ok (.iload_n 2, 1) := by decide +kernel
theorem dX0_placeOf_3 : decode cX0_placeOf 3 = .ok (.aload_n 0, 1) := by decide +kernel
theorem dX0_placeOf_4 : decode cX0_placeOf 4 = .ok (.getfield 12, 3) := by decide +kernel
theorem dX0_placeOf_7 : decode cX0_placeOf 7 = .ok (.invokevirtual 27, 3) := by decide +kernel
theorem dX0_placeOf_10 : decode cX0_placeOf 10 = .ok (.if_icmp .ge 29, 3) := by decide +kernel
theorem dX0_placeOf_13 : decode cX0_placeOf 13 = .ok (.aload_n 1, 1) := by decide +kernel
theorem dX0_placeOf_14 : decode cX0_placeOf 14 = .ok (.aload_n 0, 1) := by decide +kernel
theorem dX0_placeOf_15 : decode cX0_placeOf 15 = .ok (.getfield 12, 3) := by decide +kernel
theorem dX0_placeOf_18 : decode cX0_placeOf 18 = .ok (.iload_n 2, 1) := by decide +kernel
theorem dX0_placeOf_19 : decode cX0_placeOf 19 = .ok (.invokevirtual 55, 3) := by decide +kernel
theorem dX0_placeOf_22 : decode cX0_placeOf 22 = .ok (.checkcast 59, 3) := by decide +kernel
theorem dX0_placeOf_25 : decode cX0_placeOf 25 = .ok (.invokevirtual 73, 3) := by decide +kernel
theorem dX0_placeOf_28 : decode cX0_placeOf 28 = .ok (.ifCond .eq 5, 3) := by decide +kernel
theorem dX0_placeOf_31 : decode cX0_placeOf 31 = .ok (.iload_n 2, 1) := by decide +kernel
theorem dX0_placeOf_32 : decode cX0_placeOf 32 = .ok (.ireturn, 1) := by decide +kernel
theorem dX0_placeOf_33 : decode cX0_placeOf 33 = .ok (.iinc 2 1, 3) := by decide +kernel
theorem dX0_placeOf_36 : decode cX0_placeOf 36 = .ok (.goto (-34), 3) := by decide +kernel
theorem dX0_placeOf_39 : decode cX0_placeOf 39 = .ok (.aload_n 0, 1) := by decide +kernel
theorem dX0_placeOf_40 : decode cX0_placeOf 40 = .ok (.getfield 12, 3) := by decide +kernel
theorem dX0_placeOf_43 : decode cX0_placeOf 43 = .ok (.invokevirtual 27, 3) := by decide +kernel
theorem dX0_placeOf_46 : decode cX0_placeOf 46 = .ok (.ireturn, 1) := by decide +kernel
theorem dX0_joinPicked_0 : decode cX0_joinPicked 0 = .ok (.aload_n 0, 1) := by decide +kernel
theorem dX0_joinPicked_1 : decode cX0_joinPicked 1 = .ok (.getfield 18, 3) := by decide +kernel
theorem dX0_joinPicked_4 : decode cX0_joinPicked 4 = .ok (.invokevirtual 42, 3) := by decide +kernel
theorem dX0_joinPicked_7 : decode cX0_joinPicked 7 = .ok (.iconst 0, 1) := by decide +kernel
theorem dX0_joinPicked_8 : decode cX0_joinPicked 8 = .ok (.istore_n 1, 1) := by decide +kernel
theorem dX0_joinPicked_9 : decode cX0_joinPicked 9 = .ok (.iload_n 1, 1) := by decide +kernel
theorem dX0_joinPicked_10 : decode cX0_joinPicked 10 = .ok (.aload_n 0, 1) := by decide +kernel
theorem dX0_joinPicked_11 : decode cX0_joinPicked 11 = .ok (.getfield 12, 3) := by decide +kernel
theorem dX0_joinPicked_14 : decode cX0_joinPicked 14 = .ok (.invokevirtual 27, 3) := by decide +kernel
theorem dX0_joinPicked_17 : decode cX0_joinPicked 17 = .ok (.if_icmp .ge 75, 3) := by decide +kernel
theorem dX0_joinPicked_20 : decode cX0_joinPicked 20 = .ok (.aload_n 0, 1) := by decide +kernel
theorem dX0_joinPicked_21 : decode cX0_joinPicked 21 = .ok (.getfield 12, 3) := by decide +kernel
theorem dX0_joinPicked_24 : decode cX0_joinPicked 24 = .ok (.iload_n 1, 1) := by decide +kernel
theorem dX0_joinPicked_25 : decode cX0_joinPicked 25 = .ok (.invokevirtual 55, 3) := by decide +kernel
theorem dX0_joinPicked_28 : decode cX0_joinPicked 28 = .ok (.checkcast 59, 3) := by decide +kernel
theorem dX0_joinPicked_31 : decode cX0_joinPicked 31 = .ok (.astore_n 2, 1) := by decide +kernel
theorem dX0_joinPicked_32 : decode cX0_joinPicked 32 = .ok (.aload_n 0, 1) := by decide +kernel
theorem dX0_joinPicked_33 : decode cX0_joinPicked 33 = .ok (.aload_n 2, 1) := by decide +kernel
theorem dX0_joinPicked_34 : decode cX0_joinPicked 34 = .ok (.getfield 77, 3) := by decide +kernel
theorem dX0_joinPicked_37 : decode cX0_joinPicked 37 = .ok (.invokevirtual 81, 3) := by decide +kernel
theorem dX0_joinPicked_40 : decode cX0_joinPicked 40 = .ok (.astore_n 3, 1) := by decide +kernel
theorem dX0_joinPicked_41 : decode cX0_joinPicked 41 = .ok (.aload_n 3, 1) := by decide +kernel
theorem dX0_joinPicked_42 : decode cX0_joinPicked 42 = .ok (.ifnull 17, 3) := by decide +kernel
theorem dX0_joinPicked_45 : decode cX0_joinPicked 45 = .ok (.aload_n 2, 1) := by decide +kernel
theorem dX0_joinPicked_46 : decode cX0_joinPicked 46 = .ok (.getfield 85, 3) := by decide +kernel
theorem dX0_joinPicked_49 : decode cX0_joinPicked 49 = .ok (.aload_n 3, 1) := by decide +kernel
theorem dX0_joinPicked_50 : decode cX0_joinPicked 50 = .ok (.getfield 88, 3) := by decide +kernel
theorem dX0_joinPicked_53 : decode cX0_joinPicked 53 = .ok (.isub, 1) := by decide +kernel
theorem dX0_joinPicked_54 : decode cX0_joinPicked 54 = .ok (.bipush 15, 2) := by decide +kernel
theorem dX0_joinPicked_56 : decode cX0_joinPicked 56 = .ok (.if_icmp .le 25, 3) := by decide +kernel
theorem dX0_joinPicked_59 : decode cX0_joinPicked 59 = .ok (.aload_n 0, 1) := by decide +kernel
theorem dX0_joinPicked_60 : decode cX0_joinPicked 60 = .ok (.aload_n 2, 1) := by decide +kernel
theorem dX0_joinPicked_61 : decode cX0_joinPicked 61 = .ok (.getfield 77, 3) := by decide +kernel
theorem dX0_joinPicked_64 : decode cX0_joinPicked 64 = .ok (.aload_n 2, 1) := by decide +kernel
theorem dX0_joinPicked_65 : decode cX0_joinPicked 65 = .ok (.getfield 85, 3) := by decide +kernel
theorem dX0_joinPicked_68 : decode cX0_joinPicked 68 = .ok (.invokevirtual 91, 3) := by decide +kernel
theorem dX0_joinPicked_71 : decode cX0_joinPicked 71 = .ok (.astore_n 3, 1) := by decide +kernel
theorem dX0_joinPicked_72 : decode cX0_joinPicked 72 = .ok (.aload_n 0, 1) := by decide +kernel
theorem dX0_joinPicked_73 : decode cX0_joinPicked 73 = .ok (.getfield 18, 3) := by decide +kernel
theorem dX0_joinPicked_76 : decode cX0_joinPicked 76 = .ok (.aload_n 3, 1) := by decide +kernel
theorem dX0_joinPicked_77 : decode cX0_joinPicked 77 = .ok (.invokevirtual 95, 3) := by decide +kernel
theorem dX0_joinPicked_80 : decode cX0_joinPicked 80 = .ok (.pop, 1) := by decide +kernel
theorem dX0_joinPicked_81 : decode cX0_joinPicked 81 = .ok (.aload_n 3, 1) := by decide +kernel
theorem dX0_joinPicked_82 : decode cX0_joinPicked 82 = .ok (.aload_n 2, 1) := by decide +kernel
theorem dX0_joinPicked_83 : decode cX0_joinPicked 83 = .ok (.invokevirtual 98, 3) := by decide +kernel
theorem dX0_joinPicked_86 : decode cX0_joinPicked 86 = .ok (.iinc 1 1, 3) := by decide +kernel
theorem dX0_joinPicked_89 : decode cX0_joinPicked 89 = .ok (.goto (-80), 3) := by decide +kernel
theorem dX0_joinPicked_92 : decode cX0_joinPicked 92 = .ok (.return_, 1) := by decide +kernel
theorem dX0_lastOn_0 : decode cX0_lastOn 0 = .ok (.aload_n 0, 1) := by decide +kernel
theorem dX0_lastOn_1 : decode cX0_lastOn 1 = .ok (.getfield 18, 3) := by decide +kernel
theorem dX0_lastOn_4 : decode cX0_lastOn 4 = .ok (.invokevirtual 27, 3) := by decide +kernel
theorem dX0_lastOn_7 : decode cX0_lastOn 7 = .ok (.iconst 1, 1) := by decide +kernel
theorem dX0_lastOn_8 : decode cX0_lastOn 8 = .ok (.isub, 1) := by decide +kernel
theorem dX0_lastOn_9 : decode cX0_lastOn 9 = .ok (.istore_n 2, 1) := by decide +kernel
theorem dX0_lastOn_10 : decode cX0_lastOn 10 = .ok (.iload_n 2, 1) := by decide +kernel
theorem dX0_lastOn_11 : decode cX0_lastOn 11 = .ok (.ifCond .lt 31, 3) := by decide +kernel
theorem dX0_lastOn_14 : decode cX0_lastOn 14 = .ok (.aload_n 0, 1) := by decide +kernel
theorem dX0_lastOn_15 : decode cX0_lastOn 15 = .ok (.getfield 18, 3) := by decide +kernel
theorem dX0_lastOn_18 : decode cX0_lastOn 18 = .ok (.iload_n 2, 1) := by decide +kernel
theorem dX0_lastOn_19 : decode cX0_lastOn 19 = .ok (.invokevirtual 55, 3) := by decide +kernel
theorem dX0_lastOn_22 : decode cX0_lastOn 22 = .ok (.checkcast 89, 3) := by decide +kernel
theorem dX0_lastOn_25 : decode cX0_lastOn 25 = .ok (.astore_n 3, 1) := by decide +kernel
theorem dX0_lastOn_26 : decode cX0_lastOn 26 = .ok (.aload_n 3, 1) := by decide +kernel
theorem dX0_lastOn_27 : decode cX0_lastOn 27 = .ok (.getfield 102, 3) := by decide +kernel
theorem dX0_lastOn_30 : decode cX0_lastOn 30 = .ok (.aload_n 1, 1) := by decide +kernel
theorem dX0_lastOn_31 : decode cX0_lastOn 31 = .ok (.if_acmp .ne 5, 3) := by decide +kernel
theorem dX0_lastOn_34 : decode cX0_lastOn 34 = .ok (.aload_n 3, 1) := by decide +kernel
theorem dX0_lastOn_35 : decode cX0_lastOn 35 = .ok (.areturn, 1) := by decide +kernel
theorem dX0_lastOn_36 : decode cX0_lastOn 36 = .ok (.iinc 2 (-1), 3) := by decide +kernel
theorem dX0_lastOn_39 : decode cX0_lastOn 39 = .ok (.goto (-29), 3) := by decide +kernel
theorem dX0_lastOn_42 : decode cX0_lastOn 42 = .ok (.aconst_null, 1) := by decide +kernel
theorem dX0_lastOn_43 : decode cX0_lastOn 43 = .ok (.areturn, 1) := by decide +kernel
theorem dX0_begin_0 : decode cX0_begin 0 = .ok (.aload_n 0, 1) := by decide +kernel
theorem dX0_begin_1 : decode cX0_begin 1 = .ok (.getfield 31, 3) := by decide +kernel
theorem dX0_begin_4 : decode cX0_begin 4 = .ok (.aload_n 0, 1) := by decide +kernel
theorem dX0_begin_5 : decode cX0_begin 5 = .ok (.getfield 24, 3) := by decide +kernel
theorem dX0_begin_8 : decode cX0_begin 8 = .ok (.invokevirtual 27, 3) := by decide +kernel
theorem dX0_begin_11 : decode cX0_begin 11 = .ok (.if_icmp .lt 33, 3) := by decide +kernel
theorem dX0_begin_14 : decode cX0_begin 14 = .ok (.aload_n 0, 1) := by decide +kernel
theorem dX0_begin_15 : decode cX0_begin 15 = .ok (.getfield 24, 3) := by decide +kernel
theorem dX0_begin_18 : decode cX0_begin 18 = .ok (.new 89, 3) := by decide +kernel
theorem dX0_begin_21 : decode cX0_begin 21 = .ok (.dup, 1) := by decide +kernel
theorem dX0_begin_22 : decode cX0_begin 22 = .ok (.aload_n 1, 1) := by decide +kernel
theorem dX0_begin_23 : decode cX0_begin 23 = .ok (.iload_n 2, 1) := by decide +kernel
theorem dX0_begin_24 : decode cX0_begin 24 = .ok (.invokespecial 103, 3) := by decide +kernel
theorem dX0_begin_27 : decode cX0_begin 27 = .ok (.invokevirtual 95, 3) := by decide +kernel
theorem dX0_begin_30 : decode cX0_begin 30 = .ok (.pop, 1) := by decide +kernel
theorem dX0_begin_31 : decode cX0_begin 31 = .ok (.aload_n 0, 1) := by decide +kernel
theorem dX0_begin_32 : decode cX0_begin 32 = .ok (.aload_n 0, 1) := by decide +kernel
theorem dX0_begin_33 : decode cX0_begin 33 = .ok (.getfield 24, 3) := by decide +kernel
theorem dX0_begin_36 : decode cX0_begin 36 = .ok (.invokevirtual 27, 3) := by decide +kernel
theorem dX0_begin_39 : decode cX0_begin 39 = .ok (.iconst 1, 1) := by decide +kernel
theorem dX0_begin_40 : decode cX0_begin 40 = .ok (.isub, 1) := by decide +kernel
theorem dX0_begin_41 : decode cX0_begin 41 = .ok (.putfield 31, 3) := by decide +kernel
theorem dX0_begin_44 : decode cX0_begin 44 = .ok (.aload_n 0, 1) := by decide +kernel
theorem dX0_begin_45 : decode cX0_begin 45 = .ok (.getfield 24, 3) := by decide +kernel
theorem dX0_begin_48 : decode cX0_begin 48 = .ok (.aload_n 0, 1) := by decide +kernel
theorem dX0_begin_49 : decode cX0_begin 49 = .ok (.getfield 31, 3) := by decide +kernel
theorem dX0_begin_52 : decode cX0_begin 52 = .ok (.invokevirtual 55, 3) := by decide +kernel
theorem dX0_begin_55 : decode cX0_begin 55 = .ok (.checkcast 89, 3) := by decide +kernel
theorem dX0_begin_58 : decode cX0_begin 58 = .ok (.astore_n 3, 1) := by decide +kernel
theorem dX0_begin_59 : decode cX0_begin 59 = .ok (.aload_n 3, 1) := by decide +kernel
theorem dX0_begin_60 : decode cX0_begin 60 = .ok (.aload_n 1, 1) := by decide +kernel
theorem dX0_begin_61 : decode cX0_begin 61 = .ok (.iload_n 2, 1) := by decide +kernel
theorem dX0_begin_62 : decode cX0_begin 62 = .ok (.invokevirtual 106, 3) := by decide +kernel
theorem dX0_begin_65 : decode cX0_begin 65 = .ok (.aload_n 0, 1) := by decide +kernel
theorem dX0_begin_66 : decode cX0_begin 66 = .ok (.dup, 1) := by decide +kernel
theorem dX0_begin_67 : decode cX0_begin 67 = .ok (.getfield 31, 3) := by decide +kernel
theorem dX0_begin_70 : decode cX0_begin 70 = .ok (.iconst 1, 1) := by decide +kernel
theorem dX0_begin_71 : decode cX0_begin 71 = .ok (.iadd, 1) := by decide +kernel
theorem dX0_begin_72 : decode cX0_begin 72 = .ok (.putfield 31, 3) := by decide +kernel
theorem dX0_begin_75 : decode cX0_begin 75 = .ok (.aload_n 3, 1) := by decide +kernel
theorem dX0_begin_76 : decode cX0_begin 76 = .ok (.areturn, 1) := by decide +kernel
theorem dX0_addSure_0 : decode cX0_addSure 0 = .ok (.aconst_null, 1) := by decide +kernel
theorem dX0_addSure_1 : decode cX0_addSure 1 = .ok (.astore_n 2, 1) := by decide +kernel
theorem dX0_addSure_2 : decode cX0_addSure 2 = .ok (.iconst 0, 1) := by decide +kernel
theorem dX0_addSure_3 : decode cX0_addSure 3 = .ok (.istore_n 3, 1) := by decide +kernel
theorem dX0_addSure_4 : decode cX0_addSure 4 = .ok (.iload_n 3, 1) := by decide +kernel
theorem dX0_addSure_5 : decode cX0_addSure 5 = .ok (.aload_n 0, 1) := by decide +kernel
theorem dX0_addSure_6 : decode cX0_addSure 6 = .ok (.getfield 18, 3) := by decide +kernel
theorem dX0_addSure_9 : decode cX0_addSure 9 = .ok (.invokevirtual 27, 3) := by decide +kernel
theorem dX0_addSure_12 : decode cX0_addSure 12 = .ok (.if_icmp .ge 58, 3) := by decide +kernel
theorem dX0_addSure_15 : decode cX0_addSure 15 = .ok (.aload_n 0, 1) := by decide +kernel
theorem dX0_addSure_16 : decode cX0_addSure 16 = .ok (.getfield 18, 3) := by decide +kernel
theorem dX0_addSure_19 : decode cX0_addSure 19 = .ok (.iload_n 3, 1) := by decide +kernel
theorem dX0_addSure_20 : decode cX0_addSure 20 = .ok (.invokevirtual 55, 3) := by decide +kernel
theorem dX0_addSure_23 : decode cX0_addSure 23 = .ok (.checkcast 89, 3) := by decide +kernel
theorem dX0_addSure_26 : decode cX0_addSure 26 = .ok (.astore 4, 2) := by decide +kernel
theorem dX0_addSure_28 : decode cX0_addSure 28 = .ok (.aload 4, 2) := by decide +kernel
theorem dX0_addSure_30 : decode cX0_addSure 30 = .ok (.getfield 109, 3) := by decide +kernel
theorem dX0_addSure_33 : decode cX0_addSure 33 = .ok (.ifCond .eq 6, 3) := by decide +kernel
theorem dX0_addSure_36 : decode cX0_addSure 36 = .ok (.goto 28, 3) := by decide +kernel
theorem dX0_addSure_39 : decode cX0_addSure 39 = .ok (.aload_n 2, 1) := by decide +kernel
theorem dX0_addSure_40 : decode cX0_addSure 40 = .ok (.ifnull 11, 3) := by decide +kernel
theorem dX0_addSure_43 : decode cX0_addSure 43 = .ok (.aload_n 0, 1) := by decide +kernel
theorem dX0_addSure_44 : decode cX0_addSure 44 = .ok (.aload_n 1, 1) := by decide +kernel
theorem dX0_addSure_45 : decode cX0_addSure 45 = .ok (.aload_n 2, 1) := by decide +kernel
theorem dX0_addSure_46 : decode cX0_addSure 46 = .ok (.aload 4, 2) := by decide +kernel
theorem dX0_addSure_48 : decode cX0_addSure 48 = .ok (.invokevirtual 113, 3) := by decide +kernel
theorem dX0_addSure_51 : decode cX0_addSure 51 = .ok (.aload_n 0, 1) := by decide +kernel
theorem dX0_addSure_52 : decode cX0_addSure 52 = .ok (.getfield 21, 3) := by decide +kernel
theorem dX0_addSure_55 : decode cX0_addSure 55 = .ok (.aload 4, 2) := by decide +kernel
theorem dX0_addSure_57 : decode cX0_addSure 57 = .ok (.invokevirtual 95, 3) := by decide +kernel
theorem dX0_addSure_60 : decode cX0_addSure 60 = .ok (.pop, 1) := by decide +kernel
theorem dX0_addSure_61 : decode cX0_addSure 61 = .ok (.aload 4, 2) := by decide +kernel
theorem dX0_addSure_63 : decode cX0_addSure 63 = .ok (.astore_n 2, 1) := by decide +kernel
theorem dX0_addSure_64 : decode cX0_addSure 64 = .ok (.iinc 3 1, 3) := by decide +kernel
theorem dX0_addSure_67 : decode cX0_addSure 67 = .ok (.goto (-63), 3) := by decide +kernel
theorem dX0_addSure_70 : decode cX0_addSure 70 = .ok (.return_, 1) := by decide +kernel
theorem dX0_addInferred_0 : decode cX0_addInferred 0 = .ok (.aload_n 2, 1) := by decide +kernel
theorem dX0_addInferred_1 : decode cX0_addInferred 1 = .ok (.getfield 102, 3) := by decide +kernel
theorem dX0_addInferred_4 : decode cX0_addInferred 4 = .ok (.getfield 117, 3) := by decide +kernel
theorem dX0_addInferred_7 : decode cX0_addInferred 7 = .ok (.istore 4, 2) := by decide +kernel
theorem dX0_addInferred_9 : decode cX0_addInferred 9 = .ok (.aload_n 3, 1) := by decide +kernel
theorem dX0_addInferred_10 : decode cX0_addInferred 10 = .ok (.getfield 102, 3) := by decide +kernel
theorem dX0_addInferred_13 : decode cX0_addInferred 13 = .ok (.getfield 122, 3) := by decide +kernel
theorem dX0_addInferred_16 : decode cX0_addInferred 16 = .ok (.istore 5, 2) := by decide +kernel
theorem dX0_addInferred_18 : decode cX0_addInferred 18 = .ok (.iload 4, 2) := by decide +kernel
theorem dX0_addInferred_20 : decode cX0_addInferred 20 = .ok (.iload 5, 2) := by decide +kernel
theorem dX0_addInferred_22 : decode cX0_addInferred 22 = .ok (.if_icmp .eq 18, 3) := by decide +kernel
theorem dX0_addInferred_25 : decode cX0_addInferred 25 = .ok (.aload_n 3, 1) := by decide +kernel
theorem dX0_addInferred_26 : decode cX0_addInferred 26 = .ok (.getfield 88, 3) := by decide +kernel
theorem dX0_addInferred_29 : decode cX0_addInferred 29 = .ok (.aload_n 2, 1) := by decide +kernel
theorem dX0_addInferred_30 : decode cX0_addInferred 30 = .ok (.getfield 88, 3) := by decide +kernel
theorem dX0_addInferred_33 : decode cX0_addInferred 33 = .ok (.isub, 1) := by decide +kernel
theorem dX0_addInferred_34 : decode cX0_addInferred 34 = .ok (.sipush 180, 3) := by decide +kernel
theorem dX0_addInferred_37 : decode cX0_addInferred 37 = .ok (.if_icmp .le 4, 3) := by decide +kernel
theorem dX0_addInferred_40 : decode cX0_addInferred 40 = .ok (.return_, 1) := by decide +kernel
theorem dX0_addInferred_41 : decode cX0_addInferred 41 = .ok (.aload_n 1, 1) := by decide +kernel
theorem dX0_addInferred_42 : decode cX0_addInferred 42 = .ok (.iload 4, 2) := by decide +kernel
theorem dX0_addInferred_44 : decode cX0_addInferred 44 = .ok (.iload 5, 2) := by decide +kernel
theorem dX0_addInferred_46 : decode cX0_addInferred 46 = .ok (.invokestatic 125, 3) := by decide +kernel
theorem dX0_addInferred_49 : decode cX0_addInferred 49 = .ok (.astore 6, 2) := by decide +kernel
theorem dX0_addInferred_51 : decode cX0_addInferred 51 = .ok (.aload 6, 2) := by decide +kernel
theorem dX0_addInferred_53 : decode cX0_addInferred 53 = .ok (.ifnull 28, 3) := by decide +kernel
theorem dX0_addInferred_56 : decode cX0_addInferred 56 = .ok (.aload_n 0, 1) := by decide +kernel
theorem dX0_addInferred_57 : decode cX0_addInferred 57 = .ok (.getfield 21, 3) := by decide +kernel
theorem dX0_addInferred_60 : decode cX0_addInferred 60 = .ok (.aload_n 0, 1) := by decide +kernel
theorem dX0_addInferred_61 : decode cX0_addInferred 61 = .ok (.aload 6, 2) := by decide +kernel
theorem dX0_addInferred_63 : decode cX0_addInferred 63 = .ok (.aload_n 2, 1) := by decide +kernel
theorem dX0_addInferred_64 : decode cX0_addInferred 64 = .ok (.getfield 88, 3) := by decide +kernel
theorem dX0_addInferred_67 : decode cX0_addInferred 67 = .ok (.aload_n 3, 1) := by decide +kernel
theorem dX0_addInferred_68 : decode cX0_addInferred 68 = .ok (.getfield 88, 3) := by decide +kernel
theorem dX0_addInferred_71 : decode cX0_addInferred 71 = .ok (.iadd, 1) := by decide +kernel
theorem dX0_addInferred_72 : decode cX0_addInferred 72 = .ok (.iconst 2, 1) := by decide +kernel
theorem dX0_addInferred_73 : decode cX0_addInferred 73 = .ok (.idiv, 1) := by decide +kernel
theorem dX0_addInferred_74 : decode cX0_addInferred 74 = .ok (.invokevirtual 91, 3) := by decide +kernel
theorem dX0_addInferred_77 : decode cX0_addInferred 77 = .ok (.invokevirtual 95, 3) := by decide +kernel
theorem dX0_addInferred_80 : decode cX0_addInferred 80 = .ok (.pop, 1) := by decide +kernel
theorem dX0_addInferred_81 : decode cX0_addInferred 81 = .ok (.return_, 1) := by decide +kernel
theorem dX0_onlyBetween_0 : decode cX0_onlyBetween 0 = .ok (.aconst_null, 1) := by decide +kernel
theorem dX0_onlyBetween_1 : decode cX0_onlyBetween 1 = .ok (.astore_n 3, 1) := by decide +kernel
theorem dX0_onlyBetween_2 : decode cX0_onlyBetween 2 = .ok (.iconst 0, 1) := by decide +kernel
theorem dX0_onlyBetween_3 : decode cX0_onlyBetween 3 = .ok (.istore 4, 2) := by decide +kernel
theorem dX0_onlyBetween_5 : decode cX0_onlyBetween 5 = .ok (.iload 4, 2) := by decide +kernel
theorem dX0_onlyBetween_7 : decode cX0_onlyBetween 7 = .ok (.aload_n 0, 1) := by decide +kernel
theorem dX0_onlyBetween_8 : decode cX0_onlyBetween 8 = .ok (.invokevirtual 27, 3) := by decide +kernel
theorem dX0_onlyBetween_11 : decode cX0_onlyBetween 11 = .ok (.if_icmp .ge 47, 3) := by decide +kernel
theorem dX0_onlyBetween_14 : decode cX0_onlyBetween 14 = .ok (.aload_n 0, 1) := by decide +kernel
theorem dX0_onlyBetween_15 : decode cX0_onlyBetween 15 = .ok (.iload 4, 2) := by decide +kernel
theorem dX0_onlyBetween_17 : decode cX0_onlyBetween 17 = .ok (.invokevirtual 55, 3) := by decide +kernel
theorem dX0_onlyBetween_20 : decode cX0_onlyBetween 20 = .ok (.checkcast 118, 3) := by decide +kernel
theorem dX0_onlyBetween_23 : decode cX0_onlyBetween 23 = .ok (.astore 5, 2) := by decide +kernel
theorem dX0_onlyBetween_25 : decode cX0_onlyBetween 25 = .ok (.aload 5, 2) := by decide +kernel
theorem dX0_onlyBetween_27 : decode cX0_onlyBetween 27 = .ok (.getfield 122, 3) := by decide +kernel
theorem dX0_onlyBetween_30 : decode cX0_onlyBetween 30 = .ok (.iload_n 1, 1) := by decide +kernel
theorem dX0_onlyBetween_31 : decode cX0_onlyBetween 31 = .ok (.if_icmp .ne 21, 3) := by decide +kernel
theorem dX0_onlyBetween_34 : decode cX0_onlyBetween 34 = .ok (.aload 5, 2) := by decide +kernel
theorem dX0_onlyBetween_36 : decode cX0_onlyBetween 36 = .ok (.getfield 117, 3) := by decide +kernel
theorem dX0_onlyBetween_39 : decode cX0_onlyBetween 39 = .ok (.iload_n 2, 1) := by decide +kernel
theorem dX0_onlyBetween_40 : decode cX0_onlyBetween 40 = .ok (.if_icmp .ne 12, 3) := by decide +kernel
theorem dX0_onlyBetween_43 : decode cX0_onlyBetween 43 = .ok (.aload_n 3, 1) := by decide +kernel
theorem dX0_onlyBetween_44 : decode cX0_onlyBetween 44 = .ok (.ifnull 5, 3) := by decide +kernel
theorem dX0_onlyBetween_47 : decode cX0_onlyBetween 47 = .ok (.aconst_null, 1) := by decide +kernel
theorem dX0_onlyBetween_48 : decode cX0_onlyBetween 48 = .ok (.areturn, 1) := by decide +kernel
theorem dX0_onlyBetween_49 : decode cX0_onlyBetween 49 = .ok (.aload 5, 2) := by decide +kernel
theorem dX0_onlyBetween_51 : decode cX0_onlyBetween 51 = .ok (.astore_n 3, 1) := by decide +kernel
theorem dX0_onlyBetween_52 : decode cX0_onlyBetween 52 = .ok (.iinc 4 1, 3) := by decide +kernel
theorem dX0_onlyBetween_55 : decode cX0_onlyBetween 55 = .ok (.goto (-50), 3) := by decide +kernel
theorem dX0_onlyBetween_58 : decode cX0_onlyBetween 58 = .ok (.aload_n 3, 1) := by decide +kernel
theorem dX0_onlyBetween_59 : decode cX0_onlyBetween 59 = .ok (.areturn, 1) := by decide +kernel
theorem dX0_addDoubtful_0 : decode cX0_addDoubtful 0 = .ok (.iconst 0, 1) := by decide +kernel
theorem dX0_addDoubtful_1 : decode cX0_addDoubtful 1 = .ok (.istore_n 1, 1) := by decide +kernel
theorem dX0_addDoubtful_2 : decode cX0_addDoubtful 2 = .ok (.iload_n 1, 1) := by decide +kernel
theorem dX0_addDoubtful_3 : decode cX0_addDoubtful 3 = .ok (.aload_n 0, 1) := by decide +kernel
theorem dX0_addDoubtful_4 : decode cX0_addDoubtful 4 = .ok (.getfield 18, 3) := by decide +kernel
theorem dX0_addDoubtful_7 : decode cX0_addDoubtful 7 = .ok (.invokevirtual 27, 3) := by decide +kernel
theorem dX0_addDoubtful_10 : decode cX0_addDoubtful 10 = .ok (.if_icmp .ge 37, 3) := by decide +kernel
theorem dX0_addDoubtful_13 : decode cX0_addDoubtful 13 = .ok (.aload_n 0, 1) := by decide +kernel
theorem dX0_addDoubtful_14 : decode cX0_addDoubtful 14 = .ok (.getfield 18, 3) := by decide +kernel
theorem dX0_addDoubtful_17 : decode cX0_addDoubtful 17 = .ok (.iload_n 1, 1) := by decide +kernel
theorem dX0_addDoubtful_18 : decode cX0_addDoubtful 18 = .ok (.invokevirtual 55, 3) := by decide +kernel
theorem dX0_addDoubtful_21 : decode cX0_addDoubtful 21 = .ok (.checkcast 89, 3) := by decide +kernel
theorem dX0_addDoubtful_24 : decode cX0_addDoubtful 24 = .ok (.astore_n 2, 1) := by decide +kernel
theorem dX0_addDoubtful_25 : decode cX0_addDoubtful 25 = .ok (.aload_n 2, 1) := by decide +kernel
theorem dX0_addDoubtful_26 : decode cX0_addDoubtful 26 = .ok (.getfield 109, 3) := by decide +kernel
theorem dX0_addDoubtful_29 : decode cX0_addDoubtful 29 = .ok (.ifCond .eq 12, 3) := by decide +kernel
theorem dX0_addDoubtful_32 : decode cX0_addDoubtful 32 = .ok (.aload_n 0, 1) := by decide +kernel
theorem dX0_addDoubtful_33 : decode cX0_addDoubtful 33 = .ok (.getfield 21, 3) := by decide +kernel
theorem dX0_addDoubtful_36 : decode cX0_addDoubtful 36 = .ok (.aload_n 2, 1) := by decide +kernel
theorem dX0_addDoubtful_37 : decode cX0_addDoubtful 37 = .ok (.invokevirtual 95, 3) := by decide +kernel
theorem dX0_addDoubtful_40 : decode cX0_addDoubtful 40 = .ok (.pop, 1) := by decide +kernel
theorem dX0_addDoubtful_41 : decode cX0_addDoubtful 41 = .ok (.iinc 1 1, 3) := by decide +kernel
theorem dX0_addDoubtful_44 : decode cX0_addDoubtful 44 = .ok (.goto (-42), 3) := by decide +kernel
theorem dX0_addDoubtful_47 : decode cX0_addDoubtful 47 = .ok (.return_, 1) := by decide +kernel
theorem dX0_charge_0 : decode cX0_charge 0 = .ok (.iconst 0, 1) := by decide +kernel
theorem dX0_charge_1 : decode cX0_charge 1 = .ok (.istore 5, 2) := by decide +kernel
theorem dX0_charge_3 : decode cX0_charge 3 = .ok (.iconst 0, 1) := by decide +kernel
theorem dX0_charge_4 : decode cX0_charge 4 = .ok (.istore 6, 2) := by decide +kernel
theorem dX0_charge_6 : decode cX0_charge 6 = .ok (.iload 6, 2) := by decide +kernel
theorem dX0_charge_8 : decode cX0_charge 8 = .ok (.aload_n 0, 1) := by decide +kernel
theorem dX0_charge_9 : decode cX0_charge 9 = .ok (.getfield 21, 3) := by decide +kernel
theorem dX0_charge_12 : decode cX0_charge 12 = .ok (.invokevirtual 27, 3) := by decide +kernel
theorem dX0_charge_15 : decode cX0_charge 15 = .ok (.if_icmp .ge 91, 3) := by decide +kernel
theorem dX0_charge_18 : decode cX0_charge 18 = .ok (.aload_n 0, 1) := by decide +kernel
theorem dX0_charge_19 : decode cX0_charge 19 = .ok (.getfield 21, 3) := by decide +kernel
theorem dX0_charge_22 : decode cX0_charge 22 = .ok (.iload 6, 2) := by decide +kernel
theorem dX0_charge_24 : decode cX0_charge 24 = .ok (.invokevirtual 55, 3) := by decide +kernel
theorem dX0_charge_27 : decode cX0_charge 27 = .ok (.checkcast 89, 3) := by decide +kernel
theorem dX0_charge_30 : decode cX0_charge 30 = .ok (.astore 7, 2) := by decide +kernel
theorem dX0_charge_32 : decode cX0_charge 32 = .ok (.aload 4, 2) := by decide +kernel
theorem dX0_charge_34 : decode cX0_charge 34 = .ok (.aload 7, 2) := by decide +kernel
theorem dX0_charge_36 : decode cX0_charge 36 = .ok (.getfield 102, 3) := by decide +kernel
theorem dX0_charge_39 : decode cX0_charge 39 = .ok (.iload_n 2, 1) := by decide +kernel
theorem dX0_charge_40 : decode cX0_charge 40 = .ok (.aload_n 1, 1) := by decide +kernel
theorem dX0_charge_41 : decode cX0_charge 41 = .ok (.getfield 129, 3) := by decide +kernel
theorem dX0_charge_44 : decode cX0_charge 44 = .ok (.aload 7, 2) := by decide +kernel
theorem dX0_charge_46 : decode cX0_charge 46 = .ok (.getfield 88, 3) := by decide +kernel
theorem dX0_charge_49 : decode cX0_charge 49 = .ok (.invokevirtual 134, 3) := by decide +kernel
theorem dX0_charge_52 : decode cX0_charge 52 = .ok (.istore 8, 2) := by decide +kernel
theorem dX0_charge_54 : decode cX0_charge 54 = .ok (.aload 7, 2) := by decide +kernel
theorem dX0_charge_56 : decode cX0_charge 56 = .ok (.aload 7, 2) := by decide +kernel
theorem dX0_charge_58 : decode cX0_charge 58 = .ok (.aload_n 1, 1) := by decide +kernel
theorem dX0_charge_59 : decode cX0_charge 59 = .ok (.iload 8, 2) := by decide +kernel
theorem dX0_charge_61 : decode cX0_charge 61 = .ok (.iload_n 3, 1) := by decide +kernel
theorem dX0_charge_62 : decode cX0_charge 62 = .ok (.iload 5, 2) := by decide +kernel
theorem dX0_charge_64 : decode cX0_charge 64 = .ok (.isub, 1) := by decide +kernel
theorem dX0_charge_65 : decode cX0_charge 65 = .ok (.invokestatic 140, 3) := by decide +kernel
theorem dX0_charge_68 : decode cX0_charge 68 = .ok (.putfield 144, 3) := by decide +kernel
theorem dX0_charge_71 : decode cX0_charge 71 = .ok (.aload 7, 2) := by decide +kernel
theorem dX0_charge_73 : decode cX0_charge 73 = .ok (.aload 7, 2) := by decide +kernel
theorem dX0_charge_75 : decode cX0_charge 75 = .ok (.getfield 144, 3) := by decide +kernel
theorem dX0_charge_78 : decode cX0_charge 78 = .ok (.iload 8, 2) := by decide +kernel
theorem dX0_charge_80 : decode cX0_charge 80 = .ok (.iload_n 3, 1) := by decide +kernel
theorem dX0_charge_81 : decode cX0_charge 81 = .ok (.iload 5, 2) := by decide +kernel
theorem dX0_charge_83 : decode cX0_charge 83 = .ok (.isub, 1) := by decide +kernel
theorem dX0_charge_84 : decode cX0_charge 84 = .ok (.invokestatic 147, 3) := by decide +kernel
theorem dX0_charge_87 : decode cX0_charge 87 = .ok (.putfield 151, 3) := by decide +kernel
theorem dX0_charge_90 : decode cX0_charge 90 = .ok (.iload 5, 2) := by decide +kernel
theorem dX0_charge_92 : decode cX0_charge 92 = .ok (.aload 7, 2) := by decide +kernel
theorem dX0_charge_94 : decode cX0_charge 94 = .ok (.getfield 151, 3) := by decide +kernel
theorem dX0_charge_97 : decode cX0_charge 97 = .ok (.iadd, 1) := by decide +kernel
theorem dX0_charge_98 : decode cX0_charge 98 = .ok (.istore 5, 2) := by decide +kernel
theorem dX0_charge_100 : decode cX0_charge 100 = .ok (.iinc 6 1, 3) := by decide +kernel
theorem dX0_charge_103 : decode cX0_charge 103 = .ok (.goto (-97), 3) := by decide +kernel
theorem dX0_charge_106 : decode cX0_charge 106 = .ok (.iload 5, 2) := by decide +kernel
theorem dX0_charge_108 : decode cX0_charge 108 = .ok (.ireturn, 1) := by decide +kernel
theorem dX0_reasonOf_0 : decode cX0_reasonOf 0 = .ok (.aload_n 0, 1) := by decide +kernel
theorem dX0_reasonOf_1 : decode cX0_reasonOf 1 = .ok (.getfield 109, 3) := by decide +kernel
theorem dX0_reasonOf_4 : decode cX0_reasonOf 4 = .ok (.ifCond .eq 5, 3) := by decide +kernel
theorem dX0_reasonOf_7 : decode cX0_reasonOf 7 = .ok (.iconst 1, 1) := by decide +kernel
theorem dX0_reasonOf_8 : decode cX0_reasonOf 8 = .ok (.ireturn, 1) := by decide +kernel
theorem dX0_reasonOf_9 : decode cX0_reasonOf 9 = .ok (.aload_n 1, 1) := by decide +kernel
theorem dX0_reasonOf_10 : decode cX0_reasonOf 10 = .ok (.aload_n 0, 1) := by decide +kernel
theorem dX0_reasonOf_11 : decode cX0_reasonOf 11 = .ok (.getfield 102, 3) := by decide +kernel
theorem dX0_reasonOf_14 : decode cX0_reasonOf 14 = .ok (.getfield 154, 3) := by decide +kernel
theorem dX0_reasonOf_17 : decode cX0_reasonOf 17 = .ok (.invokevirtual 157, 3) := by decide +kernel
theorem dX0_reasonOf_20 : decode cX0_reasonOf 20 = .ok (.ifCond .eq 5, 3) := by decide +kernel
theorem dX0_reasonOf_23 : decode cX0_reasonOf 23 = .ok (.iconst 2, 1) := by decide +kernel
theorem dX0_reasonOf_24 : decode cX0_reasonOf 24 = .ok (.ireturn, 1) := by decide +kernel
theorem dX0_reasonOf_25 : decode cX0_reasonOf 25 = .ok (.aload_n 0, 1) := by decide +kernel
theorem dX0_reasonOf_26 : decode cX0_reasonOf 26 = .ok (.getfield 102, 3) := by decide +kernel
theorem dX0_reasonOf_29 : decode cX0_reasonOf 29 = .ok (.aload_n 0, 1) := by decide +kernel
theorem dX0_reasonOf_30 : decode cX0_reasonOf 30 = .ok (.getfield 88, 3) := by decide +kernel
theorem dX0_reasonOf_33 : decode cX0_reasonOf 33 = .ok (.invokevirtual 161, 3) := by decide +kernel
theorem dX0_reasonOf_36 : decode cX0_reasonOf 36 = .ok (.ifCond .eq 5, 3) := by decide +kernel
theorem dX0_reasonOf_39 : decode cX0_reasonOf 39 = .ok (.iconst 3, 1) := by decide +kernel
theorem dX0_reasonOf_40 : decode cX0_reasonOf 40 = .ok (.ireturn, 1) := by decide +kernel
theorem dX0_reasonOf_41 : decode cX0_reasonOf 41 = .ok (.iload_n 2, 1) := by decide +kernel
theorem dX0_reasonOf_42 : decode cX0_reasonOf 42 = .ok (.iload_n 3, 1) := by decide +kernel
theorem dX0_reasonOf_43 : decode cX0_reasonOf 43 = .ok (.if_icmp .le 7, 3) := by decide +kernel
theorem dX0_reasonOf_46 : decode cX0_reasonOf 46 = .ok (.iconst 4, 1) := by decide +kernel
theorem dX0_reasonOf_47 : decode cX0_reasonOf 47 = .ok (.goto 4, 3) := by decide +kernel
theorem dX0_reasonOf_50 : decode cX0_reasonOf 50 = .ok (.iconst 0, 1) := by decide +kernel
theorem dX0_reasonOf_51 : decode cX0_reasonOf 51 = .ok (.ireturn, 1) := by decide +kernel
theorem dX0_dueFor_0 : decode cX0_dueFor 0 = .ok (.iload_n 0, 1) := by decide +kernel
theorem dX0_dueFor_1 : decode cX0_dueFor 1 = .ok (.ifCond .ne 5, 3) := by decide +kernel
theorem dX0_dueFor_4 : decode cX0_dueFor 4 = .ok (.iload_n 1, 1) := by decide +kernel
theorem dX0_dueFor_5 : decode cX0_dueFor 5 = .ok (.ireturn, 1) := by decide +kernel
theorem dX0_dueFor_6 : decode cX0_dueFor 6 = .ok (.iload_n 0, 1) := by decide +kernel
theorem dX0_dueFor_7 : decode cX0_dueFor 7 = .ok (.iconst 4, 1) := by decide +kernel
theorem dX0_dueFor_8 : decode cX0_dueFor 8 = .ok (.if_icmp .ne 7, 3) := by decide +kernel
theorem dX0_dueFor_11 : decode cX0_dueFor 11 = .ok (.iload_n 2, 1) := by decide +kernel
theorem dX0_dueFor_12 : decode cX0_dueFor 12 = .ok (.goto 4, 3) := by decide +kernel
theorem dX0_dueFor_15 : decode cX0_dueFor 15 = .ok (.iconst 0, 1) := by decide +kernel
theorem dX0_dueFor_16 : decode cX0_dueFor 16 = .ok (.ireturn, 1) := by decide +kernel
theorem dX0_dueTo_0 : decode cX0_dueTo 0 = .ok (.iconst 0, 1) := by decide +kernel
theorem dX0_dueTo_1 : decode cX0_dueTo 1 = .ok (.istore_n 2, 1) := by decide +kernel
theorem dX0_dueTo_2 : decode cX0_dueTo 2 = .ok (.iconst 0, 1) := by decide +kernel
theorem dX0_dueTo_3 : decode cX0_dueTo 3 = .ok (.istore_n 3, 1) := by decide +kernel
theorem dX0_dueTo_4 : decode cX0_dueTo 4 = .ok (.iload_n 3, 1) := by decide +kernel
theorem dX0_dueTo_5 : decode cX0_dueTo 5 = .ok (.aload_n 0, 1) := by decide +kernel
theorem dX0_dueTo_6 : decode cX0_dueTo 6 = .ok (.getfield 21, 3) := by decide +kernel
theorem dX0_dueTo_9 : decode cX0_dueTo 9 = .ok (.invokevirtual 27, 3) := by decide +kernel
theorem dX0_dueTo_12 : decode cX0_dueTo 12 = .ok (.if_icmp .ge 42, 3) := by decide +kernel
theorem dX0_dueTo_15 : decode cX0_dueTo 15 = .ok (.aload_n 0, 1) := by decide +kernel
theorem dX0_dueTo_16 : decode cX0_dueTo 16 = .ok (.getfield 21, 3) := by decide +kernel
theorem dX0_dueTo_19 : decode cX0_dueTo 19 = .ok (.iload_n 3, 1) := by decide +kernel
theorem dX0_dueTo_20 : decode cX0_dueTo 20 = .ok (.invokevirtual 55, 3) := by decide +kernel
theorem dX0_dueTo_23 : decode cX0_dueTo 23 = .ok (.checkcast 89, 3) := by decide +kernel
theorem dX0_dueTo_26 : decode cX0_dueTo 26 = .ok (.astore 4, 2) := by decide +kernel
theorem dX0_dueTo_28 : decode cX0_dueTo 28 = .ok (.aload 4, 2) := by decide +kernel
theorem dX0_dueTo_30 : decode cX0_dueTo 30 = .ok (.getfield 102, 3) := by decide +kernel
theorem dX0_dueTo_33 : decode cX0_dueTo 33 = .ok (.getfield 154, 3) := by decide +kernel
theorem dX0_dueTo_36 : decode cX0_dueTo 36 = .ok (.iload_n 1, 1) := by decide +kernel
theorem dX0_dueTo_37 : decode cX0_dueTo 37 = .ok (.if_icmp .ne 11, 3) := by decide +kernel
theorem dX0_dueTo_40 : decode cX0_dueTo 40 = .ok (.iload_n 2, 1) := by decide +kernel
theorem dX0_dueTo_41 : decode cX0_dueTo 41 = .ok (.aload 4, 2) := by decide +kernel
theorem dX0_dueTo_43 : decode cX0_dueTo 43 = .ok (.getfield 151, 3) := by decide +kernel
theorem dX0_dueTo_46 : decode cX0_dueTo 46 = .ok (.iadd, 1) := by decide +kernel
theorem dX0_dueTo_47 : decode cX0_dueTo 47 = .ok (.istore_n 2, 1) := by decide +kernel
theorem dX0_dueTo_48 : decode cX0_dueTo 48 = .ok (.iinc 3 1, 3) := by decide +kernel
theorem dX0_dueTo_51 : decode cX0_dueTo 51 = .ok (.goto (-47), 3) := by decide +kernel
theorem dX0_dueTo_54 : decode cX0_dueTo 54 = .ok (.iload_n 2, 1) := by decide +kernel
theorem dX0_dueTo_55 : decode cX0_dueTo 55 = .ok (.ireturn, 1) := by decide +kernel
theorem dX0_journeyCount_0 : decode cX0_journeyCount 0 = .ok (.iconst 0, 1) := by decide +kernel
theorem dX0_journeyCount_1 : decode cX0_journeyCount 1 = .ok (.istore_n 1, 1) := by decide +kernel
theorem dX0_journeyCount_2 : decode cX0_journeyCount 2 = .ok (.aconst_null, 1) := by decide +kernel
theorem dX0_journeyCount_3 : decode cX0_journeyCount 3 = .ok (.astore_n 2, 1) := by decide +kernel
theorem dX0_journeyCount_4 : decode cX0_journeyCount 4 = .ok (.iconst 0, 1) := by decide +kernel
theorem dX0_journeyCount_5 : decode cX0_journeyCount 5 = .ok (.istore_n 3, 1) := by decide +kernel
theorem dX0_journeyCount_6 : decode cX0_journeyCount 6 = .ok (.iload_n 3, 1) := by decide +kernel
theorem dX0_journeyCount_7 : decode cX0_journeyCount 7 = .ok (.aload_n 0, 1) := by decide +kernel
theorem dX0_journeyCount_8 : decode cX0_journeyCount 8 = .ok (.getfield 49, 3) := by decide +kernel
theorem dX0_journeyCount_11 : decode cX0_journeyCount 11 = .ok (.if_icmp .ge 76, 3) := by decide +kernel
theorem dX0_journeyCount_14 : decode cX0_journeyCount 14 = .ok (.iload_n 3, 1) := by decide +kernel
theorem dX0_journeyCount_15 : decode cX0_journeyCount 15 = .ok (.aload_n 0, 1) := by decide +kernel
theorem dX0_journeyCount_16 : decode cX0_journeyCount 16 = .ok (.getfield 21, 3) := by decide +kernel
theorem dX0_journeyCount_19 : decode cX0_journeyCount 19 = .ok (.invokevirtual 27, 3) := by decide +kernel
theorem dX0_journeyCount_22 : decode cX0_journeyCount 22 = .ok (.if_icmp .ge 65, 3) := by decide +kernel
theorem dX0_journeyCount_25 : decode cX0_journeyCount 25 = .ok (.aload_n 0, 1) := by decide +kernel
theorem dX0_journeyCount_26 : decode cX0_journeyCount 26 = .ok (.getfield 21, 3) := by decide +kernel
theorem dX0_journeyCount_29 : decode cX0_journeyCount 29 = .ok (.iload_n 3, 1) := by decide +kernel
theorem dX0_journeyCount_30 : decode cX0_journeyCount 30 = .ok (.invokevirtual 55, 3) := by decide +kernel
theorem dX0_journeyCount_33 : decode cX0_journeyCount 33 = .ok (.checkcast 89, 3) := by decide +kernel
theorem dX0_journeyCount_36 : decode cX0_journeyCount 36 = .ok (.astore 4, 2) := by decide +kernel
theorem dX0_journeyCount_38 : decode cX0_journeyCount 38 = .ok (.aload_n 2, 1) := by decide +kernel
theorem dX0_journeyCount_39 : decode cX0_journeyCount 39 = .ok (.ifnull 36, 3) := by decide +kernel
theorem dX0_journeyCount_42 : decode cX0_journeyCount 42 = .ok (.aload_n 2, 1) := by decide +kernel
theorem dX0_journeyCount_43 : decode cX0_journeyCount 43 = .ok (.getfield 102, 3) := by decide +kernel
theorem dX0_journeyCount_46 : decode cX0_journeyCount 46 = .ok (.getfield 117, 3) := by decide +kernel
theorem dX0_journeyCount_49 : decode cX0_journeyCount 49 = .ok (.aload 4, 2) := by decide +kernel
theorem dX0_journeyCount_51 : decode cX0_journeyCount 51 = .ok (.getfield 102, 3) := by decide +kernel
theorem dX0_journeyCount_54 : decode cX0_journeyCount 54 = .ok (.getfield 122, 3) := by decide +kernel
theorem dX0_journeyCount_57 : decode cX0_journeyCount 57 = .ok (.if_icmp .ne 18, 3) := by decide +kernel
theorem dX0_journeyCount_60 : decode cX0_journeyCount 60 = .ok (.aload 4, 2) := by decide +kernel
theorem dX0_journeyCount_62 : decode cX0_journeyCount 62 = .ok (.getfield 88, 3) := by decide +kernel
theorem dX0_journeyCount_65 : decode cX0_journeyCount 65 = .ok (.aload_n 2, 1) := by decide +kernel
theorem dX0_journeyCount_66 : decode cX0_journeyCount 66 = .ok (.getfield 88, 3) := by decide +kernel
theorem dX0_journeyCount_69 : decode cX0_journeyCount 69 = .ok (.isub, 1) := by decide +kernel
theorem dX0_journeyCount_70 : decode cX0_journeyCount 70 = .ok (.bipush 120, 2) := by decide +kernel
theorem dX0_journeyCount_72 : decode cX0_journeyCount 72 = .ok (.if_icmp .le 6, 3) := by decide +kernel
theorem dX0_journeyCount_75 : decode cX0_journeyCount 75 = .ok (.iinc 1 1, 3) := by decide +kernel
theorem dX0_journeyCount_78 : decode cX0_journeyCount 78 = .ok (.aload 4, 2) := by decide +kernel
theorem dX0_journeyCount_80 : decode cX0_journeyCount 80 = .ok (.astore_n 2, 1) := by decide +kernel
theorem dX0_journeyCount_81 : decode cX0_journeyCount 81 = .ok (.iinc 3 1, 3) := by decide +kernel
theorem dX0_journeyCount_84 : decode cX0_journeyCount 84 = .ok (.goto (-78), 3) := by decide +kernel
theorem dX0_journeyCount_87 : decode cX0_journeyCount 87 = .ok (.iload_n 1, 1) := by decide +kernel
theorem dX0_journeyCount_88 : decode cX0_journeyCount 88 = .ok (.ireturn, 1) := by decide +kernel
theorem dX0_hasBegun_0 : decode cX0_hasBegun 0 = .ok (.iconst 0, 1) := by decide +kernel
theorem dX0_hasBegun_1 : decode cX0_hasBegun 1 = .ok (.istore_n 3, 1) := by decide +kernel
theorem dX0_hasBegun_2 : decode cX0_hasBegun 2 = .ok (.iload_n 3, 1) := by decide +kernel
theorem dX0_hasBegun_3 : decode cX0_hasBegun 3 = .ok (.aload_n 0, 1) := by decide +kernel
theorem dX0_hasBegun_4 : decode cX0_hasBegun 4 = .ok (.getfield 49, 3) := by decide +kernel
theorem dX0_hasBegun_7 : decode cX0_hasBegun 7 = .ok (.if_icmp .ge 68, 3) := by decide +kernel
theorem dX0_hasBegun_10 : decode cX0_hasBegun 10 = .ok (.iload_n 3, 1) := by decide +kernel
theorem dX0_hasBegun_11 : decode cX0_hasBegun 11 = .ok (.aload_n 0, 1) := by decide +kernel
theorem dX0_hasBegun_12 : decode cX0_hasBegun 12 = .ok (.getfield 21, 3) := by decide +kernel
theorem dX0_hasBegun_15 : decode cX0_hasBegun 15 = .ok (.invokevirtual 27, 3) := by decide +kernel
theorem dX0_hasBegun_18 : decode cX0_hasBegun 18 = .ok (.if_icmp .ge 57, 3) := by decide +kernel
theorem dX0_hasBegun_21 : decode cX0_hasBegun 21 = .ok (.aload_n 0, 1) := by decide +kernel
theorem dX0_hasBegun_22 : decode cX0_hasBegun 22 = .ok (.getfield 21, 3) := by decide +kernel
theorem dX0_hasBegun_25 : decode cX0_hasBegun 25 = .ok (.iload_n 3, 1) := by decide +kernel
theorem dX0_hasBegun_26 : decode cX0_hasBegun 26 = .ok (.invokevirtual 55, 3) := by decide +kernel
theorem dX0_hasBegun_29 : decode cX0_hasBegun 29 = .ok (.checkcast 89, 3) := by decide +kernel
theorem dX0_hasBegun_32 : decode cX0_hasBegun 32 = .ok (.astore 4, 2) := by decide +kernel
theorem dX0_hasBegun_34 : decode cX0_hasBegun 34 = .ok (.aload 4, 2) := by decide +kernel
theorem dX0_hasBegun_36 : decode cX0_hasBegun 36 = .ok (.getfield 102, 3) := by decide +kernel
theorem dX0_hasBegun_39 : decode cX0_hasBegun 39 = .ok (.aload_n 1, 1) := by decide +kernel
theorem dX0_hasBegun_40 : decode cX0_hasBegun 40 = .ok (.if_acmp .ne 29, 3) := by decide +kernel
theorem dX0_hasBegun_43 : decode cX0_hasBegun 43 = .ok (.aload 4, 2) := by decide +kernel
theorem dX0_hasBegun_45 : decode cX0_hasBegun 45 = .ok (.getfield 164, 3) := by decide +kernel
theorem dX0_hasBegun_48 : decode cX0_hasBegun 48 = .ok (.ifCond .le 21, 3) := by decide +kernel
theorem dX0_hasBegun_51 : decode cX0_hasBegun 51 = .ok (.iload_n 2, 1) := by decide +kernel
theorem dX0_hasBegun_52 : decode cX0_hasBegun 52 = .ok (.aload 4, 2) := by decide +kernel
theorem dX0_hasBegun_54 : decode cX0_hasBegun 54 = .ok (.getfield 88, 3) := by decide +kernel
theorem dX0_hasBegun_57 : decode cX0_hasBegun 57 = .ok (.isub, 1) := by decide +kernel
theorem dX0_hasBegun_58 : decode cX0_hasBegun 58 = .ok (.iconst 0, 1) := by decide +kernel
theorem dX0_hasBegun_59 : decode cX0_hasBegun 59 = .ok (.bipush 15, 2) := by decide +kernel
theorem dX0_hasBegun_61 : decode cX0_hasBegun 61 = .ok (.invokestatic 167, 3) := by decide +kernel
theorem dX0_hasBegun_64 : decode cX0_hasBegun 64 = .ok (.ifCond .eq 5, 3) := by decide +kernel
theorem dX0_hasBegun_67 : decode cX0_hasBegun 67 = .ok (.iconst 1, 1) := by decide +kernel
theorem dX0_hasBegun_68 : decode cX0_hasBegun 68 = .ok (.ireturn, 1) := by decide +kernel
theorem dX0_hasBegun_69 : decode cX0_hasBegun 69 = .ok (.iinc 3 1, 3) := by decide +kernel
theorem dX0_hasBegun_72 : decode cX0_hasBegun 72 = .ok (.goto (-70), 3) := by decide +kernel
theorem dX0_hasBegun_75 : decode cX0_hasBegun 75 = .ok (.iconst 0, 1) := by decide +kernel
theorem dX0_hasBegun_76 : decode cX0_hasBegun 76 = .ok (.ireturn, 1) := by decide +kernel
theorem dX0_fact_0 : decode cX0_fact 0 = .ok (.iload_n 1, 1) := by decide +kernel
theorem dX0_fact_1 : decode cX0_fact 1 = .ok (.ifCond .lt 14, 3) := by decide +kernel
theorem dX0_fact_4 : decode cX0_fact 4 = .ok (.iload_n 1, 1) := by decide +kernel
theorem dX0_fact_5 : decode cX0_fact 5 = .ok (.aload_n 0, 1) := by decide +kernel
theorem dX0_fact_6 : decode cX0_fact 6 = .ok (.getfield 21, 3) := by decide +kernel
theorem dX0_fact_9 : decode cX0_fact 9 = .ok (.invokevirtual 27, 3) := by decide +kernel
theorem dX0_fact_12 : decode cX0_fact 12 = .ok (.if_icmp .lt 5, 3) := by decide +kernel
theorem dX0_fact_15 : decode cX0_fact 15 = .ok (.iconst (-1), 1) := by decide +kernel
theorem dX0_fact_16 : decode cX0_fact 16 = .ok (.ireturn, 1) := by decide +kernel
theorem dX0_fact_17 : decode cX0_fact 17 = .ok (.aload_n 0, 1) := by decide +kernel
theorem dX0_fact_18 : decode cX0_fact 18 = .ok (.getfield 21, 3) := by decide +kernel
theorem dX0_fact_21 : decode cX0_fact 21 = .ok (.iload_n 1, 1) := by decide +kernel
theorem dX0_fact_22 : decode cX0_fact 22 = .ok (.invokevirtual 55, 3) := by decide +kernel
theorem dX0_fact_25 : decode cX0_fact 25 = .ok (.checkcast 89, 3) := by decide +kernel
theorem dX0_fact_28 : decode cX0_fact 28 = .ok (.astore_n 3, 1) := by decide +kernel
theorem dX0_fact_29 : decode cX0_fact 29 = .ok (.iload_n 2, 1) := by decide +kernel
theorem dX0_fact_30 : decode cX0_fact 30 = .ok (.tableswitch 53 0 3 #[30, 38, 43, 48], 30) := by decide +kernel
theorem dX0_fact_60 : decode cX0_fact 60 = .ok (.aload_n 3, 1) := by decide +kernel
theorem dX0_fact_61 : decode cX0_fact 61 = .ok (.getfield 102, 3) := by decide +kernel
theorem dX0_fact_64 : decode cX0_fact 64 = .ok (.getfield 171, 3) := by decide +kernel
theorem dX0_fact_67 : decode cX0_fact 67 = .ok (.ireturn, 1) := by decide +kernel
theorem dX0_fact_68 : decode cX0_fact 68 = .ok (.aload_n 3, 1) := by decide +kernel
theorem dX0_fact_69 : decode cX0_fact 69 = .ok (.getfield 88, 3) := by decide +kernel
theorem dX0_fact_72 : decode cX0_fact 72 = .ok (.ireturn, 1) := by decide +kernel
theorem dX0_fact_73 : decode cX0_fact 73 = .ok (.aload_n 3, 1) := by decide +kernel
theorem dX0_fact_74 : decode cX0_fact 74 = .ok (.getfield 164, 3) := by decide +kernel
theorem dX0_fact_77 : decode cX0_fact 77 = .ok (.ireturn, 1) := by decide +kernel
theorem dX0_fact_78 : decode cX0_fact 78 = .ok (.aload_n 3, 1) := by decide +kernel
theorem dX0_fact_79 : decode cX0_fact 79 = .ok (.getfield 144, 3) := by decide +kernel
theorem dX0_fact_82 : decode cX0_fact 82 = .ok (.ireturn, 1) := by decide +kernel
theorem dX0_fact_83 : decode cX0_fact 83 = .ok (.aload_n 3, 1) := by decide +kernel
theorem dX0_fact_84 : decode cX0_fact 84 = .ok (.getfield 151, 3) := by decide +kernel
theorem dX0_fact_87 : decode cX0_fact 87 = .ok (.ireturn, 1) := by decide +kernel
theorem dX1_init_0 : decode cX1_init 0 = .ok (.aload_n 0, 1) := by decide +kernel
theorem dX1_init_1 : decode cX1_init 1 = .ok (.invokespecial 3, 3) := by decide +kernel
theorem dX1_init_4 : decode cX1_init 4 = .ok (.aload_n 0, 1) := by decide +kernel
theorem dX1_init_5 : decode cX1_init 5 = .ok (.iconst 4, 1) := by decide +kernel
theorem dX1_init_6 : decode cX1_init 6 = .ok (.newarray .int, 2) := by decide +kernel
theorem dX1_init_8 : decode cX1_init 8 = .ok (.putfield 9, 3) := by decide +kernel
theorem dX1_init_11 : decode cX1_init 11 = .ok (.aload_n 0, 1) := by decide +kernel
theorem dX1_init_12 : decode cX1_init 12 = .ok (.bipush 41, 2) := by decide +kernel
theorem dX1_init_14 : decode cX1_init 14 = .ok (.newarray .int, 2) := by decide +kernel
theorem dX1_init_16 : decode cX1_init 16 = .ok (.putfield 15, 3) := by decide +kernel
theorem dX1_init_19 : decode cX1_init 19 = .ok (.aload_n 0, 1) := by decide +kernel
theorem dX1_init_20 : decode cX1_init 20 = .ok (.sipush 1312, 3) := by decide +kernel
theorem dX1_init_23 : decode cX1_init 23 = .ok (.newarray .int, 2) := by decide +kernel
theorem dX1_init_25 : decode cX1_init 25 = .ok (.putfield 18, 3) := by decide +kernel
theorem dX1_init_28 : decode cX1_init 28 = .ok (.return_, 1) := by decide +kernel
theorem dX1_coinsOf_0 : decode cX1_coinsOf 0 = .ok (.iload_n 1, 1) := by decide +kernel
theorem dX1_coinsOf_1 : decode cX1_coinsOf 1 = .ok (.ifCond .lt 21, 3) := by decide +kernel
theorem dX1_coinsOf_4 : decode cX1_coinsOf 4 = .ok (.iload_n 1, 1) := by decide +kernel
theorem dX1_coinsOf_5 : decode cX1_coinsOf 5 = .ok (.aload_n 0, 1) := by decide +kernel
theorem dX1_coinsOf_6 : decode cX1_coinsOf 6 = .ok (.getfield 9, 3) := by decide +kernel
theorem dX1_coinsOf_9 : decode cX1_coinsOf 9 = .ok (.arraylength, 1) := by decide +kernel
theorem dX1_coinsOf_10 : decode cX1_coinsOf 10 = .ok (.if_icmp .ge 12, 3) := by decide +kernel
theorem dX1_coinsOf_13 : decode cX1_coinsOf 13 = .ok (.aload_n 0, 1) := by decide +kernel
theorem dX1_coinsOf_14 : decode cX1_coinsOf 14 = .ok (.getfield 9, 3) := by decide +kernel
theorem dX1_coinsOf_17 : decode cX1_coinsOf 17 = .ok (.iload_n 1, 1) := by decide +kernel
theorem dX1_coinsOf_18 : decode cX1_coinsOf 18 = .ok (.iaload, 1) := by decide +kernel
theorem dX1_coinsOf_19 : decode cX1_coinsOf 19 = .ok (.goto 4, 3) := by decide +kernel
theorem dX1_coinsOf_22 : decode cX1_coinsOf 22 = .ok (.iconst 0, 1) := by decide +kernel
theorem dX1_coinsOf_23 : decode cX1_coinsOf 23 = .ok (.ireturn, 1) := by decide +kernel
theorem dX1_keepCap_0 : decode cX1_keepCap 0 = .ok (.iload_n 1, 1) := by decide +kernel
theorem dX1_keepCap_1 : decode cX1_keepCap 1 = .ok (.ifCond .lt 19, 3) := by decide +kernel
theorem dX1_keepCap_4 : decode cX1_keepCap 4 = .ok (.iload_n 1, 1) := by decide +kernel
theorem dX1_keepCap_5 : decode cX1_keepCap 5 = .ok (.aload_n 0, 1) := by decide +kernel
theorem dX1_keepCap_6 : decode cX1_keepCap 6 = .ok (.getfield 15, 3) := by decide +kernel
theorem dX1_keepCap_9 : decode cX1_keepCap 9 = .ok (.arraylength, 1) := by decide +kernel
theorem dX1_keepCap_10 : decode cX1_keepCap 10 = .ok (.if_icmp .ge 10, 3) := by decide +kernel
theorem dX1_keepCap_13 : decode cX1_keepCap 13 = .ok (.aload_n 0, 1) := by decide +kernel
theorem dX1_keepCap_14 : decode cX1_keepCap 14 = .ok (.getfield 15, 3) := by decide +kernel
theorem dX1_keepCap_17 : decode cX1_keepCap 17 = .ok (.iload_n 1, 1) := by decide +kernel
theorem dX1_keepCap_18 : decode cX1_keepCap 18 = .ok (.iload_n 2, 1) := by decide +kernel
theorem dX1_keepCap_19 : decode cX1_keepCap 19 = .ok (.iastore, 1) := by decide +kernel
theorem dX1_keepCap_20 : decode cX1_keepCap 20 = .ok (.return_, 1) := by decide +kernel
theorem dX1_capOfClosing_0 : decode cX1_capOfClosing 0 = .ok (.iload_n 1, 1) := by decide +kernel
theorem dX1_capOfClosing_1 : decode cX1_capOfClosing 1 = .ok (.ifCond .lt 21, 3) := by decide +kernel
theorem dX1_capOfClosing_4 : decode cX1_capOfClosing 4 = .ok (.iload_n 1, 1) := by decide +kernel
theorem dX1_capOfClosing_5 : decode cX1_capOfClosing 5 = .ok (.aload_n 0, 1) := by decide +kernel
theorem dX1_capOfClosing_6 : decode cX1_capOfClosing 6 = .ok (.getfield 15, 3) := by decide +kernel
theorem dX1_capOfClosing_9 : decode cX1_capOfClosing 9 = .ok (.arraylength, 1) := by decide +kernel
theorem dX1_capOfClosing_10 : decode cX1_capOfClosing 10 = .ok (.if_icmp .ge 12, 3) := by decide +kernel
theorem dX1_capOfClosing_13 : decode cX1_capOfClosing 13 = .ok (.aload_n 0, 1) := by decide +kernel
theorem dX1_capOfClosing_14 : decode cX1_capOfClosing 14 = .ok (.getfield 15, 3) := by decide +kernel
theorem dX1_capOfClosing_17 : decode cX1_capOfClosing 17 = .ok (.iload_n 1, 1) := by decide +kernel
theorem dX1_capOfClosing_18 : decode cX1_capOfClosing 18 = .ok (.iaload, 1) := by decide +kernel
theorem dX1_capOfClosing_19 : decode cX1_capOfClosing 19 = .ok (.goto 4, 3) := by decide +kernel
theorem dX1_capOfClosing_22 : decode cX1_capOfClosing 22 = .ok (.iconst 0, 1) := by decide +kernel
theorem dX1_capOfClosing_23 : decode cX1_capOfClosing 23 = .ok (.ireturn, 1) := by decide +kernel
theorem dX1_receive_0 : decode cX1_receive 0 = .ok (.iload_n 1, 1) := by decide +kernel
theorem dX1_receive_1 : decode cX1_receive 1 = .ok (.iload_n 2, 1) := by decide +kernel
theorem dX1_receive_2 : decode cX1_receive 2 = .ok (.iload_n 3, 1) := by decide +kernel
theorem dX1_receive_3 : decode cX1_receive 3 = .ok (.invokestatic 21, 3) := by decide +kernel
theorem dX1_receive_6 : decode cX1_receive 6 = .ok (.istore 5, 2) := by decide +kernel
theorem dX1_receive_8 : decode cX1_receive 8 = .ok (.iload 5, 2) := by decide +kernel
theorem dX1_receive_10 : decode cX1_receive 10 = .ok (.ifCond .lt 41, 3) := by decide +kernel
theorem dX1_receive_13 : decode cX1_receive 13 = .ok (.iload 5, 2) := by decide +kernel
theorem dX1_receive_15 : decode cX1_receive 15 = .ok (.aload_n 0, 1) := by decide +kernel
theorem dX1_receive_16 : decode cX1_receive 16 = .ok (.getfield 18, 3) := by decide +kernel
theorem dX1_receive_19 : decode cX1_receive 19 = .ok (.arraylength, 1) := by decide +kernel
theorem dX1_receive_20 : decode cX1_receive 20 = .ok (.if_icmp .ge 31, 3) := by decide +kernel
theorem dX1_receive_23 : decode cX1_receive 23 = .ok (.aload_n 0, 1) := by decide +kernel
theorem dX1_receive_24 : decode cX1_receive 24 = .ok (.getfield 18, 3) := by decide +kernel
theorem dX1_receive_27 : decode cX1_receive 27 = .ok (.iload 5, 2) := by decide +kernel
theorem dX1_receive_29 : decode cX1_receive 29 = .ok (.iload 4, 2) := by decide +kernel
theorem dX1_receive_31 : decode cX1_receive 31 = .ok (.iastore, 1) := by decide +kernel
theorem dX1_receive_32 : decode cX1_receive 32 = .ok (.aload_n 0, 1) := by decide +kernel
theorem dX1_receive_33 : decode cX1_receive 33 = .ok (.dup, 1) := by decide +kernel
theorem dX1_receive_34 : decode cX1_receive 34 = .ok (.getfield 25, 3) := by decide +kernel
theorem dX1_receive_37 : decode cX1_receive 37 = .ok (.iload 4, 2) := by decide +kernel
theorem dX1_receive_39 : decode cX1_receive 39 = .ok (.iadd, 1) := by decide +kernel
theorem dX1_receive_40 : decode cX1_receive 40 = .ok (.putfield 25, 3) := by decide +kernel
theorem dX1_receive_43 : decode cX1_receive 43 = .ok (.aload_n 0, 1) := by decide +kernel
theorem dX1_receive_44 : decode cX1_receive 44 = .ok (.iload_n 3, 1) := by decide +kernel
theorem dX1_receive_45 : decode cX1_receive 45 = .ok (.iload 4, 2) := by decide +kernel
theorem dX1_receive_47 : decode cX1_receive 47 = .ok (.iconst 1, 1) := by decide +kernel
theorem dX1_receive_48 : decode cX1_receive 48 = .ok (.invokevirtual 29, 3) := by decide +kernel
theorem dX1_receive_51 : decode cX1_receive 51 = .ok (.return_, 1) := by decide +kernel
theorem dX1_giveBack_0 : decode cX1_giveBack 0 = .ok (.iload_n 1, 1) := by decide +kernel
theorem dX1_giveBack_1 : decode cX1_giveBack 1 = .ok (.iload_n 2, 1) := by decide +kernel
theorem dX1_giveBack_2 : decode cX1_giveBack 2 = .ok (.iload_n 3, 1) := by decide +kernel
theorem dX1_giveBack_3 : decode cX1_giveBack 3 = .ok (.invokestatic 21, 3) := by decide +kernel
theorem dX1_giveBack_6 : decode cX1_giveBack 6 = .ok (.istore 5, 2) := by decide +kernel
theorem dX1_giveBack_8 : decode cX1_giveBack 8 = .ok (.iload 5, 2) := by decide +kernel
theorem dX1_giveBack_10 : decode cX1_giveBack 10 = .ok (.ifCond .lt 25, 3) := by decide +kernel
theorem dX1_giveBack_13 : decode cX1_giveBack 13 = .ok (.iload 5, 2) := by decide +kernel
theorem dX1_giveBack_15 : decode cX1_giveBack 15 = .ok (.aload_n 0, 1) := by decide +kernel
theorem dX1_giveBack_16 : decode cX1_giveBack 16 = .ok (.getfield 18, 3) := by decide +kernel
theorem dX1_giveBack_19 : decode cX1_giveBack 19 = .ok (.arraylength, 1) := by decide +kernel
theorem dX1_giveBack_20 : decode cX1_giveBack 20 = .ok (.if_icmp .ge 15, 3) := by decide +kernel
theorem dX1_giveBack_23 : decode cX1_giveBack 23 = .ok (.iload 4, 2) := by decide +kernel
theorem dX1_giveBack_25 : decode cX1_giveBack 25 = .ok (.aload_n 0, 1) := by decide +kernel
theorem dX1_giveBack_26 : decode cX1_giveBack 26 = .ok (.getfield 18, 3) := by decide +kernel
theorem dX1_giveBack_29 : decode cX1_giveBack 29 = .ok (.iload 5, 2) := by decide +kernel
theorem dX1_giveBack_31 : decode cX1_giveBack 31 = .ok (.iaload, 1) := by decide +kernel
theorem dX1_giveBack_32 : decode cX1_giveBack 32 = .ok (.if_icmp .lt 5, 3) := by decide +kernel
theorem dX1_giveBack_35 : decode cX1_giveBack 35 = .ok (.iconst 0, 1) := by decide +kernel
theorem dX1_giveBack_36 : decode cX1_giveBack 36 = .ok (.ireturn, 1) := by decide +kernel
theorem dX1_giveBack_37 : decode cX1_giveBack 37 = .ok (.aload_n 0, 1) := by decide +kernel
theorem dX1_giveBack_38 : decode cX1_giveBack 38 = .ok (.getfield 18, 3) := by decide +kernel
theorem dX1_giveBack_41 : decode cX1_giveBack 41 = .ok (.iload 5, 2) := by decide +kernel
theorem dX1_giveBack_43 : decode cX1_giveBack 43 = .ok (.iaload, 1) := by decide +kernel
theorem dX1_giveBack_44 : decode cX1_giveBack 44 = .ok (.iload 4, 2) := by decide +kernel
theorem dX1_giveBack_46 : decode cX1_giveBack 46 = .ok (.isub, 1) := by decide +kernel
theorem dX1_giveBack_47 : decode cX1_giveBack 47 = .ok (.istore 6, 2) := by decide +kernel
theorem dX1_giveBack_49 : decode cX1_giveBack 49 = .ok (.aload_n 0, 1) := by decide +kernel
theorem dX1_giveBack_50 : decode cX1_giveBack 50 = .ok (.iload_n 3, 1) := by decide +kernel
theorem dX1_giveBack_51 : decode cX1_giveBack 51 = .ok (.aload_n 0, 1) := by decide +kernel
theorem dX1_giveBack_52 : decode cX1_giveBack 52 = .ok (.getfield 18, 3) := by decide +kernel
theorem dX1_giveBack_55 : decode cX1_giveBack 55 = .ok (.iload 5, 2) := by decide +kernel
theorem dX1_giveBack_57 : decode cX1_giveBack 57 = .ok (.iaload, 1) := by decide +kernel
theorem dX1_giveBack_58 : decode cX1_giveBack 58 = .ok (.iconst (-1), 1) := by decide +kernel
theorem dX1_giveBack_59 : decode cX1_giveBack 59 = .ok (.invokevirtual 29, 3) := by decide +kernel
theorem dX1_giveBack_62 : decode cX1_giveBack 62 = .ok (.aload_n 0, 1) := by decide +kernel
theorem dX1_giveBack_63 : decode cX1_giveBack 63 = .ok (.iload_n 3, 1) := by decide +kernel
theorem dX1_giveBack_64 : decode cX1_giveBack 64 = .ok (.iload 4, 2) := by decide +kernel
theorem dX1_giveBack_66 : decode cX1_giveBack 66 = .ok (.iconst 1, 1) := by decide +kernel
theorem dX1_giveBack_67 : decode cX1_giveBack 67 = .ok (.invokevirtual 29, 3) := by decide +kernel
theorem dX1_giveBack_70 : decode cX1_giveBack 70 = .ok (.aload_n 0, 1) := by decide +kernel
theorem dX1_giveBack_71 : decode cX1_giveBack 71 = .ok (.getfield 18, 3) := by decide +kernel
theorem dX1_giveBack_74 : decode cX1_giveBack 74 = .ok (.iload 5, 2) := by decide +kernel
theorem dX1_giveBack_76 : decode cX1_giveBack 76 = .ok (.iload 4, 2) := by decide +kernel
theorem dX1_giveBack_78 : decode cX1_giveBack 78 = .ok (.iastore, 1) := by decide +kernel
theorem dX1_giveBack_79 : decode cX1_giveBack 79 = .ok (.aload_n 0, 1) := by decide +kernel
theorem dX1_giveBack_80 : decode cX1_giveBack 80 = .ok (.dup, 1) := by decide +kernel
theorem dX1_giveBack_81 : decode cX1_giveBack 81 = .ok (.getfield 33, 3) := by decide +kernel
theorem dX1_giveBack_84 : decode cX1_giveBack 84 = .ok (.iload 6, 2) := by decide +kernel
theorem dX1_giveBack_86 : decode cX1_giveBack 86 = .ok (.iadd, 1) := by decide +kernel
theorem dX1_giveBack_87 : decode cX1_giveBack 87 = .ok (.putfield 33, 3) := by decide +kernel
theorem dX1_giveBack_90 : decode cX1_giveBack 90 = .ok (.iload 6, 2) := by decide +kernel
theorem dX1_giveBack_92 : decode cX1_giveBack 92 = .ok (.ireturn, 1) := by decide +kernel
theorem dX1_placeOf_0 : decode cX1_placeOf 0 = .ok (.iload_n 0, 1) := by decide +kernel
theorem dX1_placeOf_1 : decode cX1_placeOf 1 = .ok (.bipush 8, 2) := by decide +kernel
theorem dX1_placeOf_3 : decode cX1_placeOf 3 = .ok (.imul, 1) := by decide +kernel
theorem dX1_placeOf_4 : decode cX1_placeOf 4 = .ok (.iload_n 1, 1) := by decide +kernel
theorem dX1_placeOf_5 : decode cX1_placeOf 5 = .ok (.iadd, 1) := by decide +kernel
theorem dX1_placeOf_6 : decode cX1_placeOf 6 = .ok (.iconst 4, 1) := by decide +kernel
theorem dX1_placeOf_7 : decode cX1_placeOf 7 = .ok (.imul, 1) := by decide +kernel
theorem dX1_placeOf_8 : decode cX1_placeOf 8 = .ok (.iload_n 2, 1) := by decide +kernel
theorem dX1_placeOf_9 : decode cX1_placeOf 9 = .ok (.iadd, 1) := by decide +kernel
theorem dX1_placeOf_10 : decode cX1_placeOf 10 = .ok (.ireturn, 1) := by decide +kernel
theorem dX1_share_0 : decode cX1_share 0 = .ok (.iload_n 2, 1) := by decide +kernel
theorem dX1_share_1 : decode cX1_share 1 = .ok (.bipush 20, 2) := by decide +kernel
theorem dX1_share_3 : decode cX1_share 3 = .ok (.idiv, 1) := by decide +kernel
theorem dX1_share_4 : decode cX1_share 4 = .ok (.istore 4, 2) := by decide +kernel
theorem dX1_share_6 : decode cX1_share 6 = .ok (.aload_n 0, 1) := by decide +kernel
theorem dX1_share_7 : decode cX1_share 7 = .ok (.dup, 1) := by decide +kernel
theorem dX1_share_8 : decode cX1_share 8 = .ok (.getfield 36, 3) := by decide +kernel
theorem dX1_share_11 : decode cX1_share 11 = .ok (.iload_n 3, 1) := by decide +kernel
theorem dX1_share_12 : decode cX1_share 12 = .ok (.iload 4, 2) := by decide +kernel
theorem dX1_share_14 : decode cX1_share 14 = .ok (.imul, 1) := by decide +kernel
theorem dX1_share_15 : decode cX1_share 15 = .ok (.iadd, 1) := by decide +kernel
theorem dX1_share_16 : decode cX1_share 16 = .ok (.putfield 36, 3) := by decide +kernel
theorem dX1_share_19 : decode cX1_share 19 = .ok (.iload_n 1, 1) := by decide +kernel
theorem dX1_share_20 : decode cX1_share 20 = .ok (.ifCond .lt 27, 3) := by decide +kernel
theorem dX1_share_23 : decode cX1_share 23 = .ok (.iload_n 1, 1) := by decide +kernel
theorem dX1_share_24 : decode cX1_share 24 = .ok (.aload_n 0, 1) := by decide +kernel
theorem dX1_share_25 : decode cX1_share 25 = .ok (.getfield 9, 3) := by decide +kernel
theorem dX1_share_28 : decode cX1_share 28 = .ok (.arraylength, 1) := by decide +kernel
theorem dX1_share_29 : decode cX1_share 29 = .ok (.if_icmp .ge 18, 3) := by decide +kernel
theorem dX1_share_32 : decode cX1_share 32 = .ok (.aload_n 0, 1) := by decide +kernel
theorem dX1_share_33 : decode cX1_share 33 = .ok (.getfield 9, 3) := by decide +kernel
theorem dX1_share_36 : decode cX1_share 36 = .ok (.iload_n 1, 1) := by decide +kernel
theorem dX1_share_37 : decode cX1_share 37 = .ok (.dup2, 1) := by decide +kernel
theorem dX1_share_38 : decode cX1_share 38 = .ok (.iaload, 1) := by decide +kernel
theorem dX1_share_39 : decode cX1_share 39 = .ok (.iload_n 3, 1) := by decide +kernel
theorem dX1_share_40 : decode cX1_share 40 = .ok (.iload_n 2, 1) := by decide +kernel
theorem dX1_share_41 : decode cX1_share 41 = .ok (.iload 4, 2) := by decide +kernel
theorem dX1_share_43 : decode cX1_share 43 = .ok (.isub, 1) := by decide +kernel
theorem dX1_share_44 : decode cX1_share 44 = .ok (.imul, 1) := by decide +kernel
theorem dX1_share_45 : decode cX1_share 45 = .ok (.iadd, 1) := by decide +kernel
theorem dX1_share_46 : decode cX1_share 46 = .ok (.iastore, 1) := by decide +kernel
theorem dX1_share_47 : decode cX1_share 47 = .ok (.return_, 1) := by decide +kernel
theorem dX2_init_0 : decode cX2_init 0 = .ok (.aload_n 0, 1) := by decide +kernel
theorem dX2_init_1 : decode cX2_init 1 = .ok (.invokespecial 3, 3) := by decide +kernel
theorem dX2_init_4 : decode cX2_init 4 = .ok (.aload_n 0, 1) := by decide +kernel
theorem dX2_init_5 : decode cX2_init 5 = .ok (.aload_n 1, 1) := by decide +kernel
theorem dX2_init_6 : decode cX2_init 6 = .ok (.putfield 9, 3) := by decide +kernel
theorem dX2_init_9 : decode cX2_init 9 = .ok (.aload_n 0, 1) := by decide +kernel
theorem dX2_init_10 : decode cX2_init 10 = .ok (.iload_n 2, 1) := by decide +kernel
theorem dX2_init_11 : decode cX2_init 11 = .ok (.putfield 15, 3) := by decide +kernel
theorem dX2_init_14 : decode cX2_init 14 = .ok (.return_, 1) := by decide +kernel
theorem dX2_restart_0 : decode cX2_restart 0 = .ok (.aload_n 0, 1) := by decide +kernel
theorem dX2_restart_1 : decode cX2_restart 1 = .ok (.aload_n 1, 1) := by decide +kernel
theorem dX2_restart_2 : decode cX2_restart 2 = .ok (.putfield 9, 3) := by decide +kernel
theorem dX2_restart_5 : decode cX2_restart 5 = .ok (.aload_n 0, 1) := by decide +kernel
theorem dX2_restart_6 : decode cX2_restart 6 = .ok (.iload_n 2, 1) := by decide +kernel
theorem dX2_restart_7 : decode cX2_restart 7 = .ok (.putfield 15, 3) := by decide +kernel
theorem dX2_restart_10 : decode cX2_restart 10 = .ok (.aload_n 0, 1) := by decide +kernel
theorem dX2_restart_11 : decode cX2_restart 11 = .ok (.iconst 0, 1) := by decide +kernel
theorem dX2_restart_12 : decode cX2_restart 12 = .ok (.putfield 19, 3) := by decide +kernel
theorem dX2_restart_15 : decode cX2_restart 15 = .ok (.aload_n 0, 1) := by decide +kernel
theorem dX2_restart_16 : decode cX2_restart 16 = .ok (.iconst 0, 1) := by decide +kernel
theorem dX2_restart_17 : decode cX2_restart 17 = .ok (.putfield 22, 3) := by decide +kernel
theorem dX2_restart_20 : decode cX2_restart 20 = .ok (.aload_n 0, 1) := by decide +kernel
theorem dX2_restart_21 : decode cX2_restart 21 = .ok (.iconst 0, 1) := by decide +kernel
theorem dX2_restart_22 : decode cX2_restart 22 = .ok (.putfield 26, 3) := by decide +kernel
theorem dX2_restart_25 : decode cX2_restart 25 = .ok (.aload_n 0, 1) := by decide +kernel
theorem dX2_restart_26 : decode cX2_restart 26 = .ok (.iconst 0, 1) := by decide +kernel
theorem dX2_restart_27 : decode cX2_restart 27 = .ok (.putfield 29, 3) := by decide +kernel
theorem dX2_restart_30 : decode cX2_restart 30 = .ok (.return_, 1) := by decide +kernel
theorem dX2_join_0 : decode cX2_join 0 = .ok (.aload_n 0, 1) := by decide +kernel
theorem dX2_join_1 : decode cX2_join 1 = .ok (.dup, 1) := by decide +kernel
theorem dX2_join_2 : decode cX2_join 2 = .ok (.getfield 19, 3) := by decide +kernel
theorem dX2_join_5 : decode cX2_join 5 = .ok (.iconst 1, 1) := by decide +kernel
theorem dX2_join_6 : decode cX2_join 6 = .ok (.iadd, 1) := by decide +kernel
theorem dX2_join_7 : decode cX2_join 7 = .ok (.putfield 19, 3) := by decide +kernel
theorem dX2_join_10 : decode cX2_join 10 = .ok (.aload_n 0, 1) := by decide +kernel
theorem dX2_join_11 : decode cX2_join 11 = .ok (.aload_n 0, 1) := by decide +kernel
theorem dX2_join_12 : decode cX2_join 12 = .ok (.getfield 19, 3) := by decide +kernel
theorem dX2_join_15 : decode cX2_join 15 = .ok (.iconst 1, 1) := by decide +kernel
theorem dX2_join_16 : decode cX2_join 16 = .ok (.if_icmp .ne 15, 3) := by decide +kernel
theorem dX2_join_19 : decode cX2_join 19 = .ok (.aload_n 1, 1) := by decide +kernel
theorem dX2_join_20 : decode cX2_join 20 = .ok (.getfield 32, 3) := by decide +kernel
theorem dX2_join_23 : decode cX2_join 23 = .ok (.iconst 2, 1) := by decide +kernel
theorem dX2_join_24 : decode cX2_join 24 = .ok (.if_icmp .ne 7, 3) := by decide +kernel
theorem dX2_join_27 : decode cX2_join 27 = .ok (.iconst 1, 1) := by decide +kernel
theorem dX2_join_28 : decode cX2_join 28 = .ok (.goto 4, 3) := by decide +kernel
theorem dX2_join_31 : decode cX2_join 31 = .ok (.iconst 0, 1) := by decide +kernel
theorem dX2_join_32 : decode cX2_join 32 = .ok (.putfield 22, 3) := by decide +kernel
theorem dX2_join_35 : decode cX2_join 35 = .ok (.return_, 1) := by decide +kernel
theorem dX3_init_0 : decode cX3_init 0 = .ok (.aload_n 0, 1) := by decide +kernel
theorem dX3_init_1 : decode cX3_init 1 = .ok (.invokespecial 3, 3) := by decide +kernel
theorem dX3_init_4 : decode cX3_init 4 = .ok (.aload_n 0, 1) := by decide +kernel
theorem dX3_init_5 : decode cX3_init 5 = .ok (.bipush 8, 2) := by decide +kernel
theorem dX3_init_7 : decode cX3_init 7 = .ok (.newarray .int, 2) := by decide +kernel
theorem dX3_init_9 : decode cX3_init 9 = .ok (.putfield 9, 3) := by decide +kernel
theorem dX3_init_12 : decode cX3_init 12 = .ok (.aload_n 0, 1) := by decide +kernel
theorem dX3_init_13 : decode cX3_init 13 = .ok (.bipush 8, 2) := by decide +kernel
theorem dX3_init_15 : decode cX3_init 15 = .ok (.newarray .int, 2) := by decide +kernel
theorem dX3_init_17 : decode cX3_init 17 = .ok (.putfield 15, 3) := by decide +kernel
theorem dX3_init_20 : decode cX3_init 20 = .ok (.aload_n 0, 1) := by decide +kernel
theorem dX3_init_21 : decode cX3_init 21 = .ok (.iload_n 1, 1) := by decide +kernel
theorem dX3_init_22 : decode cX3_init 22 = .ok (.putfield 18, 3) := by decide +kernel
theorem dX3_init_25 : decode cX3_init 25 = .ok (.aload_n 0, 1) := by decide +kernel
theorem dX3_init_26 : decode cX3_init 26 = .ok (.iload_n 2, 1) := by decide +kernel
theorem dX3_init_27 : decode cX3_init 27 = .ok (.putfield 22, 3) := by decide +kernel
theorem dX3_init_30 : decode cX3_init 30 = .ok (.aload_n 0, 1) := by decide +kernel
theorem dX3_init_31 : decode cX3_init 31 = .ok (.iload_n 3, 1) := by decide +kernel
theorem dX3_init_32 : decode cX3_init 32 = .ok (.putfield 25, 3) := by decide +kernel
theorem dX3_init_35 : decode cX3_init 35 = .ok (.aload_n 0, 1) := by decide +kernel
theorem dX3_init_36 : decode cX3_init 36 = .ok (.iload 4, 2) := by decide +kernel
theorem dX3_init_38 : decode cX3_init 38 = .ok (.putfield 28, 3) := by decide +kernel
theorem dX3_init_41 : decode cX3_init 41 = .ok (.aload_n 0, 1) := by decide +kernel
theorem dX3_init_42 : decode cX3_init 42 = .ok (.iload 5, 2) := by decide +kernel
theorem dX3_init_44 : decode cX3_init 44 = .ok (.putfield 31, 3) := by decide +kernel
theorem dX3_init_47 : decode cX3_init 47 = .ok (.return_, 1) := by decide +kernel
theorem dX3_isShut_0 : decode cX3_isShut 0 = .ok (.iconst 0, 1) := by decide +kernel
theorem dX3_isShut_1 : decode cX3_isShut 1 = .ok (.istore_n 2, 1) := by decide +kernel
theorem dX3_isShut_2 : decode cX3_isShut 2 = .ok (.iload_n 2, 1) := by decide +kernel
theorem dX3_isShut_3 : decode cX3_isShut 3 = .ok (.aload_n 0, 1) := by decide +kernel
theorem dX3_isShut_4 : decode cX3_isShut 4 = .ok (.getfield 34, 3) := by decide +kernel
theorem dX3_isShut_7 : decode cX3_isShut 7 = .ok (.if_icmp .ge 49, 3) := by decide +kernel
theorem dX3_isShut_10 : decode cX3_isShut 10 = .ok (.iload_n 2, 1) := by decide +kernel
theorem dX3_isShut_11 : decode cX3_isShut 11 = .ok (.aload_n 0, 1) := by decide +kernel
theorem dX3_isShut_12 : decode cX3_isShut 12 = .ok (.getfield 9, 3) := by decide +kernel
theorem dX3_isShut_15 : decode cX3_isShut 15 = .ok (.arraylength, 1) := by decide +kernel
theorem dX3_isShut_16 : decode cX3_isShut 16 = .ok (.if_icmp .ge 40, 3) := by decide +kernel
theorem dX3_isShut_19 : decode cX3_isShut 19 = .ok (.iload_n 2, 1) := by decide +kernel
theorem dX3_isShut_20 : decode cX3_isShut 20 = .ok (.aload_n 0, 1) := by decide +kernel
theorem dX3_isShut_21 : decode cX3_isShut 21 = .ok (.getfield 15, 3) := by decide +kernel
theorem dX3_isShut_24 : decode cX3_isShut 24 = .ok (.arraylength, 1) := by decide +kernel
theorem dX3_isShut_25 : decode cX3_isShut 25 = .ok (.if_icmp .ge 31, 3) := by decide +kernel
theorem dX3_isShut_28 : decode cX3_isShut 28 = .ok (.iload_n 1, 1) := by decide +kernel
theorem dX3_isShut_29 : decode cX3_isShut 29 = .ok (.aload_n 0, 1) := by decide +kernel
theorem dX3_isShut_30 : decode cX3_isShut 30 = .ok (.getfield 9, 3) := by decide +kernel
theorem dX3_isShut_33 : decode cX3_isShut 33 = .ok (.iload_n 2, 1) := by decide +kernel
theorem dX3_isShut_34 : decode cX3_isShut 34 = .ok (.iaload, 1) := by decide +kernel
theorem dX3_isShut_35 : decode cX3_isShut 35 = .ok (.if_icmp .lt 15, 3) := by decide +kernel
theorem dX3_isShut_38 : decode cX3_isShut 38 = .ok (.iload_n 1, 1) := by decide +kernel
theorem dX3_isShut_39 : decode cX3_isShut 39 = .ok (.aload_n 0, 1) := by decide +kernel
theorem dX3_isShut_40 : decode cX3_isShut 40 = .ok (.getfield 15, 3) := by decide +kernel
theorem dX3_isShut_43 : decode cX3_isShut 43 = .ok (.iload_n 2, 1) := by decide +kernel
theorem dX3_isShut_44 : decode cX3_isShut 44 = .ok (.iaload, 1) := by decide +kernel
theorem dX3_isShut_45 : decode cX3_isShut 45 = .ok (.if_icmp .gt 5, 3) := by decide +kernel
theorem dX3_isShut_48 : decode cX3_isShut 48 = .ok (.iconst 1, 1) := by decide +kernel
theorem dX3_isShut_49 : decode cX3_isShut 49 = .ok (.ireturn, 1) := by decide +kernel
theorem dX3_isShut_50 : decode cX3_isShut 50 = .ok (.iinc 2 1, 3) := by decide +kernel
theorem dX3_isShut_53 : decode cX3_isShut 53 = .ok (.goto (-51), 3) := by decide +kernel
theorem dX3_isShut_56 : decode cX3_isShut 56 = .ok (.iconst 0, 1) := by decide +kernel
theorem dX3_isShut_57 : decode cX3_isShut 57 = .ok (.ireturn, 1) := by decide +kernel
theorem dX4_init_0 : decode cX4_init 0 = .ok (.aload_n 0, 1) := by decide +kernel
theorem dX4_init_1 : decode cX4_init 1 = .ok (.invokespecial 3, 3) := by decide +kernel
theorem dX4_init_4 : decode cX4_init 4 = .ok (.aload_n 0, 1) := by decide +kernel
theorem dX4_init_5 : decode cX4_init 5 = .ok (.aload_n 1, 1) := by decide +kernel
theorem dX4_init_6 : decode cX4_init 6 = .ok (.putfield 9, 3) := by decide +kernel
theorem dX4_init_9 : decode cX4_init 9 = .ok (.aload_n 0, 1) := by decide +kernel
theorem dX4_init_10 : decode cX4_init 10 = .ok (.aload_n 2, 1) := by decide +kernel
theorem dX4_init_11 : decode cX4_init 11 = .ok (.putfield 15, 3) := by decide +kernel
theorem dX4_init_14 : decode cX4_init 14 = .ok (.aload_n 0, 1) := by decide +kernel
theorem dX4_init_15 : decode cX4_init 15 = .ok (.iload_n 3, 1) := by decide +kernel
theorem dX4_init_16 : decode cX4_init 16 = .ok (.putfield 19, 3) := by decide +kernel
theorem dX4_init_19 : decode cX4_init 19 = .ok (.aload_n 0, 1) := by decide +kernel
theorem dX4_init_20 : decode cX4_init 20 = .ok (.iload 4, 2) := by decide +kernel
theorem dX4_init_22 : decode cX4_init 22 = .ok (.putfield 23, 3) := by decide +kernel
theorem dX4_init_25 : decode cX4_init 25 = .ok (.return_, 1) := by decide +kernel
theorem dX4_isOf_0 : decode cX4_isOf 0 = .ok (.aload_n 0, 1) := by decide +kernel
theorem dX4_isOf_1 : decode cX4_isOf 1 = .ok (.getfield 9, 3) := by decide +kernel
theorem dX4_isOf_4 : decode cX4_isOf 4 = .ok (.aload_n 1, 1) := by decide +kernel
theorem dX4_isOf_5 : decode cX4_isOf 5 = .ok (.if_acmp .ne 26, 3) := by decide +kernel
theorem dX4_isOf_8 : decode cX4_isOf 8 = .ok (.aload_n 0, 1) := by decide +kernel
theorem dX4_isOf_9 : decode cX4_isOf 9 = .ok (.getfield 19, 3) := by decide +kernel
theorem dX4_isOf_12 : decode cX4_isOf 12 = .ok (.sipush 1440, 3) := by decide +kernel
theorem dX4_isOf_15 : decode cX4_isOf 15 = .ok (.idiv, 1) := by decide +kernel
theorem dX4_isOf_16 : decode cX4_isOf 16 = .ok (.iload_n 2, 1) := by decide +kernel
theorem dX4_isOf_17 : decode cX4_isOf 17 = .ok (.if_icmp .ne 14, 3) := by decide +kernel
theorem dX4_isOf_20 : decode cX4_isOf 20 = .ok (.aload_n 0, 1) := by decide +kernel
theorem dX4_isOf_21 : decode cX4_isOf 21 = .ok (.getfield 26, 3) := by decide +kernel
theorem dX4_isOf_24 : decode cX4_isOf 24 = .ok (.ifCond .ne 7, 3) := by decide +kernel
theorem dX4_isOf_27 : decode cX4_isOf 27 = .ok (.iconst 1, 1) := by decide +kernel
theorem dX4_isOf_28 : decode cX4_isOf 28 = .ok (.goto 4, 3) := by decide +kernel
theorem dX4_isOf_31 : decode cX4_isOf 31 = .ok (.iconst 0, 1) := by decide +kernel
theorem dX4_isOf_32 : decode cX4_isOf 32 = .ok (.ireturn, 1) := by decide +kernel
theorem dX4_isAheadOf_0 : decode cX4_isAheadOf 0 = .ok (.aload_n 0, 1) := by decide +kernel
theorem dX4_isAheadOf_1 : decode cX4_isAheadOf 1 = .ok (.getfield 19, 3) := by decide +kernel
theorem dX4_isAheadOf_4 : decode cX4_isAheadOf 4 = .ok (.aload_n 1, 1) := by decide +kernel
theorem dX4_isAheadOf_5 : decode cX4_isAheadOf 5 = .ok (.getfield 19, 3) := by decide +kernel
theorem dX4_isAheadOf_8 : decode cX4_isAheadOf 8 = .ok (.if_icmp .lt 31, 3) := by decide +kernel
theorem dX4_isAheadOf_11 : decode cX4_isAheadOf 11 = .ok (.aload_n 0, 1) := by decide +kernel
theorem dX4_isAheadOf_12 : decode cX4_isAheadOf 12 = .ok (.getfield 19, 3) := by decide +kernel
theorem dX4_isAheadOf_15 : decode cX4_isAheadOf 15 = .ok (.aload_n 1, 1) := by decide +kernel
theorem dX4_isAheadOf_16 : decode cX4_isAheadOf 16 = .ok (.getfield 19, 3) := by decide +kernel
theorem dX4_isAheadOf_19 : decode cX4_isAheadOf 19 = .ok (.if_icmp .ne 24, 3) := by decide +kernel
theorem dX4_isAheadOf_22 : decode cX4_isAheadOf 22 = .ok (.aload_n 0, 1) := by decide +kernel
theorem dX4_isAheadOf_23 : decode cX4_isAheadOf 23 = .ok (.getfield 15, 3) := by decide +kernel
theorem dX4_isAheadOf_26 : decode cX4_isAheadOf 26 = .ok (.getfield 30, 3) := by decide +kernel
theorem dX4_isAheadOf_29 : decode cX4_isAheadOf 29 = .ok (.aload_n 1, 1) := by decide +kernel
theorem dX4_isAheadOf_30 : decode cX4_isAheadOf 30 = .ok (.getfield 15, 3) := by decide +kernel
theorem dX4_isAheadOf_33 : decode cX4_isAheadOf 33 = .ok (.getfield 30, 3) := by decide +kernel
theorem dX4_isAheadOf_36 : decode cX4_isAheadOf 36 = .ok (.if_icmp .ge 7, 3) := by decide +kernel
theorem dX4_isAheadOf_39 : decode cX4_isAheadOf 39 = .ok (.iconst 1, 1) := by decide +kernel
theorem dX4_isAheadOf_40 : decode cX4_isAheadOf 40 = .ok (.goto 4, 3) := by decide +kernel
theorem dX4_isAheadOf_43 : decode cX4_isAheadOf 43 = .ok (.iconst 0, 1) := by decide +kernel
theorem dX4_isAheadOf_44 : decode cX4_isAheadOf 44 = .ok (.ireturn, 1) := by decide +kernel
theorem dX5_init_0 : decode cX5_init 0 = .ok (.aload_n 0, 1) := by decide +kernel
theorem dX5_init_1 : decode cX5_init 1 = .ok (.invokespecial 1, 3) := by decide +kernel
theorem dX5_init_4 : decode cX5_init 4 = .ok (.aload_n 0, 1) := by decide +kernel
theorem dX5_init_5 : decode cX5_init 5 = .ok (.iload_n 1, 1) := by decide +kernel
theorem dX5_init_6 : decode cX5_init 6 = .ok (.putfield 7, 3) := by decide +kernel
theorem dX5_init_9 : decode cX5_init 9 = .ok (.aload_n 0, 1) := by decide +kernel
theorem dX5_init_10 : decode cX5_init 10 = .ok (.iload_n 2, 1) := by decide +kernel
theorem dX5_init_11 : decode cX5_init 11 = .ok (.putfield 13, 3) := by decide +kernel
theorem dX5_init_14 : decode cX5_init 14 = .ok (.aload_n 0, 1) := by decide +kernel
theorem dX5_init_15 : decode cX5_init 15 = .ok (.iload_n 3, 1) := by decide +kernel
theorem dX5_init_16 : decode cX5_init 16 = .ok (.putfield 16, 3) := by decide +kernel
theorem dX5_init_19 : decode cX5_init 19 = .ok (.aload_n 0, 1) := by decide +kernel
theorem dX5_init_20 : decode cX5_init 20 = .ok (.iload 4, 2) := by decide +kernel
theorem dX5_init_22 : decode cX5_init 22 = .ok (.putfield 19, 3) := by decide +kernel
theorem dX5_init_25 : decode cX5_init 25 = .ok (.aload_n 0, 1) := by decide +kernel
theorem dX5_init_26 : decode cX5_init 26 = .ok (.iload 5, 2) := by decide +kernel
theorem dX5_init_28 : decode cX5_init 28 = .ok (.putfield 22, 3) := by decide +kernel
theorem dX5_init_31 : decode cX5_init 31 = .ok (.return_, 1) := by decide +kernel
theorem dX6_init_0 : decode cX6_init 0 = .ok (.aload_n 0, 1) := by decide +kernel
theorem dX6_init_1 : decode cX6_init 1 = .ok (.invokespecial 3, 3) := by decide +kernel
theorem dX6_init_4 : decode cX6_init 4 = .ok (.aload_n 0, 1) := by decide +kernel
theorem dX6_init_5 : decode cX6_init 5 = .ok (.new 9, 3) := by decide +kernel
theorem dX6_init_8 : decode cX6_init 8 = .ok (.dup, 1) := by decide +kernel
theorem dX6_init_9 : decode cX6_init 9 = .ok (.invokespecial 11, 3) := by decide +kernel
theorem dX6_init_12 : decode cX6_init 12 = .ok (.putfield 12, 3) := by decide +kernel
theorem dX6_init_15 : decode cX6_init 15 = .ok (.aload_n 0, 1) := by decide +kernel
theorem dX6_init_16 : decode cX6_init 16 = .ok (.bipush 51, 2) := by decide +kernel
theorem dX6_init_18 : decode cX6_init 18 = .ok (.newarray .boolean, 2) := by decide +kernel
theorem dX6_init_20 : decode cX6_init 20 = .ok (.putfield 18, 3) := by decide +kernel
theorem dX6_init_23 : decode cX6_init 23 = .ok (.return_, 1) := by decide +kernel
theorem dX6_size_0 : decode cX6_size 0 = .ok (.aload_n 0, 1) := by decide +kernel
theorem dX6_size_1 : decode cX6_size 1 = .ok (.getfield 12, 3) := by decide +kernel
theorem dX6_size_4 : decode cX6_size 4 = .ok (.invokevirtual 22, 3) := by decide +kernel
theorem dX6_size_7 : decode cX6_size 7 = .ok (.ireturn, 1) := by decide +kernel
theorem dX6_addTariff_0 : decode cX6_addTariff 0 = .ok (.aload_n 0, 1) := by decide +kernel
theorem dX6_addTariff_1 : decode cX6_addTariff 1 = .ok (.getfield 12, 3) := by decide +kernel
theorem dX6_addTariff_4 : decode cX6_addTariff 4 = .ok (.aload_n 1, 1) := by decide +kernel
theorem dX6_addTariff_5 : decode cX6_addTariff 5 = .ok (.invokevirtual 26, 3) := by decide +kernel
theorem dX6_addTariff_8 : decode cX6_addTariff 8 = .ok (.pop, 1) := by decide +kernel
theorem dX6_addTariff_9 : decode cX6_addTariff 9 = .ok (.return_, 1) := by decide +kernel
theorem dX6_isHoliday_0 : decode cX6_isHoliday 0 = .ok (.iload_n 1, 1) := by decide +kernel
theorem dX6_isHoliday_1 : decode cX6_isHoliday 1 = .ok (.ifCond .lt 25, 3) := by decide +kernel
theorem dX6_isHoliday_4 : decode cX6_isHoliday 4 = .ok (.iload_n 1, 1) := by decide +kernel
theorem dX6_isHoliday_5 : decode cX6_isHoliday 5 = .ok (.aload_n 0, 1) := by decide +kernel
theorem dX6_isHoliday_6 : decode cX6_isHoliday 6 = .ok (.getfield 18, 3) := by decide +kernel
theorem dX6_isHoliday_9 : decode cX6_isHoliday 9 = .ok (.arraylength, 1) := by decide +kernel
theorem dX6_isHoliday_10 : decode cX6_isHoliday 10 = .ok (.if_icmp .ge 16, 3) := by decide +kernel
theorem dX6_isHoliday_13 : decode cX6_isHoliday 13 = .ok (.aload_n 0, 1) := by decide +kernel
theorem dX6_isHoliday_14 : decode cX6_isHoliday 14 = .ok (.getfield 18, 3) := by decide +kernel
theorem dX6_isHoliday_17 : decode cX6_isHoliday 17 = .ok (.iload_n 1, 1) := by decide +kernel
theorem dX6_isHoliday_18 : decode cX6_isHoliday 18 = .ok (.baload, 1) := by decide +kernel
theorem dX6_isHoliday_19 : decode cX6_isHoliday 19 = .ok (.ifCond .eq 7, 3) := by decide +kernel
theorem dX6_isHoliday_22 : decode cX6_isHoliday 22 = .ok (.iconst 1, 1) := by decide +kernel
theorem dX6_isHoliday_23 : decode cX6_isHoliday 23 = .ok (.goto 4, 3) := by decide +kernel
theorem dX6_isHoliday_26 : decode cX6_isHoliday 26 = .ok (.iconst 0, 1) := by decide +kernel
theorem dX6_isHoliday_27 : decode cX6_isHoliday 27 = .ok (.ireturn, 1) := by decide +kernel
theorem dX6_inForce_0 : decode cX6_inForce 0 = .ok (.aload_n 0, 1) := by decide +kernel
theorem dX6_inForce_1 : decode cX6_inForce 1 = .ok (.getfield 12, 3) := by decide +kernel
theorem dX6_inForce_4 : decode cX6_inForce 4 = .ok (.invokevirtual 22, 3) := by decide +kernel
theorem dX6_inForce_7 : decode cX6_inForce 7 = .ok (.iconst 1, 1) := by decide +kernel
theorem dX6_inForce_8 : decode cX6_inForce 8 = .ok (.isub, 1) := by decide +kernel
theorem dX6_inForce_9 : decode cX6_inForce 9 = .ok (.istore_n 3, 1) := by decide +kernel
theorem dX6_inForce_10 : decode cX6_inForce 10 = .ok (.iload_n 3, 1) := by decide +kernel
theorem dX6_inForce_11 : decode cX6_inForce 11 = .ok (.ifCond .lt 43, 3) := by decide +kernel
theorem dX6_inForce_14 : decode cX6_inForce 14 = .ok (.aload_n 0, 1) := by decide +kernel
theorem dX6_inForce_15 : decode cX6_inForce 15 = .ok (.getfield 12, 3) := by decide +kernel
theorem dX6_inForce_18 : decode cX6_inForce 18 = .ok (.iload_n 3, 1) := by decide +kernel
theorem dX6_inForce_19 : decode cX6_inForce 19 = .ok (.invokevirtual 34, 3) := by decide +kernel
theorem dX6_inForce_22 : decode cX6_inForce 22 = .ok (.checkcast 38, 3) := by decide +kernel
theorem dX6_inForce_25 : decode cX6_inForce 25 = .ok (.astore 4, 2) := by decide +kernel
theorem dX6_inForce_27 : decode cX6_inForce 27 = .ok (.aload 4, 2) := by decide +kernel
theorem dX6_inForce_29 : decode cX6_inForce 29 = .ok (.getfield 40, 3) := by decide +kernel
theorem dX6_inForce_32 : decode cX6_inForce 32 = .ok (.iload_n 1, 1) := by decide +kernel
theorem dX6_inForce_33 : decode cX6_inForce 33 = .ok (.if_icmp .ne 15, 3) := by decide +kernel
theorem dX6_inForce_36 : decode cX6_inForce 36 = .ok (.aload 4, 2) := by decide +kernel
theorem dX6_inForce_38 : decode cX6_inForce 38 = .ok (.getfield 43, 3) := by decide +kernel
theorem dX6_inForce_41 : decode cX6_inForce 41 = .ok (.iload_n 2, 1) := by decide +kernel
theorem dX6_inForce_42 : decode cX6_inForce 42 = .ok (.if_icmp .gt 6, 3) := by decide +kernel
theorem dX6_inForce_45 : decode cX6_inForce 45 = .ok (.aload 4, 2) := by decide +kernel
theorem dX6_inForce_47 : decode cX6_inForce 47 = .ok (.areturn, 1) := by decide +kernel
theorem dX6_inForce_48 : decode cX6_inForce 48 = .ok (.iinc 3 (-1), 3) := by decide +kernel
theorem dX6_inForce_51 : decode cX6_inForce 51 = .ok (.goto (-41), 3) := by decide +kernel
theorem dX6_inForce_54 : decode cX6_inForce 54 = .ok (.aconst_null, 1) := by decide +kernel
theorem dX6_inForce_55 : decode cX6_inForce 55 = .ok (.areturn, 1) := by decide +kernel
theorem dX6_price_0 : decode cX6_price 0 = .ok (.iload 4, 2) := by decide +kernel
theorem dX6_price_2 : decode cX6_price 2 = .ok (.sipush 1440, 3) := by decide +kernel
theorem dX6_price_5 : decode cX6_price 5 = .ok (.idiv, 1) := by decide +kernel
theorem dX6_price_6 : decode cX6_price 6 = .ok (.istore 5, 2) := by decide +kernel
theorem dX6_price_8 : decode cX6_price 8 = .ok (.aload_n 0, 1) := by decide +kernel
theorem dX6_price_9 : decode cX6_price 9 = .ok (.aload_n 1, 1) := by decide +kernel
theorem dX6_price_10 : decode cX6_price 10 = .ok (.getfield 46, 3) := by decide +kernel
theorem dX6_price_13 : decode cX6_price 13 = .ok (.iload 5, 2) := by decide +kernel
theorem dX6_price_15 : decode cX6_price 15 = .ok (.invokevirtual 49, 3) := by decide +kernel
theorem dX6_price_18 : decode cX6_price 18 = .ok (.astore 6, 2) := by decide +kernel
theorem dX6_price_20 : decode cX6_price 20 = .ok (.aload 6, 2) := by decide +kernel
theorem dX6_price_22 : decode cX6_price 22 = .ok (.ifnonnull 5, 3) := by decide +kernel
theorem dX6_price_25 : decode cX6_price 25 = .ok (.iconst 0, 1) := by decide +kernel
theorem dX6_price_26 : decode cX6_price 26 = .ok (.ireturn, 1) := by decide +kernel
theorem dX6_price_27 : decode cX6_price 27 = .ok (.aload_n 1, 1) := by decide +kernel
theorem dX6_price_28 : decode cX6_price 28 = .ok (.getfield 53, 3) := by decide +kernel
theorem dX6_price_31 : decode cX6_price 31 = .ok (.aload 6, 2) := by decide +kernel
theorem dX6_price_33 : decode cX6_price 33 = .ok (.getfield 56, 3) := by decide +kernel
theorem dX6_price_36 : decode cX6_price 36 = .ok (.aload 6, 2) := by decide +kernel
theorem dX6_price_38 : decode cX6_price 38 = .ok (.getfield 59, 3) := by decide +kernel
theorem dX6_price_41 : decode cX6_price 41 = .ok (.iload_n 2, 1) := by decide +kernel
theorem dX6_price_42 : decode cX6_price 42 = .ok (.imul, 1) := by decide +kernel
theorem dX6_price_43 : decode cX6_price 43 = .ok (.iadd, 1) := by decide +kernel
theorem dX6_price_44 : decode cX6_price 44 = .ok (.imul, 1) := by decide +kernel
theorem dX6_price_45 : decode cX6_price 45 = .ok (.istore 7, 2) := by decide +kernel
theorem dX6_price_47 : decode cX6_price 47 = .ok (.iload 7, 2) := by decide +kernel
theorem dX6_price_49 : decode cX6_price 49 = .ok (.bipush 10, 2) := by decide +kernel
theorem dX6_price_51 : decode cX6_price 51 = .ok (.iload_n 3, 1) := by decide +kernel
theorem dX6_price_52 : decode cX6_price 52 = .ok (.iadd, 1) := by decide +kernel
theorem dX6_price_53 : decode cX6_price 53 = .ok (.imul, 1) := by decide +kernel
theorem dX6_price_54 : decode cX6_price 54 = .ok (.bipush 10, 2) := by decide +kernel
theorem dX6_price_56 : decode cX6_price 56 = .ok (.idiv, 1) := by decide +kernel
theorem dX6_price_57 : decode cX6_price 57 = .ok (.istore 8, 2) := by decide +kernel
theorem dX6_price_59 : decode cX6_price 59 = .ok (.iload 4, 2) := by decide +kernel
theorem dX6_price_61 : decode cX6_price 61 = .ok (.invokestatic 62, 3) := by decide +kernel
theorem dX6_price_64 : decode cX6_price 64 = .ok (.ifCond .eq 28, 3) := by decide +kernel
theorem dX6_price_67 : decode cX6_price 67 = .ok (.aload_n 0, 1) := by decide +kernel
theorem dX6_price_68 : decode cX6_price 68 = .ok (.iload 5, 2) := by decide +kernel
theorem dX6_price_70 : decode cX6_price 70 = .ok (.invokevirtual 66, 3) := by decide +kernel
theorem dX6_price_73 : decode cX6_price 73 = .ok (.ifCond .ne 19, 3) := by decide +kernel
theorem dX6_price_76 : decode cX6_price 76 = .ok (.iload 8, 2) := by decide +kernel
theorem dX6_price_78 : decode cX6_price 78 = .ok (.iload 8, 2) := by decide +kernel
theorem dX6_price_80 : decode cX6_price 80 = .ok (.aload 6, 2) := by decide +kernel
theorem dX6_price_82 : decode cX6_price 82 = .ok (.getfield 69, 3) := by decide +kernel
theorem dX6_price_85 : decode cX6_price 85 = .ok (.imul, 1) := by decide +kernel
theorem dX6_price_86 : decode cX6_price 86 = .ok (.bipush 100, 2) := by decide +kernel
theorem dX6_price_88 : decode cX6_price 88 = .ok (.idiv, 1) := by decide +kernel
theorem dX6_price_89 : decode cX6_price 89 = .ok (.iadd, 1) := by decide +kernel
theorem dX6_price_90 : decode cX6_price 90 = .ok (.istore 8, 2) := by decide +kernel
theorem dX6_price_92 : decode cX6_price 92 = .ok (.iload 8, 2) := by decide +kernel
theorem dX6_price_94 : decode cX6_price 94 = .ok (.ireturn, 1) := by decide +kernel
theorem dX6_isPeakHour_0 : decode cX6_isPeakHour 0 = .ok (.iload_n 0, 1) := by decide +kernel
theorem dX6_isPeakHour_1 : decode cX6_isPeakHour 1 = .ok (.bipush 60, 2) := by decide +kernel
theorem dX6_isPeakHour_3 : decode cX6_isPeakHour 3 = .ok (.idiv, 1) := by decide +kernel
theorem dX6_isPeakHour_4 : decode cX6_isPeakHour 4 = .ok (.bipush 24, 2) := by decide +kernel
theorem dX6_isPeakHour_6 : decode cX6_isPeakHour 6 = .ok (.irem, 1) := by decide +kernel
theorem dX6_isPeakHour_7 : decode cX6_isPeakHour 7 = .ok (.istore_n 1, 1) := by decide +kernel
theorem dX6_isPeakHour_8 : decode cX6_isPeakHour 8 = .ok (.iload_n 1, 1) := by decide +kernel
theorem dX6_isPeakHour_9 : decode cX6_isPeakHour 9 = .ok (.bipush 7, 2) := by decide +kernel
theorem dX6_isPeakHour_11 : decode cX6_isPeakHour 11 = .ok (.if_icmp .lt 9, 3) := by decide +kernel
theorem dX6_isPeakHour_14 : decode cX6_isPeakHour 14 = .ok (.iload_n 1, 1) := by decide +kernel
theorem dX6_isPeakHour_15 : decode cX6_isPeakHour 15 = .ok (.bipush 9, 2) := by decide +kernel
theorem dX6_isPeakHour_17 : decode cX6_isPeakHour 17 = .ok (.if_icmp .le 15, 3) := by decide +kernel
theorem dX6_isPeakHour_20 : decode cX6_isPeakHour 20 = .ok (.iload_n 1, 1) := by decide +kernel
theorem dX6_isPeakHour_21 : decode cX6_isPeakHour 21 = .ok (.bipush 16, 2) := by decide +kernel
theorem dX6_isPeakHour_23 : decode cX6_isPeakHour 23 = .ok (.if_icmp .lt 13, 3) := by decide +kernel
theorem dX6_isPeakHour_26 : decode cX6_isPeakHour 26 = .ok (.iload_n 1, 1) := by decide +kernel
theorem dX6_isPeakHour_27 : decode cX6_isPeakHour 27 = .ok (.bipush 18, 2) := by decide +kernel
theorem dX6_isPeakHour_29 : decode cX6_isPeakHour 29 = .ok (.if_icmp .gt 7, 3) := by decide +kernel
theorem dX6_isPeakHour_32 : decode cX6_isPeakHour 32 = .ok (.iconst 1, 1) := by decide +kernel
theorem dX6_isPeakHour_33 : decode cX6_isPeakHour 33 = .ok (.goto 4, 3) := by decide +kernel
theorem dX6_isPeakHour_36 : decode cX6_isPeakHour 36 = .ok (.iconst 0, 1) := by decide +kernel
theorem dX6_isPeakHour_37 : decode cX6_isPeakHour 37 = .ok (.ireturn, 1) := by decide +kernel
theorem dX7_init_0 : decode cX7_init 0 = .ok (.aload_n 0, 1) := by decide +kernel
theorem dX7_init_1 : decode cX7_init 1 = .ok (.invokespecial 3, 3) := by decide +kernel
theorem dX7_init_4 : decode cX7_init 4 = .ok (.aload_n 0, 1) := by decide +kernel
theorem dX7_init_5 : decode cX7_init 5 = .ok (.iload_n 1, 1) := by decide +kernel
theorem dX7_init_6 : decode cX7_init 6 = .ok (.putfield 9, 3) := by decide +kernel
theorem dX7_init_9 : decode cX7_init 9 = .ok (.aload_n 0, 1) := by decide +kernel
theorem dX7_init_10 : decode cX7_init 10 = .ok (.iload_n 2, 1) := by decide +kernel
theorem dX7_init_11 : decode cX7_init 11 = .ok (.putfield 15, 3) := by decide +kernel
theorem dX7_init_14 : decode cX7_init 14 = .ok (.aload_n 0, 1) := by decide +kernel
theorem dX7_init_15 : decode cX7_init 15 = .ok (.iload_n 3, 1) := by decide +kernel
theorem dX7_init_16 : decode cX7_init 16 = .ok (.putfield 18, 3) := by decide +kernel
theorem dX7_init_19 : decode cX7_init 19 = .ok (.aload_n 0, 1) := by decide +kernel
theorem dX7_init_20 : decode cX7_init 20 = .ok (.iload 4, 2) := by decide +kernel
theorem dX7_init_22 : decode cX7_init 22 = .ok (.putfield 21, 3) := by decide +kernel
theorem dX7_init_25 : decode cX7_init 25 = .ok (.return_, 1) := by decide +kernel
theorem dX7_isBlocked_0 : decode cX7_isBlocked 0 = .ok (.aload_n 0, 1) := by decide +kernel
theorem dX7_isBlocked_1 : decode cX7_isBlocked 1 = .ok (.getfield 21, 3) := by decide +kernel
theorem dX7_isBlocked_4 : decode cX7_isBlocked 4 = .ok (.ifCond .ne 10, 3) := by decide +kernel
theorem dX7_isBlocked_7 : decode cX7_isBlocked 7 = .ok (.aload_n 0, 1) := by decide +kernel
theorem dX7_isBlocked_8 : decode cX7_isBlocked 8 = .ok (.getfield 24, 3) := by decide +kernel
theorem dX7_isBlocked_11 : decode cX7_isBlocked 11 = .ok (.ifCond .lt 21, 3) := by decide +kernel
theorem dX7_isBlocked_14 : decode cX7_isBlocked 14 = .ok (.aload_n 0, 1) := by decide +kernel
theorem dX7_isBlocked_15 : decode cX7_isBlocked 15 = .ok (.getfield 21, 3) := by decide +kernel
theorem dX7_isBlocked_18 : decode cX7_isBlocked 18 = .ok (.iconst 1, 1) := by decide +kernel
theorem dX7_isBlocked_19 : decode cX7_isBlocked 19 = .ok (.if_icmp .ne 17, 3) := by decide +kernel
theorem dX7_isBlocked_22 : decode cX7_isBlocked 22 = .ok (.aload_n 0, 1) := by decide +kernel
theorem dX7_isBlocked_23 : decode cX7_isBlocked 23 = .ok (.getfield 24, 3) := by decide +kernel
theorem dX7_isBlocked_26 : decode cX7_isBlocked 26 = .ok (.sipush (-500), 3) := by decide +kernel
theorem dX7_isBlocked_29 : decode cX7_isBlocked 29 = .ok (.if_icmp .ge 7, 3) := by decide +kernel
theorem dX7_isBlocked_32 : decode cX7_isBlocked 32 = .ok (.iconst 1, 1) := by decide +kernel
theorem dX7_isBlocked_33 : decode cX7_isBlocked 33 = .ok (.goto 4, 3) := by decide +kernel
theorem dX7_isBlocked_36 : decode cX7_isBlocked 36 = .ok (.iconst 0, 1) := by decide +kernel
theorem dX7_isBlocked_37 : decode cX7_isBlocked 37 = .ok (.ireturn, 1) := by decide +kernel
theorem dX7_isExempt_0 : decode cX7_isExempt 0 = .ok (.aload_n 0, 1) := by decide +kernel
theorem dX7_isExempt_1 : decode cX7_isExempt 1 = .ok (.getfield 27, 3) := by decide +kernel
theorem dX7_isExempt_4 : decode cX7_isExempt 4 = .ok (.iload_n 1, 1) := by decide +kernel
theorem dX7_isExempt_5 : decode cX7_isExempt 5 = .ok (.invokestatic 30, 3) := by decide +kernel
theorem dX7_isExempt_8 : decode cX7_isExempt 8 = .ok (.ireturn, 1) := by decide +kernel
theorem dX7_setExempt_0 : decode cX7_setExempt 0 = .ok (.iconst 1, 1) := by decide +kernel
theorem dX7_setExempt_1 : decode cX7_setExempt 1 = .ok (.iload_n 1, 1) := by decide +kernel
theorem dX7_setExempt_2 : decode cX7_setExempt 2 = .ok (.ishl, 1) := by decide +kernel
theorem dX7_setExempt_3 : decode cX7_setExempt 3 = .ok (.istore_n 3, 1) := by decide +kernel
theorem dX7_setExempt_4 : decode cX7_setExempt 4 = .ok (.aload_n 0, 1) := by decide +kernel
theorem dX7_setExempt_5 : decode cX7_setExempt 5 = .ok (.iload_n 2, 1) := by decide +kernel
theorem dX7_setExempt_6 : decode cX7_setExempt 6 = .ok (.ifCond .eq 12, 3) := by decide +kernel
theorem dX7_setExempt_9 : decode cX7_setExempt 9 = .ok (.aload_n 0, 1) := by decide +kernel
theorem dX7_setExempt_10 : decode cX7_setExempt 10 = .ok (.getfield 27, 3) := by decide +kernel
theorem dX7_setExempt_13 : decode cX7_setExempt 13 = .ok (.iload_n 3, 1) := by decide +kernel
theorem dX7_setExempt_14 : decode cX7_setExempt 14 = .ok (.ior, 1) := by decide +kernel
theorem dX7_setExempt_15 : decode cX7_setExempt 15 = .ok (.goto 11, 3) := by decide +kernel
theorem dX7_setExempt_18 : decode cX7_setExempt 18 = .ok (.aload_n 0, 1) := by decide +kernel
theorem dX7_setExempt_19 : decode cX7_setExempt 19 = .ok (.getfield 27, 3) := by decide +kernel
theorem dX7_setExempt_22 : decode cX7_setExempt 22 = .ok (.iload_n 3, 1) := by decide +kernel
theorem dX7_setExempt_23 : decode cX7_setExempt 23 = .ok (.iconst (-1), 1) := by decide +kernel
theorem dX7_setExempt_24 : decode cX7_setExempt 24 = .ok (.ixor, 1) := by decide +kernel
theorem dX7_setExempt_25 : decode cX7_setExempt 25 = .ok (.iand, 1) := by decide +kernel
theorem dX7_setExempt_26 : decode cX7_setExempt 26 = .ok (.putfield 27, 3) := by decide +kernel
theorem dX7_setExempt_29 : decode cX7_setExempt 29 = .ok (.return_, 1) := by decide +kernel
theorem dX8_init_0 : decode cX8_init 0 = .ok (.aload_n 0, 1) := by decide +kernel
theorem dX8_init_1 : decode cX8_init 1 = .ok (.invokespecial 1, 3) := by decide +kernel
theorem dX8_init_4 : decode cX8_init 4 = .ok (.aload_n 0, 1) := by decide +kernel
theorem dX8_init_5 : decode cX8_init 5 = .ok (.new 7, 3) := by decide +kernel
theorem dX8_init_8 : decode cX8_init 8 = .ok (.dup, 1) := by decide +kernel
theorem dX8_init_9 : decode cX8_init 9 = .ok (.invokespecial 9, 3) := by decide +kernel
theorem dX8_init_12 : decode cX8_init 12 = .ok (.putfield 10, 3) := by decide +kernel
theorem dX8_init_15 : decode cX8_init 15 = .ok (.aload_n 0, 1) := by decide +kernel
theorem dX8_init_16 : decode cX8_init 16 = .ok (.new 7, 3) := by decide +kernel
theorem dX8_init_19 : decode cX8_init 19 = .ok (.dup, 1) := by decide +kernel
theorem dX8_init_20 : decode cX8_init 20 = .ok (.invokespecial 9, 3) := by decide +kernel
theorem dX8_init_23 : decode cX8_init 23 = .ok (.putfield 16, 3) := by decide +kernel
theorem dX8_init_26 : decode cX8_init 26 = .ok (.aload_n 0, 1) := by decide +kernel
theorem dX8_init_27 : decode cX8_init 27 = .ok (.new 7, 3) := by decide +kernel
theorem dX8_init_30 : decode cX8_init 30 = .ok (.dup, 1) := by decide +kernel
theorem dX8_init_31 : decode cX8_init 31 = .ok (.invokespecial 9, 3) := by decide +kernel
theorem dX8_init_34 : decode cX8_init 34 = .ok (.putfield 19, 3) := by decide +kernel
theorem dX8_init_37 : decode cX8_init 37 = .ok (.aload_n 0, 1) := by decide +kernel
theorem dX8_init_38 : decode cX8_init 38 = .ok (.new 22, 3) := by decide +kernel
theorem dX8_init_41 : decode cX8_init 41 = .ok (.dup, 1) := by decide +kernel
theorem dX8_init_42 : decode cX8_init 42 = .ok (.invokespecial 24, 3) := by decide +kernel
theorem dX8_init_45 : decode cX8_init 45 = .ok (.putfield 25, 3) := by decide +kernel
theorem dX8_init_48 : decode cX8_init 48 = .ok (.aload_n 0, 1) := by decide +kernel
theorem dX8_init_49 : decode cX8_init 49 = .ok (.new 29, 3) := by decide +kernel
theorem dX8_init_52 : decode cX8_init 52 = .ok (.dup, 1) := by decide +kernel
theorem dX8_init_53 : decode cX8_init 53 = .ok (.invokespecial 31, 3) := by decide +kernel
theorem dX8_init_56 : decode cX8_init 56 = .ok (.putfield 32, 3) := by decide +kernel
theorem dX8_init_59 : decode cX8_init 59 = .ok (.aload_n 0, 1) := by decide +kernel
theorem dX8_init_60 : decode cX8_init 60 = .ok (.new 36, 3) := by decide +kernel
theorem dX8_init_63 : decode cX8_init 63 = .ok (.dup, 1) := by decide +kernel
theorem dX8_init_64 : decode cX8_init 64 = .ok (.invokespecial 38, 3) := by decide +kernel
theorem dX8_init_67 : decode cX8_init 67 = .ok (.putfield 39, 3) := by decide +kernel
theorem dX8_init_70 : decode cX8_init 70 = .ok (.aload_n 0, 1) := by decide +kernel
theorem dX8_init_71 : decode cX8_init 71 = .ok (.bipush 8, 2) := by decide +kernel
theorem dX8_init_73 : decode cX8_init 73 = .ok (.newarray .int, 2) := by decide +kernel
theorem dX8_init_75 : decode cX8_init 75 = .ok (.putfield 43, 3) := by decide +kernel
theorem dX8_init_78 : decode cX8_init 78 = .ok (.aload_n 0, 1) := by decide +kernel
theorem dX8_init_79 : decode cX8_init 79 = .ok (.sipush 300, 3) := by decide +kernel
theorem dX8_init_82 : decode cX8_init 82 = .ok (.putfield 47, 3) := by decide +kernel
theorem dX8_init_85 : decode cX8_init 85 = .ok (.return_, 1) := by decide +kernel
theorem dX8_segment_0 : decode cX8_segment 0 = .ok (.iload_n 1, 1) := by decide +kernel
theorem dX8_segment_1 : decode cX8_segment 1 = .ok (.invokestatic 51, 3) := by decide +kernel
theorem dX8_segment_4 : decode cX8_segment 4 = .ok (.ifCond .eq 22, 3) := by decide +kernel
theorem dX8_segment_7 : decode cX8_segment 7 = .ok (.iload_n 2, 1) := by decide +kernel
theorem dX8_segment_8 : decode cX8_segment 8 = .ok (.invokestatic 51, 3) := by decide +kernel
theorem dX8_segment_11 : decode cX8_segment 11 = .ok (.ifCond .eq 15, 3) := by decide +kernel
theorem dX8_segment_14 : decode cX8_segment 14 = .ok (.iload 4, 2) := by decide +kernel
theorem dX8_segment_16 : decode cX8_segment 16 = .ok (.invokestatic 55, 3) := by decide +kernel
theorem dX8_segment_19 : decode cX8_segment 19 = .ok (.ifCond .eq 7, 3) := by decide +kernel
theorem dX8_segment_22 : decode cX8_segment 22 = .ok (.iconst 1, 1) := by decide +kernel
theorem dX8_segment_23 : decode cX8_segment 23 = .ok (.goto 4, 3) := by decide +kernel
theorem dX8_segment_26 : decode cX8_segment 26 = .ok (.iconst 0, 1) := by decide +kernel
theorem dX8_segment_27 : decode cX8_segment 27 = .ok (.invokestatic 58, 3) := by decide +kernel
theorem dX8_segment_30 : decode cX8_segment 30 = .ok (.iload_n 1, 1) := by decide +kernel
theorem dX8_segment_31 : decode cX8_segment 31 = .ok (.iload_n 2, 1) := by decide +kernel
theorem dX8_segment_32 : decode cX8_segment 32 = .ok (.if_icmp .eq 17, 3) := by decide +kernel
theorem dX8_segment_35 : decode cX8_segment 35 = .ok (.iload_n 3, 1) := by decide +kernel
theorem dX8_segment_36 : decode cX8_segment 36 = .ok (.iconst 1, 1) := by decide +kernel
theorem dX8_segment_37 : decode cX8_segment 37 = .ok (.bipush 60, 2) := by decide +kernel
theorem dX8_segment_39 : decode cX8_segment 39 = .ok (.invokestatic 62, 3) := by decide +kernel
theorem dX8_segment_42 : decode cX8_segment 42 = .ok (.ifCond .eq 7, 3) := by decide +kernel
theorem dX8_segment_45 : decode cX8_segment 45 = .ok (.iconst 1, 1) := by decide +kernel
theorem dX8_segment_46 : decode cX8_segment 46 = .ok (.goto 4, 3) := by decide +kernel
theorem dX8_segment_49 : decode cX8_segment 49 = .ok (.iconst 0, 1) := by decide +kernel
theorem dX8_segment_50 : decode cX8_segment 50 = .ok (.invokestatic 66, 3) := by decide +kernel
theorem dX8_segment_53 : decode cX8_segment 53 = .ok (.aload_n 0, 1) := by decide +kernel
theorem dX8_segment_54 : decode cX8_segment 54 = .ok (.getfield 10, 3) := by decide +kernel
theorem dX8_segment_57 : decode cX8_segment 57 = .ok (.invokevirtual 69, 3) := by decide +kernel
theorem dX8_segment_60 : decode cX8_segment 60 = .ok (.bipush 12, 2) := by decide +kernel
theorem dX8_segment_62 : decode cX8_segment 62 = .ok (.if_icmp .ge 7, 3) := by decide +kernel
theorem dX8_segment_65 : decode cX8_segment 65 = .ok (.iconst 1, 1) := by decide +kernel
theorem dX8_segment_66 : decode cX8_segment 66 = .ok (.goto 4, 3) := by decide +kernel
theorem dX8_segment_69 : decode cX8_segment 69 = .ok (.iconst 0, 1) := by decide +kernel
theorem dX8_segment_70 : decode cX8_segment 70 = .ok (.invokestatic 73, 3) := by decide +kernel
theorem dX8_segment_73 : decode cX8_segment 73 = .ok (.aload_n 0, 1) := by decide +kernel
theorem dX8_segment_74 : decode cX8_segment 74 = .ok (.getfield 10, 3) := by decide +kernel
theorem dX8_segment_77 : decode cX8_segment 77 = .ok (.invokevirtual 69, 3) := by decide +kernel
theorem dX8_segment_80 : decode cX8_segment 80 = .ok (.istore 5, 2) := by decide +kernel
theorem dX8_segment_82 : decode cX8_segment 82 = .ok (.aload_n 0, 1) := by decide +kernel
theorem dX8_segment_83 : decode cX8_segment 83 = .ok (.getfield 10, 3) := by decide +kernel
theorem dX8_segment_86 : decode cX8_segment 86 = .ok (.new 76, 3) := by decide +kernel
theorem dX8_segment_89 : decode cX8_segment 89 = .ok (.dup, 1) := by decide +kernel
theorem dX8_segment_90 : decode cX8_segment 90 = .ok (.iload 5, 2) := by decide +kernel
theorem dX8_segment_92 : decode cX8_segment 92 = .ok (.iload_n 1, 1) := by decide +kernel
theorem dX8_segment_93 : decode cX8_segment 93 = .ok (.iload_n 2, 1) := by decide +kernel
theorem dX8_segment_94 : decode cX8_segment 94 = .ok (.iload_n 3, 1) := by decide +kernel
theorem dX8_segment_95 : decode cX8_segment 95 = .ok (.iload 4, 2) := by decide +kernel
theorem dX8_segment_97 : decode cX8_segment 97 = .ok (.invokespecial 78, 3) := by decide +kernel
theorem dX8_segment_100 : decode cX8_segment 100 = .ok (.invokevirtual 81, 3) := by decide +kernel
theorem dX8_segment_103 : decode cX8_segment 103 = .ok (.pop, 1) := by decide +kernel
theorem dX8_segment_104 : decode cX8_segment 104 = .ok (.iload 5, 2) := by decide +kernel
theorem dX8_segment_106 : decode cX8_segment 106 = .ok (.ireturn, 1) := by decide +kernel
theorem dX8_tariff_0 : decode cX8_tariff 0 = .ok (.iload_n 1, 1) := by decide +kernel
theorem dX8_tariff_1 : decode cX8_tariff 1 = .ok (.invokestatic 55, 3) := by decide +kernel
theorem dX8_tariff_4 : decode cX8_tariff 4 = .ok (.invokestatic 58, 3) := by decide +kernel
theorem dX8_tariff_7 : decode cX8_tariff 7 = .ok (.iload_n 2, 1) := by decide +kernel
theorem dX8_tariff_8 : decode cX8_tariff 8 = .ok (.iconst 1, 1) := by decide +kernel
theorem dX8_tariff_9 : decode cX8_tariff 9 = .ok (.bipush 30, 2) := by decide +kernel
theorem dX8_tariff_11 : decode cX8_tariff 11 = .ok (.invokestatic 62, 3) := by decide +kernel
theorem dX8_tariff_14 : decode cX8_tariff 14 = .ok (.ifCond .eq 37, 3) := by decide +kernel
theorem dX8_tariff_17 : decode cX8_tariff 17 = .ok (.iload_n 3, 1) := by decide +kernel
theorem dX8_tariff_18 : decode cX8_tariff 18 = .ok (.iconst 0, 1) := by decide +kernel
theorem dX8_tariff_19 : decode cX8_tariff 19 = .ok (.bipush 9, 2) := by decide +kernel
theorem dX8_tariff_21 : decode cX8_tariff 21 = .ok (.invokestatic 62, 3) := by decide +kernel
theorem dX8_tariff_24 : decode cX8_tariff 24 = .ok (.ifCond .eq 27, 3) := by decide +kernel
theorem dX8_tariff_27 : decode cX8_tariff 27 = .ok (.iload 4, 2) := by decide +kernel
theorem dX8_tariff_29 : decode cX8_tariff 29 = .ok (.iconst 0, 1) := by decide +kernel
theorem dX8_tariff_30 : decode cX8_tariff 30 = .ok (.bipush 100, 2) := by decide +kernel
theorem dX8_tariff_32 : decode cX8_tariff 32 = .ok (.invokestatic 62, 3) := by decide +kernel
theorem dX8_tariff_35 : decode cX8_tariff 35 = .ok (.ifCond .eq 16, 3) := by decide +kernel
theorem dX8_tariff_38 : decode cX8_tariff 38 = .ok (.aload_n 0, 1) := by decide +kernel
theorem dX8_tariff_39 : decode cX8_tariff 39 = .ok (.iload 5, 2) := by decide +kernel
theorem dX8_tariff_41 : decode cX8_tariff 41 = .ok (.invokevirtual 100, 3) := by decide +kernel
theorem dX8_tariff_44 : decode cX8_tariff 44 = .ok (.ifCond .eq 7, 3) := by decide +kernel
theorem dX8_tariff_47 : decode cX8_tariff 47 = .ok (.iconst 1, 1) := by decide +kernel
theorem dX8_tariff_48 : decode cX8_tariff 48 = .ok (.goto 4, 3) := by decide +kernel
theorem dX8_tariff_51 : decode cX8_tariff 51 = .ok (.iconst 0, 1) := by decide +kernel
theorem dX8_tariff_52 : decode cX8_tariff 52 = .ok (.invokestatic 66, 3) := by decide +kernel
theorem dX8_tariff_55 : decode cX8_tariff 55 = .ok (.aload_n 0, 1) := by decide +kernel
theorem dX8_tariff_56 : decode cX8_tariff 56 = .ok (.getfield 25, 3) := by decide +kernel
theorem dX8_tariff_59 : decode cX8_tariff 59 = .ok (.invokevirtual 103, 3) := by decide +kernel
theorem dX8_tariff_62 : decode cX8_tariff 62 = .ok (.bipush 16, 2) := by decide +kernel
theorem dX8_tariff_64 : decode cX8_tariff 64 = .ok (.if_icmp .ge 7, 3) := by decide +kernel
theorem dX8_tariff_67 : decode cX8_tariff 67 = .ok (.iconst 1, 1) := by decide +kernel
theorem dX8_tariff_68 : decode cX8_tariff 68 = .ok (.goto 4, 3) := by decide +kernel
theorem dX8_tariff_71 : decode cX8_tariff 71 = .ok (.iconst 0, 1) := by decide +kernel
theorem dX8_tariff_72 : decode cX8_tariff 72 = .ok (.invokestatic 73, 3) := by decide +kernel
theorem dX8_tariff_75 : decode cX8_tariff 75 = .ok (.aload_n 0, 1) := by decide +kernel
theorem dX8_tariff_76 : decode cX8_tariff 76 = .ok (.getfield 25, 3) := by decide +kernel
theorem dX8_tariff_79 : decode cX8_tariff 79 = .ok (.new 104, 3) := by decide +kernel
theorem dX8_tariff_82 : decode cX8_tariff 82 = .ok (.dup, 1) := by decide +kernel
theorem dX8_tariff_83 : decode cX8_tariff 83 = .ok (.iload_n 1, 1) := by decide +kernel
theorem dX8_tariff_84 : decode cX8_tariff 84 = .ok (.iload_n 2, 1) := by decide +kernel
theorem dX8_tariff_85 : decode cX8_tariff 85 = .ok (.iload_n 3, 1) := by decide +kernel
theorem dX8_tariff_86 : decode cX8_tariff 86 = .ok (.iload 4, 2) := by decide +kernel
theorem dX8_tariff_88 : decode cX8_tariff 88 = .ok (.iload 5, 2) := by decide +kernel
theorem dX8_tariff_90 : decode cX8_tariff 90 = .ok (.invokespecial 106, 3) := by decide +kernel
theorem dX8_tariff_93 : decode cX8_tariff 93 = .ok (.invokevirtual 107, 3) := by decide +kernel
theorem dX8_tariff_96 : decode cX8_tariff 96 = .ok (.aload_n 0, 1) := by decide +kernel
theorem dX8_tariff_97 : decode cX8_tariff 97 = .ok (.getfield 25, 3) := by decide +kernel
theorem dX8_tariff_100 : decode cX8_tariff 100 = .ok (.invokevirtual 103, 3) := by decide +kernel
theorem dX8_tariff_103 : decode cX8_tariff 103 = .ok (.ireturn, 1) := by decide +kernel
theorem dX8_vehicle_0 : decode cX8_vehicle 0 = .ok (.iload_n 1, 1) := by decide +kernel
theorem dX8_vehicle_1 : decode cX8_vehicle 1 = .ok (.iconst 0, 1) := by decide +kernel
theorem dX8_vehicle_2 : decode cX8_vehicle 2 = .ok (.iconst 2, 1) := by decide +kernel
theorem dX8_vehicle_3 : decode cX8_vehicle 3 = .ok (.invokestatic 62, 3) := by decide +kernel
theorem dX8_vehicle_6 : decode cX8_vehicle 6 = .ok (.ifCond .eq 25, 3) := by decide +kernel
theorem dX8_vehicle_9 : decode cX8_vehicle 9 = .ok (.iload_n 2, 1) := by decide +kernel
theorem dX8_vehicle_10 : decode cX8_vehicle 10 = .ok (.iconst 0, 1) := by decide +kernel
theorem dX8_vehicle_11 : decode cX8_vehicle 11 = .ok (.iconst 3, 1) := by decide +kernel
theorem dX8_vehicle_12 : decode cX8_vehicle 12 = .ok (.invokestatic 62, 3) := by decide +kernel
theorem dX8_vehicle_15 : decode cX8_vehicle 15 = .ok (.ifCond .eq 16, 3) := by decide +kernel
theorem dX8_vehicle_18 : decode cX8_vehicle 18 = .ok (.iload_n 3, 1) := by decide +kernel
theorem dX8_vehicle_19 : decode cX8_vehicle 19 = .ok (.iconst 0, 1) := by decide +kernel
theorem dX8_vehicle_20 : decode cX8_vehicle 20 = .ok (.iconst 2, 1) := by decide +kernel
theorem dX8_vehicle_21 : decode cX8_vehicle 21 = .ok (.invokestatic 62, 3) := by decide +kernel
theorem dX8_vehicle_24 : decode cX8_vehicle 24 = .ok (.ifCond .eq 7, 3) := by decide +kernel
theorem dX8_vehicle_27 : decode cX8_vehicle 27 = .ok (.iconst 1, 1) := by decide +kernel
theorem dX8_vehicle_28 : decode cX8_vehicle 28 = .ok (.goto 4, 3) := by decide +kernel
theorem dX8_vehicle_31 : decode cX8_vehicle 31 = .ok (.iconst 0, 1) := by decide +kernel
theorem dX8_vehicle_32 : decode cX8_vehicle 32 = .ok (.invokestatic 66, 3) := by decide +kernel
theorem dX8_vehicle_35 : decode cX8_vehicle 35 = .ok (.aload_n 0, 1) := by decide +kernel
theorem dX8_vehicle_36 : decode cX8_vehicle 36 = .ok (.getfield 16, 3) := by decide +kernel
theorem dX8_vehicle_39 : decode cX8_vehicle 39 = .ok (.invokevirtual 69, 3) := by decide +kernel
theorem dX8_vehicle_42 : decode cX8_vehicle 42 = .ok (.bipush 8, 2) := by decide +kernel
theorem dX8_vehicle_44 : decode cX8_vehicle 44 = .ok (.if_icmp .ge 7, 3) := by decide +kernel
theorem dX8_vehicle_47 : decode cX8_vehicle 47 = .ok (.iconst 1, 1) := by decide +kernel
theorem dX8_vehicle_48 : decode cX8_vehicle 48 = .ok (.goto 4, 3) := by decide +kernel
theorem dX8_vehicle_51 : decode cX8_vehicle 51 = .ok (.iconst 0, 1) := by decide +kernel
theorem dX8_vehicle_52 : decode cX8_vehicle 52 = .ok (.invokestatic 73, 3) := by decide +kernel
theorem dX8_vehicle_55 : decode cX8_vehicle 55 = .ok (.aload_n 0, 1) := by decide +kernel
theorem dX8_vehicle_56 : decode cX8_vehicle 56 = .ok (.getfield 16, 3) := by decide +kernel
theorem dX8_vehicle_59 : decode cX8_vehicle 59 = .ok (.invokevirtual 69, 3) := by decide +kernel
theorem dX8_vehicle_62 : decode cX8_vehicle 62 = .ok (.istore 4, 2) := by decide +kernel
theorem dX8_vehicle_64 : decode cX8_vehicle 64 = .ok (.aload_n 0, 1) := by decide +kernel
theorem dX8_vehicle_65 : decode cX8_vehicle 65 = .ok (.getfield 16, 3) := by decide +kernel
theorem dX8_vehicle_68 : decode cX8_vehicle 68 = .ok (.new 121, 3) := by decide +kernel
theorem dX8_vehicle_71 : decode cX8_vehicle 71 = .ok (.dup, 1) := by decide +kernel
theorem dX8_vehicle_72 : decode cX8_vehicle 72 = .ok (.iload 4, 2) := by decide +kernel
theorem dX8_vehicle_74 : decode cX8_vehicle 74 = .ok (.iload_n 1, 1) := by decide +kernel
theorem dX8_vehicle_75 : decode cX8_vehicle 75 = .ok (.iload_n 2, 1) := by decide +kernel
theorem dX8_vehicle_76 : decode cX8_vehicle 76 = .ok (.iload_n 3, 1) := by decide +kernel
theorem dX8_vehicle_77 : decode cX8_vehicle 77 = .ok (.invokespecial 123, 3) := by decide +kernel
theorem dX8_vehicle_80 : decode cX8_vehicle 80 = .ok (.invokevirtual 81, 3) := by decide +kernel
theorem dX8_vehicle_83 : decode cX8_vehicle 83 = .ok (.pop, 1) := by decide +kernel
theorem dX8_vehicle_84 : decode cX8_vehicle 84 = .ok (.iload 4, 2) := by decide +kernel
theorem dX8_vehicle_86 : decode cX8_vehicle 86 = .ok (.ireturn, 1) := by decide +kernel
theorem dX8_exempt_0 : decode cX8_exempt 0 = .ok (.aload_n 0, 1) := by decide +kernel
theorem dX8_exempt_1 : decode cX8_exempt 1 = .ok (.iload_n 1, 1) := by decide +kernel
theorem dX8_exempt_2 : decode cX8_exempt 2 = .ok (.invokevirtual 126, 3) := by decide +kernel
theorem dX8_exempt_5 : decode cX8_exempt 5 = .ok (.ifCond .eq 14, 3) := by decide +kernel
theorem dX8_exempt_8 : decode cX8_exempt 8 = .ok (.iload_n 2, 1) := by decide +kernel
theorem dX8_exempt_9 : decode cX8_exempt 9 = .ok (.invokestatic 55, 3) := by decide +kernel
theorem dX8_exempt_12 : decode cX8_exempt 12 = .ok (.ifCond .eq 7, 3) := by decide +kernel
theorem dX8_exempt_15 : decode cX8_exempt 15 = .ok (.iconst 1, 1) := by decide +kernel
theorem dX8_exempt_16 : decode cX8_exempt 16 = .ok (.goto 4, 3) := by decide +kernel
theorem dX8_exempt_19 : decode cX8_exempt 19 = .ok (.iconst 0, 1) := by decide +kernel
theorem dX8_exempt_20 : decode cX8_exempt 20 = .ok (.invokestatic 58, 3) := by decide +kernel
theorem dX8_exempt_23 : decode cX8_exempt 23 = .ok (.aload_n 0, 1) := by decide +kernel
theorem dX8_exempt_24 : decode cX8_exempt 24 = .ok (.getfield 16, 3) := by decide +kernel
theorem dX8_exempt_27 : decode cX8_exempt 27 = .ok (.iload_n 1, 1) := by decide +kernel
theorem dX8_exempt_28 : decode cX8_exempt 28 = .ok (.invokevirtual 92, 3) := by decide +kernel
theorem dX8_exempt_31 : decode cX8_exempt 31 = .ok (.checkcast 121, 3) := by decide +kernel
theorem dX8_exempt_34 : decode cX8_exempt 34 = .ok (.astore 4, 2) := by decide +kernel
theorem dX8_exempt_36 : decode cX8_exempt 36 = .ok (.aload 4, 2) := by decide +kernel
theorem dX8_exempt_38 : decode cX8_exempt 38 = .ok (.iload_n 2, 1) := by decide +kernel
theorem dX8_exempt_39 : decode cX8_exempt 39 = .ok (.invokevirtual 129, 3) := by decide +kernel
theorem dX8_exempt_42 : decode cX8_exempt 42 = .ok (.istore 5, 2) := by decide +kernel
theorem dX8_exempt_44 : decode cX8_exempt 44 = .ok (.aload 4, 2) := by decide +kernel
theorem dX8_exempt_46 : decode cX8_exempt 46 = .ok (.iload_n 2, 1) := by decide +kernel
theorem dX8_exempt_47 : decode cX8_exempt 47 = .ok (.iload_n 3, 1) := by decide +kernel
theorem dX8_exempt_48 : decode cX8_exempt 48 = .ok (.invokevirtual 132, 3) := by decide +kernel
theorem dX8_exempt_51 : decode cX8_exempt 51 = .ok (.iload 5, 2) := by decide +kernel
theorem dX8_exempt_53 : decode cX8_exempt 53 = .ok (.ireturn, 1) := by decide +kernel
theorem dX8_pay_0 : decode cX8_pay 0 = .ok (.aload_n 0, 1) := by decide +kernel
theorem dX8_pay_1 : decode cX8_pay 1 = .ok (.iload_n 1, 1) := by decide +kernel
theorem dX8_pay_2 : decode cX8_pay 2 = .ok (.invokevirtual 126, 3) := by decide +kernel
theorem dX8_pay_5 : decode cX8_pay 5 = .ok (.invokestatic 58, 3) := by decide +kernel
theorem dX8_pay_8 : decode cX8_pay 8 = .ok (.iload_n 2, 1) := by decide +kernel
theorem dX8_pay_9 : decode cX8_pay 9 = .ok (.iconst 1, 1) := by decide +kernel
theorem dX8_pay_10 : decode cX8_pay 10 = .ok (.sipush 2000, 3) := by decide +kernel
theorem dX8_pay_13 : decode cX8_pay 13 = .ok (.invokestatic 62, 3) := by decide +kernel
theorem dX8_pay_16 : decode cX8_pay 16 = .ok (.invokestatic 66, 3) := by decide +kernel
theorem dX8_pay_19 : decode cX8_pay 19 = .ok (.aload_n 0, 1) := by decide +kernel
theorem dX8_pay_20 : decode cX8_pay 20 = .ok (.getfield 16, 3) := by decide +kernel
theorem dX8_pay_23 : decode cX8_pay 23 = .ok (.iload_n 1, 1) := by decide +kernel
theorem dX8_pay_24 : decode cX8_pay 24 = .ok (.invokevirtual 92, 3) := by decide +kernel
theorem dX8_pay_27 : decode cX8_pay 27 = .ok (.checkcast 121, 3) := by decide +kernel
theorem dX8_pay_30 : decode cX8_pay 30 = .ok (.astore_n 3, 1) := by decide +kernel
theorem dX8_pay_31 : decode cX8_pay 31 = .ok (.aload_n 3, 1) := by decide +kernel
theorem dX8_pay_32 : decode cX8_pay 32 = .ok (.dup, 1) := by decide +kernel
theorem dX8_pay_33 : decode cX8_pay 33 = .ok (.getfield 136, 3) := by decide +kernel
theorem dX8_pay_36 : decode cX8_pay 36 = .ok (.iload_n 2, 1) := by decide +kernel
theorem dX8_pay_37 : decode cX8_pay 37 = .ok (.iadd, 1) := by decide +kernel
theorem dX8_pay_38 : decode cX8_pay 38 = .ok (.putfield 136, 3) := by decide +kernel
theorem dX8_pay_41 : decode cX8_pay 41 = .ok (.aload_n 3, 1) := by decide +kernel
theorem dX8_pay_42 : decode cX8_pay 42 = .ok (.getfield 136, 3) := by decide +kernel
theorem dX8_pay_45 : decode cX8_pay 45 = .ok (.ireturn, 1) := by decide +kernel
theorem dX8_see_0 : decode cX8_see 0 = .ok (.aload_n 0, 1) := by decide +kernel
theorem dX8_see_1 : decode cX8_see 1 = .ok (.iload_n 1, 1) := by decide +kernel
theorem dX8_see_2 : decode cX8_see 2 = .ok (.invokevirtual 126, 3) := by decide +kernel
theorem dX8_see_5 : decode cX8_see 5 = .ok (.ifCond .eq 15, 3) := by decide +kernel
theorem dX8_see_8 : decode cX8_see 8 = .ok (.aload_n 0, 1) := by decide +kernel
theorem dX8_see_9 : decode cX8_see 9 = .ok (.iload_n 2, 1) := by decide +kernel
theorem dX8_see_10 : decode cX8_see 10 = .ok (.invokevirtual 85, 3) := by decide +kernel
theorem dX8_see_13 : decode cX8_see 13 = .ok (.ifCond .eq 7, 3) := by decide +kernel
theorem dX8_see_16 : decode cX8_see 16 = .ok (.iconst 1, 1) := by decide +kernel
theorem dX8_see_17 : decode cX8_see 17 = .ok (.goto 4, 3) := by decide +kernel
theorem dX8_see_20 : decode cX8_see 20 = .ok (.iconst 0, 1) := by decide +kernel
theorem dX8_see_21 : decode cX8_see 21 = .ok (.invokestatic 58, 3) := by decide +kernel
theorem dX8_see_24 : decode cX8_see 24 = .ok (.iload_n 3, 1) := by decide +kernel
theorem dX8_see_25 : decode cX8_see 25 = .ok (.iconst 0, 1) := by decide +kernel
theorem dX8_see_26 : decode cX8_see 26 = .ok (.aload_n 0, 1) := by decide +kernel
theorem dX8_see_27 : decode cX8_see 27 = .ok (.getfield 139, 3) := by decide +kernel
theorem dX8_see_30 : decode cX8_see 30 = .ok (.invokestatic 62, 3) := by decide +kernel
theorem dX8_see_33 : decode cX8_see 33 = .ok (.ifCond .eq 17, 3) := by decide +kernel
theorem dX8_see_36 : decode cX8_see 36 = .ok (.iload 4, 2) := by decide +kernel
theorem dX8_see_38 : decode cX8_see 38 = .ok (.iconst 0, 1) := by decide +kernel
theorem dX8_see_39 : decode cX8_see 39 = .ok (.iconst 2, 1) := by decide +kernel
theorem dX8_see_40 : decode cX8_see 40 = .ok (.invokestatic 62, 3) := by decide +kernel
theorem dX8_see_43 : decode cX8_see 43 = .ok (.ifCond .eq 7, 3) := by decide +kernel
theorem dX8_see_46 : decode cX8_see 46 = .ok (.iconst 1, 1) := by decide +kernel
theorem dX8_see_47 : decode cX8_see 47 = .ok (.goto 4, 3) := by decide +kernel
theorem dX8_see_50 : decode cX8_see 50 = .ok (.iconst 0, 1) := by decide +kernel
theorem dX8_see_51 : decode cX8_see 51 = .ok (.invokestatic 66, 3) := by decide +kernel
theorem dX8_see_54 : decode cX8_see 54 = .ok (.aload_n 0, 1) := by decide +kernel
theorem dX8_see_55 : decode cX8_see 55 = .ok (.iload_n 3, 1) := by decide +kernel
theorem dX8_see_56 : decode cX8_see 56 = .ok (.sipush 1440, 3) := by decide +kernel
theorem dX8_see_59 : decode cX8_see 59 = .ok (.idiv, 1) := by decide +kernel
theorem dX8_see_60 : decode cX8_see 60 = .ok (.invokevirtual 142, 3) := by decide +kernel
theorem dX8_see_63 : decode cX8_see 63 = .ok (.ifCond .ne 19, 3) := by decide +kernel
theorem dX8_see_66 : decode cX8_see 66 = .ok (.aload_n 0, 1) := by decide +kernel
theorem dX8_see_67 : decode cX8_see 67 = .ok (.getfield 19, 3) := by decide +kernel
theorem dX8_see_70 : decode cX8_see 70 = .ok (.invokevirtual 69, 3) := by decide +kernel
theorem dX8_see_73 : decode cX8_see 73 = .ok (.bipush 60, 2) := by decide +kernel
theorem dX8_see_75 : decode cX8_see 75 = .ok (.if_icmp .ge 7, 3) := by decide +kernel
theorem dX8_see_78 : decode cX8_see 78 = .ok (.iconst 1, 1) := by decide +kernel
theorem dX8_see_79 : decode cX8_see 79 = .ok (.goto 4, 3) := by decide +kernel
theorem dX8_see_82 : decode cX8_see 82 = .ok (.iconst 0, 1) := by decide +kernel
theorem dX8_see_83 : decode cX8_see 83 = .ok (.invokestatic 73, 3) := by decide +kernel
theorem dX8_see_86 : decode cX8_see 86 = .ok (.aload_n 0, 1) := by decide +kernel
theorem dX8_see_87 : decode cX8_see 87 = .ok (.getfield 19, 3) := by decide +kernel
theorem dX8_see_90 : decode cX8_see 90 = .ok (.invokevirtual 69, 3) := by decide +kernel
theorem dX8_see_93 : decode cX8_see 93 = .ok (.istore 5, 2) := by decide +kernel
theorem dX8_see_95 : decode cX8_see 95 = .ok (.aload_n 0, 1) := by decide +kernel
theorem dX8_see_96 : decode cX8_see 96 = .ok (.getfield 19, 3) := by decide +kernel
theorem dX8_see_99 : decode cX8_see 99 = .ok (.new 145, 3) := by decide +kernel
theorem dX8_see_102 : decode cX8_see 102 = .ok (.dup, 1) := by decide +kernel
theorem dX8_see_103 : decode cX8_see 103 = .ok (.aload_n 0, 1) := by decide +kernel
theorem dX8_see_104 : decode cX8_see 104 = .ok (.getfield 16, 3) := by decide +kernel
theorem dX8_see_107 : decode cX8_see 107 = .ok (.iload_n 1, 1) := by decide +kernel
theorem dX8_see_108 : decode cX8_see 108 = .ok (.invokevirtual 92, 3) := by decide +kernel
theorem dX8_see_111 : decode cX8_see 111 = .ok (.checkcast 121, 3) := by decide +kernel
theorem dX8_see_114 : decode cX8_see 114 = .ok (.aload_n 0, 1) := by decide +kernel
theorem dX8_see_115 : decode cX8_see 115 = .ok (.getfield 10, 3) := by decide +kernel
theorem dX8_see_118 : decode cX8_see 118 = .ok (.iload_n 2, 1) := by decide +kernel
theorem dX8_see_119 : decode cX8_see 119 = .ok (.invokevirtual 92, 3) := by decide +kernel
theorem dX8_see_122 : decode cX8_see 122 = .ok (.checkcast 76, 3) := by decide +kernel
theorem dX8_see_125 : decode cX8_see 125 = .ok (.iload_n 3, 1) := by decide +kernel
theorem dX8_see_126 : decode cX8_see 126 = .ok (.iload 4, 2) := by decide +kernel
theorem dX8_see_128 : decode cX8_see 128 = .ok (.invokespecial 147, 3) := by decide +kernel
theorem dX8_see_131 : decode cX8_see 131 = .ok (.invokevirtual 81, 3) := by decide +kernel
theorem dX8_see_134 : decode cX8_see 134 = .ok (.pop, 1) := by decide +kernel
theorem dX8_see_135 : decode cX8_see 135 = .ok (.iload 4, 2) := by decide +kernel
theorem dX8_see_137 : decode cX8_see 137 = .ok (.iconst 1, 1) := by decide +kernel
theorem dX8_see_138 : decode cX8_see 138 = .ok (.if_icmp .ne 24, 3) := by decide +kernel
theorem dX8_see_141 : decode cX8_see 141 = .ok (.aload_n 0, 1) := by decide +kernel
theorem dX8_see_142 : decode cX8_see 142 = .ok (.getfield 150, 3) := by decide +kernel
theorem dX8_see_145 : decode cX8_see 145 = .ok (.iload_n 1, 1) := by decide +kernel
theorem dX8_see_146 : decode cX8_see 146 = .ok (.invokestatic 153, 3) := by decide +kernel
theorem dX8_see_149 : decode cX8_see 149 = .ok (.ifCond .eq 13, 3) := by decide +kernel
theorem dX8_see_152 : decode cX8_see 152 = .ok (.aload_n 0, 1) := by decide +kernel
theorem dX8_see_153 : decode cX8_see 153 = .ok (.dup, 1) := by decide +kernel
theorem dX8_see_154 : decode cX8_see 154 = .ok (.getfield 157, 3) := by decide +kernel
theorem dX8_see_157 : decode cX8_see 157 = .ok (.iconst 1, 1) := by decide +kernel
theorem dX8_see_158 : decode cX8_see 158 = .ok (.iadd, 1) := by decide +kernel
theorem dX8_see_159 : decode cX8_see 159 = .ok (.putfield 157, 3) := by decide +kernel
theorem dX8_see_162 : decode cX8_see 162 = .ok (.iload 5, 2) := by decide +kernel
theorem dX8_see_164 : decode cX8_see 164 = .ok (.ireturn, 1) := by decide +kernel
theorem dX8_control_0 : decode cX8_control 0 = .ok (.aload_n 0, 1) := by decide +kernel
theorem dX8_control_1 : decode cX8_control 1 = .ok (.iload_n 1, 1) := by decide +kernel
theorem dX8_control_2 : decode cX8_control 2 = .ok (.invokevirtual 126, 3) := by decide +kernel
theorem dX8_control_5 : decode cX8_control 5 = .ok (.ifCond .eq 15, 3) := by decide +kernel
theorem dX8_control_8 : decode cX8_control 8 = .ok (.aload_n 0, 1) := by decide +kernel
theorem dX8_control_9 : decode cX8_control 9 = .ok (.iload_n 2, 1) := by decide +kernel
theorem dX8_control_10 : decode cX8_control 10 = .ok (.invokevirtual 85, 3) := by decide +kernel
theorem dX8_control_13 : decode cX8_control 13 = .ok (.ifCond .eq 7, 3) := by decide +kernel
theorem dX8_control_16 : decode cX8_control 16 = .ok (.iconst 1, 1) := by decide +kernel
theorem dX8_control_17 : decode cX8_control 17 = .ok (.goto 4, 3) := by decide +kernel
theorem dX8_control_20 : decode cX8_control 20 = .ok (.iconst 0, 1) := by decide +kernel
theorem dX8_control_21 : decode cX8_control 21 = .ok (.invokestatic 58, 3) := by decide +kernel
theorem dX8_control_24 : decode cX8_control 24 = .ok (.iload_n 3, 1) := by decide +kernel
theorem dX8_control_25 : decode cX8_control 25 = .ok (.iconst 0, 1) := by decide +kernel
theorem dX8_control_26 : decode cX8_control 26 = .ok (.aload_n 0, 1) := by decide +kernel
theorem dX8_control_27 : decode cX8_control 27 = .ok (.getfield 139, 3) := by decide +kernel
theorem dX8_control_30 : decode cX8_control 30 = .ok (.invokestatic 62, 3) := by decide +kernel
theorem dX8_control_33 : decode cX8_control 33 = .ok (.invokestatic 66, 3) := by decide +kernel
theorem dX8_control_36 : decode cX8_control 36 = .ok (.aload_n 0, 1) := by decide +kernel
theorem dX8_control_37 : decode cX8_control 37 = .ok (.iload_n 3, 1) := by decide +kernel
theorem dX8_control_38 : decode cX8_control 38 = .ok (.sipush 1440, 3) := by decide +kernel
theorem dX8_control_41 : decode cX8_control 41 = .ok (.idiv, 1) := by decide +kernel
theorem dX8_control_42 : decode cX8_control 42 = .ok (.invokevirtual 142, 3) := by decide +kernel
theorem dX8_control_45 : decode cX8_control 45 = .ok (.ifCond .ne 7, 3) := by decide +kernel
theorem dX8_control_48 : decode cX8_control 48 = .ok (.iconst 1, 1) := by decide +kernel
theorem dX8_control_49 : decode cX8_control 49 = .ok (.goto 4, 3) := by decide +kernel
theorem dX8_control_52 : decode cX8_control 52 = .ok (.iconst 0, 1) := by decide +kernel
theorem dX8_control_53 : decode cX8_control 53 = .ok (.invokestatic 73, 3) := by decide +kernel
theorem dX8_control_56 : decode cX8_control 56 = .ok (.aload_n 0, 1) := by decide +kernel
theorem dX8_control_57 : decode cX8_control 57 = .ok (.getfield 16, 3) := by decide +kernel
theorem dX8_control_60 : decode cX8_control 60 = .ok (.iload_n 1, 1) := by decide +kernel
theorem dX8_control_61 : decode cX8_control 61 = .ok (.invokevirtual 92, 3) := by decide +kernel
theorem dX8_control_64 : decode cX8_control 64 = .ok (.checkcast 121, 3) := by decide +kernel
theorem dX8_control_67 : decode cX8_control 67 = .ok (.astore 4, 2) := by decide +kernel
theorem dX8_control_69 : decode cX8_control 69 = .ok (.aload_n 0, 1) := by decide +kernel
theorem dX8_control_70 : decode cX8_control 70 = .ok (.getfield 10, 3) := by decide +kernel
theorem dX8_control_73 : decode cX8_control 73 = .ok (.iload_n 2, 1) := by decide +kernel
theorem dX8_control_74 : decode cX8_control 74 = .ok (.invokevirtual 92, 3) := by decide +kernel
theorem dX8_control_77 : decode cX8_control 77 = .ok (.checkcast 76, 3) := by decide +kernel
theorem dX8_control_80 : decode cX8_control 80 = .ok (.astore 5, 2) := by decide +kernel
theorem dX8_control_82 : decode cX8_control 82 = .ok (.aload_n 0, 1) := by decide +kernel
theorem dX8_control_83 : decode cX8_control 83 = .ok (.aload 4, 2) := by decide +kernel
theorem dX8_control_85 : decode cX8_control 85 = .ok (.aload 5, 2) := by decide +kernel
theorem dX8_control_87 : decode cX8_control 87 = .ok (.iload_n 3, 1) := by decide +kernel
theorem dX8_control_88 : decode cX8_control 88 = .ok (.invokevirtual 177, 3) := by decide +kernel
theorem dX8_control_91 : decode cX8_control 91 = .ok (.ifCond .eq 5, 3) := by decide +kernel
theorem dX8_control_94 : decode cX8_control 94 = .ok (.iconst (-1), 1) := by decide +kernel
theorem dX8_control_95 : decode cX8_control 95 = .ok (.ireturn, 1) := by decide +kernel
theorem dX8_control_96 : decode cX8_control 96 = .ok (.iconst 2, 1) := by decide +kernel
theorem dX8_control_97 : decode cX8_control 97 = .ok (.aload_n 0, 1) := by decide +kernel
theorem dX8_control_98 : decode cX8_control 98 = .ok (.aload 4, 2) := by decide +kernel
theorem dX8_control_100 : decode cX8_control 100 = .ok (.aload 5, 2) := by decide +kernel
theorem dX8_control_102 : decode cX8_control 102 = .ok (.iload_n 3, 1) := by decide +kernel
theorem dX8_control_103 : decode cX8_control 103 = .ok (.invokevirtual 181, 3) := by decide +kernel
theorem dX8_control_106 : decode cX8_control 106 = .ok (.imul, 1) := by decide +kernel
theorem dX8_control_107 : decode cX8_control 107 = .ok (.istore 6, 2) := by decide +kernel
theorem dX8_control_109 : decode cX8_control 109 = .ok (.aload 4, 2) := by decide +kernel
theorem dX8_control_111 : decode cX8_control 111 = .ok (.dup, 1) := by decide +kernel
theorem dX8_control_112 : decode cX8_control 112 = .ok (.getfield 136, 3) := by decide +kernel
theorem dX8_control_115 : decode cX8_control 115 = .ok (.iload 6, 2) := by decide +kernel
theorem dX8_control_117 : decode cX8_control 117 = .ok (.isub, 1) := by decide +kernel
theorem dX8_control_118 : decode cX8_control 118 = .ok (.putfield 136, 3) := by decide +kernel
theorem dX8_control_121 : decode cX8_control 121 = .ok (.aload 4, 2) := by decide +kernel
theorem dX8_control_123 : decode cX8_control 123 = .ok (.dup, 1) := by decide +kernel
theorem dX8_control_124 : decode cX8_control 124 = .ok (.getfield 185, 3) := by decide +kernel
theorem dX8_control_127 : decode cX8_control 127 = .ok (.iload 6, 2) := by decide +kernel
theorem dX8_control_129 : decode cX8_control 129 = .ok (.iadd, 1) := by decide +kernel
theorem dX8_control_130 : decode cX8_control 130 = .ok (.putfield 185, 3) := by decide +kernel
theorem dX8_control_133 : decode cX8_control 133 = .ok (.aload_n 0, 1) := by decide +kernel
theorem dX8_control_134 : decode cX8_control 134 = .ok (.getfield 32, 3) := by decide +kernel
theorem dX8_control_137 : decode cX8_control 137 = .ok (.dup, 1) := by decide +kernel
theorem dX8_control_138 : decode cX8_control 138 = .ok (.getfield 188, 3) := by decide +kernel
theorem dX8_control_141 : decode cX8_control 141 = .ok (.iload 6, 2) := by decide +kernel
theorem dX8_control_143 : decode cX8_control 143 = .ok (.iadd, 1) := by decide +kernel
theorem dX8_control_144 : decode cX8_control 144 = .ok (.putfield 188, 3) := by decide +kernel
theorem dX8_control_147 : decode cX8_control 147 = .ok (.aload_n 0, 1) := by decide +kernel
theorem dX8_control_148 : decode cX8_control 148 = .ok (.dup, 1) := by decide +kernel
theorem dX8_control_149 : decode cX8_control 149 = .ok (.getfield 191, 3) := by decide +kernel
theorem dX8_control_152 : decode cX8_control 152 = .ok (.iconst 1, 1) := by decide +kernel
theorem dX8_control_153 : decode cX8_control 153 = .ok (.iadd, 1) := by decide +kernel
theorem dX8_control_154 : decode cX8_control 154 = .ok (.putfield 191, 3) := by decide +kernel
theorem dX8_control_157 : decode cX8_control 157 = .ok (.iload 6, 2) := by decide +kernel
theorem dX8_control_159 : decode cX8_control 159 = .ok (.ireturn, 1) := by decide +kernel
theorem dX8_dispute_0 : decode cX8_dispute 0 = .ok (.aload_n 0, 1) := by decide +kernel
theorem dX8_dispute_1 : decode cX8_dispute 1 = .ok (.iload_n 1, 1) := by decide +kernel
theorem dX8_dispute_2 : decode cX8_dispute 2 = .ok (.invokevirtual 126, 3) := by decide +kernel
theorem dX8_dispute_5 : decode cX8_dispute 5 = .ok (.invokestatic 58, 3) := by decide +kernel
theorem dX8_dispute_8 : decode cX8_dispute 8 = .ok (.iload_n 2, 1) := by decide +kernel
theorem dX8_dispute_9 : decode cX8_dispute 9 = .ok (.ifCond .lt 25, 3) := by decide +kernel
theorem dX8_dispute_12 : decode cX8_dispute 12 = .ok (.aload_n 0, 1) := by decide +kernel
theorem dX8_dispute_13 : decode cX8_dispute 13 = .ok (.iload_n 2, 1) := by decide +kernel
theorem dX8_dispute_14 : decode cX8_dispute 14 = .ok (.invokevirtual 142, 3) := by decide +kernel
theorem dX8_dispute_17 : decode cX8_dispute 17 = .ok (.ifCond .eq 17, 3) := by decide +kernel
theorem dX8_dispute_20 : decode cX8_dispute 20 = .ok (.aload_n 0, 1) := by decide +kernel
theorem dX8_dispute_21 : decode cX8_dispute 21 = .ok (.invokevirtual 194, 3) := by decide +kernel
theorem dX8_dispute_24 : decode cX8_dispute 24 = .ok (.iload_n 2, 1) := by decide +kernel
theorem dX8_dispute_25 : decode cX8_dispute 25 = .ok (.isub, 1) := by decide +kernel
theorem dX8_dispute_26 : decode cX8_dispute 26 = .ok (.iconst 5, 1) := by decide +kernel
theorem dX8_dispute_27 : decode cX8_dispute 27 = .ok (.if_icmp .ge 7, 3) := by decide +kernel
theorem dX8_dispute_30 : decode cX8_dispute 30 = .ok (.iconst 1, 1) := by decide +kernel
theorem dX8_dispute_31 : decode cX8_dispute 31 = .ok (.goto 4, 3) := by decide +kernel
theorem dX8_dispute_34 : decode cX8_dispute 34 = .ok (.iconst 0, 1) := by decide +kernel
theorem dX8_dispute_35 : decode cX8_dispute 35 = .ok (.invokestatic 66, 3) := by decide +kernel
theorem dX8_dispute_38 : decode cX8_dispute 38 = .ok (.aload_n 0, 1) := by decide +kernel
theorem dX8_dispute_39 : decode cX8_dispute 39 = .ok (.getfield 16, 3) := by decide +kernel
theorem dX8_dispute_42 : decode cX8_dispute 42 = .ok (.iload_n 1, 1) := by decide +kernel
theorem dX8_dispute_43 : decode cX8_dispute 43 = .ok (.invokevirtual 92, 3) := by decide +kernel
theorem dX8_dispute_46 : decode cX8_dispute 46 = .ok (.checkcast 121, 3) := by decide +kernel
theorem dX8_dispute_49 : decode cX8_dispute 49 = .ok (.astore_n 3, 1) := by decide +kernel
theorem dX8_dispute_50 : decode cX8_dispute 50 = .ok (.aload_n 0, 1) := by decide +kernel
theorem dX8_dispute_51 : decode cX8_dispute 51 = .ok (.getfield 39, 3) := by decide +kernel
theorem dX8_dispute_54 : decode cX8_dispute 54 = .ok (.aload_n 0, 1) := by decide +kernel
theorem dX8_dispute_55 : decode cX8_dispute 55 = .ok (.getfield 19, 3) := by decide +kernel
theorem dX8_dispute_58 : decode cX8_dispute 58 = .ok (.aload_n 0, 1) := by decide +kernel
theorem dX8_dispute_59 : decode cX8_dispute 59 = .ok (.getfield 10, 3) := by decide +kernel
theorem dX8_dispute_62 : decode cX8_dispute 62 = .ok (.aload_n 3, 1) := by decide +kernel
theorem dX8_dispute_63 : decode cX8_dispute 63 = .ok (.iload_n 2, 1) := by decide +kernel
theorem dX8_dispute_64 : decode cX8_dispute 64 = .ok (.invokevirtual 197, 3) := by decide +kernel
theorem dX8_dispute_67 : decode cX8_dispute 67 = .ok (.aload_n 0, 1) := by decide +kernel
theorem dX8_dispute_68 : decode cX8_dispute 68 = .ok (.getfield 39, 3) := by decide +kernel
theorem dX8_dispute_71 : decode cX8_dispute 71 = .ok (.aload_n 3, 1) := by decide +kernel
theorem dX8_dispute_72 : decode cX8_dispute 72 = .ok (.aload_n 3, 1) := by decide +kernel
theorem dX8_dispute_73 : decode cX8_dispute 73 = .ok (.getfield 201, 3) := by decide +kernel
theorem dX8_dispute_76 : decode cX8_dispute 76 = .ok (.aload_n 0, 1) := by decide +kernel
theorem dX8_dispute_77 : decode cX8_dispute 77 = .ok (.getfield 32, 3) := by decide +kernel
theorem dX8_dispute_80 : decode cX8_dispute 80 = .ok (.iload_n 2, 1) := by decide +kernel
theorem dX8_dispute_81 : decode cX8_dispute 81 = .ok (.invokevirtual 204, 3) := by decide +kernel
theorem dX8_dispute_84 : decode cX8_dispute 84 = .ok (.aload_n 0, 1) := by decide +kernel
theorem dX8_dispute_85 : decode cX8_dispute 85 = .ok (.getfield 25, 3) := by decide +kernel
theorem dX8_dispute_88 : decode cX8_dispute 88 = .ok (.invokevirtual 208, 3) := by decide +kernel
theorem dX8_dispute_91 : decode cX8_dispute 91 = .ok (.pop, 1) := by decide +kernel
theorem dX8_dispute_92 : decode cX8_dispute 92 = .ok (.iconst 0, 1) := by decide +kernel
theorem dX8_dispute_93 : decode cX8_dispute 93 = .ok (.istore 4, 2) := by decide +kernel
theorem dX8_dispute_95 : decode cX8_dispute 95 = .ok (.iconst 0, 1) := by decide +kernel
theorem dX8_dispute_96 : decode cX8_dispute 96 = .ok (.istore 5, 2) := by decide +kernel
theorem dX8_dispute_98 : decode cX8_dispute 98 = .ok (.iload 5, 2) := by decide +kernel
theorem dX8_dispute_100 : decode cX8_dispute 100 = .ok (.iconst 4, 1) := by decide +kernel
theorem dX8_dispute_101 : decode cX8_dispute 101 = .ok (.if_icmp .ge 34, 3) := by decide +kernel
theorem dX8_dispute_104 : decode cX8_dispute 104 = .ok (.iload 4, 2) := by decide +kernel
theorem dX8_dispute_106 : decode cX8_dispute 106 = .ok (.aload_n 0, 1) := by decide +kernel
theorem dX8_dispute_107 : decode cX8_dispute 107 = .ok (.getfield 32, 3) := by decide +kernel
theorem dX8_dispute_110 : decode cX8_dispute 110 = .ok (.iload_n 2, 1) := by decide +kernel
theorem dX8_dispute_111 : decode cX8_dispute 111 = .ok (.iload_n 1, 1) := by decide +kernel
theorem dX8_dispute_112 : decode cX8_dispute 112 = .ok (.iload 5, 2) := by decide +kernel
theorem dX8_dispute_114 : decode cX8_dispute 114 = .ok (.aload_n 0, 1) := by decide +kernel
theorem dX8_dispute_115 : decode cX8_dispute 115 = .ok (.getfield 39, 3) := by decide +kernel
theorem dX8_dispute_118 : decode cX8_dispute 118 = .ok (.iload 5, 2) := by decide +kernel
theorem dX8_dispute_120 : decode cX8_dispute 120 = .ok (.invokevirtual 212, 3) := by decide +kernel
theorem dX8_dispute_123 : decode cX8_dispute 123 = .ok (.invokevirtual 215, 3) := by decide +kernel
theorem dX8_dispute_126 : decode cX8_dispute 126 = .ok (.iadd, 1) := by decide +kernel
theorem dX8_dispute_127 : decode cX8_dispute 127 = .ok (.istore 4, 2) := by decide +kernel
theorem dX8_dispute_129 : decode cX8_dispute 129 = .ok (.iinc 5 1, 3) := by decide +kernel
theorem dX8_dispute_132 : decode cX8_dispute 132 = .ok (.goto (-34), 3) := by decide +kernel
theorem dX8_dispute_135 : decode cX8_dispute 135 = .ok (.aload_n 3, 1) := by decide +kernel
theorem dX8_dispute_136 : decode cX8_dispute 136 = .ok (.dup, 1) := by decide +kernel
theorem dX8_dispute_137 : decode cX8_dispute 137 = .ok (.getfield 136, 3) := by decide +kernel
theorem dX8_dispute_140 : decode cX8_dispute 140 = .ok (.iload 4, 2) := by decide +kernel
theorem dX8_dispute_142 : decode cX8_dispute 142 = .ok (.iadd, 1) := by decide +kernel
theorem dX8_dispute_143 : decode cX8_dispute 143 = .ok (.putfield 136, 3) := by decide +kernel
theorem dX8_dispute_146 : decode cX8_dispute 146 = .ok (.aload_n 3, 1) := by decide +kernel
theorem dX8_dispute_147 : decode cX8_dispute 147 = .ok (.dup, 1) := by decide +kernel
theorem dX8_dispute_148 : decode cX8_dispute 148 = .ok (.getfield 219, 3) := by decide +kernel
theorem dX8_dispute_151 : decode cX8_dispute 151 = .ok (.iload 4, 2) := by decide +kernel
theorem dX8_dispute_153 : decode cX8_dispute 153 = .ok (.isub, 1) := by decide +kernel
theorem dX8_dispute_154 : decode cX8_dispute 154 = .ok (.putfield 219, 3) := by decide +kernel
theorem dX8_dispute_157 : decode cX8_dispute 157 = .ok (.iload 4, 2) := by decide +kernel
theorem dX8_dispute_159 : decode cX8_dispute 159 = .ok (.ireturn, 1) := by decide +kernel
theorem dX8_pass_0 : decode cX8_pass 0 = .ok (.iload_n 1, 1) := by decide +kernel
theorem dX8_pass_1 : decode cX8_pass 1 = .ok (.iconst 1, 1) := by decide +kernel
theorem dX8_pass_2 : decode cX8_pass 2 = .ok (.sipush 3000, 3) := by decide +kernel
theorem dX8_pass_5 : decode cX8_pass 5 = .ok (.invokestatic 62, 3) := by decide +kernel
theorem dX8_pass_8 : decode cX8_pass 8 = .ok (.invokestatic 66, 3) := by decide +kernel
theorem dX8_pass_11 : decode cX8_pass 11 = .ok (.aload_n 0, 1) := by decide +kernel
theorem dX8_pass_12 : decode cX8_pass 12 = .ok (.getfield 139, 3) := by decide +kernel
theorem dX8_pass_15 : decode cX8_pass 15 = .ok (.iload_n 1, 1) := by decide +kernel
theorem dX8_pass_16 : decode cX8_pass 16 = .ok (.iadd, 1) := by decide +kernel
theorem dX8_pass_17 : decode cX8_pass 17 = .ok (.ldc 88, 2) := by decide +kernel
theorem dX8_pass_19 : decode cX8_pass 19 = .ok (.if_icmp .gt 7, 3) := by decide +kernel
theorem dX8_pass_22 : decode cX8_pass 22 = .ok (.iconst 1, 1) := by decide +kernel
theorem dX8_pass_23 : decode cX8_pass 23 = .ok (.goto 4, 3) := by decide +kernel
theorem dX8_pass_26 : decode cX8_pass 26 = .ok (.iconst 0, 1) := by decide +kernel
theorem dX8_pass_27 : decode cX8_pass 27 = .ok (.invokestatic 73, 3) := by decide +kernel
theorem dX8_pass_30 : decode cX8_pass 30 = .ok (.aload_n 0, 1) := by decide +kernel
theorem dX8_pass_31 : decode cX8_pass 31 = .ok (.getfield 139, 3) := by decide +kernel
theorem dX8_pass_34 : decode cX8_pass 34 = .ok (.iload_n 1, 1) := by decide +kernel
theorem dX8_pass_35 : decode cX8_pass 35 = .ok (.iadd, 1) := by decide +kernel
theorem dX8_pass_36 : decode cX8_pass 36 = .ok (.istore_n 2, 1) := by decide +kernel
theorem dX8_pass_37 : decode cX8_pass 37 = .ok (.iconst 0, 1) := by decide +kernel
theorem dX8_pass_38 : decode cX8_pass 38 = .ok (.istore_n 3, 1) := by decide +kernel
theorem dX8_pass_39 : decode cX8_pass 39 = .ok (.aload_n 0, 1) := by decide +kernel
theorem dX8_pass_40 : decode cX8_pass 40 = .ok (.invokevirtual 194, 3) := by decide +kernel
theorem dX8_pass_43 : decode cX8_pass 43 = .ok (.iconst 1, 1) := by decide +kernel
theorem dX8_pass_44 : decode cX8_pass 44 = .ok (.iadd, 1) := by decide +kernel
theorem dX8_pass_45 : decode cX8_pass 45 = .ok (.istore 4, 2) := by decide +kernel
theorem dX8_pass_47 : decode cX8_pass 47 = .ok (.iload 4, 2) := by decide +kernel
theorem dX8_pass_49 : decode cX8_pass 49 = .ok (.iload_n 2, 1) := by decide +kernel
theorem dX8_pass_50 : decode cX8_pass 50 = .ok (.sipush 1440, 3) := by decide +kernel
theorem dX8_pass_53 : decode cX8_pass 53 = .ok (.idiv, 1) := by decide +kernel
theorem dX8_pass_54 : decode cX8_pass 54 = .ok (.if_icmp .gt 36, 3) := by decide +kernel
theorem dX8_pass_57 : decode cX8_pass 57 = .ok (.iload_n 3, 1) := by decide +kernel
theorem dX8_pass_58 : decode cX8_pass 58 = .ok (.aload_n 0, 1) := by decide +kernel
theorem dX8_pass_59 : decode cX8_pass 59 = .ok (.iload 4, 2) := by decide +kernel
theorem dX8_pass_61 : decode cX8_pass 61 = .ok (.iconst 2, 1) := by decide +kernel
theorem dX8_pass_62 : decode cX8_pass 62 = .ok (.isub, 1) := by decide +kernel
theorem dX8_pass_63 : decode cX8_pass 63 = .ok (.invokevirtual 222, 3) := by decide +kernel
theorem dX8_pass_66 : decode cX8_pass 66 = .ok (.iadd, 1) := by decide +kernel
theorem dX8_pass_67 : decode cX8_pass 67 = .ok (.istore_n 3, 1) := by decide +kernel
theorem dX8_pass_68 : decode cX8_pass 68 = .ok (.aload_n 0, 1) := by decide +kernel
theorem dX8_pass_69 : decode cX8_pass 69 = .ok (.aload_n 0, 1) := by decide +kernel
theorem dX8_pass_70 : decode cX8_pass 70 = .ok (.invokevirtual 225, 3) := by decide +kernel
theorem dX8_pass_73 : decode cX8_pass 73 = .ok (.putfield 150, 3) := by decide +kernel
theorem dX8_pass_76 : decode cX8_pass 76 = .ok (.aload_n 0, 1) := by decide +kernel
theorem dX8_pass_77 : decode cX8_pass 77 = .ok (.iload 4, 2) := by decide +kernel
theorem dX8_pass_79 : decode cX8_pass 79 = .ok (.iconst 5, 1) := by decide +kernel
theorem dX8_pass_80 : decode cX8_pass 80 = .ok (.isub, 1) := by decide +kernel
theorem dX8_pass_81 : decode cX8_pass 81 = .ok (.invokevirtual 228, 3) := by decide +kernel
theorem dX8_pass_84 : decode cX8_pass 84 = .ok (.iinc 4 1, 3) := by decide +kernel
theorem dX8_pass_87 : decode cX8_pass 87 = .ok (.goto (-40), 3) := by decide +kernel
theorem dX8_pass_90 : decode cX8_pass 90 = .ok (.aload_n 0, 1) := by decide +kernel
theorem dX8_pass_91 : decode cX8_pass 91 = .ok (.iload_n 2, 1) := by decide +kernel
theorem dX8_pass_92 : decode cX8_pass 92 = .ok (.putfield 139, 3) := by decide +kernel
theorem dX8_pass_95 : decode cX8_pass 95 = .ok (.iload_n 3, 1) := by decide +kernel
theorem dX8_pass_96 : decode cX8_pass 96 = .ok (.ireturn, 1) := by decide +kernel
theorem dX8_ofSegment_0 : decode cX8_ofSegment 0 = .ok (.aload_n 0, 1) := by decide +kernel
theorem dX8_ofSegment_1 : decode cX8_ofSegment 1 = .ok (.iload_n 1, 1) := by decide +kernel
theorem dX8_ofSegment_2 : decode cX8_ofSegment 2 = .ok (.invokevirtual 85, 3) := by decide +kernel
theorem dX8_ofSegment_5 : decode cX8_ofSegment 5 = .ok (.invokestatic 58, 3) := by decide +kernel
theorem dX8_ofSegment_8 : decode cX8_ofSegment 8 = .ok (.iload_n 2, 1) := by decide +kernel
theorem dX8_ofSegment_9 : decode cX8_ofSegment 9 = .ok (.iconst 0, 1) := by decide +kernel
theorem dX8_ofSegment_10 : decode cX8_ofSegment 10 = .ok (.iconst 4, 1) := by decide +kernel
theorem dX8_ofSegment_11 : decode cX8_ofSegment 11 = .ok (.invokestatic 62, 3) := by decide +kernel
theorem dX8_ofSegment_14 : decode cX8_ofSegment 14 = .ok (.invokestatic 66, 3) := by decide +kernel
theorem dX8_ofSegment_17 : decode cX8_ofSegment 17 = .ok (.aload_n 0, 1) := by decide +kernel
theorem dX8_ofSegment_18 : decode cX8_ofSegment 18 = .ok (.getfield 10, 3) := by decide +kernel
theorem dX8_ofSegment_21 : decode cX8_ofSegment 21 = .ok (.iload_n 1, 1) := by decide +kernel
theorem dX8_ofSegment_22 : decode cX8_ofSegment 22 = .ok (.invokevirtual 92, 3) := by decide +kernel
theorem dX8_ofSegment_25 : decode cX8_ofSegment 25 = .ok (.checkcast 76, 3) := by decide +kernel
theorem dX8_ofSegment_28 : decode cX8_ofSegment 28 = .ok (.astore_n 3, 1) := by decide +kernel
theorem dX8_ofSegment_29 : decode cX8_ofSegment 29 = .ok (.iload_n 2, 1) := by decide +kernel
theorem dX8_ofSegment_30 : decode cX8_ofSegment 30 = .ok (.tableswitch 50 0 3 #[30, 35, 40, 45], 30) := by decide +kernel
theorem dX8_ofSegment_60 : decode cX8_ofSegment 60 = .ok (.aload_n 3, 1) := by decide +kernel
theorem dX8_ofSegment_61 : decode cX8_ofSegment 61 = .ok (.getfield 231, 3) := by decide +kernel
theorem dX8_ofSegment_64 : decode cX8_ofSegment 64 = .ok (.ireturn, 1) := by decide +kernel
theorem dX8_ofSegment_65 : decode cX8_ofSegment 65 = .ok (.aload_n 3, 1) := by decide +kernel
theorem dX8_ofSegment_66 : decode cX8_ofSegment 66 = .ok (.getfield 234, 3) := by decide +kernel
theorem dX8_ofSegment_69 : decode cX8_ofSegment 69 = .ok (.ireturn, 1) := by decide +kernel
theorem dX8_ofSegment_70 : decode cX8_ofSegment 70 = .ok (.aload_n 3, 1) := by decide +kernel
theorem dX8_ofSegment_71 : decode cX8_ofSegment 71 = .ok (.getfield 237, 3) := by decide +kernel
theorem dX8_ofSegment_74 : decode cX8_ofSegment 74 = .ok (.ireturn, 1) := by decide +kernel
theorem dX8_ofSegment_75 : decode cX8_ofSegment 75 = .ok (.aload_n 3, 1) := by decide +kernel
theorem dX8_ofSegment_76 : decode cX8_ofSegment 76 = .ok (.getfield 240, 3) := by decide +kernel
theorem dX8_ofSegment_79 : decode cX8_ofSegment 79 = .ok (.ireturn, 1) := by decide +kernel
theorem dX8_ofSegment_80 : decode cX8_ofSegment 80 = .ok (.aload_n 3, 1) := by decide +kernel
theorem dX8_ofSegment_81 : decode cX8_ofSegment 81 = .ok (.aload_n 0, 1) := by decide +kernel
theorem dX8_ofSegment_82 : decode cX8_ofSegment 82 = .ok (.getfield 139, 3) := by decide +kernel
theorem dX8_ofSegment_85 : decode cX8_ofSegment 85 = .ok (.invokevirtual 243, 3) := by decide +kernel
theorem dX8_ofSegment_88 : decode cX8_ofSegment 88 = .ok (.ifCond .eq 7, 3) := by decide +kernel
theorem dX8_ofSegment_91 : decode cX8_ofSegment 91 = .ok (.iconst 1, 1) := by decide +kernel
theorem dX8_ofSegment_92 : decode cX8_ofSegment 92 = .ok (.goto 4, 3) := by decide +kernel
theorem dX8_ofSegment_95 : decode cX8_ofSegment 95 = .ok (.iconst 0, 1) := by decide +kernel
theorem dX8_ofSegment_96 : decode cX8_ofSegment 96 = .ok (.ireturn, 1) := by decide +kernel
theorem dX8_ofVehicle_0 : decode cX8_ofVehicle 0 = .ok (.aload_n 0, 1) := by decide +kernel
theorem dX8_ofVehicle_1 : decode cX8_ofVehicle 1 = .ok (.iload_n 1, 1) := by decide +kernel
theorem dX8_ofVehicle_2 : decode cX8_ofVehicle 2 = .ok (.invokevirtual 126, 3) := by decide +kernel
theorem dX8_ofVehicle_5 : decode cX8_ofVehicle 5 = .ok (.invokestatic 58, 3) := by decide +kernel
theorem dX8_ofVehicle_8 : decode cX8_ofVehicle 8 = .ok (.iload_n 2, 1) := by decide +kernel
theorem dX8_ofVehicle_9 : decode cX8_ofVehicle 9 = .ok (.iconst 0, 1) := by decide +kernel
theorem dX8_ofVehicle_10 : decode cX8_ofVehicle 10 = .ok (.bipush 7, 2) := by decide +kernel
theorem dX8_ofVehicle_12 : decode cX8_ofVehicle 12 = .ok (.invokestatic 62, 3) := by decide +kernel
theorem dX8_ofVehicle_15 : decode cX8_ofVehicle 15 = .ok (.invokestatic 66, 3) := by decide +kernel
theorem dX8_ofVehicle_18 : decode cX8_ofVehicle 18 = .ok (.aload_n 0, 1) := by decide +kernel
theorem dX8_ofVehicle_19 : decode cX8_ofVehicle 19 = .ok (.getfield 16, 3) := by decide +kernel
theorem dX8_ofVehicle_22 : decode cX8_ofVehicle 22 = .ok (.iload_n 1, 1) := by decide +kernel
theorem dX8_ofVehicle_23 : decode cX8_ofVehicle 23 = .ok (.invokevirtual 92, 3) := by decide +kernel
theorem dX8_ofVehicle_26 : decode cX8_ofVehicle 26 = .ok (.checkcast 121, 3) := by decide +kernel
theorem dX8_ofVehicle_29 : decode cX8_ofVehicle 29 = .ok (.astore_n 3, 1) := by decide +kernel
theorem dX8_ofVehicle_30 : decode cX8_ofVehicle 30 = .ok (.iload_n 2, 1) := by decide +kernel
theorem dX8_ofVehicle_31 : decode cX8_ofVehicle 31 = .ok (.tableswitch 84 0 6 #[41, 46, 51, 56, 61, 74, 79], 41) := by decide +kernel
theorem dX8_ofVehicle_72 : decode cX8_ofVehicle 72 = .ok (.aload_n 3, 1) := by decide +kernel
theorem dX8_ofVehicle_73 : decode cX8_ofVehicle 73 = .ok (.getfield 201, 3) := by decide +kernel
theorem dX8_ofVehicle_76 : decode cX8_ofVehicle 76 = .ok (.ireturn, 1) := by decide +kernel
theorem dX8_ofVehicle_77 : decode cX8_ofVehicle 77 = .ok (.aload_n 3, 1) := by decide +kernel
theorem dX8_ofVehicle_78 : decode cX8_ofVehicle 78 = .ok (.getfield 246, 3) := by decide +kernel
theorem dX8_ofVehicle_81 : decode cX8_ofVehicle 81 = .ok (.ireturn, 1) := by decide +kernel
theorem dX8_ofVehicle_82 : decode cX8_ofVehicle 82 = .ok (.aload_n 3, 1) := by decide +kernel
theorem dX8_ofVehicle_83 : decode cX8_ofVehicle 83 = .ok (.getfield 249, 3) := by decide +kernel
theorem dX8_ofVehicle_86 : decode cX8_ofVehicle 86 = .ok (.ireturn, 1) := by decide +kernel
theorem dX8_ofVehicle_87 : decode cX8_ofVehicle 87 = .ok (.aload_n 3, 1) := by decide +kernel
theorem dX8_ofVehicle_88 : decode cX8_ofVehicle 88 = .ok (.getfield 136, 3) := by decide +kernel
theorem dX8_ofVehicle_91 : decode cX8_ofVehicle 91 = .ok (.ireturn, 1) := by decide +kernel
theorem dX8_ofVehicle_92 : decode cX8_ofVehicle 92 = .ok (.aload_n 3, 1) := by decide +kernel
theorem dX8_ofVehicle_93 : decode cX8_ofVehicle 93 = .ok (.invokevirtual 252, 3) := by decide +kernel
theorem dX8_ofVehicle_96 : decode cX8_ofVehicle 96 = .ok (.ifCond .eq 7, 3) := by decide +kernel
theorem dX8_ofVehicle_99 : decode cX8_ofVehicle 99 = .ok (.iconst 1, 1) := by decide +kernel
theorem dX8_ofVehicle_100 : decode cX8_ofVehicle 100 = .ok (.goto 4, 3) := by decide +kernel
theorem dX8_ofVehicle_103 : decode cX8_ofVehicle 103 = .ok (.iconst 0, 1) := by decide +kernel
theorem dX8_ofVehicle_104 : decode cX8_ofVehicle 104 = .ok (.ireturn, 1) := by decide +kernel
theorem dX8_ofVehicle_105 : decode cX8_ofVehicle 105 = .ok (.aload_n 3, 1) := by decide +kernel
theorem dX8_ofVehicle_106 : decode cX8_ofVehicle 106 = .ok (.getfield 256, 3) := by decide +kernel
theorem dX8_ofVehicle_109 : decode cX8_ofVehicle 109 = .ok (.ireturn, 1) := by decide +kernel
theorem dX8_ofVehicle_110 : decode cX8_ofVehicle 110 = .ok (.aload_n 3, 1) := by decide +kernel
theorem dX8_ofVehicle_111 : decode cX8_ofVehicle 111 = .ok (.getfield 219, 3) := by decide +kernel
theorem dX8_ofVehicle_114 : decode cX8_ofVehicle 114 = .ok (.ireturn, 1) := by decide +kernel
theorem dX8_ofVehicle_115 : decode cX8_ofVehicle 115 = .ok (.aload_n 3, 1) := by decide +kernel
theorem dX8_ofVehicle_116 : decode cX8_ofVehicle 116 = .ok (.getfield 185, 3) := by decide +kernel
theorem dX8_ofVehicle_119 : decode cX8_ofVehicle 119 = .ok (.ireturn, 1) := by decide +kernel
theorem dX8_ofSighting_0 : decode cX8_ofSighting 0 = .ok (.aload_n 0, 1) := by decide +kernel
theorem dX8_ofSighting_1 : decode cX8_ofSighting 1 = .ok (.iload_n 1, 1) := by decide +kernel
theorem dX8_ofSighting_2 : decode cX8_ofSighting 2 = .ok (.invokevirtual 160, 3) := by decide +kernel
theorem dX8_ofSighting_5 : decode cX8_ofSighting 5 = .ok (.invokestatic 58, 3) := by decide +kernel
theorem dX8_ofSighting_8 : decode cX8_ofSighting 8 = .ok (.iload_n 2, 1) := by decide +kernel
theorem dX8_ofSighting_9 : decode cX8_ofSighting 9 = .ok (.iconst 0, 1) := by decide +kernel
theorem dX8_ofSighting_10 : decode cX8_ofSighting 10 = .ok (.iconst 4, 1) := by decide +kernel
theorem dX8_ofSighting_11 : decode cX8_ofSighting 11 = .ok (.invokestatic 62, 3) := by decide +kernel
theorem dX8_ofSighting_14 : decode cX8_ofSighting 14 = .ok (.invokestatic 66, 3) := by decide +kernel
theorem dX8_ofSighting_17 : decode cX8_ofSighting 17 = .ok (.aload_n 0, 1) := by decide +kernel
theorem dX8_ofSighting_18 : decode cX8_ofSighting 18 = .ok (.getfield 19, 3) := by decide +kernel
theorem dX8_ofSighting_21 : decode cX8_ofSighting 21 = .ok (.iload_n 1, 1) := by decide +kernel
theorem dX8_ofSighting_22 : decode cX8_ofSighting 22 = .ok (.invokevirtual 92, 3) := by decide +kernel
theorem dX8_ofSighting_25 : decode cX8_ofSighting 25 = .ok (.checkcast 145, 3) := by decide +kernel
theorem dX8_ofSighting_28 : decode cX8_ofSighting 28 = .ok (.astore_n 3, 1) := by decide +kernel
theorem dX8_ofSighting_29 : decode cX8_ofSighting 29 = .ok (.iload_n 2, 1) := by decide +kernel
theorem dX8_ofSighting_30 : decode cX8_ofSighting 30 = .ok (.iconst 4, 1) := by decide +kernel
theorem dX8_ofSighting_31 : decode cX8_ofSighting 31 = .ok (.if_icmp .ne 16, 3) := by decide +kernel
theorem dX8_ofSighting_34 : decode cX8_ofSighting 34 = .ok (.aload_n 3, 1) := by decide +kernel
theorem dX8_ofSighting_35 : decode cX8_ofSighting 35 = .ok (.getfield 166, 3) := by decide +kernel
theorem dX8_ofSighting_38 : decode cX8_ofSighting 38 = .ok (.ifCond .eq 7, 3) := by decide +kernel
theorem dX8_ofSighting_41 : decode cX8_ofSighting 41 = .ok (.iconst 1, 1) := by decide +kernel
theorem dX8_ofSighting_42 : decode cX8_ofSighting 42 = .ok (.goto 4, 3) := by decide +kernel
theorem dX8_ofSighting_45 : decode cX8_ofSighting 45 = .ok (.iconst 0, 1) := by decide +kernel
theorem dX8_ofSighting_46 : decode cX8_ofSighting 46 = .ok (.ireturn, 1) := by decide +kernel
theorem dX8_ofSighting_47 : decode cX8_ofSighting 47 = .ok (.aload_n 3, 1) := by decide +kernel
theorem dX8_ofSighting_48 : decode cX8_ofSighting 48 = .ok (.getfield 166, 3) := by decide +kernel
theorem dX8_ofSighting_51 : decode cX8_ofSighting 51 = .ok (.ifCond .eq 5, 3) := by decide +kernel
theorem dX8_ofSighting_54 : decode cX8_ofSighting 54 = .ok (.iconst (-1), 1) := by decide +kernel
theorem dX8_ofSighting_55 : decode cX8_ofSighting 55 = .ok (.ireturn, 1) := by decide +kernel
theorem dX8_ofSighting_56 : decode cX8_ofSighting 56 = .ok (.iload_n 2, 1) := by decide +kernel
theorem dX8_ofSighting_57 : decode cX8_ofSighting 57 = .ok (.tableswitch 48 0 2 #[27, 35, 43], 27) := by decide +kernel
theorem dX8_ofSighting_84 : decode cX8_ofSighting 84 = .ok (.aload_n 3, 1) := by decide +kernel
theorem dX8_ofSighting_85 : decode cX8_ofSighting 85 = .ok (.getfield 170, 3) := by decide +kernel
theorem dX8_ofSighting_88 : decode cX8_ofSighting 88 = .ok (.getfield 174, 3) := by decide +kernel
theorem dX8_ofSighting_91 : decode cX8_ofSighting 91 = .ok (.ireturn, 1) := by decide +kernel
theorem dX8_ofSighting_92 : decode cX8_ofSighting 92 = .ok (.aload_n 3, 1) := by decide +kernel
theorem dX8_ofSighting_93 : decode cX8_ofSighting 93 = .ok (.getfield 259, 3) := by decide +kernel
theorem dX8_ofSighting_96 : decode cX8_ofSighting 96 = .ok (.getfield 263, 3) := by decide +kernel
theorem dX8_ofSighting_99 : decode cX8_ofSighting 99 = .ok (.ireturn, 1) := by decide +kernel
theorem dX8_ofSighting_100 : decode cX8_ofSighting 100 = .ok (.aload_n 3, 1) := by decide +kernel
theorem dX8_ofSighting_101 : decode cX8_ofSighting 101 = .ok (.getfield 264, 3) := by decide +kernel
theorem dX8_ofSighting_104 : decode cX8_ofSighting 104 = .ok (.ireturn, 1) := by decide +kernel
theorem dX8_ofSighting_105 : decode cX8_ofSighting 105 = .ok (.aload_n 3, 1) := by decide +kernel
theorem dX8_ofSighting_106 : decode cX8_ofSighting 106 = .ok (.getfield 163, 3) := by decide +kernel
theorem dX8_ofSighting_109 : decode cX8_ofSighting 109 = .ok (.ireturn, 1) := by decide +kernel
theorem dX8_ofOwner_0 : decode cX8_ofOwner 0 = .ok (.iload_n 1, 1) := by decide +kernel
theorem dX8_ofOwner_1 : decode cX8_ofOwner 1 = .ok (.invokestatic 55, 3) := by decide +kernel
theorem dX8_ofOwner_4 : decode cX8_ofOwner 4 = .ok (.invokestatic 58, 3) := by decide +kernel
theorem dX8_ofOwner_7 : decode cX8_ofOwner 7 = .ok (.iload_n 2, 1) := by decide +kernel
theorem dX8_ofOwner_8 : decode cX8_ofOwner 8 = .ok (.iconst 0, 1) := by decide +kernel
theorem dX8_ofOwner_9 : decode cX8_ofOwner 9 = .ok (.iconst 3, 1) := by decide +kernel
theorem dX8_ofOwner_10 : decode cX8_ofOwner 10 = .ok (.invokestatic 62, 3) := by decide +kernel
theorem dX8_ofOwner_13 : decode cX8_ofOwner 13 = .ok (.invokestatic 66, 3) := by decide +kernel
theorem dX8_ofOwner_16 : decode cX8_ofOwner 16 = .ok (.iload_n 2, 1) := by decide +kernel
theorem dX8_ofOwner_17 : decode cX8_ofOwner 17 = .ok (.ifCond .ne 12, 3) := by decide +kernel
theorem dX8_ofOwner_20 : decode cX8_ofOwner 20 = .ok (.aload_n 0, 1) := by decide +kernel
theorem dX8_ofOwner_21 : decode cX8_ofOwner 21 = .ok (.getfield 32, 3) := by decide +kernel
theorem dX8_ofOwner_24 : decode cX8_ofOwner 24 = .ok (.iload_n 1, 1) := by decide +kernel
theorem dX8_ofOwner_25 : decode cX8_ofOwner 25 = .ok (.invokevirtual 267, 3) := by decide +kernel
theorem dX8_ofOwner_28 : decode cX8_ofOwner 28 = .ok (.ireturn, 1) := by decide +kernel
theorem dX8_ofOwner_29 : decode cX8_ofOwner 29 = .ok (.aload_n 0, 1) := by decide +kernel
theorem dX8_ofOwner_30 : decode cX8_ofOwner 30 = .ok (.getfield 25, 3) := by decide +kernel
theorem dX8_ofOwner_33 : decode cX8_ofOwner 33 = .ok (.iload_n 1, 1) := by decide +kernel
theorem dX8_ofOwner_34 : decode cX8_ofOwner 34 = .ok (.aload_n 0, 1) := by decide +kernel
theorem dX8_ofOwner_35 : decode cX8_ofOwner 35 = .ok (.invokevirtual 194, 3) := by decide +kernel
theorem dX8_ofOwner_38 : decode cX8_ofOwner 38 = .ok (.invokevirtual 270, 3) := by decide +kernel
theorem dX8_ofOwner_41 : decode cX8_ofOwner 41 = .ok (.astore_n 3, 1) := by decide +kernel
theorem dX8_ofOwner_42 : decode cX8_ofOwner 42 = .ok (.aload_n 3, 1) := by decide +kernel
theorem dX8_ofOwner_43 : decode cX8_ofOwner 43 = .ok (.ifnonnull 5, 3) := by decide +kernel
theorem dX8_ofOwner_46 : decode cX8_ofOwner 46 = .ok (.iconst 0, 1) := by decide +kernel
theorem dX8_ofOwner_47 : decode cX8_ofOwner 47 = .ok (.ireturn, 1) := by decide +kernel
theorem dX8_ofOwner_48 : decode cX8_ofOwner 48 = .ok (.iload_n 2, 1) := by decide +kernel
theorem dX8_ofOwner_49 : decode cX8_ofOwner 49 = .ok (.lookupswitch 37 #[(1, 27), (2, 32)], 27) := by decide +kernel
theorem dX8_ofOwner_76 : decode cX8_ofOwner 76 = .ok (.aload_n 3, 1) := by decide +kernel
theorem dX8_ofOwner_77 : decode cX8_ofOwner 77 = .ok (.getfield 274, 3) := by decide +kernel
theorem dX8_ofOwner_80 : decode cX8_ofOwner 80 = .ok (.ireturn, 1) := by decide +kernel
theorem dX8_ofOwner_81 : decode cX8_ofOwner 81 = .ok (.aload_n 3, 1) := by decide +kernel
theorem dX8_ofOwner_82 : decode cX8_ofOwner 82 = .ok (.getfield 277, 3) := by decide +kernel
theorem dX8_ofOwner_85 : decode cX8_ofOwner 85 = .ok (.ireturn, 1) := by decide +kernel
theorem dX8_ofOwner_86 : decode cX8_ofOwner 86 = .ok (.aload_n 3, 1) := by decide +kernel
theorem dX8_ofOwner_87 : decode cX8_ofOwner 87 = .ok (.getfield 280, 3) := by decide +kernel
theorem dX8_ofOwner_90 : decode cX8_ofOwner 90 = .ok (.ireturn, 1) := by decide +kernel
theorem dX8_passages_0 : decode cX8_passages 0 = .ok (.aload_n 0, 1) := by decide +kernel
theorem dX8_passages_1 : decode cX8_passages 1 = .ok (.iload_n 1, 1) := by decide +kernel
theorem dX8_passages_2 : decode cX8_passages 2 = .ok (.invokevirtual 126, 3) := by decide +kernel
theorem dX8_passages_5 : decode cX8_passages 5 = .ok (.invokestatic 58, 3) := by decide +kernel
theorem dX8_passages_8 : decode cX8_passages 8 = .ok (.iload_n 2, 1) := by decide +kernel
theorem dX8_passages_9 : decode cX8_passages 9 = .ok (.ifCond .lt 7, 3) := by decide +kernel
theorem dX8_passages_12 : decode cX8_passages 12 = .ok (.iconst 1, 1) := by decide +kernel
theorem dX8_passages_13 : decode cX8_passages 13 = .ok (.goto 4, 3) := by decide +kernel
theorem dX8_passages_16 : decode cX8_passages 16 = .ok (.iconst 0, 1) := by decide +kernel
theorem dX8_passages_17 : decode cX8_passages 17 = .ok (.invokestatic 66, 3) := by decide +kernel
theorem dX8_passages_20 : decode cX8_passages 20 = .ok (.aload_n 0, 1) := by decide +kernel
theorem dX8_passages_21 : decode cX8_passages 21 = .ok (.getfield 39, 3) := by decide +kernel
theorem dX8_passages_24 : decode cX8_passages 24 = .ok (.aload_n 0, 1) := by decide +kernel
theorem dX8_passages_25 : decode cX8_passages 25 = .ok (.getfield 19, 3) := by decide +kernel
theorem dX8_passages_28 : decode cX8_passages 28 = .ok (.aload_n 0, 1) := by decide +kernel
theorem dX8_passages_29 : decode cX8_passages 29 = .ok (.getfield 10, 3) := by decide +kernel
theorem dX8_passages_32 : decode cX8_passages 32 = .ok (.aload_n 0, 1) := by decide +kernel
theorem dX8_passages_33 : decode cX8_passages 33 = .ok (.getfield 16, 3) := by decide +kernel
theorem dX8_passages_36 : decode cX8_passages 36 = .ok (.iload_n 1, 1) := by decide +kernel
theorem dX8_passages_37 : decode cX8_passages 37 = .ok (.invokevirtual 92, 3) := by decide +kernel
theorem dX8_passages_40 : decode cX8_passages 40 = .ok (.checkcast 121, 3) := by decide +kernel
theorem dX8_passages_43 : decode cX8_passages 43 = .ok (.iload_n 2, 1) := by decide +kernel
theorem dX8_passages_44 : decode cX8_passages 44 = .ok (.invokevirtual 197, 3) := by decide +kernel
theorem dX8_passages_47 : decode cX8_passages 47 = .ok (.aload_n 0, 1) := by decide +kernel
theorem dX8_passages_48 : decode cX8_passages 48 = .ok (.getfield 39, 3) := by decide +kernel
theorem dX8_passages_51 : decode cX8_passages 51 = .ok (.invokevirtual 283, 3) := by decide +kernel
theorem dX8_passages_54 : decode cX8_passages 54 = .ok (.ireturn, 1) := by decide +kernel
theorem dX8_ofPassage_0 : decode cX8_ofPassage 0 = .ok (.aload_n 0, 1) := by decide +kernel
theorem dX8_ofPassage_1 : decode cX8_ofPassage 1 = .ok (.iload_n 1, 1) := by decide +kernel
theorem dX8_ofPassage_2 : decode cX8_ofPassage 2 = .ok (.invokevirtual 126, 3) := by decide +kernel
theorem dX8_ofPassage_5 : decode cX8_ofPassage 5 = .ok (.ifCond .eq 11, 3) := by decide +kernel
theorem dX8_ofPassage_8 : decode cX8_ofPassage 8 = .ok (.iload_n 2, 1) := by decide +kernel
theorem dX8_ofPassage_9 : decode cX8_ofPassage 9 = .ok (.ifCond .lt 7, 3) := by decide +kernel
theorem dX8_ofPassage_12 : decode cX8_ofPassage 12 = .ok (.iconst 1, 1) := by decide +kernel
theorem dX8_ofPassage_13 : decode cX8_ofPassage 13 = .ok (.goto 4, 3) := by decide +kernel
theorem dX8_ofPassage_16 : decode cX8_ofPassage 16 = .ok (.iconst 0, 1) := by decide +kernel
theorem dX8_ofPassage_17 : decode cX8_ofPassage 17 = .ok (.invokestatic 58, 3) := by decide +kernel
theorem dX8_ofPassage_20 : decode cX8_ofPassage 20 = .ok (.aload_n 0, 1) := by decide +kernel
theorem dX8_ofPassage_21 : decode cX8_ofPassage 21 = .ok (.getfield 16, 3) := by decide +kernel
theorem dX8_ofPassage_24 : decode cX8_ofPassage 24 = .ok (.iload_n 1, 1) := by decide +kernel
theorem dX8_ofPassage_25 : decode cX8_ofPassage 25 = .ok (.invokevirtual 92, 3) := by decide +kernel
theorem dX8_ofPassage_28 : decode cX8_ofPassage 28 = .ok (.checkcast 121, 3) := by decide +kernel
theorem dX8_ofPassage_31 : decode cX8_ofPassage 31 = .ok (.astore 5, 2) := by decide +kernel
theorem dX8_ofPassage_33 : decode cX8_ofPassage 33 = .ok (.aload_n 0, 1) := by decide +kernel
theorem dX8_ofPassage_34 : decode cX8_ofPassage 34 = .ok (.getfield 39, 3) := by decide +kernel
theorem dX8_ofPassage_37 : decode cX8_ofPassage 37 = .ok (.aload_n 0, 1) := by decide +kernel
theorem dX8_ofPassage_38 : decode cX8_ofPassage 38 = .ok (.getfield 19, 3) := by decide +kernel
theorem dX8_ofPassage_41 : decode cX8_ofPassage 41 = .ok (.aload_n 0, 1) := by decide +kernel
theorem dX8_ofPassage_42 : decode cX8_ofPassage 42 = .ok (.getfield 10, 3) := by decide +kernel
theorem dX8_ofPassage_45 : decode cX8_ofPassage 45 = .ok (.aload 5, 2) := by decide +kernel
theorem dX8_ofPassage_47 : decode cX8_ofPassage 47 = .ok (.iload_n 2, 1) := by decide +kernel
theorem dX8_ofPassage_48 : decode cX8_ofPassage 48 = .ok (.invokevirtual 197, 3) := by decide +kernel
theorem dX8_ofPassage_51 : decode cX8_ofPassage 51 = .ok (.iload_n 3, 1) := by decide +kernel
theorem dX8_ofPassage_52 : decode cX8_ofPassage 52 = .ok (.iconst 0, 1) := by decide +kernel
theorem dX8_ofPassage_53 : decode cX8_ofPassage 53 = .ok (.aload_n 0, 1) := by decide +kernel
theorem dX8_ofPassage_54 : decode cX8_ofPassage 54 = .ok (.getfield 39, 3) := by decide +kernel
theorem dX8_ofPassage_57 : decode cX8_ofPassage 57 = .ok (.invokevirtual 283, 3) := by decide +kernel
theorem dX8_ofPassage_60 : decode cX8_ofPassage 60 = .ok (.iconst 1, 1) := by decide +kernel
theorem dX8_ofPassage_61 : decode cX8_ofPassage 61 = .ok (.isub, 1) := by decide +kernel
theorem dX8_ofPassage_62 : decode cX8_ofPassage 62 = .ok (.invokestatic 62, 3) := by decide +kernel
theorem dX8_ofPassage_65 : decode cX8_ofPassage 65 = .ok (.invokestatic 58, 3) := by decide +kernel
theorem dX8_ofPassage_68 : decode cX8_ofPassage 68 = .ok (.iload 4, 2) := by decide +kernel
theorem dX8_ofPassage_70 : decode cX8_ofPassage 70 = .ok (.iconst 0, 1) := by decide +kernel
theorem dX8_ofPassage_71 : decode cX8_ofPassage 71 = .ok (.iconst 4, 1) := by decide +kernel
theorem dX8_ofPassage_72 : decode cX8_ofPassage 72 = .ok (.invokestatic 62, 3) := by decide +kernel
theorem dX8_ofPassage_75 : decode cX8_ofPassage 75 = .ok (.invokestatic 66, 3) := by decide +kernel
theorem dX8_ofPassage_78 : decode cX8_ofPassage 78 = .ok (.aload_n 0, 1) := by decide +kernel
theorem dX8_ofPassage_79 : decode cX8_ofPassage 79 = .ok (.getfield 39, 3) := by decide +kernel
theorem dX8_ofPassage_82 : decode cX8_ofPassage 82 = .ok (.aload 5, 2) := by decide +kernel
theorem dX8_ofPassage_84 : decode cX8_ofPassage 84 = .ok (.aload 5, 2) := by decide +kernel
theorem dX8_ofPassage_86 : decode cX8_ofPassage 86 = .ok (.getfield 201, 3) := by decide +kernel
theorem dX8_ofPassage_89 : decode cX8_ofPassage 89 = .ok (.aload_n 0, 1) := by decide +kernel
theorem dX8_ofPassage_90 : decode cX8_ofPassage 90 = .ok (.getfield 47, 3) := by decide +kernel
theorem dX8_ofPassage_93 : decode cX8_ofPassage 93 = .ok (.aload_n 0, 1) := by decide +kernel
theorem dX8_ofPassage_94 : decode cX8_ofPassage 94 = .ok (.getfield 25, 3) := by decide +kernel
theorem dX8_ofPassage_97 : decode cX8_ofPassage 97 = .ok (.invokevirtual 208, 3) := by decide +kernel
theorem dX8_ofPassage_100 : decode cX8_ofPassage 100 = .ok (.pop, 1) := by decide +kernel
theorem dX8_ofPassage_101 : decode cX8_ofPassage 101 = .ok (.aload_n 0, 1) := by decide +kernel
theorem dX8_ofPassage_102 : decode cX8_ofPassage 102 = .ok (.getfield 39, 3) := by decide +kernel
theorem dX8_ofPassage_105 : decode cX8_ofPassage 105 = .ok (.iload_n 3, 1) := by decide +kernel
theorem dX8_ofPassage_106 : decode cX8_ofPassage 106 = .ok (.iload 4, 2) := by decide +kernel
theorem dX8_ofPassage_108 : decode cX8_ofPassage 108 = .ok (.invokevirtual 284, 3) := by decide +kernel
theorem dX8_ofPassage_111 : decode cX8_ofPassage 111 = .ok (.ireturn, 1) := by decide +kernel
theorem dX8_journeys_0 : decode cX8_journeys 0 = .ok (.aload_n 0, 1) := by decide +kernel
theorem dX8_journeys_1 : decode cX8_journeys 1 = .ok (.iload_n 1, 1) := by decide +kernel
theorem dX8_journeys_2 : decode cX8_journeys 2 = .ok (.invokevirtual 126, 3) := by decide +kernel
theorem dX8_journeys_5 : decode cX8_journeys 5 = .ok (.invokestatic 58, 3) := by decide +kernel
theorem dX8_journeys_8 : decode cX8_journeys 8 = .ok (.iload_n 2, 1) := by decide +kernel
theorem dX8_journeys_9 : decode cX8_journeys 9 = .ok (.ifCond .lt 7, 3) := by decide +kernel
theorem dX8_journeys_12 : decode cX8_journeys 12 = .ok (.iconst 1, 1) := by decide +kernel
theorem dX8_journeys_13 : decode cX8_journeys 13 = .ok (.goto 4, 3) := by decide +kernel
theorem dX8_journeys_16 : decode cX8_journeys 16 = .ok (.iconst 0, 1) := by decide +kernel
theorem dX8_journeys_17 : decode cX8_journeys 17 = .ok (.invokestatic 66, 3) := by decide +kernel
theorem dX8_journeys_20 : decode cX8_journeys 20 = .ok (.aload_n 0, 1) := by decide +kernel
theorem dX8_journeys_21 : decode cX8_journeys 21 = .ok (.getfield 39, 3) := by decide +kernel
theorem dX8_journeys_24 : decode cX8_journeys 24 = .ok (.aload_n 0, 1) := by decide +kernel
theorem dX8_journeys_25 : decode cX8_journeys 25 = .ok (.getfield 19, 3) := by decide +kernel
theorem dX8_journeys_28 : decode cX8_journeys 28 = .ok (.aload_n 0, 1) := by decide +kernel
theorem dX8_journeys_29 : decode cX8_journeys 29 = .ok (.getfield 10, 3) := by decide +kernel
theorem dX8_journeys_32 : decode cX8_journeys 32 = .ok (.aload_n 0, 1) := by decide +kernel
theorem dX8_journeys_33 : decode cX8_journeys 33 = .ok (.getfield 16, 3) := by decide +kernel
theorem dX8_journeys_36 : decode cX8_journeys 36 = .ok (.iload_n 1, 1) := by decide +kernel
theorem dX8_journeys_37 : decode cX8_journeys 37 = .ok (.invokevirtual 92, 3) := by decide +kernel
theorem dX8_journeys_40 : decode cX8_journeys 40 = .ok (.checkcast 121, 3) := by decide +kernel
theorem dX8_journeys_43 : decode cX8_journeys 43 = .ok (.iload_n 2, 1) := by decide +kernel
theorem dX8_journeys_44 : decode cX8_journeys 44 = .ok (.invokevirtual 197, 3) := by decide +kernel
theorem dX8_journeys_47 : decode cX8_journeys 47 = .ok (.aload_n 0, 1) := by decide +kernel
theorem dX8_journeys_48 : decode cX8_journeys 48 = .ok (.getfield 39, 3) := by decide +kernel
theorem dX8_journeys_51 : decode cX8_journeys 51 = .ok (.invokevirtual 288, 3) := by decide +kernel
theorem dX8_journeys_54 : decode cX8_journeys 54 = .ok (.ireturn, 1) := by decide +kernel
theorem dX8_many_0 : decode cX8_many 0 = .ok (.iload_n 1, 1) := by decide +kernel
theorem dX8_many_1 : decode cX8_many 1 = .ok (.iconst 0, 1) := by decide +kernel
theorem dX8_many_2 : decode cX8_many 2 = .ok (.bipush 14, 2) := by decide +kernel
theorem dX8_many_4 : decode cX8_many 4 = .ok (.invokestatic 62, 3) := by decide +kernel
theorem dX8_many_7 : decode cX8_many 7 = .ok (.invokestatic 66, 3) := by decide +kernel
theorem dX8_many_10 : decode cX8_many 10 = .ok (.iload_n 1, 1) := by decide +kernel
theorem dX8_many_11 : decode cX8_many 11 = .ok (.tableswitch 171 0 13 #[69, 74, 82, 90, 98, 103, 111, 119, 124, 132, 137, 142, 158, 166], 69) := by decide +kernel
theorem dX8_many_80 : decode cX8_many 80 = .ok (.aload_n 0, 1) := by decide +kernel
theorem dX8_many_81 : decode cX8_many 81 = .ok (.getfield 139, 3) := by decide +kernel
theorem dX8_many_84 : decode cX8_many 84 = .ok (.ireturn, 1) := by decide +kernel
theorem dX8_many_85 : decode cX8_many 85 = .ok (.aload_n 0, 1) := by decide +kernel
theorem dX8_many_86 : decode cX8_many 86 = .ok (.getfield 10, 3) := by decide +kernel
theorem dX8_many_89 : decode cX8_many 89 = .ok (.invokevirtual 69, 3) := by decide +kernel
theorem dX8_many_92 : decode cX8_many 92 = .ok (.ireturn, 1) := by decide +kernel
theorem dX8_many_93 : decode cX8_many 93 = .ok (.aload_n 0, 1) := by decide +kernel
theorem dX8_many_94 : decode cX8_many 94 = .ok (.getfield 16, 3) := by decide +kernel
theorem dX8_many_97 : decode cX8_many 97 = .ok (.invokevirtual 69, 3) := by decide +kernel
theorem dX8_many_100 : decode cX8_many 100 = .ok (.ireturn, 1) := by decide +kernel
theorem dX8_many_101 : decode cX8_many 101 = .ok (.aload_n 0, 1) := by decide +kernel
theorem dX8_many_102 : decode cX8_many 102 = .ok (.getfield 19, 3) := by decide +kernel
theorem dX8_many_105 : decode cX8_many 105 = .ok (.invokevirtual 69, 3) := by decide +kernel
theorem dX8_many_108 : decode cX8_many 108 = .ok (.ireturn, 1) := by decide +kernel
theorem dX8_many_109 : decode cX8_many 109 = .ok (.aload_n 0, 1) := by decide +kernel
theorem dX8_many_110 : decode cX8_many 110 = .ok (.getfield 291, 3) := by decide +kernel
theorem dX8_many_113 : decode cX8_many 113 = .ok (.ireturn, 1) := by decide +kernel
theorem dX8_many_114 : decode cX8_many 114 = .ok (.aload_n 0, 1) := by decide +kernel
theorem dX8_many_115 : decode cX8_many 115 = .ok (.getfield 25, 3) := by decide +kernel
theorem dX8_many_118 : decode cX8_many 118 = .ok (.invokevirtual 103, 3) := by decide +kernel
theorem dX8_many_121 : decode cX8_many 121 = .ok (.ireturn, 1) := by decide +kernel
theorem dX8_many_122 : decode cX8_many 122 = .ok (.aload_n 0, 1) := by decide +kernel
theorem dX8_many_123 : decode cX8_many 123 = .ok (.getfield 25, 3) := by decide +kernel
theorem dX8_many_126 : decode cX8_many 126 = .ok (.getfield 114, 3) := by decide +kernel
theorem dX8_many_129 : decode cX8_many 129 = .ok (.ireturn, 1) := by decide +kernel
theorem dX8_many_130 : decode cX8_many 130 = .ok (.aload_n 0, 1) := by decide +kernel
theorem dX8_many_131 : decode cX8_many 131 = .ok (.getfield 47, 3) := by decide +kernel
theorem dX8_many_134 : decode cX8_many 134 = .ok (.ireturn, 1) := by decide +kernel
theorem dX8_many_135 : decode cX8_many 135 = .ok (.aload_n 0, 1) := by decide +kernel
theorem dX8_many_136 : decode cX8_many 136 = .ok (.getfield 32, 3) := by decide +kernel
theorem dX8_many_139 : decode cX8_many 139 = .ok (.getfield 188, 3) := by decide +kernel
theorem dX8_many_142 : decode cX8_many 142 = .ok (.ireturn, 1) := by decide +kernel
theorem dX8_many_143 : decode cX8_many 143 = .ok (.aload_n 0, 1) := by decide +kernel
theorem dX8_many_144 : decode cX8_many 144 = .ok (.getfield 157, 3) := by decide +kernel
theorem dX8_many_147 : decode cX8_many 147 = .ok (.ireturn, 1) := by decide +kernel
theorem dX8_many_148 : decode cX8_many 148 = .ok (.aload_n 0, 1) := by decide +kernel
theorem dX8_many_149 : decode cX8_many 149 = .ok (.getfield 191, 3) := by decide +kernel
theorem dX8_many_152 : decode cX8_many 152 = .ok (.ireturn, 1) := by decide +kernel
theorem dX8_many_153 : decode cX8_many 153 = .ok (.aload_n 0, 1) := by decide +kernel
theorem dX8_many_154 : decode cX8_many 154 = .ok (.getfield 32, 3) := by decide +kernel
theorem dX8_many_157 : decode cX8_many 157 = .ok (.getfield 294, 3) := by decide +kernel
theorem dX8_many_160 : decode cX8_many 160 = .ok (.aload_n 0, 1) := by decide +kernel
theorem dX8_many_161 : decode cX8_many 161 = .ok (.getfield 32, 3) := by decide +kernel
theorem dX8_many_164 : decode cX8_many 164 = .ok (.getfield 295, 3) := by decide +kernel
theorem dX8_many_167 : decode cX8_many 167 = .ok (.isub, 1) := by decide +kernel
theorem dX8_many_168 : decode cX8_many 168 = .ok (.ireturn, 1) := by decide +kernel
theorem dX8_many_169 : decode cX8_many 169 = .ok (.aload_n 0, 1) := by decide +kernel
theorem dX8_many_170 : decode cX8_many 170 = .ok (.getfield 32, 3) := by decide +kernel
theorem dX8_many_173 : decode cX8_many 173 = .ok (.getfield 295, 3) := by decide +kernel
theorem dX8_many_176 : decode cX8_many 176 = .ok (.ireturn, 1) := by decide +kernel
theorem dX8_many_177 : decode cX8_many 177 = .ok (.aload_n 0, 1) := by decide +kernel
theorem dX8_many_178 : decode cX8_many 178 = .ok (.getfield 150, 3) := by decide +kernel
theorem dX8_many_181 : decode cX8_many 181 = .ok (.ireturn, 1) := by decide +kernel
theorem dX8_many_182 : decode cX8_many 182 = .ok (.aload_n 0, 1) := by decide +kernel
theorem dX8_many_183 : decode cX8_many 183 = .ok (.invokevirtual 225, 3) := by decide +kernel
theorem dX8_many_186 : decode cX8_many 186 = .ok (.ireturn, 1) := by decide +kernel
theorem dX8_toll_0 : decode cX8_toll 0 = .ok (.aload_n 0, 1) := by decide +kernel
theorem dX8_toll_1 : decode cX8_toll 1 = .ok (.iload_n 1, 1) := by decide +kernel
theorem dX8_toll_2 : decode cX8_toll 2 = .ok (.invokevirtual 126, 3) := by decide +kernel
theorem dX8_toll_5 : decode cX8_toll 5 = .ok (.ifCond .eq 15, 3) := by decide +kernel
theorem dX8_toll_8 : decode cX8_toll 8 = .ok (.aload_n 0, 1) := by decide +kernel
theorem dX8_toll_9 : decode cX8_toll 9 = .ok (.iload_n 2, 1) := by decide +kernel
theorem dX8_toll_10 : decode cX8_toll 10 = .ok (.invokevirtual 85, 3) := by decide +kernel
theorem dX8_toll_13 : decode cX8_toll 13 = .ok (.ifCond .eq 7, 3) := by decide +kernel
theorem dX8_toll_16 : decode cX8_toll 16 = .ok (.iconst 1, 1) := by decide +kernel
theorem dX8_toll_17 : decode cX8_toll 17 = .ok (.goto 4, 3) := by decide +kernel
theorem dX8_toll_20 : decode cX8_toll 20 = .ok (.iconst 0, 1) := by decide +kernel
theorem dX8_toll_21 : decode cX8_toll 21 = .ok (.invokestatic 58, 3) := by decide +kernel
theorem dX8_toll_24 : decode cX8_toll 24 = .ok (.iload_n 3, 1) := by decide +kernel
theorem dX8_toll_25 : decode cX8_toll 25 = .ok (.iconst 0, 1) := by decide +kernel
theorem dX8_toll_26 : decode cX8_toll 26 = .ok (.ldc_w 301, 3) := by decide +kernel
theorem dX8_toll_29 : decode cX8_toll 29 = .ok (.invokestatic 62, 3) := by decide +kernel
theorem dX8_toll_32 : decode cX8_toll 32 = .ok (.invokestatic 66, 3) := by decide +kernel
theorem dX8_toll_35 : decode cX8_toll 35 = .ok (.aload_n 0, 1) := by decide +kernel
theorem dX8_toll_36 : decode cX8_toll 36 = .ok (.aload_n 0, 1) := by decide +kernel
theorem dX8_toll_37 : decode cX8_toll 37 = .ok (.getfield 16, 3) := by decide +kernel
theorem dX8_toll_40 : decode cX8_toll 40 = .ok (.iload_n 1, 1) := by decide +kernel
theorem dX8_toll_41 : decode cX8_toll 41 = .ok (.invokevirtual 92, 3) := by decide +kernel
theorem dX8_toll_44 : decode cX8_toll 44 = .ok (.checkcast 121, 3) := by decide +kernel
theorem dX8_toll_47 : decode cX8_toll 47 = .ok (.aload_n 0, 1) := by decide +kernel
theorem dX8_toll_48 : decode cX8_toll 48 = .ok (.getfield 10, 3) := by decide +kernel
theorem dX8_toll_51 : decode cX8_toll 51 = .ok (.iload_n 2, 1) := by decide +kernel
theorem dX8_toll_52 : decode cX8_toll 52 = .ok (.invokevirtual 92, 3) := by decide +kernel
theorem dX8_toll_55 : decode cX8_toll 55 = .ok (.checkcast 76, 3) := by decide +kernel
theorem dX8_toll_58 : decode cX8_toll 58 = .ok (.iload_n 3, 1) := by decide +kernel
theorem dX8_toll_59 : decode cX8_toll 59 = .ok (.invokevirtual 181, 3) := by decide +kernel
theorem dX8_toll_62 : decode cX8_toll 62 = .ok (.ireturn, 1) := by decide +kernel
theorem dX8_bill_0 : decode cX8_bill 0 = .ok (.aload_n 0, 1) := by decide +kernel
theorem dX8_bill_1 : decode cX8_bill 1 = .ok (.iload_n 1, 1) := by decide +kernel
theorem dX8_bill_2 : decode cX8_bill 2 = .ok (.invokevirtual 126, 3) := by decide +kernel
theorem dX8_bill_5 : decode cX8_bill 5 = .ok (.invokestatic 58, 3) := by decide +kernel
theorem dX8_bill_8 : decode cX8_bill 8 = .ok (.iload_n 2, 1) := by decide +kernel
theorem dX8_bill_9 : decode cX8_bill 9 = .ok (.ifCond .lt 19, 3) := by decide +kernel
theorem dX8_bill_12 : decode cX8_bill 12 = .ok (.iload_n 3, 1) := by decide +kernel
theorem dX8_bill_13 : decode cX8_bill 13 = .ok (.bipush 50, 2) := by decide +kernel
theorem dX8_bill_15 : decode cX8_bill 15 = .ok (.sipush 999, 3) := by decide +kernel
theorem dX8_bill_18 : decode cX8_bill 18 = .ok (.invokestatic 62, 3) := by decide +kernel
theorem dX8_bill_21 : decode cX8_bill 21 = .ok (.ifCond .eq 7, 3) := by decide +kernel
theorem dX8_bill_24 : decode cX8_bill 24 = .ok (.iconst 1, 1) := by decide +kernel
theorem dX8_bill_25 : decode cX8_bill 25 = .ok (.goto 4, 3) := by decide +kernel
theorem dX8_bill_28 : decode cX8_bill 28 = .ok (.iconst 0, 1) := by decide +kernel
theorem dX8_bill_29 : decode cX8_bill 29 = .ok (.invokestatic 66, 3) := by decide +kernel
theorem dX8_bill_32 : decode cX8_bill 32 = .ok (.aload_n 0, 1) := by decide +kernel
theorem dX8_bill_33 : decode cX8_bill 33 = .ok (.getfield 16, 3) := by decide +kernel
theorem dX8_bill_36 : decode cX8_bill 36 = .ok (.iload_n 1, 1) := by decide +kernel
theorem dX8_bill_37 : decode cX8_bill 37 = .ok (.invokevirtual 92, 3) := by decide +kernel
theorem dX8_bill_40 : decode cX8_bill 40 = .ok (.checkcast 121, 3) := by decide +kernel
theorem dX8_bill_43 : decode cX8_bill 43 = .ok (.astore 4, 2) := by decide +kernel
theorem dX8_bill_45 : decode cX8_bill 45 = .ok (.aload_n 0, 1) := by decide +kernel
theorem dX8_bill_46 : decode cX8_bill 46 = .ok (.getfield 39, 3) := by decide +kernel
theorem dX8_bill_49 : decode cX8_bill 49 = .ok (.aload_n 0, 1) := by decide +kernel
theorem dX8_bill_50 : decode cX8_bill 50 = .ok (.getfield 19, 3) := by decide +kernel
theorem dX8_bill_53 : decode cX8_bill 53 = .ok (.aload_n 0, 1) := by decide +kernel
theorem dX8_bill_54 : decode cX8_bill 54 = .ok (.getfield 10, 3) := by decide +kernel
theorem dX8_bill_57 : decode cX8_bill 57 = .ok (.aload 4, 2) := by decide +kernel
theorem dX8_bill_59 : decode cX8_bill 59 = .ok (.iload_n 2, 1) := by decide +kernel
theorem dX8_bill_60 : decode cX8_bill 60 = .ok (.invokevirtual 197, 3) := by decide +kernel
theorem dX8_bill_63 : decode cX8_bill 63 = .ok (.aload_n 0, 1) := by decide +kernel
theorem dX8_bill_64 : decode cX8_bill 64 = .ok (.getfield 39, 3) := by decide +kernel
theorem dX8_bill_67 : decode cX8_bill 67 = .ok (.aload 4, 2) := by decide +kernel
theorem dX8_bill_69 : decode cX8_bill 69 = .ok (.aload 4, 2) := by decide +kernel
theorem dX8_bill_71 : decode cX8_bill 71 = .ok (.getfield 201, 3) := by decide +kernel
theorem dX8_bill_74 : decode cX8_bill 74 = .ok (.iload_n 3, 1) := by decide +kernel
theorem dX8_bill_75 : decode cX8_bill 75 = .ok (.aload_n 0, 1) := by decide +kernel
theorem dX8_bill_76 : decode cX8_bill 76 = .ok (.getfield 25, 3) := by decide +kernel
theorem dX8_bill_79 : decode cX8_bill 79 = .ok (.invokevirtual 208, 3) := by decide +kernel
theorem dX8_bill_82 : decode cX8_bill 82 = .ok (.ireturn, 1) := by decide +kernel
theorem dX8_cheapest_0 : decode cX8_cheapest 0 = .ok (.aload_n 0, 1) := by decide +kernel
theorem dX8_cheapest_1 : decode cX8_cheapest 1 = .ok (.iload_n 1, 1) := by decide +kernel
theorem dX8_cheapest_2 : decode cX8_cheapest 2 = .ok (.invokevirtual 126, 3) := by decide +kernel
theorem dX8_cheapest_5 : decode cX8_cheapest 5 = .ok (.ifCond .eq 21, 3) := by decide +kernel
theorem dX8_cheapest_8 : decode cX8_cheapest 8 = .ok (.iload_n 2, 1) := by decide +kernel
theorem dX8_cheapest_9 : decode cX8_cheapest 9 = .ok (.invokestatic 51, 3) := by decide +kernel
theorem dX8_cheapest_12 : decode cX8_cheapest 12 = .ok (.ifCond .eq 14, 3) := by decide +kernel
theorem dX8_cheapest_15 : decode cX8_cheapest 15 = .ok (.iload_n 3, 1) := by decide +kernel
theorem dX8_cheapest_16 : decode cX8_cheapest 16 = .ok (.invokestatic 51, 3) := by decide +kernel
theorem dX8_cheapest_19 : decode cX8_cheapest 19 = .ok (.ifCond .eq 7, 3) := by decide +kernel
theorem dX8_cheapest_22 : decode cX8_cheapest 22 = .ok (.iconst 1, 1) := by decide +kernel
theorem dX8_cheapest_23 : decode cX8_cheapest 23 = .ok (.goto 4, 3) := by decide +kernel
theorem dX8_cheapest_26 : decode cX8_cheapest 26 = .ok (.iconst 0, 1) := by decide +kernel
theorem dX8_cheapest_27 : decode cX8_cheapest 27 = .ok (.invokestatic 58, 3) := by decide +kernel
theorem dX8_cheapest_30 : decode cX8_cheapest 30 = .ok (.aload_n 0, 1) := by decide +kernel
theorem dX8_cheapest_31 : decode cX8_cheapest 31 = .ok (.getfield 43, 3) := by decide +kernel
theorem dX8_cheapest_34 : decode cX8_cheapest 34 = .ok (.iconst (-1), 1) := by decide +kernel
theorem dX8_cheapest_35 : decode cX8_cheapest 35 = .ok (.invokestatic 302, 3) := by decide +kernel
theorem dX8_cheapest_38 : decode cX8_cheapest 38 = .ok (.aload_n 0, 1) := by decide +kernel
theorem dX8_cheapest_39 : decode cX8_cheapest 39 = .ok (.iload_n 2, 1) := by decide +kernel
theorem dX8_cheapest_40 : decode cX8_cheapest 40 = .ok (.iconst 0, 1) := by decide +kernel
theorem dX8_cheapest_41 : decode cX8_cheapest 41 = .ok (.invokevirtual 308, 3) := by decide +kernel
theorem dX8_cheapest_44 : decode cX8_cheapest 44 = .ok (.iconst 1, 1) := by decide +kernel
theorem dX8_cheapest_45 : decode cX8_cheapest 45 = .ok (.istore 4, 2) := by decide +kernel
theorem dX8_cheapest_47 : decode cX8_cheapest 47 = .ok (.iconst 0, 1) := by decide +kernel
theorem dX8_cheapest_48 : decode cX8_cheapest 48 = .ok (.istore 5, 2) := by decide +kernel
theorem dX8_cheapest_50 : decode cX8_cheapest 50 = .ok (.iload 5, 2) := by decide +kernel
theorem dX8_cheapest_52 : decode cX8_cheapest 52 = .ok (.bipush 8, 2) := by decide +kernel
theorem dX8_cheapest_54 : decode cX8_cheapest 54 = .ok (.if_icmp .ge 31, 3) := by decide +kernel
theorem dX8_cheapest_57 : decode cX8_cheapest 57 = .ok (.iload 4, 2) := by decide +kernel
theorem dX8_cheapest_59 : decode cX8_cheapest 59 = .ok (.ifCond .eq 26, 3) := by decide +kernel
theorem dX8_cheapest_62 : decode cX8_cheapest 62 = .ok (.aload_n 0, 1) := by decide +kernel
theorem dX8_cheapest_63 : decode cX8_cheapest 63 = .ok (.aload_n 0, 1) := by decide +kernel
theorem dX8_cheapest_64 : decode cX8_cheapest 64 = .ok (.getfield 16, 3) := by decide +kernel
theorem dX8_cheapest_67 : decode cX8_cheapest 67 = .ok (.iload_n 1, 1) := by decide +kernel
theorem dX8_cheapest_68 : decode cX8_cheapest 68 = .ok (.invokevirtual 92, 3) := by decide +kernel
theorem dX8_cheapest_71 : decode cX8_cheapest 71 = .ok (.checkcast 121, 3) := by decide +kernel
theorem dX8_cheapest_74 : decode cX8_cheapest 74 = .ok (.invokevirtual 311, 3) := by decide +kernel
theorem dX8_cheapest_77 : decode cX8_cheapest 77 = .ok (.istore 4, 2) := by decide +kernel
theorem dX8_cheapest_79 : decode cX8_cheapest 79 = .ok (.iinc 5 1, 3) := by decide +kernel
theorem dX8_cheapest_82 : decode cX8_cheapest 82 = .ok (.goto (-32), 3) := by decide +kernel
theorem dX8_cheapest_85 : decode cX8_cheapest 85 = .ok (.aload_n 0, 1) := by decide +kernel
theorem dX8_cheapest_86 : decode cX8_cheapest 86 = .ok (.iload_n 3, 1) := by decide +kernel
theorem dX8_cheapest_87 : decode cX8_cheapest 87 = .ok (.invokevirtual 315, 3) := by decide +kernel
theorem dX8_cheapest_90 : decode cX8_cheapest 90 = .ok (.ireturn, 1) := by decide +kernel
theorem dX8_bestMinute_0 : decode cX8_bestMinute 0 = .ok (.aload_n 0, 1) := by decide +kernel
theorem dX8_bestMinute_1 : decode cX8_bestMinute 1 = .ok (.iload_n 1, 1) := by decide +kernel
theorem dX8_bestMinute_2 : decode cX8_bestMinute 2 = .ok (.invokevirtual 126, 3) := by decide +kernel
theorem dX8_bestMinute_5 : decode cX8_bestMinute 5 = .ok (.ifCond .eq 15, 3) := by decide +kernel
theorem dX8_bestMinute_8 : decode cX8_bestMinute 8 = .ok (.aload_n 0, 1) := by decide +kernel
theorem dX8_bestMinute_9 : decode cX8_bestMinute 9 = .ok (.iload_n 2, 1) := by decide +kernel
theorem dX8_bestMinute_10 : decode cX8_bestMinute 10 = .ok (.invokevirtual 85, 3) := by decide +kernel
theorem dX8_bestMinute_13 : decode cX8_bestMinute 13 = .ok (.ifCond .eq 7, 3) := by decide +kernel
theorem dX8_bestMinute_16 : decode cX8_bestMinute 16 = .ok (.iconst 1, 1) := by decide +kernel
theorem dX8_bestMinute_17 : decode cX8_bestMinute 17 = .ok (.goto 4, 3) := by decide +kernel
theorem dX8_bestMinute_20 : decode cX8_bestMinute 20 = .ok (.iconst 0, 1) := by decide +kernel
theorem dX8_bestMinute_21 : decode cX8_bestMinute 21 = .ok (.invokestatic 58, 3) := by decide +kernel
theorem dX8_bestMinute_24 : decode cX8_bestMinute 24 = .ok (.aload_n 0, 1) := by decide +kernel
theorem dX8_bestMinute_25 : decode cX8_bestMinute 25 = .ok (.getfield 16, 3) := by decide +kernel
theorem dX8_bestMinute_28 : decode cX8_bestMinute 28 = .ok (.iload_n 1, 1) := by decide +kernel
theorem dX8_bestMinute_29 : decode cX8_bestMinute 29 = .ok (.invokevirtual 92, 3) := by decide +kernel
theorem dX8_bestMinute_32 : decode cX8_bestMinute 32 = .ok (.checkcast 121, 3) := by decide +kernel
theorem dX8_bestMinute_35 : decode cX8_bestMinute 35 = .ok (.astore_n 3, 1) := by decide +kernel
theorem dX8_bestMinute_36 : decode cX8_bestMinute 36 = .ok (.aload_n 0, 1) := by decide +kernel
theorem dX8_bestMinute_37 : decode cX8_bestMinute 37 = .ok (.getfield 10, 3) := by decide +kernel
theorem dX8_bestMinute_40 : decode cX8_bestMinute 40 = .ok (.iload_n 2, 1) := by decide +kernel
theorem dX8_bestMinute_41 : decode cX8_bestMinute 41 = .ok (.invokevirtual 92, 3) := by decide +kernel
theorem dX8_bestMinute_44 : decode cX8_bestMinute 44 = .ok (.checkcast 76, 3) := by decide +kernel
theorem dX8_bestMinute_47 : decode cX8_bestMinute 47 = .ok (.astore 4, 2) := by decide +kernel
theorem dX8_bestMinute_49 : decode cX8_bestMinute 49 = .ok (.aload_n 3, 1) := by decide +kernel
theorem dX8_bestMinute_50 : decode cX8_bestMinute 50 = .ok (.aload 4, 2) := by decide +kernel
theorem dX8_bestMinute_52 : decode cX8_bestMinute 52 = .ok (.getfield 240, 3) := by decide +kernel
theorem dX8_bestMinute_55 : decode cX8_bestMinute 55 = .ok (.invokevirtual 129, 3) := by decide +kernel
theorem dX8_bestMinute_58 : decode cX8_bestMinute 58 = .ok (.istore 5, 2) := by decide +kernel
theorem dX8_bestMinute_60 : decode cX8_bestMinute 60 = .ok (.iconst 0, 1) := by decide +kernel
theorem dX8_bestMinute_61 : decode cX8_bestMinute 61 = .ok (.istore 6, 2) := by decide +kernel
theorem dX8_bestMinute_63 : decode cX8_bestMinute 63 = .ok (.aload_n 0, 1) := by decide +kernel
theorem dX8_bestMinute_64 : decode cX8_bestMinute 64 = .ok (.getfield 139, 3) := by decide +kernel
theorem dX8_bestMinute_67 : decode cX8_bestMinute 67 = .ok (.istore 7, 2) := by decide +kernel
theorem dX8_bestMinute_69 : decode cX8_bestMinute 69 = .ok (.iconst 0, 1) := by decide +kernel
theorem dX8_bestMinute_70 : decode cX8_bestMinute 70 = .ok (.istore 8, 2) := by decide +kernel
theorem dX8_bestMinute_72 : decode cX8_bestMinute 72 = .ok (.aload_n 0, 1) := by decide +kernel
theorem dX8_bestMinute_73 : decode cX8_bestMinute 73 = .ok (.getfield 139, 3) := by decide +kernel
theorem dX8_bestMinute_76 : decode cX8_bestMinute 76 = .ok (.istore 9, 2) := by decide +kernel
theorem dX8_bestMinute_78 : decode cX8_bestMinute 78 = .ok (.iload 9, 2) := by decide +kernel
theorem dX8_bestMinute_80 : decode cX8_bestMinute 80 = .ok (.aload_n 0, 1) := by decide +kernel
theorem dX8_bestMinute_81 : decode cX8_bestMinute 81 = .ok (.getfield 139, 3) := by decide +kernel
theorem dX8_bestMinute_84 : decode cX8_bestMinute 84 = .ok (.sipush 1440, 3) := by decide +kernel
theorem dX8_bestMinute_87 : decode cX8_bestMinute 87 = .ok (.iadd, 1) := by decide +kernel
theorem dX8_bestMinute_88 : decode cX8_bestMinute 88 = .ok (.if_icmp .ge 94, 3) := by decide +kernel
theorem dX8_bestMinute_91 : decode cX8_bestMinute 91 = .ok (.iload 9, 2) := by decide +kernel
theorem dX8_bestMinute_93 : decode cX8_bestMinute 93 = .ok (.aload_n 0, 1) := by decide +kernel
theorem dX8_bestMinute_94 : decode cX8_bestMinute 94 = .ok (.getfield 139, 3) := by decide +kernel
theorem dX8_bestMinute_97 : decode cX8_bestMinute 97 = .ok (.if_icmp .eq 11, 3) := by decide +kernel
theorem dX8_bestMinute_100 : decode cX8_bestMinute 100 = .ok (.iload 9, 2) := by decide +kernel
theorem dX8_bestMinute_102 : decode cX8_bestMinute 102 = .ok (.bipush 60, 2) := by decide +kernel
theorem dX8_bestMinute_104 : decode cX8_bestMinute 104 = .ok (.irem, 1) := by decide +kernel
theorem dX8_bestMinute_105 : decode cX8_bestMinute 105 = .ok (.ifCond .ne 24, 3) := by decide +kernel
theorem dX8_bestMinute_108 : decode cX8_bestMinute 108 = .ok (.aload_n 0, 1) := by decide +kernel
theorem dX8_bestMinute_109 : decode cX8_bestMinute 109 = .ok (.getfield 25, 3) := by decide +kernel
theorem dX8_bestMinute_112 : decode cX8_bestMinute 112 = .ok (.aload 4, 2) := by decide +kernel
theorem dX8_bestMinute_114 : decode cX8_bestMinute 114 = .ok (.aload_n 3, 1) := by decide +kernel
theorem dX8_bestMinute_115 : decode cX8_bestMinute 115 = .ok (.getfield 201, 3) := by decide +kernel
theorem dX8_bestMinute_118 : decode cX8_bestMinute 118 = .ok (.aload_n 3, 1) := by decide +kernel
theorem dX8_bestMinute_119 : decode cX8_bestMinute 119 = .ok (.getfield 246, 3) := by decide +kernel
theorem dX8_bestMinute_122 : decode cX8_bestMinute 122 = .ok (.iload 9, 2) := by decide +kernel
theorem dX8_bestMinute_124 : decode cX8_bestMinute 124 = .ok (.invokevirtual 318, 3) := by decide +kernel
theorem dX8_bestMinute_127 : decode cX8_bestMinute 127 = .ok (.istore 6, 2) := by decide +kernel
theorem dX8_bestMinute_129 : decode cX8_bestMinute 129 = .ok (.iload 5, 2) := by decide +kernel
theorem dX8_bestMinute_131 : decode cX8_bestMinute 131 = .ok (.ifCond .ne 13, 3) := by decide +kernel
theorem dX8_bestMinute_134 : decode cX8_bestMinute 134 = .ok (.aload 4, 2) := by decide +kernel
theorem dX8_bestMinute_136 : decode cX8_bestMinute 136 = .ok (.iload 9, 2) := by decide +kernel
theorem dX8_bestMinute_138 : decode cX8_bestMinute 138 = .ok (.invokevirtual 243, 3) := by decide +kernel
theorem dX8_bestMinute_141 : decode cX8_bestMinute 141 = .ok (.ifCond .eq 7, 3) := by decide +kernel
theorem dX8_bestMinute_144 : decode cX8_bestMinute 144 = .ok (.iconst 0, 1) := by decide +kernel
theorem dX8_bestMinute_145 : decode cX8_bestMinute 145 = .ok (.goto 5, 3) := by decide +kernel
theorem dX8_bestMinute_148 : decode cX8_bestMinute 148 = .ok (.iload 6, 2) := by decide +kernel
theorem dX8_bestMinute_150 : decode cX8_bestMinute 150 = .ok (.istore 10, 2) := by decide +kernel
theorem dX8_bestMinute_152 : decode cX8_bestMinute 152 = .ok (.iload 9, 2) := by decide +kernel
theorem dX8_bestMinute_154 : decode cX8_bestMinute 154 = .ok (.aload_n 0, 1) := by decide +kernel
theorem dX8_bestMinute_155 : decode cX8_bestMinute 155 = .ok (.getfield 139, 3) := by decide +kernel
theorem dX8_bestMinute_158 : decode cX8_bestMinute 158 = .ok (.if_icmp .eq 10, 3) := by decide +kernel
theorem dX8_bestMinute_161 : decode cX8_bestMinute 161 = .ok (.iload 10, 2) := by decide +kernel
theorem dX8_bestMinute_163 : decode cX8_bestMinute 163 = .ok (.iload 8, 2) := by decide +kernel
theorem dX8_bestMinute_165 : decode cX8_bestMinute 165 = .ok (.if_icmp .ge 11, 3) := by decide +kernel
theorem dX8_bestMinute_168 : decode cX8_bestMinute 168 = .ok (.iload 10, 2) := by decide +kernel
theorem dX8_bestMinute_170 : decode cX8_bestMinute 170 = .ok (.istore 8, 2) := by decide +kernel
theorem dX8_bestMinute_172 : decode cX8_bestMinute 172 = .ok (.iload 9, 2) := by decide +kernel
theorem dX8_bestMinute_174 : decode cX8_bestMinute 174 = .ok (.istore 7, 2) := by decide +kernel
theorem dX8_bestMinute_176 : decode cX8_bestMinute 176 = .ok (.iinc 9 1, 3) := by decide +kernel
theorem dX8_bestMinute_179 : decode cX8_bestMinute 179 = .ok (.goto (-101), 3) := by decide +kernel
theorem dX8_bestMinute_182 : decode cX8_bestMinute 182 = .ok (.iload 7, 2) := by decide +kernel
theorem dX8_bestMinute_184 : decode cX8_bestMinute 184 = .ok (.ireturn, 1) := by decide +kernel
theorem dX8_wouldSave_0 : decode cX8_wouldSave 0 = .ok (.aload_n 0, 1) := by decide +kernel
theorem dX8_wouldSave_1 : decode cX8_wouldSave 1 = .ok (.iload_n 1, 1) := by decide +kernel
theorem dX8_wouldSave_2 : decode cX8_wouldSave 2 = .ok (.invokevirtual 126, 3) := by decide +kernel
theorem dX8_wouldSave_5 : decode cX8_wouldSave 5 = .ok (.invokestatic 58, 3) := by decide +kernel
theorem dX8_wouldSave_8 : decode cX8_wouldSave 8 = .ok (.aload_n 0, 1) := by decide +kernel
theorem dX8_wouldSave_9 : decode cX8_wouldSave 9 = .ok (.getfield 16, 3) := by decide +kernel
theorem dX8_wouldSave_12 : decode cX8_wouldSave 12 = .ok (.iload_n 1, 1) := by decide +kernel
theorem dX8_wouldSave_13 : decode cX8_wouldSave 13 = .ok (.invokevirtual 92, 3) := by decide +kernel
theorem dX8_wouldSave_16 : decode cX8_wouldSave 16 = .ok (.checkcast 121, 3) := by decide +kernel
theorem dX8_wouldSave_19 : decode cX8_wouldSave 19 = .ok (.astore_n 2, 1) := by decide +kernel
theorem dX8_wouldSave_20 : decode cX8_wouldSave 20 = .ok (.aload_n 0, 1) := by decide +kernel
theorem dX8_wouldSave_21 : decode cX8_wouldSave 21 = .ok (.getfield 39, 3) := by decide +kernel
theorem dX8_wouldSave_24 : decode cX8_wouldSave 24 = .ok (.aload_n 0, 1) := by decide +kernel
theorem dX8_wouldSave_25 : decode cX8_wouldSave 25 = .ok (.getfield 19, 3) := by decide +kernel
theorem dX8_wouldSave_28 : decode cX8_wouldSave 28 = .ok (.aload_n 0, 1) := by decide +kernel
theorem dX8_wouldSave_29 : decode cX8_wouldSave 29 = .ok (.getfield 10, 3) := by decide +kernel
theorem dX8_wouldSave_32 : decode cX8_wouldSave 32 = .ok (.aload_n 2, 1) := by decide +kernel
theorem dX8_wouldSave_33 : decode cX8_wouldSave 33 = .ok (.aload_n 0, 1) := by decide +kernel
theorem dX8_wouldSave_34 : decode cX8_wouldSave 34 = .ok (.invokevirtual 194, 3) := by decide +kernel
theorem dX8_wouldSave_37 : decode cX8_wouldSave 37 = .ok (.invokevirtual 197, 3) := by decide +kernel
theorem dX8_wouldSave_40 : decode cX8_wouldSave 40 = .ok (.aload_n 0, 1) := by decide +kernel
theorem dX8_wouldSave_41 : decode cX8_wouldSave 41 = .ok (.getfield 39, 3) := by decide +kernel
theorem dX8_wouldSave_44 : decode cX8_wouldSave 44 = .ok (.aload_n 2, 1) := by decide +kernel
theorem dX8_wouldSave_45 : decode cX8_wouldSave 45 = .ok (.aload_n 2, 1) := by decide +kernel
theorem dX8_wouldSave_46 : decode cX8_wouldSave 46 = .ok (.getfield 201, 3) := by decide +kernel
theorem dX8_wouldSave_49 : decode cX8_wouldSave 49 = .ok (.aload_n 0, 1) := by decide +kernel
theorem dX8_wouldSave_50 : decode cX8_wouldSave 50 = .ok (.getfield 47, 3) := by decide +kernel
theorem dX8_wouldSave_53 : decode cX8_wouldSave 53 = .ok (.aload_n 0, 1) := by decide +kernel
theorem dX8_wouldSave_54 : decode cX8_wouldSave 54 = .ok (.getfield 25, 3) := by decide +kernel
theorem dX8_wouldSave_57 : decode cX8_wouldSave 57 = .ok (.invokevirtual 208, 3) := by decide +kernel
theorem dX8_wouldSave_60 : decode cX8_wouldSave 60 = .ok (.istore_n 3, 1) := by decide +kernel
theorem dX8_wouldSave_61 : decode cX8_wouldSave 61 = .ok (.iconst 0, 1) := by decide +kernel
theorem dX8_wouldSave_62 : decode cX8_wouldSave 62 = .ok (.istore 4, 2) := by decide +kernel
theorem dX8_wouldSave_64 : decode cX8_wouldSave 64 = .ok (.iconst 0, 1) := by decide +kernel
theorem dX8_wouldSave_65 : decode cX8_wouldSave 65 = .ok (.istore 5, 2) := by decide +kernel
theorem dX8_wouldSave_67 : decode cX8_wouldSave 67 = .ok (.iload 5, 2) := by decide +kernel
theorem dX8_wouldSave_69 : decode cX8_wouldSave 69 = .ok (.iconst 3, 1) := by decide +kernel
theorem dX8_wouldSave_70 : decode cX8_wouldSave 70 = .ok (.if_icmp .ge 40, 3) := by decide +kernel
theorem dX8_wouldSave_73 : decode cX8_wouldSave 73 = .ok (.aload_n 0, 1) := by decide +kernel
theorem dX8_wouldSave_74 : decode cX8_wouldSave 74 = .ok (.getfield 39, 3) := by decide +kernel
theorem dX8_wouldSave_77 : decode cX8_wouldSave 77 = .ok (.aload_n 2, 1) := by decide +kernel
theorem dX8_wouldSave_78 : decode cX8_wouldSave 78 = .ok (.iload 5, 2) := by decide +kernel
theorem dX8_wouldSave_80 : decode cX8_wouldSave 80 = .ok (.aload_n 0, 1) := by decide +kernel
theorem dX8_wouldSave_81 : decode cX8_wouldSave 81 = .ok (.getfield 47, 3) := by decide +kernel
theorem dX8_wouldSave_84 : decode cX8_wouldSave 84 = .ok (.aload_n 0, 1) := by decide +kernel
theorem dX8_wouldSave_85 : decode cX8_wouldSave 85 = .ok (.getfield 25, 3) := by decide +kernel
theorem dX8_wouldSave_88 : decode cX8_wouldSave 88 = .ok (.invokevirtual 208, 3) := by decide +kernel
theorem dX8_wouldSave_91 : decode cX8_wouldSave 91 = .ok (.iload_n 3, 1) := by decide +kernel
theorem dX8_wouldSave_92 : decode cX8_wouldSave 92 = .ok (.if_icmp .ge 12, 3) := by decide +kernel
theorem dX8_wouldSave_95 : decode cX8_wouldSave 95 = .ok (.iload 4, 2) := by decide +kernel
theorem dX8_wouldSave_97 : decode cX8_wouldSave 97 = .ok (.iconst 1, 1) := by decide +kernel
theorem dX8_wouldSave_98 : decode cX8_wouldSave 98 = .ok (.iload 5, 2) := by decide +kernel
theorem dX8_wouldSave_100 : decode cX8_wouldSave 100 = .ok (.ishl, 1) := by decide +kernel
theorem dX8_wouldSave_101 : decode cX8_wouldSave 101 = .ok (.ior, 1) := by decide +kernel
theorem dX8_wouldSave_102 : decode cX8_wouldSave 102 = .ok (.istore 4, 2) := by decide +kernel
theorem dX8_wouldSave_104 : decode cX8_wouldSave 104 = .ok (.iinc 5 1, 3) := by decide +kernel
theorem dX8_wouldSave_107 : decode cX8_wouldSave 107 = .ok (.goto (-40), 3) := by decide +kernel
theorem dX8_wouldSave_110 : decode cX8_wouldSave 110 = .ok (.iload 4, 2) := by decide +kernel
theorem dX8_wouldSave_112 : decode cX8_wouldSave 112 = .ok (.ireturn, 1) := by decide +kernel
theorem dX8_digest_0 : decode cX8_digest 0 = .ok (.ldc2_w 322, 3) := by decide +kernel
theorem dX8_digest_3 : decode cX8_digest 3 = .ok (.lstore_n 1, 1) := by decide +kernel
theorem dX8_digest_4 : decode cX8_digest 4 = .ok (.iconst 0, 1) := by decide +kernel
theorem dX8_digest_5 : decode cX8_digest 5 = .ok (.istore_n 3, 1) := by decide +kernel
theorem dX8_digest_6 : decode cX8_digest 6 = .ok (.iload_n 3, 1) := by decide +kernel
theorem dX8_digest_7 : decode cX8_digest 7 = .ok (.bipush 14, 2) := by decide +kernel
theorem dX8_digest_9 : decode cX8_digest 9 = .ok (.if_icmp .gt 19, 3) := by decide +kernel
theorem dX8_digest_12 : decode cX8_digest 12 = .ok (.lload_n 1, 1) := by decide +kernel
theorem dX8_digest_13 : decode cX8_digest 13 = .ok (.aload_n 0, 1) := by decide +kernel
theorem dX8_digest_14 : decode cX8_digest 14 = .ok (.iload_n 3, 1) := by decide +kernel
theorem dX8_digest_15 : decode cX8_digest 15 = .ok (.invokevirtual 324, 3) := by decide +kernel
theorem dX8_digest_18 : decode cX8_digest 18 = .ok (.invokestatic 327, 3) := by decide +kernel
theorem dX8_digest_21 : decode cX8_digest 21 = .ok (.lstore_n 1, 1) := by decide +kernel
theorem dX8_digest_22 : decode cX8_digest 22 = .ok (.iinc 3 1, 3) := by decide +kernel
theorem dX8_digest_25 : decode cX8_digest 25 = .ok (.goto (-19), 3) := by decide +kernel
theorem dX8_digest_28 : decode cX8_digest 28 = .ok (.iconst 0, 1) := by decide +kernel
theorem dX8_digest_29 : decode cX8_digest 29 = .ok (.istore_n 3, 1) := by decide +kernel
theorem dX8_digest_30 : decode cX8_digest 30 = .ok (.iload_n 3, 1) := by decide +kernel
theorem dX8_digest_31 : decode cX8_digest 31 = .ok (.aload_n 0, 1) := by decide +kernel
theorem dX8_digest_32 : decode cX8_digest 32 = .ok (.getfield 10, 3) := by decide +kernel
theorem dX8_digest_35 : decode cX8_digest 35 = .ok (.invokevirtual 69, 3) := by decide +kernel
theorem dX8_digest_38 : decode cX8_digest 38 = .ok (.if_icmp .ge 36, 3) := by decide +kernel
theorem dX8_digest_41 : decode cX8_digest 41 = .ok (.iconst 0, 1) := by decide +kernel
theorem dX8_digest_42 : decode cX8_digest 42 = .ok (.istore 4, 2) := by decide +kernel
theorem dX8_digest_44 : decode cX8_digest 44 = .ok (.iload 4, 2) := by decide +kernel
theorem dX8_digest_46 : decode cX8_digest 46 = .ok (.iconst 4, 1) := by decide +kernel
theorem dX8_digest_47 : decode cX8_digest 47 = .ok (.if_icmp .gt 21, 3) := by decide +kernel
theorem dX8_digest_50 : decode cX8_digest 50 = .ok (.lload_n 1, 1) := by decide +kernel
theorem dX8_digest_51 : decode cX8_digest 51 = .ok (.aload_n 0, 1) := by decide +kernel
theorem dX8_digest_52 : decode cX8_digest 52 = .ok (.iload_n 3, 1) := by decide +kernel
theorem dX8_digest_53 : decode cX8_digest 53 = .ok (.iload 4, 2) := by decide +kernel
theorem dX8_digest_55 : decode cX8_digest 55 = .ok (.invokevirtual 331, 3) := by decide +kernel
theorem dX8_digest_58 : decode cX8_digest 58 = .ok (.invokestatic 327, 3) := by decide +kernel
theorem dX8_digest_61 : decode cX8_digest 61 = .ok (.lstore_n 1, 1) := by decide +kernel
theorem dX8_digest_62 : decode cX8_digest 62 = .ok (.iinc 4 1, 3) := by decide +kernel
theorem dX8_digest_65 : decode cX8_digest 65 = .ok (.goto (-21), 3) := by decide +kernel
theorem dX8_digest_68 : decode cX8_digest 68 = .ok (.iinc 3 1, 3) := by decide +kernel
theorem dX8_digest_71 : decode cX8_digest 71 = .ok (.goto (-41), 3) := by decide +kernel
theorem dX8_digest_74 : decode cX8_digest 74 = .ok (.iconst 0, 1) := by decide +kernel
theorem dX8_digest_75 : decode cX8_digest 75 = .ok (.istore_n 3, 1) := by decide +kernel
theorem dX8_digest_76 : decode cX8_digest 76 = .ok (.iload_n 3, 1) := by decide +kernel
theorem dX8_digest_77 : decode cX8_digest 77 = .ok (.iconst 4, 1) := by decide +kernel
theorem dX8_digest_78 : decode cX8_digest 78 = .ok (.if_icmp .ge 36, 3) := by decide +kernel
theorem dX8_digest_81 : decode cX8_digest 81 = .ok (.iconst 0, 1) := by decide +kernel
theorem dX8_digest_82 : decode cX8_digest 82 = .ok (.istore 4, 2) := by decide +kernel
theorem dX8_digest_84 : decode cX8_digest 84 = .ok (.iload 4, 2) := by decide +kernel
theorem dX8_digest_86 : decode cX8_digest 86 = .ok (.iconst 3, 1) := by decide +kernel
theorem dX8_digest_87 : decode cX8_digest 87 = .ok (.if_icmp .gt 21, 3) := by decide +kernel
theorem dX8_digest_90 : decode cX8_digest 90 = .ok (.lload_n 1, 1) := by decide +kernel
theorem dX8_digest_91 : decode cX8_digest 91 = .ok (.aload_n 0, 1) := by decide +kernel
theorem dX8_digest_92 : decode cX8_digest 92 = .ok (.iload_n 3, 1) := by decide +kernel
theorem dX8_digest_93 : decode cX8_digest 93 = .ok (.iload 4, 2) := by decide +kernel
theorem dX8_digest_95 : decode cX8_digest 95 = .ok (.invokevirtual 334, 3) := by decide +kernel
theorem dX8_digest_98 : decode cX8_digest 98 = .ok (.invokestatic 327, 3) := by decide +kernel
theorem dX8_digest_101 : decode cX8_digest 101 = .ok (.lstore_n 1, 1) := by decide +kernel
theorem dX8_digest_102 : decode cX8_digest 102 = .ok (.iinc 4 1, 3) := by decide +kernel
theorem dX8_digest_105 : decode cX8_digest 105 = .ok (.goto (-21), 3) := by decide +kernel
theorem dX8_digest_108 : decode cX8_digest 108 = .ok (.iinc 3 1, 3) := by decide +kernel
theorem dX8_digest_111 : decode cX8_digest 111 = .ok (.goto (-35), 3) := by decide +kernel
theorem dX8_digest_114 : decode cX8_digest 114 = .ok (.iconst 0, 1) := by decide +kernel
theorem dX8_digest_115 : decode cX8_digest 115 = .ok (.istore_n 3, 1) := by decide +kernel
theorem dX8_digest_116 : decode cX8_digest 116 = .ok (.iload_n 3, 1) := by decide +kernel
theorem dX8_digest_117 : decode cX8_digest 117 = .ok (.aload_n 0, 1) := by decide +kernel
theorem dX8_digest_118 : decode cX8_digest 118 = .ok (.getfield 19, 3) := by decide +kernel
theorem dX8_digest_121 : decode cX8_digest 121 = .ok (.invokevirtual 69, 3) := by decide +kernel
theorem dX8_digest_124 : decode cX8_digest 124 = .ok (.if_icmp .ge 36, 3) := by decide +kernel
theorem dX8_digest_127 : decode cX8_digest 127 = .ok (.iconst 0, 1) := by decide +kernel
theorem dX8_digest_128 : decode cX8_digest 128 = .ok (.istore 4, 2) := by decide +kernel
theorem dX8_digest_130 : decode cX8_digest 130 = .ok (.iload 4, 2) := by decide +kernel
theorem dX8_digest_132 : decode cX8_digest 132 = .ok (.iconst 4, 1) := by decide +kernel
theorem dX8_digest_133 : decode cX8_digest 133 = .ok (.if_icmp .gt 21, 3) := by decide +kernel
theorem dX8_digest_136 : decode cX8_digest 136 = .ok (.lload_n 1, 1) := by decide +kernel
theorem dX8_digest_137 : decode cX8_digest 137 = .ok (.aload_n 0, 1) := by decide +kernel
theorem dX8_digest_138 : decode cX8_digest 138 = .ok (.iload_n 3, 1) := by decide +kernel
theorem dX8_digest_139 : decode cX8_digest 139 = .ok (.iload 4, 2) := by decide +kernel
theorem dX8_digest_141 : decode cX8_digest 141 = .ok (.invokevirtual 337, 3) := by decide +kernel
theorem dX8_digest_144 : decode cX8_digest 144 = .ok (.invokestatic 327, 3) := by decide +kernel
theorem dX8_digest_147 : decode cX8_digest 147 = .ok (.lstore_n 1, 1) := by decide +kernel
theorem dX8_digest_148 : decode cX8_digest 148 = .ok (.iinc 4 1, 3) := by decide +kernel
theorem dX8_digest_151 : decode cX8_digest 151 = .ok (.goto (-21), 3) := by decide +kernel
theorem dX8_digest_154 : decode cX8_digest 154 = .ok (.iinc 3 1, 3) := by decide +kernel
theorem dX8_digest_157 : decode cX8_digest 157 = .ok (.goto (-41), 3) := by decide +kernel
theorem dX8_digest_160 : decode cX8_digest 160 = .ok (.iconst 0, 1) := by decide +kernel
theorem dX8_digest_161 : decode cX8_digest 161 = .ok (.istore_n 3, 1) := by decide +kernel
theorem dX8_digest_162 : decode cX8_digest 162 = .ok (.iload_n 3, 1) := by decide +kernel
theorem dX8_digest_163 : decode cX8_digest 163 = .ok (.aload_n 0, 1) := by decide +kernel
theorem dX8_digest_164 : decode cX8_digest 164 = .ok (.getfield 16, 3) := by decide +kernel
theorem dX8_digest_167 : decode cX8_digest 167 = .ok (.invokevirtual 69, 3) := by decide +kernel
theorem dX8_digest_170 : decode cX8_digest 170 = .ok (.if_icmp .ge 26, 3) := by decide +kernel
theorem dX8_digest_173 : decode cX8_digest 173 = .ok (.aload_n 0, 1) := by decide +kernel
theorem dX8_digest_174 : decode cX8_digest 174 = .ok (.lload_n 1, 1) := by decide +kernel
theorem dX8_digest_175 : decode cX8_digest 175 = .ok (.aload_n 0, 1) := by decide +kernel
theorem dX8_digest_176 : decode cX8_digest 176 = .ok (.getfield 16, 3) := by decide +kernel
theorem dX8_digest_179 : decode cX8_digest 179 = .ok (.iload_n 3, 1) := by decide +kernel
theorem dX8_digest_180 : decode cX8_digest 180 = .ok (.invokevirtual 92, 3) := by decide +kernel
theorem dX8_digest_183 : decode cX8_digest 183 = .ok (.checkcast 121, 3) := by decide +kernel
theorem dX8_digest_186 : decode cX8_digest 186 = .ok (.invokevirtual 340, 3) := by decide +kernel
theorem dX8_digest_189 : decode cX8_digest 189 = .ok (.lstore_n 1, 1) := by decide +kernel
theorem dX8_digest_190 : decode cX8_digest 190 = .ok (.iinc 3 1, 3) := by decide +kernel
theorem dX8_digest_193 : decode cX8_digest 193 = .ok (.goto (-31), 3) := by decide +kernel
theorem dX8_digest_196 : decode cX8_digest 196 = .ok (.lload_n 1, 1) := by decide +kernel
theorem dX8_digest_197 : decode cX8_digest 197 = .ok (.lreturn, 1) := by decide +kernel
theorem dX8_needIndex_0 : decode cX8_needIndex 0 = .ok (.iload_n 0, 1) := by decide +kernel
theorem dX8_needIndex_1 : decode cX8_needIndex 1 = .ok (.ifCond .ne 14, 3) := by decide +kernel
theorem dX8_needIndex_4 : decode cX8_needIndex 4 = .ok (.new 344, 3) := by decide +kernel
theorem dX8_needIndex_7 : decode cX8_needIndex 7 = .ok (.dup, 1) := by decide +kernel
theorem dX8_needIndex_8 : decode cX8_needIndex 8 = .ok (.ldc_w 346, 3) := by decide +kernel
theorem dX8_needIndex_11 : decode cX8_needIndex 11 = .ok (.invokespecial 348, 3) := by decide +kernel
theorem dX8_needIndex_14 : decode cX8_needIndex 14 = .ok (.athrow, 1) := by decide +kernel
theorem dX8_needIndex_15 : decode cX8_needIndex 15 = .ok (.return_, 1) := by decide +kernel
theorem dX8_needArgument_0 : decode cX8_needArgument 0 = .ok (.iload_n 0, 1) := by decide +kernel
theorem dX8_needArgument_1 : decode cX8_needArgument 1 = .ok (.ifCond .ne 14, 3) := by decide +kernel
theorem dX8_needArgument_4 : decode cX8_needArgument 4 = .ok (.new 351, 3) := by decide +kernel
theorem dX8_needArgument_7 : decode cX8_needArgument 7 = .ok (.dup, 1) := by decide +kernel
theorem dX8_needArgument_8 : decode cX8_needArgument 8 = .ok (.ldc_w 353, 3) := by decide +kernel
theorem dX8_needArgument_11 : decode cX8_needArgument 11 = .ok (.invokespecial 355, 3) := by decide +kernel
theorem dX8_needArgument_14 : decode cX8_needArgument 14 = .ok (.athrow, 1) := by decide +kernel
theorem dX8_needArgument_15 : decode cX8_needArgument 15 = .ok (.return_, 1) := by decide +kernel
theorem dX8_needState_0 : decode cX8_needState 0 = .ok (.iload_n 0, 1) := by decide +kernel
theorem dX8_needState_1 : decode cX8_needState 1 = .ok (.ifCond .ne 14, 3) := by decide +kernel
theorem dX8_needState_4 : decode cX8_needState 4 = .ok (.new 356, 3) := by decide +kernel
theorem dX8_needState_7 : decode cX8_needState 7 = .ok (.dup, 1) := by decide +kernel
theorem dX8_needState_8 : decode cX8_needState 8 = .ok (.ldc_w 358, 3) := by decide +kernel
theorem dX8_needState_11 : decode cX8_needState 11 = .ok (.invokespecial 360, 3) := by decide +kernel
theorem dX8_needState_14 : decode cX8_needState 14 = .ok (.athrow, 1) := by decide +kernel
theorem dX8_needState_15 : decode cX8_needState 15 = .ok (.return_, 1) := by decide +kernel
theorem dX8_isIn_0 : decode cX8_isIn 0 = .ok (.iload_n 0, 1) := by decide +kernel
theorem dX8_isIn_1 : decode cX8_isIn 1 = .ok (.iload_n 1, 1) := by decide +kernel
theorem dX8_isIn_2 : decode cX8_isIn 2 = .ok (.if_icmp .lt 12, 3) := by decide +kernel
theorem dX8_isIn_5 : decode cX8_isIn 5 = .ok (.iload_n 0, 1) := by decide +kernel
theorem dX8_isIn_6 : decode cX8_isIn 6 = .ok (.iload_n 2, 1) := by decide +kernel
theorem dX8_isIn_7 : decode cX8_isIn 7 = .ok (.if_icmp .gt 7, 3) := by decide +kernel
theorem dX8_isIn_10 : decode cX8_isIn 10 = .ok (.iconst 1, 1) := by decide +kernel
theorem dX8_isIn_11 : decode cX8_isIn 11 = .ok (.goto 4, 3) := by decide +kernel
theorem dX8_isIn_14 : decode cX8_isIn 14 = .ok (.iconst 0, 1) := by decide +kernel
theorem dX8_isIn_15 : decode cX8_isIn 15 = .ok (.ireturn, 1) := by decide +kernel
theorem dX8_isKnot_0 : decode cX8_isKnot 0 = .ok (.iload_n 0, 1) := by decide +kernel
theorem dX8_isKnot_1 : decode cX8_isKnot 1 = .ok (.iconst 0, 1) := by decide +kernel
theorem dX8_isKnot_2 : decode cX8_isKnot 2 = .ok (.bipush 7, 2) := by decide +kernel
theorem dX8_isKnot_4 : decode cX8_isKnot 4 = .ok (.invokestatic 62, 3) := by decide +kernel
theorem dX8_isKnot_7 : decode cX8_isKnot 7 = .ok (.ireturn, 1) := by decide +kernel
theorem dX8_isOwner_0 : decode cX8_isOwner 0 = .ok (.iload_n 0, 1) := by decide +kernel
theorem dX8_isOwner_1 : decode cX8_isOwner 1 = .ok (.iconst 0, 1) := by decide +kernel
theorem dX8_isOwner_2 : decode cX8_isOwner 2 = .ok (.iconst 3, 1) := by decide +kernel
theorem dX8_isOwner_3 : decode cX8_isOwner 3 = .ok (.invokestatic 62, 3) := by decide +kernel
theorem dX8_isOwner_6 : decode cX8_isOwner 6 = .ok (.ireturn, 1) := by decide +kernel
theorem dX8_hasBit_0 : decode cX8_hasBit 0 = .ok (.iload_n 0, 1) := by decide +kernel
theorem dX8_hasBit_1 : decode cX8_hasBit 1 = .ok (.iload_n 1, 1) := by decide +kernel
theorem dX8_hasBit_2 : decode cX8_hasBit 2 = .ok (.ishr, 1) := by decide +kernel
theorem dX8_hasBit_3 : decode cX8_hasBit 3 = .ok (.iconst 1, 1) := by decide +kernel
theorem dX8_hasBit_4 : decode cX8_hasBit 4 = .ok (.iand, 1) := by decide +kernel
theorem dX8_hasBit_5 : decode cX8_hasBit 5 = .ok (.iconst 1, 1) := by decide +kernel
theorem dX8_hasBit_6 : decode cX8_hasBit 6 = .ok (.if_icmp .ne 7, 3) := by decide +kernel
theorem dX8_hasBit_9 : decode cX8_hasBit 9 = .ok (.iconst 1, 1) := by decide +kernel
theorem dX8_hasBit_10 : decode cX8_hasBit 10 = .ok (.goto 4, 3) := by decide +kernel
theorem dX8_hasBit_13 : decode cX8_hasBit 13 = .ok (.iconst 0, 1) := by decide +kernel
theorem dX8_hasBit_14 : decode cX8_hasBit 14 = .ok (.ireturn, 1) := by decide +kernel
theorem dX8_fold_0 : decode cX8_fold 0 = .ok (.lload_n 0, 1) := by decide +kernel
theorem dX8_fold_1 : decode cX8_fold 1 = .ok (.ldc2_w 361, 3) := by decide +kernel
theorem dX8_fold_4 : decode cX8_fold 4 = .ok (.lmul, 1) := by decide +kernel
theorem dX8_fold_5 : decode cX8_fold 5 = .ok (.iload_n 2, 1) := by decide +kernel
theorem dX8_fold_6 : decode cX8_fold 6 = .ok (.i2l, 1) := by decide +kernel
theorem dX8_fold_7 : decode cX8_fold 7 = .ok (.ladd, 1) := by decide +kernel
theorem dX8_fold_8 : decode cX8_fold 8 = .ok (.lreturn, 1) := by decide +kernel
theorem dX8_isSegment_0 : decode cX8_isSegment 0 = .ok (.iload_n 1, 1) := by decide +kernel
theorem dX8_isSegment_1 : decode cX8_isSegment 1 = .ok (.iconst 0, 1) := by decide +kernel
theorem dX8_isSegment_2 : decode cX8_isSegment 2 = .ok (.aload_n 0, 1) := by decide +kernel
theorem dX8_isSegment_3 : decode cX8_isSegment 3 = .ok (.getfield 10, 3) := by decide +kernel
theorem dX8_isSegment_6 : decode cX8_isSegment 6 = .ok (.invokevirtual 69, 3) := by decide +kernel
theorem dX8_isSegment_9 : decode cX8_isSegment 9 = .ok (.iconst 1, 1) := by decide +kernel
theorem dX8_isSegment_10 : decode cX8_isSegment 10 = .ok (.isub, 1) := by decide +kernel
theorem dX8_isSegment_11 : decode cX8_isSegment 11 = .ok (.invokestatic 62, 3) := by decide +kernel
theorem dX8_isSegment_14 : decode cX8_isSegment 14 = .ok (.ireturn, 1) := by decide +kernel
theorem dX8_isVehicle_0 : decode cX8_isVehicle 0 = .ok (.iload_n 1, 1) := by decide +kernel
theorem dX8_isVehicle_1 : decode cX8_isVehicle 1 = .ok (.iconst 0, 1) := by decide +kernel
theorem dX8_isVehicle_2 : decode cX8_isVehicle 2 = .ok (.aload_n 0, 1) := by decide +kernel
theorem dX8_isVehicle_3 : decode cX8_isVehicle 3 = .ok (.getfield 16, 3) := by decide +kernel
theorem dX8_isVehicle_6 : decode cX8_isVehicle 6 = .ok (.invokevirtual 69, 3) := by decide +kernel
theorem dX8_isVehicle_9 : decode cX8_isVehicle 9 = .ok (.iconst 1, 1) := by decide +kernel
theorem dX8_isVehicle_10 : decode cX8_isVehicle 10 = .ok (.isub, 1) := by decide +kernel
theorem dX8_isVehicle_11 : decode cX8_isVehicle 11 = .ok (.invokestatic 62, 3) := by decide +kernel
theorem dX8_isVehicle_14 : decode cX8_isVehicle 14 = .ok (.ireturn, 1) := by decide +kernel
theorem dX8_isSighting_0 : decode cX8_isSighting 0 = .ok (.iload_n 1, 1) := by decide +kernel
theorem dX8_isSighting_1 : decode cX8_isSighting 1 = .ok (.iconst 0, 1) := by decide +kernel
theorem dX8_isSighting_2 : decode cX8_isSighting 2 = .ok (.aload_n 0, 1) := by decide +kernel
theorem dX8_isSighting_3 : decode cX8_isSighting 3 = .ok (.getfield 19, 3) := by decide +kernel
theorem dX8_isSighting_6 : decode cX8_isSighting 6 = .ok (.invokevirtual 69, 3) := by decide +kernel
theorem dX8_isSighting_9 : decode cX8_isSighting 9 = .ok (.iconst 1, 1) := by decide +kernel
theorem dX8_isSighting_10 : decode cX8_isSighting 10 = .ok (.isub, 1) := by decide +kernel
theorem dX8_isSighting_11 : decode cX8_isSighting 11 = .ok (.invokestatic 62, 3) := by decide +kernel
theorem dX8_isSighting_14 : decode cX8_isSighting 14 = .ok (.ireturn, 1) := by decide +kernel
theorem dX8_isDayToTell_0 : decode cX8_isDayToTell 0 = .ok (.iload_n 1, 1) := by decide +kernel
theorem dX8_isDayToTell_1 : decode cX8_isDayToTell 1 = .ok (.aload_n 0, 1) := by decide +kernel
theorem dX8_isDayToTell_2 : decode cX8_isDayToTell 2 = .ok (.invokevirtual 194, 3) := by decide +kernel
theorem dX8_isDayToTell_5 : decode cX8_isDayToTell 5 = .ok (.if_icmp .le 13, 3) := by decide +kernel
theorem dX8_isDayToTell_8 : decode cX8_isDayToTell 8 = .ok (.iload_n 1, 1) := by decide +kernel
theorem dX8_isDayToTell_9 : decode cX8_isDayToTell 9 = .ok (.bipush 50, 2) := by decide +kernel
theorem dX8_isDayToTell_11 : decode cX8_isDayToTell 11 = .ok (.if_icmp .gt 7, 3) := by decide +kernel
theorem dX8_isDayToTell_14 : decode cX8_isDayToTell 14 = .ok (.iconst 1, 1) := by decide +kernel
theorem dX8_isDayToTell_15 : decode cX8_isDayToTell 15 = .ok (.goto 4, 3) := by decide +kernel
theorem dX8_isDayToTell_18 : decode cX8_isDayToTell 18 = .ok (.iconst 0, 1) := by decide +kernel
theorem dX8_isDayToTell_19 : decode cX8_isDayToTell 19 = .ok (.ireturn, 1) := by decide +kernel
theorem dX8_today_0 : decode cX8_today 0 = .ok (.aload_n 0, 1) := by decide +kernel
theorem dX8_today_1 : decode cX8_today 1 = .ok (.getfield 139, 3) := by decide +kernel
theorem dX8_today_4 : decode cX8_today 4 = .ok (.sipush 1440, 3) := by decide +kernel
theorem dX8_today_7 : decode cX8_today 7 = .ok (.idiv, 1) := by decide +kernel
theorem dX8_today_8 : decode cX8_today 8 = .ok (.ireturn, 1) := by decide +kernel
theorem dX8_isClosed_0 : decode cX8_isClosed 0 = .ok (.iload_n 1, 1) := by decide +kernel
theorem dX8_isClosed_1 : decode cX8_isClosed 1 = .ok (.aload_n 0, 1) := by decide +kernel
theorem dX8_isClosed_2 : decode cX8_isClosed 2 = .ok (.invokevirtual 194, 3) := by decide +kernel
theorem dX8_isClosed_5 : decode cX8_isClosed 5 = .ok (.iconst 2, 1) := by decide +kernel
theorem dX8_isClosed_6 : decode cX8_isClosed 6 = .ok (.isub, 1) := by decide +kernel
theorem dX8_isClosed_7 : decode cX8_isClosed 7 = .ok (.if_icmp .gt 7, 3) := by decide +kernel
theorem dX8_isClosed_10 : decode cX8_isClosed 10 = .ok (.iconst 1, 1) := by decide +kernel
theorem dX8_isClosed_11 : decode cX8_isClosed 11 = .ok (.goto 4, 3) := by decide +kernel
theorem dX8_isClosed_14 : decode cX8_isClosed 14 = .ok (.iconst 0, 1) := by decide +kernel
theorem dX8_isClosed_15 : decode cX8_isClosed 15 = .ok (.ireturn, 1) := by decide +kernel
theorem dX8_blockedSet_0 : decode cX8_blockedSet 0 = .ok (.iconst 0, 1) := by decide +kernel
theorem dX8_blockedSet_1 : decode cX8_blockedSet 1 = .ok (.istore_n 1, 1) := by decide +kernel
theorem dX8_blockedSet_2 : decode cX8_blockedSet 2 = .ok (.iconst 0, 1) := by decide +kernel
theorem dX8_blockedSet_3 : decode cX8_blockedSet 3 = .ok (.istore_n 2, 1) := by decide +kernel
theorem dX8_blockedSet_4 : decode cX8_blockedSet 4 = .ok (.iload_n 2, 1) := by decide +kernel
theorem dX8_blockedSet_5 : decode cX8_blockedSet 5 = .ok (.aload_n 0, 1) := by decide +kernel
theorem dX8_blockedSet_6 : decode cX8_blockedSet 6 = .ok (.getfield 16, 3) := by decide +kernel
theorem dX8_blockedSet_9 : decode cX8_blockedSet 9 = .ok (.invokevirtual 69, 3) := by decide +kernel
theorem dX8_blockedSet_12 : decode cX8_blockedSet 12 = .ok (.if_icmp .ge 32, 3) := by decide +kernel
theorem dX8_blockedSet_15 : decode cX8_blockedSet 15 = .ok (.aload_n 0, 1) := by decide +kernel
theorem dX8_blockedSet_16 : decode cX8_blockedSet 16 = .ok (.getfield 16, 3) := by decide +kernel
theorem dX8_blockedSet_19 : decode cX8_blockedSet 19 = .ok (.iload_n 2, 1) := by decide +kernel
theorem dX8_blockedSet_20 : decode cX8_blockedSet 20 = .ok (.invokevirtual 92, 3) := by decide +kernel
theorem dX8_blockedSet_23 : decode cX8_blockedSet 23 = .ok (.checkcast 121, 3) := by decide +kernel
theorem dX8_blockedSet_26 : decode cX8_blockedSet 26 = .ok (.invokevirtual 252, 3) := by decide +kernel
theorem dX8_blockedSet_29 : decode cX8_blockedSet 29 = .ok (.ifCond .eq 9, 3) := by decide +kernel
theorem dX8_blockedSet_32 : decode cX8_blockedSet 32 = .ok (.iload_n 1, 1) := by decide +kernel
theorem dX8_blockedSet_33 : decode cX8_blockedSet 33 = .ok (.iconst 1, 1) := by decide +kernel
theorem dX8_blockedSet_34 : decode cX8_blockedSet 34 = .ok (.iload_n 2, 1) := by decide +kernel
theorem dX8_blockedSet_35 : decode cX8_blockedSet 35 = .ok (.ishl, 1) := by decide +kernel
theorem dX8_blockedSet_36 : decode cX8_blockedSet 36 = .ok (.ior, 1) := by decide +kernel
theorem dX8_blockedSet_37 : decode cX8_blockedSet 37 = .ok (.istore_n 1, 1) := by decide +kernel
theorem dX8_blockedSet_38 : decode cX8_blockedSet 38 = .ok (.iinc 2 1, 3) := by decide +kernel
theorem dX8_blockedSet_41 : decode cX8_blockedSet 41 = .ok (.goto (-37), 3) := by decide +kernel
theorem dX8_blockedSet_44 : decode cX8_blockedSet 44 = .ok (.iload_n 1, 1) := by decide +kernel
theorem dX8_blockedSet_45 : decode cX8_blockedSet 45 = .ok (.ireturn, 1) := by decide +kernel
theorem dX8_tollOf_0 : decode cX8_tollOf 0 = .ok (.aload_n 1, 1) := by decide +kernel
theorem dX8_tollOf_1 : decode cX8_tollOf 1 = .ok (.aload_n 2, 1) := by decide +kernel
theorem dX8_tollOf_2 : decode cX8_tollOf 2 = .ok (.getfield 240, 3) := by decide +kernel
theorem dX8_tollOf_5 : decode cX8_tollOf 5 = .ok (.invokevirtual 129, 3) := by decide +kernel
theorem dX8_tollOf_8 : decode cX8_tollOf 8 = .ok (.ifCond .ne 11, 3) := by decide +kernel
theorem dX8_tollOf_11 : decode cX8_tollOf 11 = .ok (.aload_n 2, 1) := by decide +kernel
theorem dX8_tollOf_12 : decode cX8_tollOf 12 = .ok (.iload_n 3, 1) := by decide +kernel
theorem dX8_tollOf_13 : decode cX8_tollOf 13 = .ok (.invokevirtual 243, 3) := by decide +kernel
theorem dX8_tollOf_16 : decode cX8_tollOf 16 = .ok (.ifCond .eq 5, 3) := by decide +kernel
theorem dX8_tollOf_19 : decode cX8_tollOf 19 = .ok (.iconst 0, 1) := by decide +kernel
theorem dX8_tollOf_20 : decode cX8_tollOf 20 = .ok (.ireturn, 1) := by decide +kernel
theorem dX8_tollOf_21 : decode cX8_tollOf 21 = .ok (.aload_n 0, 1) := by decide +kernel
theorem dX8_tollOf_22 : decode cX8_tollOf 22 = .ok (.getfield 25, 3) := by decide +kernel
theorem dX8_tollOf_25 : decode cX8_tollOf 25 = .ok (.aload_n 2, 1) := by decide +kernel
theorem dX8_tollOf_26 : decode cX8_tollOf 26 = .ok (.aload_n 1, 1) := by decide +kernel
theorem dX8_tollOf_27 : decode cX8_tollOf 27 = .ok (.getfield 201, 3) := by decide +kernel
theorem dX8_tollOf_30 : decode cX8_tollOf 30 = .ok (.aload_n 1, 1) := by decide +kernel
theorem dX8_tollOf_31 : decode cX8_tollOf 31 = .ok (.getfield 246, 3) := by decide +kernel
theorem dX8_tollOf_34 : decode cX8_tollOf 34 = .ok (.iload_n 3, 1) := by decide +kernel
theorem dX8_tollOf_35 : decode cX8_tollOf 35 = .ok (.invokevirtual 318, 3) := by decide +kernel
theorem dX8_tollOf_38 : decode cX8_tollOf 38 = .ok (.ireturn, 1) := by decide +kernel
theorem dX8_hasPassed_0 : decode cX8_hasPassed 0 = .ok (.iload_n 3, 1) := by decide +kernel
theorem dX8_hasPassed_1 : decode cX8_hasPassed 1 = .ok (.sipush 1440, 3) := by decide +kernel
theorem dX8_hasPassed_4 : decode cX8_hasPassed 4 = .ok (.idiv, 1) := by decide +kernel
theorem dX8_hasPassed_5 : decode cX8_hasPassed 5 = .ok (.istore 4, 2) := by decide +kernel
theorem dX8_hasPassed_7 : decode cX8_hasPassed 7 = .ok (.aload_n 0, 1) := by decide +kernel
theorem dX8_hasPassed_8 : decode cX8_hasPassed 8 = .ok (.getfield 39, 3) := by decide +kernel
theorem dX8_hasPassed_11 : decode cX8_hasPassed 11 = .ok (.aload_n 0, 1) := by decide +kernel
theorem dX8_hasPassed_12 : decode cX8_hasPassed 12 = .ok (.getfield 19, 3) := by decide +kernel
theorem dX8_hasPassed_15 : decode cX8_hasPassed 15 = .ok (.aload_n 0, 1) := by decide +kernel
theorem dX8_hasPassed_16 : decode cX8_hasPassed 16 = .ok (.getfield 10, 3) := by decide +kernel
theorem dX8_hasPassed_19 : decode cX8_hasPassed 19 = .ok (.aload_n 1, 1) := by decide +kernel
theorem dX8_hasPassed_20 : decode cX8_hasPassed 20 = .ok (.iload 4, 2) := by decide +kernel
theorem dX8_hasPassed_22 : decode cX8_hasPassed 22 = .ok (.invokevirtual 197, 3) := by decide +kernel
theorem dX8_hasPassed_25 : decode cX8_hasPassed 25 = .ok (.aload_n 0, 1) := by decide +kernel
theorem dX8_hasPassed_26 : decode cX8_hasPassed 26 = .ok (.getfield 39, 3) := by decide +kernel
theorem dX8_hasPassed_29 : decode cX8_hasPassed 29 = .ok (.aload_n 2, 1) := by decide +kernel
theorem dX8_hasPassed_30 : decode cX8_hasPassed 30 = .ok (.iload_n 3, 1) := by decide +kernel
theorem dX8_hasPassed_31 : decode cX8_hasPassed 31 = .ok (.invokevirtual 363, 3) := by decide +kernel
theorem dX8_hasPassed_34 : decode cX8_hasPassed 34 = .ok (.ifCond .eq 5, 3) := by decide +kernel
theorem dX8_hasPassed_37 : decode cX8_hasPassed 37 = .ok (.iconst 1, 1) := by decide +kernel
theorem dX8_hasPassed_38 : decode cX8_hasPassed 38 = .ok (.ireturn, 1) := by decide +kernel
theorem dX8_hasPassed_39 : decode cX8_hasPassed 39 = .ok (.aload_n 0, 1) := by decide +kernel
theorem dX8_hasPassed_40 : decode cX8_hasPassed 40 = .ok (.getfield 39, 3) := by decide +kernel
theorem dX8_hasPassed_43 : decode cX8_hasPassed 43 = .ok (.aload_n 0, 1) := by decide +kernel
theorem dX8_hasPassed_44 : decode cX8_hasPassed 44 = .ok (.getfield 19, 3) := by decide +kernel
theorem dX8_hasPassed_47 : decode cX8_hasPassed 47 = .ok (.aload_n 0, 1) := by decide +kernel
theorem dX8_hasPassed_48 : decode cX8_hasPassed 48 = .ok (.getfield 10, 3) := by decide +kernel
theorem dX8_hasPassed_51 : decode cX8_hasPassed 51 = .ok (.aload_n 1, 1) := by decide +kernel
theorem dX8_hasPassed_52 : decode cX8_hasPassed 52 = .ok (.iload 4, 2) := by decide +kernel
theorem dX8_hasPassed_54 : decode cX8_hasPassed 54 = .ok (.iconst 1, 1) := by decide +kernel
theorem dX8_hasPassed_55 : decode cX8_hasPassed 55 = .ok (.isub, 1) := by decide +kernel
theorem dX8_hasPassed_56 : decode cX8_hasPassed 56 = .ok (.invokevirtual 197, 3) := by decide +kernel
theorem dX8_hasPassed_59 : decode cX8_hasPassed 59 = .ok (.aload_n 0, 1) := by decide +kernel
theorem dX8_hasPassed_60 : decode cX8_hasPassed 60 = .ok (.getfield 39, 3) := by decide +kernel
theorem dX8_hasPassed_63 : decode cX8_hasPassed 63 = .ok (.aload_n 2, 1) := by decide +kernel
theorem dX8_hasPassed_64 : decode cX8_hasPassed 64 = .ok (.iload_n 3, 1) := by decide +kernel
theorem dX8_hasPassed_65 : decode cX8_hasPassed 65 = .ok (.invokevirtual 363, 3) := by decide +kernel
theorem dX8_hasPassed_68 : decode cX8_hasPassed 68 = .ok (.ireturn, 1) := by decide +kernel
theorem dX8_closeDay_0 : decode cX8_closeDay 0 = .ok (.iload_n 1, 1) := by decide +kernel
theorem dX8_closeDay_1 : decode cX8_closeDay 1 = .ok (.ifCond .ge 5, 3) := by decide +kernel
theorem dX8_closeDay_4 : decode cX8_closeDay 4 = .ok (.iconst 0, 1) := by decide +kernel
theorem dX8_closeDay_5 : decode cX8_closeDay 5 = .ok (.ireturn, 1) := by decide +kernel
theorem dX8_closeDay_6 : decode cX8_closeDay 6 = .ok (.aload_n 0, 1) := by decide +kernel
theorem dX8_closeDay_7 : decode cX8_closeDay 7 = .ok (.getfield 32, 3) := by decide +kernel
theorem dX8_closeDay_10 : decode cX8_closeDay 10 = .ok (.iload_n 1, 1) := by decide +kernel
theorem dX8_closeDay_11 : decode cX8_closeDay 11 = .ok (.aload_n 0, 1) := by decide +kernel
theorem dX8_closeDay_12 : decode cX8_closeDay 12 = .ok (.getfield 47, 3) := by decide +kernel
theorem dX8_closeDay_15 : decode cX8_closeDay 15 = .ok (.invokevirtual 367, 3) := by decide +kernel
theorem dX8_closeDay_18 : decode cX8_closeDay 18 = .ok (.iconst 0, 1) := by decide +kernel
theorem dX8_closeDay_19 : decode cX8_closeDay 19 = .ok (.istore_n 2, 1) := by decide +kernel
theorem dX8_closeDay_20 : decode cX8_closeDay 20 = .ok (.iconst 0, 1) := by decide +kernel
theorem dX8_closeDay_21 : decode cX8_closeDay 21 = .ok (.istore_n 3, 1) := by decide +kernel
theorem dX8_closeDay_22 : decode cX8_closeDay 22 = .ok (.iload_n 3, 1) := by decide +kernel
theorem dX8_closeDay_23 : decode cX8_closeDay 23 = .ok (.aload_n 0, 1) := by decide +kernel
theorem dX8_closeDay_24 : decode cX8_closeDay 24 = .ok (.getfield 16, 3) := by decide +kernel
theorem dX8_closeDay_27 : decode cX8_closeDay 27 = .ok (.invokevirtual 69, 3) := by decide +kernel
theorem dX8_closeDay_30 : decode cX8_closeDay 30 = .ok (.if_icmp .ge 28, 3) := by decide +kernel
theorem dX8_closeDay_33 : decode cX8_closeDay 33 = .ok (.iload_n 2, 1) := by decide +kernel
theorem dX8_closeDay_34 : decode cX8_closeDay 34 = .ok (.aload_n 0, 1) := by decide +kernel
theorem dX8_closeDay_35 : decode cX8_closeDay 35 = .ok (.aload_n 0, 1) := by decide +kernel
theorem dX8_closeDay_36 : decode cX8_closeDay 36 = .ok (.getfield 16, 3) := by decide +kernel
theorem dX8_closeDay_39 : decode cX8_closeDay 39 = .ok (.iload_n 3, 1) := by decide +kernel
theorem dX8_closeDay_40 : decode cX8_closeDay 40 = .ok (.invokevirtual 92, 3) := by decide +kernel
theorem dX8_closeDay_43 : decode cX8_closeDay 43 = .ok (.checkcast 121, 3) := by decide +kernel
theorem dX8_closeDay_46 : decode cX8_closeDay 46 = .ok (.iload_n 1, 1) := by decide +kernel
theorem dX8_closeDay_47 : decode cX8_closeDay 47 = .ok (.invokevirtual 370, 3) := by decide +kernel
theorem dX8_closeDay_50 : decode cX8_closeDay 50 = .ok (.iadd, 1) := by decide +kernel
theorem dX8_closeDay_51 : decode cX8_closeDay 51 = .ok (.istore_n 2, 1) := by decide +kernel
theorem dX8_closeDay_52 : decode cX8_closeDay 52 = .ok (.iinc 3 1, 3) := by decide +kernel
theorem dX8_closeDay_55 : decode cX8_closeDay 55 = .ok (.goto (-33), 3) := by decide +kernel
theorem dX8_closeDay_58 : decode cX8_closeDay 58 = .ok (.iload_n 2, 1) := by decide +kernel
theorem dX8_closeDay_59 : decode cX8_closeDay 59 = .ok (.ireturn, 1) := by decide +kernel
theorem dX8_takeBill_0 : decode cX8_takeBill 0 = .ok (.aload_n 0, 1) := by decide +kernel
theorem dX8_takeBill_1 : decode cX8_takeBill 1 = .ok (.getfield 39, 3) := by decide +kernel
theorem dX8_takeBill_4 : decode cX8_takeBill 4 = .ok (.aload_n 0, 1) := by decide +kernel
theorem dX8_takeBill_5 : decode cX8_takeBill 5 = .ok (.getfield 19, 3) := by decide +kernel
theorem dX8_takeBill_8 : decode cX8_takeBill 8 = .ok (.aload_n 0, 1) := by decide +kernel
theorem dX8_takeBill_9 : decode cX8_takeBill 9 = .ok (.getfield 10, 3) := by decide +kernel
theorem dX8_takeBill_12 : decode cX8_takeBill 12 = .ok (.aload_n 1, 1) := by decide +kernel
theorem dX8_takeBill_13 : decode cX8_takeBill 13 = .ok (.iload_n 2, 1) := by decide +kernel
theorem dX8_takeBill_14 : decode cX8_takeBill 14 = .ok (.invokevirtual 197, 3) := by decide +kernel
theorem dX8_takeBill_17 : decode cX8_takeBill 17 = .ok (.aload_n 0, 1) := by decide +kernel
theorem dX8_takeBill_18 : decode cX8_takeBill 18 = .ok (.getfield 39, 3) := by decide +kernel
theorem dX8_takeBill_21 : decode cX8_takeBill 21 = .ok (.aload_n 1, 1) := by decide +kernel
theorem dX8_takeBill_22 : decode cX8_takeBill 22 = .ok (.aload_n 1, 1) := by decide +kernel
theorem dX8_takeBill_23 : decode cX8_takeBill 23 = .ok (.getfield 201, 3) := by decide +kernel
theorem dX8_takeBill_26 : decode cX8_takeBill 26 = .ok (.aload_n 0, 1) := by decide +kernel
theorem dX8_takeBill_27 : decode cX8_takeBill 27 = .ok (.getfield 47, 3) := by decide +kernel
theorem dX8_takeBill_30 : decode cX8_takeBill 30 = .ok (.aload_n 0, 1) := by decide +kernel
theorem dX8_takeBill_31 : decode cX8_takeBill 31 = .ok (.getfield 25, 3) := by decide +kernel
theorem dX8_takeBill_34 : decode cX8_takeBill 34 = .ok (.invokevirtual 208, 3) := by decide +kernel
theorem dX8_takeBill_37 : decode cX8_takeBill 37 = .ok (.istore_n 3, 1) := by decide +kernel
theorem dX8_takeBill_38 : decode cX8_takeBill 38 = .ok (.aload_n 1, 1) := by decide +kernel
theorem dX8_takeBill_39 : decode cX8_takeBill 39 = .ok (.dup, 1) := by decide +kernel
theorem dX8_takeBill_40 : decode cX8_takeBill 40 = .ok (.getfield 136, 3) := by decide +kernel
theorem dX8_takeBill_43 : decode cX8_takeBill 43 = .ok (.iload_n 3, 1) := by decide +kernel
theorem dX8_takeBill_44 : decode cX8_takeBill 44 = .ok (.isub, 1) := by decide +kernel
theorem dX8_takeBill_45 : decode cX8_takeBill 45 = .ok (.putfield 136, 3) := by decide +kernel
theorem dX8_takeBill_48 : decode cX8_takeBill 48 = .ok (.aload_n 1, 1) := by decide +kernel
theorem dX8_takeBill_49 : decode cX8_takeBill 49 = .ok (.dup, 1) := by decide +kernel
theorem dX8_takeBill_50 : decode cX8_takeBill 50 = .ok (.getfield 219, 3) := by decide +kernel
theorem dX8_takeBill_53 : decode cX8_takeBill 53 = .ok (.iload_n 3, 1) := by decide +kernel
theorem dX8_takeBill_54 : decode cX8_takeBill 54 = .ok (.iadd, 1) := by decide +kernel
theorem dX8_takeBill_55 : decode cX8_takeBill 55 = .ok (.putfield 219, 3) := by decide +kernel
theorem dX8_takeBill_58 : decode cX8_takeBill 58 = .ok (.iconst 0, 1) := by decide +kernel
theorem dX8_takeBill_59 : decode cX8_takeBill 59 = .ok (.istore 4, 2) := by decide +kernel
theorem dX8_takeBill_61 : decode cX8_takeBill 61 = .ok (.iload 4, 2) := by decide +kernel
theorem dX8_takeBill_63 : decode cX8_takeBill 63 = .ok (.iconst 4, 1) := by decide +kernel
theorem dX8_takeBill_64 : decode cX8_takeBill 64 = .ok (.if_icmp .ge 32, 3) := by decide +kernel
theorem dX8_takeBill_67 : decode cX8_takeBill 67 = .ok (.aload_n 0, 1) := by decide +kernel
theorem dX8_takeBill_68 : decode cX8_takeBill 68 = .ok (.getfield 32, 3) := by decide +kernel
theorem dX8_takeBill_71 : decode cX8_takeBill 71 = .ok (.iload_n 2, 1) := by decide +kernel
theorem dX8_takeBill_72 : decode cX8_takeBill 72 = .ok (.aload_n 1, 1) := by decide +kernel
theorem dX8_takeBill_73 : decode cX8_takeBill 73 = .ok (.getfield 174, 3) := by decide +kernel
theorem dX8_takeBill_76 : decode cX8_takeBill 76 = .ok (.iload 4, 2) := by decide +kernel
theorem dX8_takeBill_78 : decode cX8_takeBill 78 = .ok (.aload_n 0, 1) := by decide +kernel
theorem dX8_takeBill_79 : decode cX8_takeBill 79 = .ok (.getfield 39, 3) := by decide +kernel
theorem dX8_takeBill_82 : decode cX8_takeBill 82 = .ok (.iload 4, 2) := by decide +kernel
theorem dX8_takeBill_84 : decode cX8_takeBill 84 = .ok (.invokevirtual 212, 3) := by decide +kernel
theorem dX8_takeBill_87 : decode cX8_takeBill 87 = .ok (.invokevirtual 374, 3) := by decide +kernel
theorem dX8_takeBill_90 : decode cX8_takeBill 90 = .ok (.iinc 4 1, 3) := by decide +kernel
theorem dX8_takeBill_93 : decode cX8_takeBill 93 = .ok (.goto (-32), 3) := by decide +kernel
theorem dX8_takeBill_96 : decode cX8_takeBill 96 = .ok (.aload_n 1, 1) := by decide +kernel
theorem dX8_takeBill_97 : decode cX8_takeBill 97 = .ok (.getfield 249, 3) := by decide +kernel
theorem dX8_takeBill_100 : decode cX8_takeBill 100 = .ok (.iconst 2, 1) := by decide +kernel
theorem dX8_takeBill_101 : decode cX8_takeBill 101 = .ok (.if_icmp .ne 32, 3) := by decide +kernel
theorem dX8_takeBill_104 : decode cX8_takeBill 104 = .ok (.iload_n 3, 1) := by decide +kernel
theorem dX8_takeBill_105 : decode cX8_takeBill 105 = .ok (.ifCond .le 28, 3) := by decide +kernel
theorem dX8_takeBill_108 : decode cX8_takeBill 108 = .ok (.aload_n 1, 1) := by decide +kernel
theorem dX8_takeBill_109 : decode cX8_takeBill 109 = .ok (.dup, 1) := by decide +kernel
theorem dX8_takeBill_110 : decode cX8_takeBill 110 = .ok (.getfield 136, 3) := by decide +kernel
theorem dX8_takeBill_113 : decode cX8_takeBill 113 = .ok (.bipush 10, 2) := by decide +kernel
theorem dX8_takeBill_115 : decode cX8_takeBill 115 = .ok (.isub, 1) := by decide +kernel
theorem dX8_takeBill_116 : decode cX8_takeBill 116 = .ok (.putfield 136, 3) := by decide +kernel
theorem dX8_takeBill_119 : decode cX8_takeBill 119 = .ok (.aload_n 0, 1) := by decide +kernel
theorem dX8_takeBill_120 : decode cX8_takeBill 120 = .ok (.getfield 32, 3) := by decide +kernel
theorem dX8_takeBill_123 : decode cX8_takeBill 123 = .ok (.dup, 1) := by decide +kernel
theorem dX8_takeBill_124 : decode cX8_takeBill 124 = .ok (.getfield 188, 3) := by decide +kernel
theorem dX8_takeBill_127 : decode cX8_takeBill 127 = .ok (.bipush 10, 2) := by decide +kernel
theorem dX8_takeBill_129 : decode cX8_takeBill 129 = .ok (.iadd, 1) := by decide +kernel
theorem dX8_takeBill_130 : decode cX8_takeBill 130 = .ok (.putfield 188, 3) := by decide +kernel
theorem dX8_takeBill_133 : decode cX8_takeBill 133 = .ok (.iload_n 3, 1) := by decide +kernel
theorem dX8_takeBill_134 : decode cX8_takeBill 134 = .ok (.ireturn, 1) := by decide +kernel
theorem dX8_eraseDay_0 : decode cX8_eraseDay 0 = .ok (.iconst 0, 1) := by decide +kernel
theorem dX8_eraseDay_1 : decode cX8_eraseDay 1 = .ok (.istore_n 2, 1) := by decide +kernel
theorem dX8_eraseDay_2 : decode cX8_eraseDay 2 = .ok (.iload_n 2, 1) := by decide +kernel
theorem dX8_eraseDay_3 : decode cX8_eraseDay 3 = .ok (.aload_n 0, 1) := by decide +kernel
theorem dX8_eraseDay_4 : decode cX8_eraseDay 4 = .ok (.getfield 19, 3) := by decide +kernel
theorem dX8_eraseDay_7 : decode cX8_eraseDay 7 = .ok (.invokevirtual 69, 3) := by decide +kernel
theorem dX8_eraseDay_10 : decode cX8_eraseDay 10 = .ok (.if_icmp .ge 48, 3) := by decide +kernel
theorem dX8_eraseDay_13 : decode cX8_eraseDay 13 = .ok (.aload_n 0, 1) := by decide +kernel
theorem dX8_eraseDay_14 : decode cX8_eraseDay 14 = .ok (.getfield 19, 3) := by decide +kernel
theorem dX8_eraseDay_17 : decode cX8_eraseDay 17 = .ok (.iload_n 2, 1) := by decide +kernel
theorem dX8_eraseDay_18 : decode cX8_eraseDay 18 = .ok (.invokevirtual 92, 3) := by decide +kernel
theorem dX8_eraseDay_21 : decode cX8_eraseDay 21 = .ok (.checkcast 145, 3) := by decide +kernel
theorem dX8_eraseDay_24 : decode cX8_eraseDay 24 = .ok (.astore_n 3, 1) := by decide +kernel
theorem dX8_eraseDay_25 : decode cX8_eraseDay 25 = .ok (.aload_n 3, 1) := by decide +kernel
theorem dX8_eraseDay_26 : decode cX8_eraseDay 26 = .ok (.getfield 264, 3) := by decide +kernel
theorem dX8_eraseDay_29 : decode cX8_eraseDay 29 = .ok (.sipush 1440, 3) := by decide +kernel
theorem dX8_eraseDay_32 : decode cX8_eraseDay 32 = .ok (.idiv, 1) := by decide +kernel
theorem dX8_eraseDay_33 : decode cX8_eraseDay 33 = .ok (.iload_n 1, 1) := by decide +kernel
theorem dX8_eraseDay_34 : decode cX8_eraseDay 34 = .ok (.if_icmp .ne 18, 3) := by decide +kernel
theorem dX8_eraseDay_37 : decode cX8_eraseDay 37 = .ok (.aload_n 3, 1) := by decide +kernel
theorem dX8_eraseDay_38 : decode cX8_eraseDay 38 = .ok (.iconst 1, 1) := by decide +kernel
theorem dX8_eraseDay_39 : decode cX8_eraseDay 39 = .ok (.putfield 166, 3) := by decide +kernel
theorem dX8_eraseDay_42 : decode cX8_eraseDay 42 = .ok (.aload_n 0, 1) := by decide +kernel
theorem dX8_eraseDay_43 : decode cX8_eraseDay 43 = .ok (.dup, 1) := by decide +kernel
theorem dX8_eraseDay_44 : decode cX8_eraseDay 44 = .ok (.getfield 291, 3) := by decide +kernel
theorem dX8_eraseDay_47 : decode cX8_eraseDay 47 = .ok (.iconst 1, 1) := by decide +kernel
theorem dX8_eraseDay_48 : decode cX8_eraseDay 48 = .ok (.iadd, 1) := by decide +kernel
theorem dX8_eraseDay_49 : decode cX8_eraseDay 49 = .ok (.putfield 291, 3) := by decide +kernel
theorem dX8_eraseDay_52 : decode cX8_eraseDay 52 = .ok (.iinc 2 1, 3) := by decide +kernel
theorem dX8_eraseDay_55 : decode cX8_eraseDay 55 = .ok (.goto (-53), 3) := by decide +kernel
theorem dX8_eraseDay_58 : decode cX8_eraseDay 58 = .ok (.return_, 1) := by decide +kernel
theorem dX8_reachOf_0 : decode cX8_reachOf 0 = .ok (.iload_n 1, 1) := by decide +kernel
theorem dX8_reachOf_1 : decode cX8_reachOf 1 = .ok (.ifCond .lt 21, 3) := by decide +kernel
theorem dX8_reachOf_4 : decode cX8_reachOf 4 = .ok (.iload_n 1, 1) := by decide +kernel
theorem dX8_reachOf_5 : decode cX8_reachOf 5 = .ok (.aload_n 0, 1) := by decide +kernel
theorem dX8_reachOf_6 : decode cX8_reachOf 6 = .ok (.getfield 43, 3) := by decide +kernel
theorem dX8_reachOf_9 : decode cX8_reachOf 9 = .ok (.arraylength, 1) := by decide +kernel
theorem dX8_reachOf_10 : decode cX8_reachOf 10 = .ok (.if_icmp .ge 12, 3) := by decide +kernel
theorem dX8_reachOf_13 : decode cX8_reachOf 13 = .ok (.aload_n 0, 1) := by decide +kernel
theorem dX8_reachOf_14 : decode cX8_reachOf 14 = .ok (.getfield 43, 3) := by decide +kernel
theorem dX8_reachOf_17 : decode cX8_reachOf 17 = .ok (.iload_n 1, 1) := by decide +kernel
theorem dX8_reachOf_18 : decode cX8_reachOf 18 = .ok (.iaload, 1) := by decide +kernel
theorem dX8_reachOf_19 : decode cX8_reachOf 19 = .ok (.goto 4, 3) := by decide +kernel
theorem dX8_reachOf_22 : decode cX8_reachOf 22 = .ok (.iconst (-1), 1) := by decide +kernel
theorem dX8_reachOf_23 : decode cX8_reachOf 23 = .ok (.ireturn, 1) := by decide +kernel
theorem dX8_setReach_0 : decode cX8_setReach 0 = .ok (.iload_n 1, 1) := by decide +kernel
theorem dX8_setReach_1 : decode cX8_setReach 1 = .ok (.ifCond .lt 19, 3) := by decide +kernel
theorem dX8_setReach_4 : decode cX8_setReach 4 = .ok (.iload_n 1, 1) := by decide +kernel
theorem dX8_setReach_5 : decode cX8_setReach 5 = .ok (.aload_n 0, 1) := by decide +kernel
theorem dX8_setReach_6 : decode cX8_setReach 6 = .ok (.getfield 43, 3) := by decide +kernel
theorem dX8_setReach_9 : decode cX8_setReach 9 = .ok (.arraylength, 1) := by decide +kernel
theorem dX8_setReach_10 : decode cX8_setReach 10 = .ok (.if_icmp .ge 10, 3) := by decide +kernel
theorem dX8_setReach_13 : decode cX8_setReach 13 = .ok (.aload_n 0, 1) := by decide +kernel
theorem dX8_setReach_14 : decode cX8_setReach 14 = .ok (.getfield 43, 3) := by decide +kernel
theorem dX8_setReach_17 : decode cX8_setReach 17 = .ok (.iload_n 1, 1) := by decide +kernel
theorem dX8_setReach_18 : decode cX8_setReach 18 = .ok (.iload_n 2, 1) := by decide +kernel
theorem dX8_setReach_19 : decode cX8_setReach 19 = .ok (.iastore, 1) := by decide +kernel
theorem dX8_setReach_20 : decode cX8_setReach 20 = .ok (.return_, 1) := by decide +kernel
theorem dX8_extendWays_0 : decode cX8_extendWays 0 = .ok (.iconst 0, 1) := by decide +kernel
theorem dX8_extendWays_1 : decode cX8_extendWays 1 = .ok (.istore_n 2, 1) := by decide +kernel
theorem dX8_extendWays_2 : decode cX8_extendWays 2 = .ok (.iconst 0, 1) := by decide +kernel
theorem dX8_extendWays_3 : decode cX8_extendWays 3 = .ok (.istore_n 3, 1) := by decide +kernel
theorem dX8_extendWays_4 : decode cX8_extendWays 4 = .ok (.iload_n 3, 1) := by decide +kernel
theorem dX8_extendWays_5 : decode cX8_extendWays 5 = .ok (.aload_n 0, 1) := by decide +kernel
theorem dX8_extendWays_6 : decode cX8_extendWays 6 = .ok (.getfield 10, 3) := by decide +kernel
theorem dX8_extendWays_9 : decode cX8_extendWays 9 = .ok (.invokevirtual 69, 3) := by decide +kernel
theorem dX8_extendWays_12 : decode cX8_extendWays 12 = .ok (.if_icmp .ge 110, 3) := by decide +kernel
theorem dX8_extendWays_15 : decode cX8_extendWays 15 = .ok (.aload_n 0, 1) := by decide +kernel
theorem dX8_extendWays_16 : decode cX8_extendWays 16 = .ok (.getfield 10, 3) := by decide +kernel
theorem dX8_extendWays_19 : decode cX8_extendWays 19 = .ok (.iload_n 3, 1) := by decide +kernel
theorem dX8_extendWays_20 : decode cX8_extendWays 20 = .ok (.invokevirtual 92, 3) := by decide +kernel
theorem dX8_extendWays_23 : decode cX8_extendWays 23 = .ok (.checkcast 76, 3) := by decide +kernel
theorem dX8_extendWays_26 : decode cX8_extendWays 26 = .ok (.astore 4, 2) := by decide +kernel
theorem dX8_extendWays_28 : decode cX8_extendWays 28 = .ok (.aload_n 0, 1) := by decide +kernel
theorem dX8_extendWays_29 : decode cX8_extendWays 29 = .ok (.aload 4, 2) := by decide +kernel
theorem dX8_extendWays_31 : decode cX8_extendWays 31 = .ok (.getfield 231, 3) := by decide +kernel
theorem dX8_extendWays_34 : decode cX8_extendWays 34 = .ok (.invokevirtual 315, 3) := by decide +kernel
theorem dX8_extendWays_37 : decode cX8_extendWays 37 = .ok (.istore 5, 2) := by decide +kernel
theorem dX8_extendWays_39 : decode cX8_extendWays 39 = .ok (.iload 5, 2) := by decide +kernel
theorem dX8_extendWays_41 : decode cX8_extendWays 41 = .ok (.iconst (-1), 1) := by decide +kernel
theorem dX8_extendWays_42 : decode cX8_extendWays 42 = .ok (.if_icmp .eq 74, 3) := by decide +kernel
theorem dX8_extendWays_45 : decode cX8_extendWays 45 = .ok (.aload 4, 2) := by decide +kernel
theorem dX8_extendWays_47 : decode cX8_extendWays 47 = .ok (.aload_n 0, 1) := by decide +kernel
theorem dX8_extendWays_48 : decode cX8_extendWays 48 = .ok (.getfield 139, 3) := by decide +kernel
theorem dX8_extendWays_51 : decode cX8_extendWays 51 = .ok (.invokevirtual 243, 3) := by decide +kernel
theorem dX8_extendWays_54 : decode cX8_extendWays 54 = .ok (.ifCond .eq 6, 3) := by decide +kernel
theorem dX8_extendWays_57 : decode cX8_extendWays 57 = .ok (.goto 59, 3) := by decide +kernel
theorem dX8_extendWays_60 : decode cX8_extendWays 60 = .ok (.iload 5, 2) := by decide +kernel
theorem dX8_extendWays_62 : decode cX8_extendWays 62 = .ok (.aload_n 0, 1) := by decide +kernel
theorem dX8_extendWays_63 : decode cX8_extendWays 63 = .ok (.aload_n 1, 1) := by decide +kernel
theorem dX8_extendWays_64 : decode cX8_extendWays 64 = .ok (.aload 4, 2) := by decide +kernel
theorem dX8_extendWays_66 : decode cX8_extendWays 66 = .ok (.aload_n 0, 1) := by decide +kernel
theorem dX8_extendWays_67 : decode cX8_extendWays 67 = .ok (.getfield 139, 3) := by decide +kernel
theorem dX8_extendWays_70 : decode cX8_extendWays 70 = .ok (.invokevirtual 181, 3) := by decide +kernel
theorem dX8_extendWays_73 : decode cX8_extendWays 73 = .ok (.iadd, 1) := by decide +kernel
theorem dX8_extendWays_74 : decode cX8_extendWays 74 = .ok (.istore 6, 2) := by decide +kernel
theorem dX8_extendWays_76 : decode cX8_extendWays 76 = .ok (.aload_n 0, 1) := by decide +kernel
theorem dX8_extendWays_77 : decode cX8_extendWays 77 = .ok (.aload 4, 2) := by decide +kernel
theorem dX8_extendWays_79 : decode cX8_extendWays 79 = .ok (.getfield 234, 3) := by decide +kernel
theorem dX8_extendWays_82 : decode cX8_extendWays 82 = .ok (.invokevirtual 315, 3) := by decide +kernel
theorem dX8_extendWays_85 : decode cX8_extendWays 85 = .ok (.iconst (-1), 1) := by decide +kernel
theorem dX8_extendWays_86 : decode cX8_extendWays 86 = .ok (.if_icmp .eq 17, 3) := by decide +kernel
theorem dX8_extendWays_89 : decode cX8_extendWays 89 = .ok (.iload 6, 2) := by decide +kernel
theorem dX8_extendWays_91 : decode cX8_extendWays 91 = .ok (.aload_n 0, 1) := by decide +kernel
theorem dX8_extendWays_92 : decode cX8_extendWays 92 = .ok (.aload 4, 2) := by decide +kernel
theorem dX8_extendWays_94 : decode cX8_extendWays 94 = .ok (.getfield 234, 3) := by decide +kernel
theorem dX8_extendWays_97 : decode cX8_extendWays 97 = .ok (.invokevirtual 315, 3) := by decide +kernel
theorem dX8_extendWays_100 : decode cX8_extendWays 100 = .ok (.if_icmp .ge 16, 3) := by decide +kernel
theorem dX8_extendWays_103 : decode cX8_extendWays 103 = .ok (.aload_n 0, 1) := by decide +kernel
theorem dX8_extendWays_104 : decode cX8_extendWays 104 = .ok (.aload 4, 2) := by decide +kernel
theorem dX8_extendWays_106 : decode cX8_extendWays 106 = .ok (.getfield 234, 3) := by decide +kernel
theorem dX8_extendWays_109 : decode cX8_extendWays 109 = .ok (.iload 6, 2) := by decide +kernel
theorem dX8_extendWays_111 : decode cX8_extendWays 111 = .ok (.invokevirtual 308, 3) := by decide +kernel
theorem dX8_extendWays_114 : decode cX8_extendWays 114 = .ok (.iconst 1, 1) := by decide +kernel
theorem dX8_extendWays_115 : decode cX8_extendWays 115 = .ok (.istore_n 2, 1) := by decide +kernel
theorem dX8_extendWays_116 : decode cX8_extendWays 116 = .ok (.iinc 3 1, 3) := by decide +kernel
theorem dX8_extendWays_119 : decode cX8_extendWays 119 = .ok (.goto (-115), 3) := by decide +kernel
theorem dX8_extendWays_122 : decode cX8_extendWays 122 = .ok (.iload_n 2, 1) := by decide +kernel
theorem dX8_extendWays_123 : decode cX8_extendWays 123 = .ok (.ireturn, 1) := by decide +kernel
theorem dX8_foldVehicle_0 : decode cX8_foldVehicle 0 = .ok (.aload_n 3, 1) := by decide +kernel
theorem dX8_foldVehicle_1 : decode cX8_foldVehicle 1 = .ok (.getfield 174, 3) := by decide +kernel
theorem dX8_foldVehicle_4 : decode cX8_foldVehicle 4 = .ok (.istore 4, 2) := by decide +kernel
theorem dX8_foldVehicle_6 : decode cX8_foldVehicle 6 = .ok (.lload_n 1, 1) := by decide +kernel
theorem dX8_foldVehicle_7 : decode cX8_foldVehicle 7 = .ok (.lstore 5, 2) := by decide +kernel
theorem dX8_foldVehicle_9 : decode cX8_foldVehicle 9 = .ok (.iconst 0, 1) := by decide +kernel
theorem dX8_foldVehicle_10 : decode cX8_foldVehicle 10 = .ok (.istore 7, 2) := by decide +kernel
theorem dX8_foldVehicle_12 : decode cX8_foldVehicle 12 = .ok (.iload 7, 2) := by decide +kernel
theorem dX8_foldVehicle_14 : decode cX8_foldVehicle 14 = .ok (.bipush 7, 2) := by decide +kernel
theorem dX8_foldVehicle_16 : decode cX8_foldVehicle 16 = .ok (.if_icmp .gt 24, 3) := by decide +kernel
theorem dX8_foldVehicle_19 : decode cX8_foldVehicle 19 = .ok (.lload 5, 2) := by decide +kernel
theorem dX8_foldVehicle_21 : decode cX8_foldVehicle 21 = .ok (.aload_n 0, 1) := by decide +kernel
theorem dX8_foldVehicle_22 : decode cX8_foldVehicle 22 = .ok (.iload 4, 2) := by decide +kernel
theorem dX8_foldVehicle_24 : decode cX8_foldVehicle 24 = .ok (.iload 7, 2) := by decide +kernel
theorem dX8_foldVehicle_26 : decode cX8_foldVehicle 26 = .ok (.invokevirtual 377, 3) := by decide +kernel
theorem dX8_foldVehicle_29 : decode cX8_foldVehicle 29 = .ok (.invokestatic 327, 3) := by decide +kernel
theorem dX8_foldVehicle_32 : decode cX8_foldVehicle 32 = .ok (.lstore 5, 2) := by decide +kernel
theorem dX8_foldVehicle_34 : decode cX8_foldVehicle 34 = .ok (.iinc 7 1, 3) := by decide +kernel
theorem dX8_foldVehicle_37 : decode cX8_foldVehicle 37 = .ok (.goto (-25), 3) := by decide +kernel
theorem dX8_foldVehicle_40 : decode cX8_foldVehicle 40 = .ok (.aload_n 0, 1) := by decide +kernel
theorem dX8_foldVehicle_41 : decode cX8_foldVehicle 41 = .ok (.lload 5, 2) := by decide +kernel
theorem dX8_foldVehicle_43 : decode cX8_foldVehicle 43 = .ok (.aload_n 3, 1) := by decide +kernel
theorem dX8_foldVehicle_44 : decode cX8_foldVehicle 44 = .ok (.aload_n 0, 1) := by decide +kernel
theorem dX8_foldVehicle_45 : decode cX8_foldVehicle 45 = .ok (.invokevirtual 194, 3) := by decide +kernel
theorem dX8_foldVehicle_48 : decode cX8_foldVehicle 48 = .ok (.invokevirtual 380, 3) := by decide +kernel
theorem dX8_foldVehicle_51 : decode cX8_foldVehicle 51 = .ok (.lstore 5, 2) := by decide +kernel
theorem dX8_foldVehicle_53 : decode cX8_foldVehicle 53 = .ok (.aload_n 0, 1) := by decide +kernel
theorem dX8_foldVehicle_54 : decode cX8_foldVehicle 54 = .ok (.invokevirtual 194, 3) := by decide +kernel
theorem dX8_foldVehicle_57 : decode cX8_foldVehicle 57 = .ok (.ifCond .le 18, 3) := by decide +kernel
theorem dX8_foldVehicle_60 : decode cX8_foldVehicle 60 = .ok (.aload_n 0, 1) := by decide +kernel
theorem dX8_foldVehicle_61 : decode cX8_foldVehicle 61 = .ok (.lload 5, 2) := by decide +kernel
theorem dX8_foldVehicle_63 : decode cX8_foldVehicle 63 = .ok (.aload_n 3, 1) := by decide +kernel
theorem dX8_foldVehicle_64 : decode cX8_foldVehicle 64 = .ok (.aload_n 0, 1) := by decide +kernel
theorem dX8_foldVehicle_65 : decode cX8_foldVehicle 65 = .ok (.invokevirtual 194, 3) := by decide +kernel
theorem dX8_foldVehicle_68 : decode cX8_foldVehicle 68 = .ok (.iconst 1, 1) := by decide +kernel
theorem dX8_foldVehicle_69 : decode cX8_foldVehicle 69 = .ok (.isub, 1) := by decide +kernel
theorem dX8_foldVehicle_70 : decode cX8_foldVehicle 70 = .ok (.invokevirtual 380, 3) := by decide +kernel
theorem dX8_foldVehicle_73 : decode cX8_foldVehicle 73 = .ok (.lstore 5, 2) := by decide +kernel
theorem dX8_foldVehicle_75 : decode cX8_foldVehicle 75 = .ok (.lload 5, 2) := by decide +kernel
theorem dX8_foldVehicle_77 : decode cX8_foldVehicle 77 = .ok (.aload_n 0, 1) := by decide +kernel
theorem dX8_foldVehicle_78 : decode cX8_foldVehicle 78 = .ok (.iload 4, 2) := by decide +kernel
theorem dX8_foldVehicle_80 : decode cX8_foldVehicle 80 = .ok (.iconst 0, 1) := by decide +kernel
theorem dX8_foldVehicle_81 : decode cX8_foldVehicle 81 = .ok (.iconst 1, 1) := by decide +kernel
theorem dX8_foldVehicle_82 : decode cX8_foldVehicle 82 = .ok (.invokevirtual 384, 3) := by decide +kernel
theorem dX8_foldVehicle_85 : decode cX8_foldVehicle 85 = .ok (.invokestatic 327, 3) := by decide +kernel
theorem dX8_foldVehicle_88 : decode cX8_foldVehicle 88 = .ok (.lstore 5, 2) := by decide +kernel
theorem dX8_foldVehicle_90 : decode cX8_foldVehicle 90 = .ok (.lload 5, 2) := by decide +kernel
theorem dX8_foldVehicle_92 : decode cX8_foldVehicle 92 = .ok (.aload_n 0, 1) := by decide +kernel
theorem dX8_foldVehicle_93 : decode cX8_foldVehicle 93 = .ok (.iload 4, 2) := by decide +kernel
theorem dX8_foldVehicle_95 : decode cX8_foldVehicle 95 = .ok (.iconst 3, 1) := by decide +kernel
theorem dX8_foldVehicle_96 : decode cX8_foldVehicle 96 = .ok (.iconst 5, 1) := by decide +kernel
theorem dX8_foldVehicle_97 : decode cX8_foldVehicle 97 = .ok (.invokevirtual 384, 3) := by decide +kernel
theorem dX8_foldVehicle_100 : decode cX8_foldVehicle 100 = .ok (.invokestatic 327, 3) := by decide +kernel
theorem dX8_foldVehicle_103 : decode cX8_foldVehicle 103 = .ok (.lstore 5, 2) := by decide +kernel
theorem dX8_foldVehicle_105 : decode cX8_foldVehicle 105 = .ok (.lload 5, 2) := by decide +kernel
theorem dX8_foldVehicle_107 : decode cX8_foldVehicle 107 = .ok (.aload_n 0, 1) := by decide +kernel
theorem dX8_foldVehicle_108 : decode cX8_foldVehicle 108 = .ok (.iload 4, 2) := by decide +kernel
theorem dX8_foldVehicle_110 : decode cX8_foldVehicle 110 = .ok (.invokevirtual 388, 3) := by decide +kernel
theorem dX8_foldVehicle_113 : decode cX8_foldVehicle 113 = .ok (.invokestatic 327, 3) := by decide +kernel
theorem dX8_foldVehicle_116 : decode cX8_foldVehicle 116 = .ok (.lstore 5, 2) := by decide +kernel
theorem dX8_foldVehicle_118 : decode cX8_foldVehicle 118 = .ok (.iconst 0, 1) := by decide +kernel
theorem dX8_foldVehicle_119 : decode cX8_foldVehicle 119 = .ok (.istore 7, 2) := by decide +kernel
theorem dX8_foldVehicle_121 : decode cX8_foldVehicle 121 = .ok (.iload 7, 2) := by decide +kernel
theorem dX8_foldVehicle_123 : decode cX8_foldVehicle 123 = .ok (.aload_n 0, 1) := by decide +kernel
theorem dX8_foldVehicle_124 : decode cX8_foldVehicle 124 = .ok (.getfield 10, 3) := by decide +kernel
theorem dX8_foldVehicle_127 : decode cX8_foldVehicle 127 = .ok (.invokevirtual 69, 3) := by decide +kernel
theorem dX8_foldVehicle_130 : decode cX8_foldVehicle 130 = .ok (.if_icmp .ge 28, 3) := by decide +kernel
theorem dX8_foldVehicle_133 : decode cX8_foldVehicle 133 = .ok (.lload 5, 2) := by decide +kernel
theorem dX8_foldVehicle_135 : decode cX8_foldVehicle 135 = .ok (.aload_n 0, 1) := by decide +kernel
theorem dX8_foldVehicle_136 : decode cX8_foldVehicle 136 = .ok (.iload 4, 2) := by decide +kernel
theorem dX8_foldVehicle_138 : decode cX8_foldVehicle 138 = .ok (.iload 7, 2) := by decide +kernel
theorem dX8_foldVehicle_140 : decode cX8_foldVehicle 140 = .ok (.aload_n 0, 1) := by decide +kernel
theorem dX8_foldVehicle_141 : decode cX8_foldVehicle 141 = .ok (.getfield 139, 3) := by decide +kernel
theorem dX8_foldVehicle_144 : decode cX8_foldVehicle 144 = .ok (.invokevirtual 391, 3) := by decide +kernel
theorem dX8_foldVehicle_147 : decode cX8_foldVehicle 147 = .ok (.invokestatic 327, 3) := by decide +kernel
theorem dX8_foldVehicle_150 : decode cX8_foldVehicle 150 = .ok (.lstore 5, 2) := by decide +kernel
theorem dX8_foldVehicle_152 : decode cX8_foldVehicle 152 = .ok (.iinc 7 1, 3) := by decide +kernel
theorem dX8_foldVehicle_155 : decode cX8_foldVehicle 155 = .ok (.goto (-34), 3) := by decide +kernel
theorem dX8_foldVehicle_158 : decode cX8_foldVehicle 158 = .ok (.lload 5, 2) := by decide +kernel
theorem dX8_foldVehicle_160 : decode cX8_foldVehicle 160 = .ok (.lreturn, 1) := by decide +kernel
theorem dX8_foldDay_0 : decode cX8_foldDay 0 = .ok (.aload_n 0, 1) := by decide +kernel
theorem dX8_foldDay_1 : decode cX8_foldDay 1 = .ok (.getfield 39, 3) := by decide +kernel
theorem dX8_foldDay_4 : decode cX8_foldDay 4 = .ok (.aload_n 0, 1) := by decide +kernel
theorem dX8_foldDay_5 : decode cX8_foldDay 5 = .ok (.getfield 19, 3) := by decide +kernel
theorem dX8_foldDay_8 : decode cX8_foldDay 8 = .ok (.aload_n 0, 1) := by decide +kernel
theorem dX8_foldDay_9 : decode cX8_foldDay 9 = .ok (.getfield 10, 3) := by decide +kernel
theorem dX8_foldDay_12 : decode cX8_foldDay 12 = .ok (.aload_n 3, 1) := by decide +kernel
theorem dX8_foldDay_13 : decode cX8_foldDay 13 = .ok (.iload 4, 2) := by decide +kernel
theorem dX8_foldDay_15 : decode cX8_foldDay 15 = .ok (.invokevirtual 197, 3) := by decide +kernel
theorem dX8_foldDay_18 : decode cX8_foldDay 18 = .ok (.aload_n 0, 1) := by decide +kernel
theorem dX8_foldDay_19 : decode cX8_foldDay 19 = .ok (.getfield 39, 3) := by decide +kernel
theorem dX8_foldDay_22 : decode cX8_foldDay 22 = .ok (.aload_n 3, 1) := by decide +kernel
theorem dX8_foldDay_23 : decode cX8_foldDay 23 = .ok (.aload_n 3, 1) := by decide +kernel
theorem dX8_foldDay_24 : decode cX8_foldDay 24 = .ok (.getfield 201, 3) := by decide +kernel
theorem dX8_foldDay_27 : decode cX8_foldDay 27 = .ok (.aload_n 0, 1) := by decide +kernel
theorem dX8_foldDay_28 : decode cX8_foldDay 28 = .ok (.getfield 47, 3) := by decide +kernel
theorem dX8_foldDay_31 : decode cX8_foldDay 31 = .ok (.aload_n 0, 1) := by decide +kernel
theorem dX8_foldDay_32 : decode cX8_foldDay 32 = .ok (.getfield 25, 3) := by decide +kernel
theorem dX8_foldDay_35 : decode cX8_foldDay 35 = .ok (.invokevirtual 208, 3) := by decide +kernel
theorem dX8_foldDay_38 : decode cX8_foldDay 38 = .ok (.pop, 1) := by decide +kernel
theorem dX8_foldDay_39 : decode cX8_foldDay 39 = .ok (.lload_n 1, 1) := by decide +kernel
theorem dX8_foldDay_40 : decode cX8_foldDay 40 = .ok (.aload_n 0, 1) := by decide +kernel
theorem dX8_foldDay_41 : decode cX8_foldDay 41 = .ok (.getfield 39, 3) := by decide +kernel
theorem dX8_foldDay_44 : decode cX8_foldDay 44 = .ok (.invokevirtual 288, 3) := by decide +kernel
theorem dX8_foldDay_47 : decode cX8_foldDay 47 = .ok (.invokestatic 327, 3) := by decide +kernel
theorem dX8_foldDay_50 : decode cX8_foldDay 50 = .ok (.lstore 5, 2) := by decide +kernel
theorem dX8_foldDay_52 : decode cX8_foldDay 52 = .ok (.lload 5, 2) := by decide +kernel
theorem dX8_foldDay_54 : decode cX8_foldDay 54 = .ok (.aload_n 0, 1) := by decide +kernel
theorem dX8_foldDay_55 : decode cX8_foldDay 55 = .ok (.getfield 39, 3) := by decide +kernel
theorem dX8_foldDay_58 : decode cX8_foldDay 58 = .ok (.invokevirtual 283, 3) := by decide +kernel
theorem dX8_foldDay_61 : decode cX8_foldDay 61 = .ok (.invokestatic 327, 3) := by decide +kernel
theorem dX8_foldDay_64 : decode cX8_foldDay 64 = .ok (.lstore 5, 2) := by decide +kernel
theorem dX8_foldDay_66 : decode cX8_foldDay 66 = .ok (.iconst 0, 1) := by decide +kernel
theorem dX8_foldDay_67 : decode cX8_foldDay 67 = .ok (.istore 7, 2) := by decide +kernel
theorem dX8_foldDay_69 : decode cX8_foldDay 69 = .ok (.iload 7, 2) := by decide +kernel
theorem dX8_foldDay_71 : decode cX8_foldDay 71 = .ok (.aload_n 0, 1) := by decide +kernel
theorem dX8_foldDay_72 : decode cX8_foldDay 72 = .ok (.getfield 39, 3) := by decide +kernel
theorem dX8_foldDay_75 : decode cX8_foldDay 75 = .ok (.invokevirtual 283, 3) := by decide +kernel
theorem dX8_foldDay_78 : decode cX8_foldDay 78 = .ok (.if_icmp .ge 42, 3) := by decide +kernel
theorem dX8_foldDay_81 : decode cX8_foldDay 81 = .ok (.iconst 0, 1) := by decide +kernel
theorem dX8_foldDay_82 : decode cX8_foldDay 82 = .ok (.istore 8, 2) := by decide +kernel
theorem dX8_foldDay_84 : decode cX8_foldDay 84 = .ok (.iload 8, 2) := by decide +kernel
theorem dX8_foldDay_86 : decode cX8_foldDay 86 = .ok (.iconst 4, 1) := by decide +kernel
theorem dX8_foldDay_87 : decode cX8_foldDay 87 = .ok (.if_icmp .gt 27, 3) := by decide +kernel
theorem dX8_foldDay_90 : decode cX8_foldDay 90 = .ok (.lload 5, 2) := by decide +kernel
theorem dX8_foldDay_92 : decode cX8_foldDay 92 = .ok (.aload_n 0, 1) := by decide +kernel
theorem dX8_foldDay_93 : decode cX8_foldDay 93 = .ok (.getfield 39, 3) := by decide +kernel
theorem dX8_foldDay_96 : decode cX8_foldDay 96 = .ok (.iload 7, 2) := by decide +kernel
theorem dX8_foldDay_98 : decode cX8_foldDay 98 = .ok (.iload 8, 2) := by decide +kernel
theorem dX8_foldDay_100 : decode cX8_foldDay 100 = .ok (.invokevirtual 284, 3) := by decide +kernel
theorem dX8_foldDay_103 : decode cX8_foldDay 103 = .ok (.invokestatic 327, 3) := by decide +kernel
theorem dX8_foldDay_106 : decode cX8_foldDay 106 = .ok (.lstore 5, 2) := by decide +kernel
theorem dX8_foldDay_108 : decode cX8_foldDay 108 = .ok (.iinc 8 1, 3) := by decide +kernel
theorem dX8_foldDay_111 : decode cX8_foldDay 111 = .ok (.goto (-27), 3) := by decide +kernel
theorem dX8_foldDay_114 : decode cX8_foldDay 114 = .ok (.iinc 7 1, 3) := by decide +kernel
theorem dX8_foldDay_117 : decode cX8_foldDay 117 = .ok (.goto (-48), 3) := by decide +kernel
theorem dX8_foldDay_120 : decode cX8_foldDay 120 = .ok (.lload 5, 2) := by decide +kernel
theorem dX8_foldDay_122 : decode cX8_foldDay 122 = .ok (.lreturn, 1) := by decide +kernel
theorem dJ9_max_7cf53_0 : decode cJ9_max_7cf53 0 = .ok (.iload_n 0, 1) := by decide +kernel
theorem dJ9_max_7cf53_1 : decode cJ9_max_7cf53 1 = .ok (.iload_n 1, 1) := by decide +kernel
theorem dJ9_max_7cf53_2 : decode cJ9_max_7cf53 2 = .ok (.if_icmp .lt 7, 3) := by decide +kernel
theorem dJ9_max_7cf53_5 : decode cJ9_max_7cf53 5 = .ok (.iload_n 0, 1) := by decide +kernel
theorem dJ9_max_7cf53_6 : decode cJ9_max_7cf53 6 = .ok (.goto 4, 3) := by decide +kernel
theorem dJ9_max_7cf53_9 : decode cJ9_max_7cf53 9 = .ok (.iload_n 1, 1) := by decide +kernel
theorem dJ9_max_7cf53_10 : decode cJ9_max_7cf53 10 = .ok (.ireturn, 1) := by decide +kernel
theorem dJ9_min_7cf53_0 : decode cJ9_min_7cf53 0 = .ok (.iload_n 0, 1) := by decide +kernel
theorem dJ9_min_7cf53_1 : decode cJ9_min_7cf53 1 = .ok (.iload_n 1, 1) := by decide +kernel
theorem dJ9_min_7cf53_2 : decode cJ9_min_7cf53 2 = .ok (.if_icmp .gt 7, 3) := by decide +kernel
theorem dJ9_min_7cf53_5 : decode cJ9_min_7cf53 5 = .ok (.iload_n 0, 1) := by decide +kernel
theorem dJ9_min_7cf53_6 : decode cJ9_min_7cf53 6 = .ok (.goto 4, 3) := by decide +kernel
theorem dJ9_min_7cf53_9 : decode cJ9_min_7cf53 9 = .ok (.iload_n 1, 1) := by decide +kernel
theorem dJ9_min_7cf53_10 : decode cJ9_min_7cf53 10 = .ok (.ireturn, 1) := by decide +kernel
theorem dJxa1e45_init_da8c8_0 : decode cJxa1e45_init_da8c8 0 = .ok (.aload_n 0, 1) := by decide +kernel
theorem dJxa1e45_init_da8c8_1 : decode cJxa1e45_init_da8c8 1 = .ok (.invokespecial 1, 3) := by decide +kernel
theorem dJxa1e45_init_da8c8_4 : decode cJxa1e45_init_da8c8 4 = .ok (.return_, 1) := by decide +kernel
theorem dJxc12de_init_da8c8_0 : decode cJxc12de_init_da8c8 0 = .ok (.aload_n 0, 1) := by decide +kernel
theorem dJxc12de_init_da8c8_1 : decode cJxc12de_init_da8c8 1 = .ok (.invokespecial 1, 3) := by decide +kernel
theorem dJxc12de_init_da8c8_4 : decode cJxc12de_init_da8c8 4 = .ok (.aload_n 0, 1) := by decide +kernel
theorem dJxc12de_init_da8c8_5 : decode cJxc12de_init_da8c8 5 = .ok (.iconst 0, 1) := by decide +kernel
theorem dJxc12de_init_da8c8_6 : decode cJxc12de_init_da8c8 6 = .ok (.putfield 7, 3) := by decide +kernel
theorem dJxc12de_init_da8c8_9 : decode cJxc12de_init_da8c8 9 = .ok (.return_, 1) := by decide +kernel
theorem dJx4a65c_init_da8c8_0 : decode cJx4a65c_init_da8c8 0 = .ok (.aload_n 0, 1) := by decide +kernel
theorem dJx4a65c_init_da8c8_1 : decode cJx4a65c_init_da8c8 1 = .ok (.invokespecial 1, 3) := by decide +kernel
theorem dJx4a65c_init_da8c8_4 : decode cJx4a65c_init_da8c8 4 = .ok (.aload_n 0, 1) := by decide +kernel
theorem dJx4a65c_init_da8c8_5 : decode cJx4a65c_init_da8c8 5 = .ok (.getstatic 39, 3) := by decide +kernel
theorem dJx4a65c_init_da8c8_8 : decode cJx4a65c_init_da8c8 8 = .ok (.putfield 9, 3) := by decide +kernel
theorem dJx4a65c_init_da8c8_11 : decode cJx4a65c_init_da8c8 11 = .ok (.return_, 1) := by decide +kernel
theorem dJx4a65c_grow_92f84_0 : decode cJx4a65c_grow_92f84 0 = .ok (.aload_n 0, 1) := by decide +kernel
theorem dJx4a65c_grow_92f84_1 : decode cJx4a65c_grow_92f84 1 = .ok (.getfield 9, 3) := by decide +kernel
theorem dJx4a65c_grow_92f84_4 : decode cJx4a65c_grow_92f84 4 = .ok (.arraylength, 1) := by decide +kernel
theorem dJx4a65c_grow_92f84_5 : decode cJx4a65c_grow_92f84 5 = .ok (.istore_n 2, 1) := by decide +kernel
theorem dJx4a65c_grow_92f84_6 : decode cJx4a65c_grow_92f84 6 = .ok (.iload_n 2, 1) := by decide +kernel
theorem dJx4a65c_grow_92f84_7 : decode cJx4a65c_grow_92f84 7 = .ok (.ifCond .gt 13, 3) := by decide +kernel
theorem dJx4a65c_grow_92f84_10 : decode cJx4a65c_grow_92f84 10 = .ok (.aload_n 0, 1) := by decide +kernel
theorem dJx4a65c_grow_92f84_11 : decode cJx4a65c_grow_92f84 11 = .ok (.getfield 9, 3) := by decide +kernel
theorem dJx4a65c_grow_92f84_14 : decode cJx4a65c_grow_92f84 14 = .ok (.getstatic 39, 3) := by decide +kernel
theorem dJx4a65c_grow_92f84_17 : decode cJx4a65c_grow_92f84 17 = .ok (.if_acmp .eq 28, 3) := by decide +kernel
theorem dJx4a65c_grow_92f84_20 : decode cJx4a65c_grow_92f84 20 = .ok (.iload_n 2, 1) := by decide +kernel
theorem dJx4a65c_grow_92f84_21 : decode cJx4a65c_grow_92f84 21 = .ok (.iload_n 1, 1) := by decide +kernel
theorem dJx4a65c_grow_92f84_22 : decode cJx4a65c_grow_92f84 22 = .ok (.iload_n 2, 1) := by decide +kernel
theorem dJx4a65c_grow_92f84_23 : decode cJx4a65c_grow_92f84 23 = .ok (.isub, 1) := by decide +kernel
theorem dJx4a65c_grow_92f84_24 : decode cJx4a65c_grow_92f84 24 = .ok (.iload_n 2, 1) := by decide +kernel
theorem dJx4a65c_grow_92f84_25 : decode cJx4a65c_grow_92f84 25 = .ok (.iconst 1, 1) := by decide +kernel
theorem dJx4a65c_grow_92f84_26 : decode cJx4a65c_grow_92f84 26 = .ok (.ishr, 1) := by decide +kernel
theorem dJx4a65c_grow_92f84_27 : decode cJx4a65c_grow_92f84 27 = .ok (.invokestatic 73, 3) := by decide +kernel
theorem dJx4a65c_grow_92f84_30 : decode cJx4a65c_grow_92f84 30 = .ok (.istore_n 3, 1) := by decide +kernel
theorem dJx4a65c_grow_92f84_31 : decode cJx4a65c_grow_92f84 31 = .ok (.aload_n 0, 1) := by decide +kernel
theorem dJx4a65c_grow_92f84_32 : decode cJx4a65c_grow_92f84 32 = .ok (.aload_n 0, 1) := by decide +kernel
theorem dJx4a65c_grow_92f84_33 : decode cJx4a65c_grow_92f84 33 = .ok (.getfield 9, 3) := by decide +kernel
theorem dJx4a65c_grow_92f84_36 : decode cJx4a65c_grow_92f84 36 = .ok (.iload_n 3, 1) := by decide +kernel
theorem dJx4a65c_grow_92f84_37 : decode cJx4a65c_grow_92f84 37 = .ok (.invokestatic 66, 3) := by decide +kernel
theorem dJx4a65c_grow_92f84_40 : decode cJx4a65c_grow_92f84 40 = .ok (.dup_x1, 1) := by decide +kernel
theorem dJx4a65c_grow_92f84_41 : decode cJx4a65c_grow_92f84 41 = .ok (.putfield 9, 3) := by decide +kernel
theorem dJx4a65c_grow_92f84_44 : decode cJx4a65c_grow_92f84 44 = .ok (.areturn, 1) := by decide +kernel
theorem dJx4a65c_grow_92f84_45 : decode cJx4a65c_grow_92f84 45 = .ok (.aload_n 0, 1) := by decide +kernel
theorem dJx4a65c_grow_92f84_46 : decode cJx4a65c_grow_92f84 46 = .ok (.bipush 10, 2) := by decide +kernel
theorem dJx4a65c_grow_92f84_48 : decode cJx4a65c_grow_92f84 48 = .ok (.iload_n 1, 1) := by decide +kernel
theorem dJx4a65c_grow_92f84_49 : decode cJx4a65c_grow_92f84 49 = .ok (.invokestatic 79, 3) := by decide +kernel
theorem dJx4a65c_grow_92f84_52 : decode cJx4a65c_grow_92f84 52 = .ok (.anewarray 7, 3) := by decide +kernel
theorem dJx4a65c_grow_92f84_55 : decode cJx4a65c_grow_92f84 55 = .ok (.dup_x1, 1) := by decide +kernel
theorem dJx4a65c_grow_92f84_56 : decode cJx4a65c_grow_92f84 56 = .ok (.putfield 9, 3) := by decide +kernel
theorem dJx4a65c_grow_92f84_59 : decode cJx4a65c_grow_92f84 59 = .ok (.areturn, 1) := by decide +kernel
theorem dJx4a65c_grow_d5877_0 : decode cJx4a65c_grow_d5877 0 = .ok (.aload_n 0, 1) := by decide +kernel
theorem dJx4a65c_grow_d5877_1 : decode cJx4a65c_grow_d5877 1 = .ok (.aload_n 0, 1) := by decide +kernel
theorem dJx4a65c_grow_d5877_2 : decode cJx4a65c_grow_d5877 2 = .ok (.getfield 48, 3) := by decide +kernel
theorem dJx4a65c_grow_d5877_5 : decode cJx4a65c_grow_d5877 5 = .ok (.iconst 1, 1) := by decide +kernel
theorem dJx4a65c_grow_d5877_6 : decode cJx4a65c_grow_d5877 6 = .ok (.iadd, 1) := by decide +kernel
theorem dJx4a65c_grow_d5877_7 : decode cJx4a65c_grow_d5877 7 = .ok (.invokevirtual 69, 3) := by decide +kernel
theorem dJx4a65c_grow_d5877_10 : decode cJx4a65c_grow_d5877 10 = .ok (.areturn, 1) := by decide +kernel
theorem dJx4a65c_size_8abf5_0 : decode cJx4a65c_size_8abf5 0 = .ok (.aload_n 0, 1) := by decide +kernel
theorem dJx4a65c_size_8abf5_1 : decode cJx4a65c_size_8abf5 1 = .ok (.getfield 48, 3) := by decide +kernel
theorem dJx4a65c_size_8abf5_4 : decode cJx4a65c_size_8abf5 4 = .ok (.ireturn, 1) := by decide +kernel
theorem dJx4a65c_elementData_915e3_0 : decode cJx4a65c_elementData_915e3 0 = .ok (.aload_n 0, 1) := by decide +kernel
theorem dJx4a65c_elementData_915e3_1 : decode cJx4a65c_elementData_915e3 1 = .ok (.getfield 9, 3) := by decide +kernel
theorem dJx4a65c_elementData_915e3_4 : decode cJx4a65c_elementData_915e3 4 = .ok (.iload_n 1, 1) := by decide +kernel
theorem dJx4a65c_elementData_915e3_5 : decode cJx4a65c_elementData_915e3 5 = .ok (.aaload, 1) := by decide +kernel
theorem dJx4a65c_elementData_915e3_6 : decode cJx4a65c_elementData_915e3 6 = .ok (.areturn, 1) := by decide +kernel
theorem dJx4a65c_get_915e3_0 : decode cJx4a65c_get_915e3 0 = .ok (.iload_n 1, 1) := by decide +kernel
theorem dJx4a65c_get_915e3_1 : decode cJx4a65c_get_915e3 1 = .ok (.aload_n 0, 1) := by decide +kernel
theorem dJx4a65c_get_915e3_2 : decode cJx4a65c_get_915e3 2 = .ok (.getfield 48, 3) := by decide +kernel
theorem dJx4a65c_get_915e3_5 : decode cJx4a65c_get_915e3 5 = .ok (.invokestatic 118, 3) := by decide +kernel
theorem dJx4a65c_get_915e3_8 : decode cJx4a65c_get_915e3 8 = .ok (.pop, 1) := by decide +kernel
theorem dJx4a65c_get_915e3_9 : decode cJx4a65c_get_915e3 9 = .ok (.aload_n 0, 1) := by decide +kernel
theorem dJx4a65c_get_915e3_10 : decode cJx4a65c_get_915e3 10 = .ok (.iload_n 1, 1) := by decide +kernel
theorem dJx4a65c_get_915e3_11 : decode cJx4a65c_get_915e3 11 = .ok (.invokevirtual 123, 3) := by decide +kernel
theorem dJx4a65c_get_915e3_14 : decode cJx4a65c_get_915e3 14 = .ok (.areturn, 1) := by decide +kernel
theorem dJx4a65c_add_72be8_0 : decode cJx4a65c_add_72be8 0 = .ok (.iload_n 3, 1) := by decide +kernel
theorem dJx4a65c_add_72be8_1 : decode cJx4a65c_add_72be8 1 = .ok (.aload_n 2, 1) := by decide +kernel
theorem dJx4a65c_add_72be8_2 : decode cJx4a65c_add_72be8 2 = .ok (.arraylength, 1) := by decide +kernel
theorem dJx4a65c_add_72be8_3 : decode cJx4a65c_add_72be8 3 = .ok (.if_icmp .ne 8, 3) := by decide +kernel
theorem dJx4a65c_add_72be8_6 : decode cJx4a65c_add_72be8 6 = .ok (.aload_n 0, 1) := by decide +kernel
theorem dJx4a65c_add_72be8_7 : decode cJx4a65c_add_72be8 7 = .ok (.invokevirtual 129, 3) := by decide +kernel
theorem dJx4a65c_add_72be8_10 : decode cJx4a65c_add_72be8 10 = .ok (.astore_n 2, 1) := by decide +kernel
theorem dJx4a65c_add_72be8_11 : decode cJx4a65c_add_72be8 11 = .ok (.aload_n 2, 1) := by decide +kernel
theorem dJx4a65c_add_72be8_12 : decode cJx4a65c_add_72be8 12 = .ok (.iload_n 3, 1) := by decide +kernel
theorem dJx4a65c_add_72be8_13 : decode cJx4a65c_add_72be8 13 = .ok (.aload_n 1, 1) := by decide +kernel
theorem dJx4a65c_add_72be8_14 : decode cJx4a65c_add_72be8 14 = .ok (.aastore, 1) := by decide +kernel
theorem dJx4a65c_add_72be8_15 : decode cJx4a65c_add_72be8 15 = .ok (.aload_n 0, 1) := by decide +kernel
theorem dJx4a65c_add_72be8_16 : decode cJx4a65c_add_72be8 16 = .ok (.iload_n 3, 1) := by decide +kernel
theorem dJx4a65c_add_72be8_17 : decode cJx4a65c_add_72be8 17 = .ok (.iconst 1, 1) := by decide +kernel
theorem dJx4a65c_add_72be8_18 : decode cJx4a65c_add_72be8 18 = .ok (.iadd, 1) := by decide +kernel
theorem dJx4a65c_add_72be8_19 : decode cJx4a65c_add_72be8 19 = .ok (.putfield 48, 3) := by decide +kernel
theorem dJx4a65c_add_72be8_22 : decode cJx4a65c_add_72be8 22 = .ok (.return_, 1) := by decide +kernel
theorem dJx4a65c_add_9ea2d_0 : decode cJx4a65c_add_9ea2d 0 = .ok (.aload_n 0, 1) := by decide +kernel
theorem dJx4a65c_add_9ea2d_1 : decode cJx4a65c_add_9ea2d 1 = .ok (.dup, 1) := by decide +kernel
theorem dJx4a65c_add_9ea2d_2 : decode cJx4a65c_add_9ea2d 2 = .ok (.getfield 63, 3) := by decide +kernel
theorem dJx4a65c_add_9ea2d_5 : decode cJx4a65c_add_9ea2d 5 = .ok (.iconst 1, 1) := by decide +kernel
theorem dJx4a65c_add_9ea2d_6 : decode cJx4a65c_add_9ea2d 6 = .ok (.iadd, 1) := by decide +kernel
theorem dJx4a65c_add_9ea2d_7 : decode cJx4a65c_add_9ea2d 7 = .ok (.putfield 63, 3) := by decide +kernel
theorem dJx4a65c_add_9ea2d_10 : decode cJx4a65c_add_9ea2d 10 = .ok (.aload_n 0, 1) := by decide +kernel
theorem dJx4a65c_add_9ea2d_11 : decode cJx4a65c_add_9ea2d 11 = .ok (.aload_n 1, 1) := by decide +kernel
theorem dJx4a65c_add_9ea2d_12 : decode cJx4a65c_add_9ea2d 12 = .ok (.aload_n 0, 1) := by decide +kernel
theorem dJx4a65c_add_9ea2d_13 : decode cJx4a65c_add_9ea2d 13 = .ok (.getfield 9, 3) := by decide +kernel
theorem dJx4a65c_add_9ea2d_16 : decode cJx4a65c_add_9ea2d 16 = .ok (.aload_n 0, 1) := by decide +kernel
theorem dJx4a65c_add_9ea2d_17 : decode cJx4a65c_add_9ea2d 17 = .ok (.getfield 48, 3) := by decide +kernel
theorem dJx4a65c_add_9ea2d_20 : decode cJx4a65c_add_9ea2d 20 = .ok (.invokevirtual 131, 3) := by decide +kernel
theorem dJx4a65c_add_9ea2d_23 : decode cJx4a65c_add_9ea2d 23 = .ok (.iconst 1, 1) := by decide +kernel
theorem dJx4a65c_add_9ea2d_24 : decode cJx4a65c_add_9ea2d 24 = .ok (.ireturn, 1) := by decide +kernel
theorem dJx4a65c_add_7a177_0 : decode cJx4a65c_add_7a177 0 = .ok (.aload_n 0, 1) := by decide +kernel
theorem dJx4a65c_add_7a177_1 : decode cJx4a65c_add_7a177 1 = .ok (.iload_n 1, 1) := by decide +kernel
theorem dJx4a65c_add_7a177_2 : decode cJx4a65c_add_7a177 2 = .ok (.invokevirtual 135, 3) := by decide +kernel
theorem dJx4a65c_add_7a177_5 : decode cJx4a65c_add_7a177 5 = .ok (.aload_n 0, 1) := by decide +kernel
theorem dJx4a65c_add_7a177_6 : decode cJx4a65c_add_7a177 6 = .ok (.dup, 1) := by decide +kernel
theorem dJx4a65c_add_7a177_7 : decode cJx4a65c_add_7a177 7 = .ok (.getfield 63, 3) := by decide +kernel
theorem dJx4a65c_add_7a177_10 : decode cJx4a65c_add_7a177 10 = .ok (.iconst 1, 1) := by decide +kernel
theorem dJx4a65c_add_7a177_11 : decode cJx4a65c_add_7a177 11 = .ok (.iadd, 1) := by decide +kernel
theorem dJx4a65c_add_7a177_12 : decode cJx4a65c_add_7a177 12 = .ok (.putfield 63, 3) := by decide +kernel
theorem dJx4a65c_add_7a177_15 : decode cJx4a65c_add_7a177 15 = .ok (.aload_n 0, 1) := by decide +kernel
theorem dJx4a65c_add_7a177_16 : decode cJx4a65c_add_7a177 16 = .ok (.getfield 48, 3) := by decide +kernel
theorem dJx4a65c_add_7a177_19 : decode cJx4a65c_add_7a177 19 = .ok (.dup, 1) := by decide +kernel
theorem dJx4a65c_add_7a177_20 : decode cJx4a65c_add_7a177 20 = .ok (.istore_n 3, 1) := by decide +kernel
theorem dJx4a65c_add_7a177_21 : decode cJx4a65c_add_7a177 21 = .ok (.aload_n 0, 1) := by decide +kernel
theorem dJx4a65c_add_7a177_22 : decode cJx4a65c_add_7a177 22 = .ok (.getfield 9, 3) := by decide +kernel
theorem dJx4a65c_add_7a177_25 : decode cJx4a65c_add_7a177 25 = .ok (.dup, 1) := by decide +kernel
theorem dJx4a65c_add_7a177_26 : decode cJx4a65c_add_7a177 26 = .ok (.astore 4, 2) := by decide +kernel
theorem dJx4a65c_add_7a177_28 : decode cJx4a65c_add_7a177 28 = .ok (.arraylength, 1) := by decide +kernel
theorem dJx4a65c_add_7a177_29 : decode cJx4a65c_add_7a177 29 = .ok (.if_icmp .ne 9, 3) := by decide +kernel
theorem dJx4a65c_add_7a177_32 : decode cJx4a65c_add_7a177 32 = .ok (.aload_n 0, 1) := by decide +kernel
theorem dJx4a65c_add_7a177_33 : decode cJx4a65c_add_7a177 33 = .ok (.invokevirtual 129, 3) := by decide +kernel
theorem dJx4a65c_add_7a177_36 : decode cJx4a65c_add_7a177 36 = .ok (.astore 4, 2) := by decide +kernel
theorem dJx4a65c_add_7a177_38 : decode cJx4a65c_add_7a177 38 = .ok (.aload 4, 2) := by decide +kernel
theorem dJx4a65c_add_7a177_40 : decode cJx4a65c_add_7a177 40 = .ok (.iload_n 1, 1) := by decide +kernel
theorem dJx4a65c_add_7a177_41 : decode cJx4a65c_add_7a177 41 = .ok (.aload 4, 2) := by decide +kernel
theorem dJx4a65c_add_7a177_43 : decode cJx4a65c_add_7a177 43 = .ok (.iload_n 1, 1) := by decide +kernel
theorem dJx4a65c_add_7a177_44 : decode cJx4a65c_add_7a177 44 = .ok (.iconst 1, 1) := by decide +kernel
theorem dJx4a65c_add_7a177_45 : decode cJx4a65c_add_7a177 45 = .ok (.iadd, 1) := by decide +kernel
theorem dJx4a65c_add_7a177_46 : decode cJx4a65c_add_7a177 46 = .ok (.iload_n 3, 1) := by decide +kernel
theorem dJx4a65c_add_7a177_47 : decode cJx4a65c_add_7a177 47 = .ok (.iload_n 1, 1) := by decide +kernel
theorem dJx4a65c_add_7a177_48 : decode cJx4a65c_add_7a177 48 = .ok (.isub, 1) := by decide +kernel
theorem dJx4a65c_add_7a177_49 : decode cJx4a65c_add_7a177 49 = .ok (.invokestatic 112, 3) := by decide +kernel
theorem dJx4a65c_add_7a177_52 : decode cJx4a65c_add_7a177 52 = .ok (.aload 4, 2) := by decide +kernel
theorem dJx4a65c_add_7a177_54 : decode cJx4a65c_add_7a177 54 = .ok (.iload_n 1, 1) := by decide +kernel
theorem dJx4a65c_add_7a177_55 : decode cJx4a65c_add_7a177 55 = .ok (.aload_n 2, 1) := by decide +kernel
theorem dJx4a65c_add_7a177_56 : decode cJx4a65c_add_7a177 56 = .ok (.aastore, 1) := by decide +kernel
theorem dJx4a65c_add_7a177_57 : decode cJx4a65c_add_7a177 57 = .ok (.aload_n 0, 1) := by decide +kernel
theorem dJx4a65c_add_7a177_58 : decode cJx4a65c_add_7a177 58 = .ok (.iload_n 3, 1) := by decide +kernel
theorem dJx4a65c_add_7a177_59 : decode cJx4a65c_add_7a177 59 = .ok (.iconst 1, 1) := by decide +kernel
theorem dJx4a65c_add_7a177_60 : decode cJx4a65c_add_7a177 60 = .ok (.iadd, 1) := by decide +kernel
theorem dJx4a65c_add_7a177_61 : decode cJx4a65c_add_7a177 61 = .ok (.putfield 48, 3) := by decide +kernel
theorem dJx4a65c_add_7a177_64 : decode cJx4a65c_add_7a177 64 = .ok (.return_, 1) := by decide +kernel
theorem dJx4a65c_clear_da8c8_0 : decode cJx4a65c_clear_da8c8 0 = .ok (.aload_n 0, 1) := by decide +kernel
theorem dJx4a65c_clear_da8c8_1 : decode cJx4a65c_clear_da8c8 1 = .ok (.dup, 1) := by decide +kernel
theorem dJx4a65c_clear_da8c8_2 : decode cJx4a65c_clear_da8c8 2 = .ok (.getfield 63, 3) := by decide +kernel
theorem dJx4a65c_clear_da8c8_5 : decode cJx4a65c_clear_da8c8 5 = .ok (.iconst 1, 1) := by decide +kernel
theorem dJx4a65c_clear_da8c8_6 : decode cJx4a65c_clear_da8c8 6 = .ok (.iadd, 1) := by decide +kernel
theorem dJx4a65c_clear_da8c8_7 : decode cJx4a65c_clear_da8c8 7 = .ok (.putfield 63, 3) := by decide +kernel
theorem dJx4a65c_clear_da8c8_10 : decode cJx4a65c_clear_da8c8 10 = .ok (.aload_n 0, 1) := by decide +kernel
theorem dJx4a65c_clear_da8c8_11 : decode cJx4a65c_clear_da8c8 11 = .ok (.getfield 9, 3) := by decide +kernel
theorem dJx4a65c_clear_da8c8_14 : decode cJx4a65c_clear_da8c8 14 = .ok (.astore_n 1, 1) := by decide +kernel
theorem dJx4a65c_clear_da8c8_15 : decode cJx4a65c_clear_da8c8 15 = .ok (.aload_n 0, 1) := by decide +kernel
theorem dJx4a65c_clear_da8c8_16 : decode cJx4a65c_clear_da8c8 16 = .ok (.getfield 48, 3) := by decide +kernel
theorem dJx4a65c_clear_da8c8_19 : decode cJx4a65c_clear_da8c8 19 = .ok (.istore_n 2, 1) := by decide +kernel
theorem dJx4a65c_clear_da8c8_20 : decode cJx4a65c_clear_da8c8 20 = .ok (.aload_n 0, 1) := by decide +kernel
theorem dJx4a65c_clear_da8c8_21 : decode cJx4a65c_clear_da8c8 21 = .ok (.iconst 0, 1) := by decide +kernel
theorem dJx4a65c_clear_da8c8_22 : decode cJx4a65c_clear_da8c8 22 = .ok (.dup_x1, 1) := by decide +kernel
theorem dJx4a65c_clear_da8c8_23 : decode cJx4a65c_clear_da8c8 23 = .ok (.putfield 48, 3) := by decide +kernel
theorem dJx4a65c_clear_da8c8_26 : decode cJx4a65c_clear_da8c8 26 = .ok (.istore_n 3, 1) := by decide +kernel
theorem dJx4a65c_clear_da8c8_27 : decode cJx4a65c_clear_da8c8 27 = .ok (.iload_n 3, 1) := by decide +kernel
theorem dJx4a65c_clear_da8c8_28 : decode cJx4a65c_clear_da8c8 28 = .ok (.iload_n 2, 1) := by decide +kernel
theorem dJx4a65c_clear_da8c8_29 : decode cJx4a65c_clear_da8c8 29 = .ok (.if_icmp .ge 13, 3) := by decide +kernel
theorem dJx4a65c_clear_da8c8_32 : decode cJx4a65c_clear_da8c8 32 = .ok (.aload_n 1, 1) := by decide +kernel
theorem dJx4a65c_clear_da8c8_33 : decode cJx4a65c_clear_da8c8 33 = .ok (.iload_n 3, 1) := by decide +kernel
theorem dJx4a65c_clear_da8c8_34 : decode cJx4a65c_clear_da8c8 34 = .ok (.aconst_null, 1) := by decide +kernel
theorem dJx4a65c_clear_da8c8_35 : decode cJx4a65c_clear_da8c8 35 = .ok (.aastore, 1) := by decide +kernel
theorem dJx4a65c_clear_da8c8_36 : decode cJx4a65c_clear_da8c8 36 = .ok (.iinc 3 1, 3) := by decide +kernel
theorem dJx4a65c_clear_da8c8_39 : decode cJx4a65c_clear_da8c8 39 = .ok (.goto (-12), 3) := by decide +kernel
theorem dJx4a65c_clear_da8c8_42 : decode cJx4a65c_clear_da8c8 42 = .ok (.return_, 1) := by decide +kernel
theorem dJx4a65c_rangeCheckForAdd_d00df_0 : decode cJx4a65c_rangeCheckForAdd_d00df 0 = .ok (.iload_n 1, 1) := by decide +kernel
theorem dJx4a65c_rangeCheckForAdd_d00df_1 : decode cJx4a65c_rangeCheckForAdd_d00df 1 = .ok (.aload_n 0, 1) := by decide +kernel
theorem dJx4a65c_rangeCheckForAdd_d00df_2 : decode cJx4a65c_rangeCheckForAdd_d00df 2 = .ok (.getfield 48, 3) := by decide +kernel
theorem dJx4a65c_rangeCheckForAdd_d00df_5 : decode cJx4a65c_rangeCheckForAdd_d00df 5 = .ok (.if_icmp .gt 7, 3) := by decide +kernel
theorem dJx4a65c_rangeCheckForAdd_d00df_8 : decode cJx4a65c_rangeCheckForAdd_d00df 8 = .ok (.iload_n 1, 1) := by decide +kernel
theorem dJx4a65c_rangeCheckForAdd_d00df_9 : decode cJx4a65c_rangeCheckForAdd_d00df 9 = .ok (.ifCond .ge 16, 3) := by decide +kernel
theorem dJx4a65c_rangeCheckForAdd_d00df_12 : decode cJx4a65c_rangeCheckForAdd_d00df 12 = .ok (.new 187, 3) := by decide +kernel
theorem dJx4a65c_rangeCheckForAdd_d00df_15 : decode cJx4a65c_rangeCheckForAdd_d00df 15 = .ok (.dup, 1) := by decide +kernel
theorem dJx4a65c_rangeCheckForAdd_d00df_16 : decode cJx4a65c_rangeCheckForAdd_d00df 16 = .ok (.aload_n 0, 1) := by decide +kernel
theorem dJx4a65c_rangeCheckForAdd_d00df_17 : decode cJx4a65c_rangeCheckForAdd_d00df 17 = .ok (.iload_n 1, 1) := by decide +kernel
theorem dJx4a65c_rangeCheckForAdd_d00df_18 : decode cJx4a65c_rangeCheckForAdd_d00df 18 = .ok (.invokevirtual 198, 3) := by decide +kernel
theorem dJx4a65c_rangeCheckForAdd_d00df_21 : decode cJx4a65c_rangeCheckForAdd_d00df 21 = .ok (.invokespecial 193, 3) := by decide +kernel
theorem dJx4a65c_rangeCheckForAdd_d00df_24 : decode cJx4a65c_rangeCheckForAdd_d00df 24 = .ok (.athrow, 1) := by decide +kernel
theorem dJx4a65c_rangeCheckForAdd_d00df_25 : decode cJx4a65c_rangeCheckForAdd_d00df 25 = .ok (.return_, 1) := by decide +kernel
theorem dJ7_fill_53178_0 : decode cJ7_fill_53178 0 = .ok (.iconst 0, 1) := by decide +kernel
theorem dJ7_fill_53178_1 : decode cJ7_fill_53178 1 = .ok (.istore_n 2, 1) := by decide +kernel
theorem dJ7_fill_53178_2 : decode cJ7_fill_53178 2 = .ok (.aload_n 0, 1) := by decide +kernel
theorem dJ7_fill_53178_3 : decode cJ7_fill_53178 3 = .ok (.arraylength, 1) := by decide +kernel
theorem dJ7_fill_53178_4 : decode cJ7_fill_53178 4 = .ok (.istore_n 3, 1) := by decide +kernel
theorem dJ7_fill_53178_5 : decode cJ7_fill_53178 5 = .ok (.iload_n 2, 1) := by decide +kernel
theorem dJ7_fill_53178_6 : decode cJ7_fill_53178 6 = .ok (.iload_n 3, 1) := by decide +kernel
theorem dJ7_fill_53178_7 : decode cJ7_fill_53178 7 = .ok (.if_icmp .ge 13, 3) := by decide +kernel
theorem dJ7_fill_53178_10 : decode cJ7_fill_53178 10 = .ok (.aload_n 0, 1) := by decide +kernel
theorem dJ7_fill_53178_11 : decode cJ7_fill_53178 11 = .ok (.iload_n 2, 1) := by decide +kernel
theorem dJ7_fill_53178_12 : decode cJ7_fill_53178 12 = .ok (.iload_n 1, 1) := by decide +kernel
theorem dJ7_fill_53178_13 : decode cJ7_fill_53178 13 = .ok (.iastore, 1) := by decide +kernel
theorem dJ7_fill_53178_14 : decode cJ7_fill_53178 14 = .ok (.iinc 2 1, 3) := by decide +kernel
theorem dJ7_fill_53178_17 : decode cJ7_fill_53178 17 = .ok (.goto (-12), 3) := by decide +kernel
theorem dJ7_fill_53178_20 : decode cJ7_fill_53178 20 = .ok (.return_, 1) := by decide +kernel
theorem dJ7_copyOf_1904c_0 : decode cJ7_copyOf_1904c 0 = .ok (.aload_n 0, 1) := by decide +kernel
theorem dJ7_copyOf_1904c_1 : decode cJ7_copyOf_1904c 1 = .ok (.iload_n 1, 1) := by decide +kernel
theorem dJ7_copyOf_1904c_2 : decode cJ7_copyOf_1904c 2 = .ok (.aload_n 0, 1) := by decide +kernel
theorem dJ7_copyOf_1904c_3 : decode cJ7_copyOf_1904c 3 = .ok (.invokevirtual 86, 3) := by decide +kernel
theorem dJ7_copyOf_1904c_6 : decode cJ7_copyOf_1904c 6 = .ok (.invokestatic 300, 3) := by decide +kernel
theorem dJ7_copyOf_1904c_9 : decode cJ7_copyOf_1904c 9 = .ok (.areturn, 1) := by decide +kernel
theorem dJ7_copyOf_6403c_0 : decode cJ7_copyOf_6403c 0 = .ok (.aload_n 2, 1) := by decide +kernel
theorem dJ7_copyOf_6403c_1 : decode cJ7_copyOf_6403c 1 = .ok (.ldc 110, 2) := by decide +kernel
theorem dJ7_copyOf_6403c_3 : decode cJ7_copyOf_6403c 3 = .ok (.if_acmp .ne 10, 3) := by decide +kernel
theorem dJ7_copyOf_6403c_6 : decode cJ7_copyOf_6403c 6 = .ok (.iload_n 1, 1) := by decide +kernel
theorem dJ7_copyOf_6403c_7 : decode cJ7_copyOf_6403c 7 = .ok (.anewarray 2, 3) := by decide +kernel
theorem dJ7_copyOf_6403c_10 : decode cJ7_copyOf_6403c 10 = .ok (.goto 14, 3) := by decide +kernel
theorem dJ7_copyOf_6403c_13 : decode cJ7_copyOf_6403c 13 = .ok (.aload_n 2, 1) := by decide +kernel
theorem dJ7_copyOf_6403c_14 : decode cJ7_copyOf_6403c 14 = .ok (.invokevirtual 90, 3) := by decide +kernel
theorem dJ7_copyOf_6403c_17 : decode cJ7_copyOf_6403c 17 = .ok (.iload_n 1, 1) := by decide +kernel
theorem dJ7_copyOf_6403c_18 : decode cJ7_copyOf_6403c 18 = .ok (.invokestatic 95, 3) := by decide +kernel
theorem dJ7_copyOf_6403c_21 : decode cJ7_copyOf_6403c 21 = .ok (.checkcast 110, 3) := by decide +kernel
theorem dJ7_copyOf_6403c_24 : decode cJ7_copyOf_6403c 24 = .ok (.astore_n 3, 1) := by decide +kernel
theorem dJ7_copyOf_6403c_25 : decode cJ7_copyOf_6403c 25 = .ok (.aload_n 0, 1) := by decide +kernel
theorem dJ7_copyOf_6403c_26 : decode cJ7_copyOf_6403c 26 = .ok (.iconst 0, 1) := by decide +kernel
theorem dJ7_copyOf_6403c_27 : decode cJ7_copyOf_6403c 27 = .ok (.aload_n 3, 1) := by decide +kernel
theorem dJ7_copyOf_6403c_28 : decode cJ7_copyOf_6403c 28 = .ok (.iconst 0, 1) := by decide +kernel
theorem dJ7_copyOf_6403c_29 : decode cJ7_copyOf_6403c 29 = .ok (.aload_n 0, 1) := by decide +kernel
theorem dJ7_copyOf_6403c_30 : decode cJ7_copyOf_6403c 30 = .ok (.arraylength, 1) := by decide +kernel
theorem dJ7_copyOf_6403c_31 : decode cJ7_copyOf_6403c 31 = .ok (.iload_n 1, 1) := by decide +kernel
theorem dJ7_copyOf_6403c_32 : decode cJ7_copyOf_6403c 32 = .ok (.invokestatic 304, 3) := by decide +kernel
theorem dJ7_copyOf_6403c_35 : decode cJ7_copyOf_6403c 35 = .ok (.invokestatic 150, 3) := by decide +kernel
theorem dJ7_copyOf_6403c_38 : decode cJ7_copyOf_6403c 38 = .ok (.aload_n 3, 1) := by decide +kernel
theorem dJ7_copyOf_6403c_39 : decode cJ7_copyOf_6403c 39 = .ok (.areturn, 1) := by decide +kernel
theorem dJ15_checkIndex_7cf53_0 : decode cJ15_checkIndex_7cf53 0 = .ok (.iload_n 0, 1) := by decide +kernel
theorem dJ15_checkIndex_7cf53_1 : decode cJ15_checkIndex_7cf53 1 = .ok (.iload_n 1, 1) := by decide +kernel
theorem dJ15_checkIndex_7cf53_2 : decode cJ15_checkIndex_7cf53 2 = .ok (.aconst_null, 1) := by decide +kernel
theorem dJ15_checkIndex_7cf53_3 : decode cJ15_checkIndex_7cf53 3 = .ok (.invokestatic 105, 3) := by decide +kernel
theorem dJ15_checkIndex_7cf53_6 : decode cJ15_checkIndex_7cf53 6 = .ok (.ireturn, 1) := by decide +kernel
theorem dJ8_newLength_cabcc_0 : decode cJ8_newLength_cabcc 0 = .ok (.iload_n 0, 1) := by decide +kernel
theorem dJ8_newLength_cabcc_1 : decode cJ8_newLength_cabcc 1 = .ok (.iload_n 1, 1) := by decide +kernel
theorem dJ8_newLength_cabcc_2 : decode cJ8_newLength_cabcc 2 = .ok (.iload_n 2, 1) := by decide +kernel
theorem dJ8_newLength_cabcc_3 : decode cJ8_newLength_cabcc 3 = .ok (.invokestatic 194, 3) := by decide +kernel
theorem dJ8_newLength_cabcc_6 : decode cJ8_newLength_cabcc 6 = .ok (.iadd, 1) := by decide +kernel
theorem dJ8_newLength_cabcc_7 : decode cJ8_newLength_cabcc 7 = .ok (.istore_n 3, 1) := by decide +kernel
theorem dJ8_newLength_cabcc_8 : decode cJ8_newLength_cabcc 8 = .ok (.iconst 0, 1) := by decide +kernel
theorem dJ8_newLength_cabcc_9 : decode cJ8_newLength_cabcc 9 = .ok (.iload_n 3, 1) := by decide +kernel
theorem dJ8_newLength_cabcc_10 : decode cJ8_newLength_cabcc 10 = .ok (.if_icmp .ge 11, 3) := by decide +kernel
theorem dJ8_newLength_cabcc_13 : decode cJ8_newLength_cabcc 13 = .ok (.iload_n 3, 1) := by decide +kernel
theorem dJ8_newLength_cabcc_14 : decode cJ8_newLength_cabcc 14 = .ok (.ldc 200, 2) := by decide +kernel
theorem dJ8_newLength_cabcc_16 : decode cJ8_newLength_cabcc 16 = .ok (.if_icmp .gt 5, 3) := by decide +kernel
theorem dJ8_newLength_cabcc_19 : decode cJ8_newLength_cabcc 19 = .ok (.iload_n 3, 1) := by decide +kernel
theorem dJ8_newLength_cabcc_20 : decode cJ8_newLength_cabcc 20 = .ok (.ireturn, 1) := by decide +kernel
theorem dJ8_newLength_cabcc_21 : decode cJ8_newLength_cabcc 21 = .ok (.iload_n 0, 1) := by decide +kernel
theorem dJ8_newLength_cabcc_22 : decode cJ8_newLength_cabcc 22 = .ok (.iload_n 1, 1) := by decide +kernel
theorem dJ8_newLength_cabcc_23 : decode cJ8_newLength_cabcc 23 = .ok (.invokestatic 201, 3) := by decide +kernel
theorem dJ8_newLength_cabcc_26 : decode cJ8_newLength_cabcc 26 = .ok (.ireturn, 1) := by decide +kernel
theorem dJ8_hugeLength_7cf53_0 : decode cJ8_hugeLength_7cf53 0 = .ok (.iload_n 0, 1) := by decide +kernel
theorem dJ8_hugeLength_7cf53_1 : decode cJ8_hugeLength_7cf53 1 = .ok (.iload_n 1, 1) := by decide +kernel
theorem dJ8_hugeLength_7cf53_2 : decode cJ8_hugeLength_7cf53 2 = .ok (.iadd, 1) := by decide +kernel
theorem dJ8_hugeLength_7cf53_3 : decode cJ8_hugeLength_7cf53 3 = .ok (.istore_n 2, 1) := by decide +kernel
theorem dJ8_hugeLength_7cf53_4 : decode cJ8_hugeLength_7cf53 4 = .ok (.iload_n 2, 1) := by decide +kernel
theorem dJ8_hugeLength_7cf53_5 : decode cJ8_hugeLength_7cf53 5 = .ok (.ifCond .ge 44, 3) := by decide +kernel
theorem dJ8_hugeLength_7cf53_8 : decode cJ8_hugeLength_7cf53 8 = .ok (.new 204, 3) := by decide +kernel
theorem dJ8_hugeLength_7cf53_11 : decode cJ8_hugeLength_7cf53 11 = .ok (.dup, 1) := by decide +kernel
theorem dJ8_hugeLength_7cf53_12 : decode cJ8_hugeLength_7cf53 12 = .ok (.new 89, 3) := by decide +kernel
theorem dJ8_hugeLength_7cf53_15 : decode cJ8_hugeLength_7cf53 15 = .ok (.dup, 1) := by decide +kernel
theorem dJ8_hugeLength_7cf53_16 : decode cJ8_hugeLength_7cf53 16 = .ok (.invokespecial 91, 3) := by decide +kernel
theorem dJ8_hugeLength_7cf53_19 : decode cJ8_hugeLength_7cf53 19 = .ok (.ldc 206, 2) := by decide +kernel
theorem dJ8_hugeLength_7cf53_21 : decode cJ8_hugeLength_7cf53 21 = .ok (.invokevirtual 94, 3) := by decide +kernel
theorem dJ8_hugeLength_7cf53_24 : decode cJ8_hugeLength_7cf53 24 = .ok (.iload_n 0, 1) := by decide +kernel
theorem dJ8_hugeLength_7cf53_25 : decode cJ8_hugeLength_7cf53 25 = .ok (.invokevirtual 98, 3) := by decide +kernel
theorem dJ8_hugeLength_7cf53_28 : decode cJ8_hugeLength_7cf53 28 = .ok (.ldc 208, 2) := by decide +kernel
theorem dJ8_hugeLength_7cf53_30 : decode cJ8_hugeLength_7cf53 30 = .ok (.invokevirtual 94, 3) := by decide +kernel
theorem dJ8_hugeLength_7cf53_33 : decode cJ8_hugeLength_7cf53 33 = .ok (.iload_n 1, 1) := by decide +kernel
theorem dJ8_hugeLength_7cf53_34 : decode cJ8_hugeLength_7cf53 34 = .ok (.invokevirtual 98, 3) := by decide +kernel
theorem dJ8_hugeLength_7cf53_37 : decode cJ8_hugeLength_7cf53 37 = .ok (.ldc 210, 2) := by decide +kernel
theorem dJ8_hugeLength_7cf53_39 : decode cJ8_hugeLength_7cf53 39 = .ok (.invokevirtual 94, 3) := by decide +kernel
theorem dJ8_hugeLength_7cf53_42 : decode cJ8_hugeLength_7cf53 42 = .ok (.invokevirtual 101, 3) := by decide +kernel
theorem dJ8_hugeLength_7cf53_45 : decode cJ8_hugeLength_7cf53 45 = .ok (.invokespecial 212, 3) := by decide +kernel
theorem dJ8_hugeLength_7cf53_48 : decode cJ8_hugeLength_7cf53 48 = .ok (.athrow, 1) := by decide +kernel
theorem dJ8_hugeLength_7cf53_49 : decode cJ8_hugeLength_7cf53 49 = .ok (.iload_n 2, 1) := by decide +kernel
theorem dJ8_hugeLength_7cf53_50 : decode cJ8_hugeLength_7cf53 50 = .ok (.ldc 200, 2) := by decide +kernel
theorem dJ8_hugeLength_7cf53_52 : decode cJ8_hugeLength_7cf53 52 = .ok (.if_icmp .gt 6, 3) := by decide +kernel
theorem dJ8_hugeLength_7cf53_55 : decode cJ8_hugeLength_7cf53 55 = .ok (.ldc 200, 2) := by decide +kernel
theorem dJ8_hugeLength_7cf53_57 : decode cJ8_hugeLength_7cf53 57 = .ok (.ireturn, 1) := by decide +kernel
theorem dJ8_hugeLength_7cf53_58 : decode cJ8_hugeLength_7cf53 58 = .ok (.iload_n 2, 1) := by decide +kernel
theorem dJ8_hugeLength_7cf53_59 : decode cJ8_hugeLength_7cf53 59 = .ok (.ireturn, 1) := by decide +kernel
theorem dJ3_checkIndex_8e157_0 : decode cJ3_checkIndex_8e157 0 = .ok (.iload_n 0, 1) := by decide +kernel
theorem dJ3_checkIndex_8e157_1 : decode cJ3_checkIndex_8e157 1 = .ok (.ifCond .lt 8, 3) := by decide +kernel
theorem dJ3_checkIndex_8e157_4 : decode cJ3_checkIndex_8e157 4 = .ok (.iload_n 0, 1) := by decide +kernel
theorem dJ3_checkIndex_8e157_5 : decode cJ3_checkIndex_8e157 5 = .ok (.iload_n 1, 1) := by decide +kernel
theorem dJ3_checkIndex_8e157_6 : decode cJ3_checkIndex_8e157 6 = .ok (.if_icmp .lt 10, 3) := by decide +kernel
theorem dJ3_checkIndex_8e157_9 : decode cJ3_checkIndex_8e157 9 = .ok (.aload_n 2, 1) := by decide +kernel
theorem dJ3_checkIndex_8e157_10 : decode cJ3_checkIndex_8e157 10 = .ok (.iload_n 0, 1) := by decide +kernel
theorem dJ3_checkIndex_8e157_11 : decode cJ3_checkIndex_8e157 11 = .ok (.iload_n 1, 1) := by decide +kernel
theorem dJ3_checkIndex_8e157_12 : decode cJ3_checkIndex_8e157 12 = .ok (.invokestatic 95, 3) := by decide +kernel
theorem dJ3_checkIndex_8e157_15 : decode cJ3_checkIndex_8e157 15 = .ok (.athrow, 1) := by decide +kernel
theorem dJ3_checkIndex_8e157_16 : decode cJ3_checkIndex_8e157 16 = .ok (.iload_n 0, 1) := by decide +kernel
theorem dJ3_checkIndex_8e157_17 : decode cJ3_checkIndex_8e157 17 = .ok (.ireturn, 1) := by decide +kernel
theorem dL_below_0 : decode cL_below 0 = .ok (.iload_n 0, 1) := by decide +kernel
theorem dL_below_1 : decode cL_below 1 = .ok (.ldc 7, 2) := by decide +kernel
theorem dL_below_3 : decode cL_below 3 = .ok (.iand, 1) := by decide +kernel
theorem dL_below_4 : decode cL_below 4 = .ok (.iload_n 1, 1) := by decide +kernel
theorem dL_below_5 : decode cL_below 5 = .ok (.irem, 1) := by decide +kernel
theorem dL_below_6 : decode cL_below 6 = .ok (.ireturn, 1) := by decide +kernel
theorem dL_cell_0 : decode cL_cell 0 = .ok (.iload_n 1, 1) := by decide +kernel
theorem dL_cell_1 : decode cL_cell 1 = .ok (.aload_n 0, 1) := by decide +kernel
theorem dL_cell_2 : decode cL_cell 2 = .ok (.arraylength, 1) := by decide +kernel
theorem dL_cell_3 : decode cL_cell 3 = .ok (.if_icmp .ge 9, 3) := by decide +kernel
theorem dL_cell_6 : decode cL_cell 6 = .ok (.aload_n 0, 1) := by decide +kernel
theorem dL_cell_7 : decode cL_cell 7 = .ok (.iload_n 1, 1) := by decide +kernel
theorem dL_cell_8 : decode cL_cell 8 = .ok (.iaload, 1) := by decide +kernel
theorem dL_cell_9 : decode cL_cell 9 = .ok (.goto 9, 3) := by decide +kernel
theorem dL_cell_12 : decode cL_cell 12 = .ok (.ldc 8, 2) := by decide +kernel
theorem dL_cell_14 : decode cL_cell 14 = .ok (.iload_n 1, 1) := by decide +kernel
theorem dL_cell_15 : decode cL_cell 15 = .ok (.iconst 3, 1) := by decide +kernel
theorem dL_cell_16 : decode cL_cell 16 = .ok (.iadd, 1) := by decide +kernel
theorem dL_cell_17 : decode cL_cell 17 = .ok (.imul, 1) := by decide +kernel
theorem dL_cell_18 : decode cL_cell 18 = .ok (.ireturn, 1) := by decide +kernel
theorem dL_write_0 : decode cL_write 0 = .ok (.iconst 0, 1) := by decide +kernel
theorem dL_write_1 : decode cL_write 1 = .ok (.istore_n 3, 1) := by decide +kernel
theorem dL_write_2 : decode cL_write 2 = .ok (.iload_n 3, 1) := by decide +kernel
theorem dL_write_3 : decode cL_write 3 = .ok (.bipush 8, 2) := by decide +kernel
theorem dL_write_5 : decode cL_write 5 = .ok (.if_icmp .ge 95, 3) := by decide +kernel
theorem dL_write_8 : decode cL_write 8 = .ok (.aload_n 1, 1) := by decide +kernel
theorem dL_write_9 : decode cL_write 9 = .ok (.iload_n 3, 1) := by decide +kernel
theorem dL_write_10 : decode cL_write 10 = .ok (.iload_n 2, 1) := by decide +kernel
theorem dL_write_11 : decode cL_write 11 = .ok (.iadd, 1) := by decide +kernel
theorem dL_write_12 : decode cL_write 12 = .ok (.invokestatic 9, 3) := by decide +kernel
theorem dL_write_15 : decode cL_write 15 = .ok (.bipush 11, 2) := by decide +kernel
theorem dL_write_17 : decode cL_write 17 = .ok (.iload_n 3, 1) := by decide +kernel
theorem dL_write_18 : decode cL_write 18 = .ok (.imul, 1) := by decide +kernel
theorem dL_write_19 : decode cL_write 19 = .ok (.iadd, 1) := by decide +kernel
theorem dL_write_20 : decode cL_write 20 = .ok (.istore 4, 2) := by decide +kernel
theorem dL_write_22 : decode cL_write 22 = .ok (.iload_n 3, 1) := by decide +kernel
theorem dL_write_23 : decode cL_write 23 = .ok (.iconst 5, 1) := by decide +kernel
theorem dL_write_24 : decode cL_write 24 = .ok (.if_icmp .ge 7, 3) := by decide +kernel
theorem dL_write_27 : decode cL_write 27 = .ok (.iload_n 3, 1) := by decide +kernel
theorem dL_write_28 : decode cL_write 28 = .ok (.goto 10, 3) := by decide +kernel
theorem dL_write_31 : decode cL_write 31 = .ok (.iload 4, 2) := by decide +kernel
theorem dL_write_33 : decode cL_write 33 = .ok (.bipush 8, 2) := by decide +kernel
theorem dL_write_35 : decode cL_write 35 = .ok (.invokestatic 15, 3) := by decide +kernel
theorem dL_write_38 : decode cL_write 38 = .ok (.istore 5, 2) := by decide +kernel
theorem dL_write_40 : decode cL_write 40 = .ok (.aload_n 0, 1) := by decide +kernel
theorem dL_write_41 : decode cL_write 41 = .ok (.iload 5, 2) := by decide +kernel
theorem dL_write_43 : decode cL_write 43 = .ok (.iload_n 3, 1) := by decide +kernel
theorem dL_write_44 : decode cL_write 44 = .ok (.iconst 5, 1) := by decide +kernel
theorem dL_write_45 : decode cL_write 45 = .ok (.if_icmp .ge 9, 3) := by decide +kernel
theorem dL_write_48 : decode cL_write 48 = .ok (.iload_n 3, 1) := by decide +kernel
theorem dL_write_49 : decode cL_write 49 = .ok (.iconst 1, 1) := by decide +kernel
theorem dL_write_50 : decode cL_write 50 = .ok (.iadd, 1) := by decide +kernel
theorem dL_write_51 : decode cL_write 51 = .ok (.goto 20, 3) := by decide +kernel
theorem dL_write_54 : decode cL_write 54 = .ok (.iload 5, 2) := by decide +kernel
theorem dL_write_56 : decode cL_write 56 = .ok (.iconst 1, 1) := by decide +kernel
theorem dL_write_57 : decode cL_write 57 = .ok (.iadd, 1) := by decide +kernel
theorem dL_write_58 : decode cL_write 58 = .ok (.iload 4, 2) := by decide +kernel
theorem dL_write_60 : decode cL_write 60 = .ok (.iconst 2, 1) := by decide +kernel
theorem dL_write_61 : decode cL_write 61 = .ok (.ishr, 1) := by decide +kernel
theorem dL_write_62 : decode cL_write 62 = .ok (.bipush 7, 2) := by decide +kernel
theorem dL_write_64 : decode cL_write 64 = .ok (.invokestatic 15, 3) := by decide +kernel
theorem dL_write_67 : decode cL_write 67 = .ok (.iadd, 1) := by decide +kernel
theorem dL_write_68 : decode cL_write 68 = .ok (.bipush 8, 2) := by decide +kernel
theorem dL_write_70 : decode cL_write 70 = .ok (.irem, 1) := by decide +kernel
theorem dL_write_71 : decode cL_write 71 = .ok (.iconst 1, 1) := by decide +kernel
theorem dL_write_72 : decode cL_write 72 = .ok (.iload 4, 2) := by decide +kernel
theorem dL_write_74 : decode cL_write 74 = .ok (.iconst 3, 1) := by decide +kernel
theorem dL_write_75 : decode cL_write 75 = .ok (.ishr, 1) := by decide +kernel
theorem dL_write_76 : decode cL_write 76 = .ok (.bipush 60, 2) := by decide +kernel
theorem dL_write_78 : decode cL_write 78 = .ok (.invokestatic 15, 3) := by decide +kernel
theorem dL_write_81 : decode cL_write 81 = .ok (.iadd, 1) := by decide +kernel
theorem dL_write_82 : decode cL_write 82 = .ok (.iload 4, 2) := by decide +kernel
theorem dL_write_84 : decode cL_write 84 = .ok (.iconst 4, 1) := by decide +kernel
theorem dL_write_85 : decode cL_write 85 = .ok (.ishr, 1) := by decide +kernel
theorem dL_write_86 : decode cL_write 86 = .ok (.iconst 4, 1) := by decide +kernel
theorem dL_write_87 : decode cL_write 87 = .ok (.invokestatic 15, 3) := by decide +kernel
theorem dL_write_90 : decode cL_write 90 = .ok (.invokevirtual 19, 3) := by decide +kernel
theorem dL_write_93 : decode cL_write 93 = .ok (.pop, 1) := by decide +kernel
theorem dL_write_94 : decode cL_write 94 = .ok (.iinc 3 1, 3) := by decide +kernel
theorem dL_write_97 : decode cL_write 97 = .ok (.goto (-95), 3) := by decide +kernel
theorem dL_write_100 : decode cL_write 100 = .ok (.iconst 0, 1) := by decide +kernel
theorem dL_write_101 : decode cL_write 101 = .ok (.istore_n 3, 1) := by decide +kernel
theorem dL_write_102 : decode cL_write 102 = .ok (.iload_n 3, 1) := by decide +kernel
theorem dL_write_103 : decode cL_write 103 = .ok (.iconst 5, 1) := by decide +kernel
theorem dL_write_104 : decode cL_write 104 = .ok (.if_icmp .ge 70, 3) := by decide +kernel
theorem dL_write_107 : decode cL_write 107 = .ok (.aload_n 1, 1) := by decide +kernel
theorem dL_write_108 : decode cL_write 108 = .ok (.iload_n 3, 1) := by decide +kernel
theorem dL_write_109 : decode cL_write 109 = .ok (.iload_n 2, 1) := by decide +kernel
theorem dL_write_110 : decode cL_write 110 = .ok (.iadd, 1) := by decide +kernel
theorem dL_write_111 : decode cL_write 111 = .ok (.iconst 3, 1) := by decide +kernel
theorem dL_write_112 : decode cL_write 112 = .ok (.iadd, 1) := by decide +kernel
theorem dL_write_113 : decode cL_write 113 = .ok (.invokestatic 9, 3) := by decide +kernel
theorem dL_write_116 : decode cL_write 116 = .ok (.bipush 7, 2) := by decide +kernel
theorem dL_write_118 : decode cL_write 118 = .ok (.iload_n 3, 1) := by decide +kernel
theorem dL_write_119 : decode cL_write 119 = .ok (.imul, 1) := by decide +kernel
theorem dL_write_120 : decode cL_write 120 = .ok (.iadd, 1) := by decide +kernel
theorem dL_write_121 : decode cL_write 121 = .ok (.istore 4, 2) := by decide +kernel
theorem dL_write_123 : decode cL_write 123 = .ok (.aload_n 0, 1) := by decide +kernel
theorem dL_write_124 : decode cL_write 124 = .ok (.iload_n 3, 1) := by decide +kernel
theorem dL_write_125 : decode cL_write 125 = .ok (.iconst 4, 1) := by decide +kernel
theorem dL_write_126 : decode cL_write 126 = .ok (.irem, 1) := by decide +kernel
theorem dL_write_127 : decode cL_write 127 = .ok (.iconst 1, 1) := by decide +kernel
theorem dL_write_128 : decode cL_write 128 = .ok (.iload 4, 2) := by decide +kernel
theorem dL_write_130 : decode cL_write 130 = .ok (.bipush 30, 2) := by decide +kernel
theorem dL_write_132 : decode cL_write 132 = .ok (.invokestatic 15, 3) := by decide +kernel
theorem dL_write_135 : decode cL_write 135 = .ok (.iadd, 1) := by decide +kernel
theorem dL_write_136 : decode cL_write 136 = .ok (.iload 4, 2) := by decide +kernel
theorem dL_write_138 : decode cL_write 138 = .ok (.iconst 1, 1) := by decide +kernel
theorem dL_write_139 : decode cL_write 139 = .ok (.ishr, 1) := by decide +kernel
theorem dL_write_140 : decode cL_write 140 = .ok (.bipush 10, 2) := by decide +kernel
theorem dL_write_142 : decode cL_write 142 = .ok (.invokestatic 15, 3) := by decide +kernel
theorem dL_write_145 : decode cL_write 145 = .ok (.iload 4, 2) := by decide +kernel
theorem dL_write_147 : decode cL_write 147 = .ok (.iconst 2, 1) := by decide +kernel
theorem dL_write_148 : decode cL_write 148 = .ok (.ishr, 1) := by decide +kernel
theorem dL_write_149 : decode cL_write 149 = .ok (.bipush 101, 2) := by decide +kernel
theorem dL_write_151 : decode cL_write 151 = .ok (.invokestatic 15, 3) := by decide +kernel
theorem dL_write_154 : decode cL_write 154 = .ok (.iconst 1, 1) := by decide +kernel
theorem dL_write_155 : decode cL_write 155 = .ok (.iload 4, 2) := by decide +kernel
theorem dL_write_157 : decode cL_write 157 = .ok (.iconst 3, 1) := by decide +kernel
theorem dL_write_158 : decode cL_write 158 = .ok (.ishr, 1) := by decide +kernel
theorem dL_write_159 : decode cL_write 159 = .ok (.iconst 2, 1) := by decide +kernel
theorem dL_write_160 : decode cL_write 160 = .ok (.invokestatic 15, 3) := by decide +kernel
theorem dL_write_163 : decode cL_write 163 = .ok (.iadd, 1) := by decide +kernel
theorem dL_write_164 : decode cL_write 164 = .ok (.invokevirtual 25, 3) := by decide +kernel
theorem dL_write_167 : decode cL_write 167 = .ok (.pop, 1) := by decide +kernel
theorem dL_write_168 : decode cL_write 168 = .ok (.iinc 3 1, 3) := by decide +kernel
theorem dL_write_171 : decode cL_write 171 = .ok (.goto (-69), 3) := by decide +kernel
theorem dL_write_174 : decode cL_write 174 = .ok (.iconst 0, 1) := by decide +kernel
theorem dL_write_175 : decode cL_write 175 = .ok (.istore_n 3, 1) := by decide +kernel
theorem dL_write_176 : decode cL_write 176 = .ok (.iload_n 3, 1) := by decide +kernel
theorem dL_write_177 : decode cL_write 177 = .ok (.iconst 3, 1) := by decide +kernel
theorem dL_write_178 : decode cL_write 178 = .ok (.if_icmp .ge 74, 3) := by decide +kernel
theorem dL_write_181 : decode cL_write 181 = .ok (.aload_n 1, 1) := by decide +kernel
theorem dL_write_182 : decode cL_write 182 = .ok (.iload_n 3, 1) := by decide +kernel
theorem dL_write_183 : decode cL_write 183 = .ok (.iload_n 2, 1) := by decide +kernel
theorem dL_write_184 : decode cL_write 184 = .ok (.iadd, 1) := by decide +kernel
theorem dL_write_185 : decode cL_write 185 = .ok (.bipush 8, 2) := by decide +kernel
theorem dL_write_187 : decode cL_write 187 = .ok (.iadd, 1) := by decide +kernel
theorem dL_write_188 : decode cL_write 188 = .ok (.invokestatic 9, 3) := by decide +kernel
theorem dL_write_191 : decode cL_write 191 = .ok (.istore 4, 2) := by decide +kernel
theorem dL_write_193 : decode cL_write 193 = .ok (.aload_n 0, 1) := by decide +kernel
theorem dL_write_194 : decode cL_write 194 = .ok (.iload 4, 2) := by decide +kernel
theorem dL_write_196 : decode cL_write 196 = .ok (.iconst 3, 1) := by decide +kernel
theorem dL_write_197 : decode cL_write 197 = .ok (.invokestatic 15, 3) := by decide +kernel
theorem dL_write_200 : decode cL_write 200 = .ok (.iload 4, 2) := by decide +kernel
theorem dL_write_202 : decode cL_write 202 = .ok (.iconst 1, 1) := by decide +kernel
theorem dL_write_203 : decode cL_write 203 = .ok (.ishr, 1) := by decide +kernel
theorem dL_write_204 : decode cL_write 204 = .ok (.iconst 4, 1) := by decide +kernel
theorem dL_write_205 : decode cL_write 205 = .ok (.invokestatic 15, 3) := by decide +kernel
theorem dL_write_208 : decode cL_write 208 = .ok (.iload 4, 2) := by decide +kernel
theorem dL_write_210 : decode cL_write 210 = .ok (.iconst 2, 1) := by decide +kernel
theorem dL_write_211 : decode cL_write 211 = .ok (.ishr, 1) := by decide +kernel
theorem dL_write_212 : decode cL_write 212 = .ok (.iconst 3, 1) := by decide +kernel
theorem dL_write_213 : decode cL_write 213 = .ok (.invokestatic 15, 3) := by decide +kernel
theorem dL_write_216 : decode cL_write 216 = .ok (.invokevirtual 29, 3) := by decide +kernel
theorem dL_write_219 : decode cL_write 219 = .ok (.pop, 1) := by decide +kernel
theorem dL_write_220 : decode cL_write 220 = .ok (.iload 4, 2) := by decide +kernel
theorem dL_write_222 : decode cL_write 222 = .ok (.iconst 3, 1) := by decide +kernel
theorem dL_write_223 : decode cL_write 223 = .ok (.ishr, 1) := by decide +kernel
theorem dL_write_224 : decode cL_write 224 = .ok (.iconst 3, 1) := by decide +kernel
theorem dL_write_225 : decode cL_write 225 = .ok (.invokestatic 15, 3) := by decide +kernel
theorem dL_write_228 : decode cL_write 228 = .ok (.ifCond .ne 18, 3) := by decide +kernel
theorem dL_write_231 : decode cL_write 231 = .ok (.aload_n 0, 1) := by decide +kernel
theorem dL_write_232 : decode cL_write 232 = .ok (.iload_n 3, 1) := by decide +kernel
theorem dL_write_233 : decode cL_write 233 = .ok (.iload 4, 2) := by decide +kernel
theorem dL_write_235 : decode cL_write 235 = .ok (.iconst 4, 1) := by decide +kernel
theorem dL_write_236 : decode cL_write 236 = .ok (.ishr, 1) := by decide +kernel
theorem dL_write_237 : decode cL_write 237 = .ok (.iconst 4, 1) := by decide +kernel
theorem dL_write_238 : decode cL_write 238 = .ok (.invokestatic 15, 3) := by decide +kernel
theorem dL_write_241 : decode cL_write 241 = .ok (.iconst 1, 1) := by decide +kernel
theorem dL_write_242 : decode cL_write 242 = .ok (.invokevirtual 33, 3) := by decide +kernel
theorem dL_write_245 : decode cL_write 245 = .ok (.pop, 1) := by decide +kernel
theorem dL_write_246 : decode cL_write 246 = .ok (.iinc 3 1, 3) := by decide +kernel
theorem dL_write_249 : decode cL_write 249 = .ok (.goto (-73), 3) := by decide +kernel
theorem dL_write_252 : decode cL_write 252 = .ok (.aload_n 0, 1) := by decide +kernel
theorem dL_write_253 : decode cL_write 253 = .ok (.sipush 1440, 3) := by decide +kernel
theorem dL_write_256 : decode cL_write 256 = .ok (.invokevirtual 37, 3) := by decide +kernel
theorem dL_write_259 : decode cL_write 259 = .ok (.pop, 1) := by decide +kernel
theorem dL_write_260 : decode cL_write 260 = .ok (.return_, 1) := by decide +kernel
theorem dL_drive_0 : decode cL_drive 0 = .ok (.iconst 0, 1) := by decide +kernel
theorem dL_drive_1 : decode cL_drive 1 = .ok (.istore 5, 2) := by decide +kernel
theorem dL_drive_3 : decode cL_drive 3 = .ok (.iload 5, 2) := by decide +kernel
theorem dL_drive_5 : decode cL_drive 5 = .ok (.iconst 5, 1) := by decide +kernel
theorem dL_drive_6 : decode cL_drive 6 = .ok (.if_icmp .ge 178, 3) := by decide +kernel
theorem dL_drive_9 : decode cL_drive 9 = .ok (.aload_n 1, 1) := by decide +kernel
theorem dL_drive_10 : decode cL_drive 10 = .ok (.iload 5, 2) := by decide +kernel
theorem dL_drive_12 : decode cL_drive 12 = .ok (.iload_n 2, 1) := by decide +kernel
theorem dL_drive_13 : decode cL_drive 13 = .ok (.iadd, 1) := by decide +kernel
theorem dL_drive_14 : decode cL_drive 14 = .ok (.iload_n 3, 1) := by decide +kernel
theorem dL_drive_15 : decode cL_drive 15 = .ok (.iadd, 1) := by decide +kernel
theorem dL_drive_16 : decode cL_drive 16 = .ok (.invokestatic 9, 3) := by decide +kernel
theorem dL_drive_19 : decode cL_drive 19 = .ok (.bipush 13, 2) := by decide +kernel
theorem dL_drive_21 : decode cL_drive 21 = .ok (.iload 5, 2) := by decide +kernel
theorem dL_drive_23 : decode cL_drive 23 = .ok (.imul, 1) := by decide +kernel
theorem dL_drive_24 : decode cL_drive 24 = .ok (.iadd, 1) := by decide +kernel
theorem dL_drive_25 : decode cL_drive 25 = .ok (.istore 6, 2) := by decide +kernel
theorem dL_drive_27 : decode cL_drive 27 = .ok (.sipush 1440, 3) := by decide +kernel
theorem dL_drive_30 : decode cL_drive 30 = .ok (.iload 4, 2) := by decide +kernel
theorem dL_drive_32 : decode cL_drive 32 = .ok (.imul, 1) := by decide +kernel
theorem dL_drive_33 : decode cL_drive 33 = .ok (.sipush 300, 3) := by decide +kernel
theorem dL_drive_36 : decode cL_drive 36 = .ok (.iadd, 1) := by decide +kernel
theorem dL_drive_37 : decode cL_drive 37 = .ok (.bipush 60, 2) := by decide +kernel
theorem dL_drive_39 : decode cL_drive 39 = .ok (.iload 5, 2) := by decide +kernel
theorem dL_drive_41 : decode cL_drive 41 = .ok (.imul, 1) := by decide +kernel
theorem dL_drive_42 : decode cL_drive 42 = .ok (.iadd, 1) := by decide +kernel
theorem dL_drive_43 : decode cL_drive 43 = .ok (.iload 6, 2) := by decide +kernel
theorem dL_drive_45 : decode cL_drive 45 = .ok (.bipush 50, 2) := by decide +kernel
theorem dL_drive_47 : decode cL_drive 47 = .ok (.invokestatic 15, 3) := by decide +kernel
theorem dL_drive_50 : decode cL_drive 50 = .ok (.iadd, 1) := by decide +kernel
theorem dL_drive_51 : decode cL_drive 51 = .ok (.sipush 200, 3) := by decide +kernel
theorem dL_drive_54 : decode cL_drive 54 = .ok (.iload_n 3, 1) := by decide +kernel
theorem dL_drive_55 : decode cL_drive 55 = .ok (.imul, 1) := by decide +kernel
theorem dL_drive_56 : decode cL_drive 56 = .ok (.iadd, 1) := by decide +kernel
theorem dL_drive_57 : decode cL_drive 57 = .ok (.istore 7, 2) := by decide +kernel
theorem dL_drive_59 : decode cL_drive 59 = .ok (.aload_n 0, 1) := by decide +kernel
theorem dL_drive_60 : decode cL_drive 60 = .ok (.iconst 3, 1) := by decide +kernel
theorem dL_drive_61 : decode cL_drive 61 = .ok (.invokevirtual 41, 3) := by decide +kernel
theorem dL_drive_64 : decode cL_drive 64 = .ok (.bipush 57, 2) := by decide +kernel
theorem dL_drive_66 : decode cL_drive 66 = .ok (.if_icmp .gt 112, 3) := by decide +kernel
theorem dL_drive_69 : decode cL_drive 69 = .ok (.iload 7, 2) := by decide +kernel
theorem dL_drive_71 : decode cL_drive 71 = .ok (.aload_n 0, 1) := by decide +kernel
theorem dL_drive_72 : decode cL_drive 72 = .ok (.iconst 0, 1) := by decide +kernel
theorem dL_drive_73 : decode cL_drive 73 = .ok (.invokevirtual 41, 3) := by decide +kernel
theorem dL_drive_76 : decode cL_drive 76 = .ok (.if_icmp .gt 102, 3) := by decide +kernel
theorem dL_drive_79 : decode cL_drive 79 = .ok (.iload 6, 2) := by decide +kernel
theorem dL_drive_81 : decode cL_drive 81 = .ok (.iconst 5, 1) := by decide +kernel
theorem dL_drive_82 : decode cL_drive 82 = .ok (.ishr, 1) := by decide +kernel
theorem dL_drive_83 : decode cL_drive 83 = .ok (.iconst 5, 1) := by decide +kernel
theorem dL_drive_84 : decode cL_drive 84 = .ok (.invokestatic 15, 3) := by decide +kernel
theorem dL_drive_87 : decode cL_drive 87 = .ok (.ifCond .ne 6, 3) := by decide +kernel
theorem dL_drive_90 : decode cL_drive 90 = .ok (.goto 88, 3) := by decide +kernel
theorem dL_drive_93 : decode cL_drive 93 = .ok (.aload_n 0, 1) := by decide +kernel
theorem dL_drive_94 : decode cL_drive 94 = .ok (.iload_n 3, 1) := by decide +kernel
theorem dL_drive_95 : decode cL_drive 95 = .ok (.iload 6, 2) := by decide +kernel
theorem dL_drive_97 : decode cL_drive 97 = .ok (.bipush 8, 2) := by decide +kernel
theorem dL_drive_99 : decode cL_drive 99 = .ok (.ishr, 1) := by decide +kernel
theorem dL_drive_100 : decode cL_drive 100 = .ok (.bipush 6, 2) := by decide +kernel
theorem dL_drive_102 : decode cL_drive 102 = .ok (.invokestatic 15, 3) := by decide +kernel
theorem dL_drive_105 : decode cL_drive 105 = .ok (.ifCond .ne 15, 3) := by decide +kernel
theorem dL_drive_108 : decode cL_drive 108 = .ok (.iload 6, 2) := by decide +kernel
theorem dL_drive_110 : decode cL_drive 110 = .ok (.iconst 2, 1) := by decide +kernel
theorem dL_drive_111 : decode cL_drive 111 = .ok (.ishr, 1) := by decide +kernel
theorem dL_drive_112 : decode cL_drive 112 = .ok (.bipush 8, 2) := by decide +kernel
theorem dL_drive_114 : decode cL_drive 114 = .ok (.invokestatic 15, 3) := by decide +kernel
theorem dL_drive_117 : decode cL_drive 117 = .ok (.goto 5, 3) := by decide +kernel
theorem dL_drive_120 : decode cL_drive 120 = .ok (.iload 5, 2) := by decide +kernel
theorem dL_drive_122 : decode cL_drive 122 = .ok (.iload 7, 2) := by decide +kernel
theorem dL_drive_124 : decode cL_drive 124 = .ok (.iload 6, 2) := by decide +kernel
theorem dL_drive_126 : decode cL_drive 126 = .ok (.iconst 3, 1) := by decide +kernel
theorem dL_drive_127 : decode cL_drive 127 = .ok (.ishr, 1) := by decide +kernel
theorem dL_drive_128 : decode cL_drive 128 = .ok (.iconst 3, 1) := by decide +kernel
theorem dL_drive_129 : decode cL_drive 129 = .ok (.invokestatic 15, 3) := by decide +kernel
theorem dL_drive_132 : decode cL_drive 132 = .ok (.invokevirtual 44, 3) := by decide +kernel
theorem dL_drive_135 : decode cL_drive 135 = .ok (.pop, 1) := by decide +kernel
theorem dL_drive_136 : decode cL_drive 136 = .ok (.iload 6, 2) := by decide +kernel
theorem dL_drive_138 : decode cL_drive 138 = .ok (.bipush 6, 2) := by decide +kernel
theorem dL_drive_140 : decode cL_drive 140 = .ok (.ishr, 1) := by decide +kernel
theorem dL_drive_141 : decode cL_drive 141 = .ok (.iconst 3, 1) := by decide +kernel
theorem dL_drive_142 : decode cL_drive 142 = .ok (.invokestatic 15, 3) := by decide +kernel
theorem dL_drive_145 : decode cL_drive 145 = .ok (.ifCond .ne 33, 3) := by decide +kernel
theorem dL_drive_148 : decode cL_drive 148 = .ok (.aload_n 0, 1) := by decide +kernel
theorem dL_drive_149 : decode cL_drive 149 = .ok (.iload_n 3, 1) := by decide +kernel
theorem dL_drive_150 : decode cL_drive 150 = .ok (.iload 5, 2) := by decide +kernel
theorem dL_drive_152 : decode cL_drive 152 = .ok (.aload_n 0, 1) := by decide +kernel
theorem dL_drive_153 : decode cL_drive 153 = .ok (.iconst 0, 1) := by decide +kernel
theorem dL_drive_154 : decode cL_drive 154 = .ok (.invokevirtual 41, 3) := by decide +kernel
theorem dL_drive_157 : decode cL_drive 157 = .ok (.iload 7, 2) := by decide +kernel
theorem dL_drive_159 : decode cL_drive 159 = .ok (.iload 6, 2) := by decide +kernel
theorem dL_drive_161 : decode cL_drive 161 = .ok (.bipush 7, 2) := by decide +kernel
theorem dL_drive_163 : decode cL_drive 163 = .ok (.ishr, 1) := by decide +kernel
theorem dL_drive_164 : decode cL_drive 164 = .ok (.bipush 20, 2) := by decide +kernel
theorem dL_drive_166 : decode cL_drive 166 = .ok (.invokestatic 15, 3) := by decide +kernel
theorem dL_drive_169 : decode cL_drive 169 = .ok (.iadd, 1) := by decide +kernel
theorem dL_drive_170 : decode cL_drive 170 = .ok (.invokestatic 47, 3) := by decide +kernel
theorem dL_drive_173 : decode cL_drive 173 = .ok (.iconst 2, 1) := by decide +kernel
theorem dL_drive_174 : decode cL_drive 174 = .ok (.invokevirtual 44, 3) := by decide +kernel
theorem dL_drive_177 : decode cL_drive 177 = .ok (.pop, 1) := by decide +kernel
theorem dL_drive_178 : decode cL_drive 178 = .ok (.iinc 5 1, 3) := by decide +kernel
theorem dL_drive_181 : decode cL_drive 181 = .ok (.goto (-178), 3) := by decide +kernel
theorem dL_drive_184 : decode cL_drive 184 = .ok (.return_, 1) := by decide +kernel
theorem dL_law_0 : decode cL_law 0 = .ok (.new 20, 3) := by decide +kernel
theorem dL_law_3 : decode cL_law 3 = .ok (.dup, 1) := by decide +kernel
theorem dL_law_4 : decode cL_law 4 = .ok (.invokespecial 52, 3) := by decide +kernel
theorem dL_law_7 : decode cL_law 7 = .ok (.astore_n 1, 1) := by decide +kernel
theorem dL_law_8 : decode cL_law 8 = .ok (.aload_n 1, 1) := by decide +kernel
theorem dL_law_9 : decode cL_law 9 = .ok (.aload_n 0, 1) := by decide +kernel
theorem dL_law_10 : decode cL_law 10 = .ok (.iconst 4, 1) := by decide +kernel
theorem dL_law_11 : decode cL_law 11 = .ok (.invokestatic 53, 3) := by decide +kernel
theorem dL_law_14 : decode cL_law 14 = .ok (.iconst 0, 1) := by decide +kernel
theorem dL_law_15 : decode cL_law 15 = .ok (.istore_n 2, 1) := by decide +kernel
theorem dL_law_16 : decode cL_law 16 = .ok (.iconst 0, 1) := by decide +kernel
theorem dL_law_17 : decode cL_law 17 = .ok (.istore_n 3, 1) := by decide +kernel
theorem dL_law_18 : decode cL_law 18 = .ok (.iload_n 3, 1) := by decide +kernel
theorem dL_law_19 : decode cL_law 19 = .ok (.bipush 14, 2) := by decide +kernel
theorem dL_law_21 : decode cL_law 21 = .ok (.if_icmp .ge 235, 3) := by decide +kernel
theorem dL_law_24 : decode cL_law 24 = .ok (.aload_n 0, 1) := by decide +kernel
theorem dL_law_25 : decode cL_law 25 = .ok (.iload_n 3, 1) := by decide +kernel
theorem dL_law_26 : decode cL_law 26 = .ok (.invokestatic 9, 3) := by decide +kernel
theorem dL_law_29 : decode cL_law 29 = .ok (.bipush 17, 2) := by decide +kernel
theorem dL_law_31 : decode cL_law 31 = .ok (.iload_n 3, 1) := by decide +kernel
theorem dL_law_32 : decode cL_law 32 = .ok (.imul, 1) := by decide +kernel
theorem dL_law_33 : decode cL_law 33 = .ok (.iadd, 1) := by decide +kernel
theorem dL_law_34 : decode cL_law 34 = .ok (.istore 4, 2) := by decide +kernel
theorem dL_law_36 : decode cL_law 36 = .ok (.iload 4, 2) := by decide +kernel
theorem dL_law_38 : decode cL_law 38 = .ok (.iconst 1, 1) := by decide +kernel
theorem dL_law_39 : decode cL_law 39 = .ok (.ishr, 1) := by decide +kernel
theorem dL_law_40 : decode cL_law 40 = .ok (.iconst 3, 1) := by decide +kernel
theorem dL_law_41 : decode cL_law 41 = .ok (.invokestatic 15, 3) := by decide +kernel
theorem dL_law_44 : decode cL_law 44 = .ok (.istore 5, 2) := by decide +kernel
theorem dL_law_46 : decode cL_law 46 = .ok (.aload_n 1, 1) := by decide +kernel
theorem dL_law_47 : decode cL_law 47 = .ok (.iconst 0, 1) := by decide +kernel
theorem dL_law_48 : decode cL_law 48 = .ok (.invokevirtual 41, 3) := by decide +kernel
theorem dL_law_51 : decode cL_law 51 = .ok (.sipush 1440, 3) := by decide +kernel
theorem dL_law_54 : decode cL_law 54 = .ok (.idiv, 1) := by decide +kernel
theorem dL_law_55 : decode cL_law 55 = .ok (.istore 6, 2) := by decide +kernel
theorem dL_law_57 : decode cL_law 57 = .ok (.iload 4, 2) := by decide +kernel
theorem dL_law_59 : decode cL_law 59 = .ok (.bipush 6, 2) := by decide +kernel
theorem dL_law_61 : decode cL_law 61 = .ok (.invokestatic 15, 3) := by decide +kernel
theorem dL_law_64 : decode cL_law 64 = .ok (.tableswitch 159 0 4 #[36, 36, 56, 93, 116], 36) := by decide +kernel
theorem dL_law_100 : decode cL_law 100 = .ok (.aload_n 1, 1) := by decide +kernel
theorem dL_law_101 : decode cL_law 101 = .ok (.iconst 1, 1) := by decide +kernel
theorem dL_law_102 : decode cL_law 102 = .ok (.iload 4, 2) := by decide +kernel
theorem dL_law_104 : decode cL_law 104 = .ok (.iconst 2, 1) := by decide +kernel
theorem dL_law_105 : decode cL_law 105 = .ok (.ishr, 1) := by decide +kernel
theorem dL_law_106 : decode cL_law 106 = .ok (.sipush 900, 3) := by decide +kernel
theorem dL_law_109 : decode cL_law 109 = .ok (.invokestatic 15, 3) := by decide +kernel
theorem dL_law_112 : decode cL_law 112 = .ok (.iadd, 1) := by decide +kernel
theorem dL_law_113 : decode cL_law 113 = .ok (.invokevirtual 37, 3) := by decide +kernel
theorem dL_law_116 : decode cL_law 116 = .ok (.pop, 1) := by decide +kernel
theorem dL_law_117 : decode cL_law 117 = .ok (.goto 123, 3) := by decide +kernel
theorem dL_law_120 : decode cL_law 120 = .ok (.aload_n 1, 1) := by decide +kernel
theorem dL_law_121 : decode cL_law 121 = .ok (.iload 5, 2) := by decide +kernel
theorem dL_law_123 : decode cL_law 123 = .ok (.iconst 1, 1) := by decide +kernel
theorem dL_law_124 : decode cL_law 124 = .ok (.iload 4, 2) := by decide +kernel
theorem dL_law_126 : decode cL_law 126 = .ok (.iconst 2, 1) := by decide +kernel
theorem dL_law_127 : decode cL_law 127 = .ok (.ishr, 1) := by decide +kernel
theorem dL_law_128 : decode cL_law 128 = .ok (.sipush 300, 3) := by decide +kernel
theorem dL_law_131 : decode cL_law 131 = .ok (.invokestatic 15, 3) := by decide +kernel
theorem dL_law_134 : decode cL_law 134 = .ok (.iadd, 1) := by decide +kernel
theorem dL_law_135 : decode cL_law 135 = .ok (.invokevirtual 57, 3) := by decide +kernel
theorem dL_law_138 : decode cL_law 138 = .ok (.pop, 1) := by decide +kernel
theorem dL_law_139 : decode cL_law 139 = .ok (.iload_n 2, 1) := by decide +kernel
theorem dL_law_140 : decode cL_law 140 = .ok (.iconst 1, 1) := by decide +kernel
theorem dL_law_141 : decode cL_law 141 = .ok (.iload 4, 2) := by decide +kernel
theorem dL_law_143 : decode cL_law 143 = .ok (.iconst 2, 1) := by decide +kernel
theorem dL_law_144 : decode cL_law 144 = .ok (.ishr, 1) := by decide +kernel
theorem dL_law_145 : decode cL_law 145 = .ok (.sipush 300, 3) := by decide +kernel
theorem dL_law_148 : decode cL_law 148 = .ok (.invokestatic 15, 3) := by decide +kernel
theorem dL_law_151 : decode cL_law 151 = .ok (.iadd, 1) := by decide +kernel
theorem dL_law_152 : decode cL_law 152 = .ok (.iadd, 1) := by decide +kernel
theorem dL_law_153 : decode cL_law 153 = .ok (.istore_n 2, 1) := by decide +kernel
theorem dL_law_154 : decode cL_law 154 = .ok (.goto 86, 3) := by decide +kernel
theorem dL_law_157 : decode cL_law 157 = .ok (.aload_n 1, 1) := by decide +kernel
theorem dL_law_158 : decode cL_law 158 = .ok (.iconst 3, 1) := by decide +kernel
theorem dL_law_159 : decode cL_law 159 = .ok (.invokevirtual 41, 3) := by decide +kernel
theorem dL_law_162 : decode cL_law 162 = .ok (.bipush 48, 2) := by decide +kernel
theorem dL_law_164 : decode cL_law 164 = .ok (.if_icmp .ge 76, 3) := by decide +kernel
theorem dL_law_167 : decode cL_law 167 = .ok (.aload_n 1, 1) := by decide +kernel
theorem dL_law_168 : decode cL_law 168 = .ok (.aload_n 0, 1) := by decide +kernel
theorem dL_law_169 : decode cL_law 169 = .ok (.iload_n 3, 1) := by decide +kernel
theorem dL_law_170 : decode cL_law 170 = .ok (.iload 5, 2) := by decide +kernel
theorem dL_law_172 : decode cL_law 172 = .ok (.iload 6, 2) := by decide +kernel
theorem dL_law_174 : decode cL_law 174 = .ok (.invokestatic 60, 3) := by decide +kernel
theorem dL_law_177 : decode cL_law 177 = .ok (.goto 63, 3) := by decide +kernel
theorem dL_law_180 : decode cL_law 180 = .ok (.aload_n 1, 1) := by decide +kernel
theorem dL_law_181 : decode cL_law 181 = .ok (.iload 5, 2) := by decide +kernel
theorem dL_law_183 : decode cL_law 183 = .ok (.iload 4, 2) := by decide +kernel
theorem dL_law_185 : decode cL_law 185 = .ok (.iconst 2, 1) := by decide +kernel
theorem dL_law_186 : decode cL_law 186 = .ok (.ishr, 1) := by decide +kernel
theorem dL_law_187 : decode cL_law 187 = .ok (.bipush 8, 2) := by decide +kernel
theorem dL_law_189 : decode cL_law 189 = .ok (.invokestatic 15, 3) := by decide +kernel
theorem dL_law_192 : decode cL_law 192 = .ok (.aload_n 1, 1) := by decide +kernel
theorem dL_law_193 : decode cL_law 193 = .ok (.iconst 0, 1) := by decide +kernel
theorem dL_law_194 : decode cL_law 194 = .ok (.invokevirtual 41, 3) := by decide +kernel
theorem dL_law_197 : decode cL_law 197 = .ok (.iload 4, 2) := by decide +kernel
theorem dL_law_199 : decode cL_law 199 = .ok (.iconst 3, 1) := by decide +kernel
theorem dL_law_200 : decode cL_law 200 = .ok (.ishr, 1) := by decide +kernel
theorem dL_law_201 : decode cL_law 201 = .ok (.iconst 1, 1) := by decide +kernel
theorem dL_law_202 : decode cL_law 202 = .ok (.aload_n 1, 1) := by decide +kernel
theorem dL_law_203 : decode cL_law 203 = .ok (.iconst 0, 1) := by decide +kernel
theorem dL_law_204 : decode cL_law 204 = .ok (.invokevirtual 41, 3) := by decide +kernel
theorem dL_law_207 : decode cL_law 207 = .ok (.sipush 1440, 3) := by decide +kernel
theorem dL_law_210 : decode cL_law 210 = .ok (.irem, 1) := by decide +kernel
theorem dL_law_211 : decode cL_law 211 = .ok (.iadd, 1) := by decide +kernel
theorem dL_law_212 : decode cL_law 212 = .ok (.invokestatic 15, 3) := by decide +kernel
theorem dL_law_215 : decode cL_law 215 = .ok (.isub, 1) := by decide +kernel
theorem dL_law_216 : decode cL_law 216 = .ok (.invokevirtual 64, 3) := by decide +kernel
theorem dL_law_219 : decode cL_law 219 = .ok (.pop, 1) := by decide +kernel
theorem dL_law_220 : decode cL_law 220 = .ok (.goto 20, 3) := by decide +kernel
theorem dL_law_223 : decode cL_law 223 = .ok (.iload 6, 2) := by decide +kernel
theorem dL_law_225 : decode cL_law 225 = .ok (.iconst 2, 1) := by decide +kernel
theorem dL_law_226 : decode cL_law 226 = .ok (.if_icmp .le 14, 3) := by decide +kernel
theorem dL_law_229 : decode cL_law 229 = .ok (.aload_n 1, 1) := by decide +kernel
theorem dL_law_230 : decode cL_law 230 = .ok (.iload 5, 2) := by decide +kernel
theorem dL_law_232 : decode cL_law 232 = .ok (.iload 6, 2) := by decide +kernel
theorem dL_law_234 : decode cL_law 234 = .ok (.iconst 2, 1) := by decide +kernel
theorem dL_law_235 : decode cL_law 235 = .ok (.isub, 1) := by decide +kernel
theorem dL_law_236 : decode cL_law 236 = .ok (.invokevirtual 67, 3) := by decide +kernel
theorem dL_law_239 : decode cL_law 239 = .ok (.pop, 1) := by decide +kernel
theorem dL_law_240 : decode cL_law 240 = .ok (.aload_n 1, 1) := by decide +kernel
theorem dL_law_241 : decode cL_law 241 = .ok (.iload_n 2, 1) := by decide +kernel
theorem dL_law_242 : decode cL_law 242 = .ok (.invokestatic 70, 3) := by decide +kernel
theorem dL_law_245 : decode cL_law 245 = .ok (.ifCond .ne 5, 3) := by decide +kernel
theorem dL_law_248 : decode cL_law 248 = .ok (.iconst 0, 1) := by decide +kernel
theorem dL_law_249 : decode cL_law 249 = .ok (.ireturn, 1) := by decide +kernel
theorem dL_law_250 : decode cL_law 250 = .ok (.iinc 3 1, 3) := by decide +kernel
theorem dL_law_253 : decode cL_law 253 = .ok (.goto (-235), 3) := by decide +kernel
theorem dL_law_256 : decode cL_law 256 = .ok (.aload_n 1, 1) := by decide +kernel
theorem dL_law_257 : decode cL_law 257 = .ok (.invokevirtual 74, 3) := by decide +kernel
theorem dL_law_260 : decode cL_law 260 = .ok (.lstore_n 3, 1) := by decide +kernel
theorem dL_law_261 : decode cL_law 261 = .ok (.aload_n 1, 1) := by decide +kernel
theorem dL_law_262 : decode cL_law 262 = .ok (.iconst 0, 1) := by decide +kernel
theorem dL_law_263 : decode cL_law 263 = .ok (.iconst 0, 1) := by decide +kernel
theorem dL_law_264 : decode cL_law 264 = .ok (.iconst 4, 1) := by decide +kernel
theorem dL_law_265 : decode cL_law 265 = .ok (.invokevirtual 78, 3) := by decide +kernel
theorem dL_law_268 : decode cL_law 268 = .ok (.iconst (-1), 1) := by decide +kernel
theorem dL_law_269 : decode cL_law 269 = .ok (.if_icmp .lt 30, 3) := by decide +kernel
theorem dL_law_272 : decode cL_law 272 = .ok (.aload_n 1, 1) := by decide +kernel
theorem dL_law_273 : decode cL_law 273 = .ok (.iconst 1, 1) := by decide +kernel
theorem dL_law_274 : decode cL_law 274 = .ok (.iconst 2, 1) := by decide +kernel
theorem dL_law_275 : decode cL_law 275 = .ok (.invokevirtual 81, 3) := by decide +kernel
theorem dL_law_278 : decode cL_law 278 = .ok (.aload_n 1, 1) := by decide +kernel
theorem dL_law_279 : decode cL_law 279 = .ok (.iconst 0, 1) := by decide +kernel
theorem dL_law_280 : decode cL_law 280 = .ok (.invokevirtual 41, 3) := by decide +kernel
theorem dL_law_283 : decode cL_law 283 = .ok (.if_icmp .lt 16, 3) := by decide +kernel
theorem dL_law_286 : decode cL_law 286 = .ok (.aload_n 1, 1) := by decide +kernel
theorem dL_law_287 : decode cL_law 287 = .ok (.invokevirtual 74, 3) := by decide +kernel
theorem dL_law_290 : decode cL_law 290 = .ok (.lload_n 3, 1) := by decide +kernel
theorem dL_law_291 : decode cL_law 291 = .ok (.lcmp, 1) := by decide +kernel
theorem dL_law_292 : decode cL_law 292 = .ok (.ifCond .ne 7, 3) := by decide +kernel
theorem dL_law_295 : decode cL_law 295 = .ok (.iconst 1, 1) := by decide +kernel
theorem dL_law_296 : decode cL_law 296 = .ok (.goto 4, 3) := by decide +kernel
theorem dL_law_299 : decode cL_law 299 = .ok (.iconst 0, 1) := by decide +kernel
theorem dL_law_300 : decode cL_law 300 = .ok (.ireturn, 1) := by decide +kernel
theorem dL_isSound_0 : decode cL_isSound 0 = .ok (.aload_n 0, 1) := by decide +kernel
theorem dL_isSound_1 : decode cL_isSound 1 = .ok (.bipush 8, 2) := by decide +kernel
theorem dL_isSound_3 : decode cL_isSound 3 = .ok (.invokevirtual 41, 3) := by decide +kernel
theorem dL_isSound_6 : decode cL_isSound 6 = .ok (.istore_n 2, 1) := by decide +kernel
theorem dL_isSound_7 : decode cL_isSound 7 = .ok (.iconst 0, 1) := by decide +kernel
theorem dL_isSound_8 : decode cL_isSound 8 = .ok (.istore_n 3, 1) := by decide +kernel
theorem dL_isSound_9 : decode cL_isSound 9 = .ok (.iload_n 3, 1) := by decide +kernel
theorem dL_isSound_10 : decode cL_isSound 10 = .ok (.iconst 4, 1) := by decide +kernel
theorem dL_isSound_11 : decode cL_isSound 11 = .ok (.if_icmp .ge 18, 3) := by decide +kernel
theorem dL_isSound_14 : decode cL_isSound 14 = .ok (.iload_n 2, 1) := by decide +kernel
theorem dL_isSound_15 : decode cL_isSound 15 = .ok (.aload_n 0, 1) := by decide +kernel
theorem dL_isSound_16 : decode cL_isSound 16 = .ok (.iload_n 3, 1) := by decide +kernel
theorem dL_isSound_17 : decode cL_isSound 17 = .ok (.iconst 0, 1) := by decide +kernel
theorem dL_isSound_18 : decode cL_isSound 18 = .ok (.invokevirtual 84, 3) := by decide +kernel
theorem dL_isSound_21 : decode cL_isSound 21 = .ok (.iadd, 1) := by decide +kernel
theorem dL_isSound_22 : decode cL_isSound 22 = .ok (.istore_n 2, 1) := by decide +kernel
theorem dL_isSound_23 : decode cL_isSound 23 = .ok (.iinc 3 1, 3) := by decide +kernel
theorem dL_isSound_26 : decode cL_isSound 26 = .ok (.goto (-17), 3) := by decide +kernel
theorem dL_isSound_29 : decode cL_isSound 29 = .ok (.aload_n 0, 1) := by decide +kernel
theorem dL_isSound_30 : decode cL_isSound 30 = .ok (.iconst 0, 1) := by decide +kernel
theorem dL_isSound_31 : decode cL_isSound 31 = .ok (.invokevirtual 41, 3) := by decide +kernel
theorem dL_isSound_34 : decode cL_isSound 34 = .ok (.sipush 1440, 3) := by decide +kernel
theorem dL_isSound_37 : decode cL_isSound 37 = .ok (.idiv, 1) := by decide +kernel
theorem dL_isSound_38 : decode cL_isSound 38 = .ok (.istore_n 3, 1) := by decide +kernel
theorem dL_isSound_39 : decode cL_isSound 39 = .ok (.iconst 0, 1) := by decide +kernel
theorem dL_isSound_40 : decode cL_isSound 40 = .ok (.istore 4, 2) := by decide +kernel
theorem dL_isSound_42 : decode cL_isSound 42 = .ok (.iconst 0, 1) := by decide +kernel
theorem dL_isSound_43 : decode cL_isSound 43 = .ok (.istore 5, 2) := by decide +kernel
theorem dL_isSound_45 : decode cL_isSound 45 = .ok (.iload 5, 2) := by decide +kernel
theorem dL_isSound_47 : decode cL_isSound 47 = .ok (.iconst 3, 1) := by decide +kernel
theorem dL_isSound_48 : decode cL_isSound 48 = .ok (.if_icmp .ge 120, 3) := by decide +kernel
theorem dL_isSound_51 : decode cL_isSound 51 = .ok (.iload_n 2, 1) := by decide +kernel
theorem dL_isSound_52 : decode cL_isSound 52 = .ok (.aload_n 0, 1) := by decide +kernel
theorem dL_isSound_53 : decode cL_isSound 53 = .ok (.iload 5, 2) := by decide +kernel
theorem dL_isSound_55 : decode cL_isSound 55 = .ok (.iconst 3, 1) := by decide +kernel
theorem dL_isSound_56 : decode cL_isSound 56 = .ok (.invokevirtual 87, 3) := by decide +kernel
theorem dL_isSound_59 : decode cL_isSound 59 = .ok (.iadd, 1) := by decide +kernel
theorem dL_isSound_60 : decode cL_isSound 60 = .ok (.istore_n 2, 1) := by decide +kernel
theorem dL_isSound_61 : decode cL_isSound 61 = .ok (.iconst 0, 1) := by decide +kernel
theorem dL_isSound_62 : decode cL_isSound 62 = .ok (.istore 6, 2) := by decide +kernel
theorem dL_isSound_64 : decode cL_isSound 64 = .ok (.aload_n 0, 1) := by decide +kernel
theorem dL_isSound_65 : decode cL_isSound 65 = .ok (.iload 5, 2) := by decide +kernel
theorem dL_isSound_67 : decode cL_isSound 67 = .ok (.iload_n 3, 1) := by decide +kernel
theorem dL_isSound_68 : decode cL_isSound 68 = .ok (.invokevirtual 90, 3) := by decide +kernel
theorem dL_isSound_71 : decode cL_isSound 71 = .ok (.istore 7, 2) := by decide +kernel
theorem dL_isSound_73 : decode cL_isSound 73 = .ok (.iconst 0, 1) := by decide +kernel
theorem dL_isSound_74 : decode cL_isSound 74 = .ok (.istore 8, 2) := by decide +kernel
theorem dL_isSound_76 : decode cL_isSound 76 = .ok (.iload 8, 2) := by decide +kernel
theorem dL_isSound_78 : decode cL_isSound 78 = .ok (.iload 7, 2) := by decide +kernel
theorem dL_isSound_80 : decode cL_isSound 80 = .ok (.if_icmp .ge 39, 3) := by decide +kernel
theorem dL_isSound_83 : decode cL_isSound 83 = .ok (.iload 6, 2) := by decide +kernel
theorem dL_isSound_85 : decode cL_isSound 85 = .ok (.aload_n 0, 1) := by decide +kernel
theorem dL_isSound_86 : decode cL_isSound 86 = .ok (.iload 5, 2) := by decide +kernel
theorem dL_isSound_88 : decode cL_isSound 88 = .ok (.iload_n 3, 1) := by decide +kernel
theorem dL_isSound_89 : decode cL_isSound 89 = .ok (.iload 8, 2) := by decide +kernel
theorem dL_isSound_91 : decode cL_isSound 91 = .ok (.iconst 4, 1) := by decide +kernel
theorem dL_isSound_92 : decode cL_isSound 92 = .ok (.invokevirtual 93, 3) := by decide +kernel
theorem dL_isSound_95 : decode cL_isSound 95 = .ok (.iadd, 1) := by decide +kernel
theorem dL_isSound_96 : decode cL_isSound 96 = .ok (.istore 6, 2) := by decide +kernel
theorem dL_isSound_98 : decode cL_isSound 98 = .ok (.iload 4, 2) := by decide +kernel
theorem dL_isSound_100 : decode cL_isSound 100 = .ok (.aload_n 0, 1) := by decide +kernel
theorem dL_isSound_101 : decode cL_isSound 101 = .ok (.iload 5, 2) := by decide +kernel
theorem dL_isSound_103 : decode cL_isSound 103 = .ok (.iload_n 3, 1) := by decide +kernel
theorem dL_isSound_104 : decode cL_isSound 104 = .ok (.iload 8, 2) := by decide +kernel
theorem dL_isSound_106 : decode cL_isSound 106 = .ok (.iconst 2, 1) := by decide +kernel
theorem dL_isSound_107 : decode cL_isSound 107 = .ok (.invokevirtual 93, 3) := by decide +kernel
theorem dL_isSound_110 : decode cL_isSound 110 = .ok (.iadd, 1) := by decide +kernel
theorem dL_isSound_111 : decode cL_isSound 111 = .ok (.istore 4, 2) := by decide +kernel
theorem dL_isSound_113 : decode cL_isSound 113 = .ok (.iinc 8 1, 3) := by decide +kernel
theorem dL_isSound_116 : decode cL_isSound 116 = .ok (.goto (-40), 3) := by decide +kernel
theorem dL_isSound_119 : decode cL_isSound 119 = .ok (.iload 6, 2) := by decide +kernel
theorem dL_isSound_121 : decode cL_isSound 121 = .ok (.aload_n 0, 1) := by decide +kernel
theorem dL_isSound_122 : decode cL_isSound 122 = .ok (.bipush 7, 2) := by decide +kernel
theorem dL_isSound_124 : decode cL_isSound 124 = .ok (.invokevirtual 41, 3) := by decide +kernel
theorem dL_isSound_127 : decode cL_isSound 127 = .ok (.if_icmp .gt 33, 3) := by decide +kernel
theorem dL_isSound_130 : decode cL_isSound 130 = .ok (.iload 6, 2) := by decide +kernel
theorem dL_isSound_132 : decode cL_isSound 132 = .ok (.aload_n 0, 1) := by decide +kernel
theorem dL_isSound_133 : decode cL_isSound 133 = .ok (.iload 5, 2) := by decide +kernel
theorem dL_isSound_135 : decode cL_isSound 135 = .ok (.iload_n 3, 1) := by decide +kernel
theorem dL_isSound_136 : decode cL_isSound 136 = .ok (.aload_n 0, 1) := by decide +kernel
theorem dL_isSound_137 : decode cL_isSound 137 = .ok (.bipush 7, 2) := by decide +kernel
theorem dL_isSound_139 : decode cL_isSound 139 = .ok (.invokevirtual 41, 3) := by decide +kernel
theorem dL_isSound_142 : decode cL_isSound 142 = .ok (.invokevirtual 96, 3) := by decide +kernel
theorem dL_isSound_145 : decode cL_isSound 145 = .ok (.if_icmp .ne 15, 3) := by decide +kernel
theorem dL_isSound_148 : decode cL_isSound 148 = .ok (.aload_n 0, 1) := by decide +kernel
theorem dL_isSound_149 : decode cL_isSound 149 = .ok (.iload 5, 2) := by decide +kernel
theorem dL_isSound_151 : decode cL_isSound 151 = .ok (.iload_n 3, 1) := by decide +kernel
theorem dL_isSound_152 : decode cL_isSound 152 = .ok (.invokevirtual 99, 3) := by decide +kernel
theorem dL_isSound_155 : decode cL_isSound 155 = .ok (.iload 7, 2) := by decide +kernel
theorem dL_isSound_157 : decode cL_isSound 157 = .ok (.if_icmp .le 5, 3) := by decide +kernel
theorem dL_isSound_160 : decode cL_isSound 160 = .ok (.iconst 0, 1) := by decide +kernel
theorem dL_isSound_161 : decode cL_isSound 161 = .ok (.ireturn, 1) := by decide +kernel
theorem dL_isSound_162 : decode cL_isSound 162 = .ok (.iinc 5 1, 3) := by decide +kernel
theorem dL_isSound_165 : decode cL_isSound 165 = .ok (.goto (-120), 3) := by decide +kernel
theorem dL_isSound_168 : decode cL_isSound 168 = .ok (.iload_n 2, 1) := by decide +kernel
theorem dL_isSound_169 : decode cL_isSound 169 = .ok (.iload_n 1, 1) := by decide +kernel
theorem dL_isSound_170 : decode cL_isSound 170 = .ok (.if_icmp .ne 17, 3) := by decide +kernel
theorem dL_isSound_173 : decode cL_isSound 173 = .ok (.iload 4, 2) := by decide +kernel
theorem dL_isSound_175 : decode cL_isSound 175 = .ok (.aload_n 0, 1) := by decide +kernel
theorem dL_isSound_176 : decode cL_isSound 176 = .ok (.iconst 3, 1) := by decide +kernel
theorem dL_isSound_177 : decode cL_isSound 177 = .ok (.invokevirtual 41, 3) := by decide +kernel
theorem dL_isSound_180 : decode cL_isSound 180 = .ok (.if_icmp .gt 7, 3) := by decide +kernel
theorem dL_isSound_183 : decode cL_isSound 183 = .ok (.iconst 1, 1) := by decide +kernel
theorem dL_isSound_184 : decode cL_isSound 184 = .ok (.goto 4, 3) := by decide +kernel
theorem dL_isSound_187 : decode cL_isSound 187 = .ok (.iconst 0, 1) := by decide +kernel
theorem dL_isSound_188 : decode cL_isSound 188 = .ok (.ireturn, 1) := by decide +kernel
abbrev vwCl : List vw_C := [(RJx4a65c, TJx4a65c, 3), (RX0, TX0, 6), (RX1, TX1, 6), (RX2, TX2, 6), (RX3, TX3, 8), (RX4, TX4, 5), (RX5, TX5, 5), (RX6, TX6, 3), (RX7, TX7, 8), (RX8, TX8, 14)]
theorem zi_0 : ∀ w ∈ u_ws RJx4a65c TJx4a65c 3, w ∈ zGT := by decide +kernel
theorem zi_1 : ∀ w ∈ u_ws RX0 TX0 6, w ∈ zGT := by decide +kernel
theorem zi_2 : ∀ w ∈ u_ws RX1 TX1 6, w ∈ zGT := by decide +kernel
theorem zi_3 : ∀ w ∈ u_ws RX2 TX2 6, w ∈ zGT := by decide +kernel
theorem zi_4 : ∀ w ∈ u_ws RX3 TX3 8, w ∈ zGT := by decide +kernel
theorem zi_5 : ∀ w ∈ u_ws RX4 TX4 5, w ∈ zGT := by decide +kernel
theorem zi_6 : ∀ w ∈ u_ws RX5 TX5 5, w ∈ zGT := by decide +kernel
theorem zi_7 : ∀ w ∈ u_ws RX6 TX6 3, w ∈ zGT := by decide +kernel
theorem zi_8 : ∀ w ∈ u_ws RX7 TX7 8, w ∈ zGT := by decide +kernel
theorem zi_9 : ∀ w ∈ u_ws RX8 TX8 14, w ∈ zGT := by decide +kernel
end
section
/-! A LAYER OF MY OWN: the heap behind the law's entry as a plain function (address -> object), contiguous from the base; a judgement z_Z over it, a row an instruction, without worlds to cut and join; room by the heap's own size. -/
/-- (base, (classes' numbers, slots), (int[], boolean[], Object[]), (the empty Object[], the mirror of Object[]), (the script's cell, length, values)) -/
abbrev zG : Type := Nat × va_G × (ClassId × ClassId × ClassId) × (Nat × Nat) × (Nat × Nat × (Nat → Int32))
abbrev zH : Type := Nat → va_E
abbrev z_b (G : zG) : Nat := G.1
abbrev z_D (G : zG) : va_G := G.2.1
abbrev z_aI (G : zG) : ClassId := G.2.2.1.1
abbrev z_aZ (G : zG) : ClassId := G.2.2.1.2.1
abbrev z_aO (G : zG) : ClassId := G.2.2.1.2.2
abbrev z_tE (G : zG) : Nat := G.2.2.2.1.1
abbrev z_mO (G : zG) : Nat := G.2.2.2.1.2
abbrev z_bs (G : zG) : Nat := G.2.2.2.2.1
abbrev z_L (G : zG) : Nat := G.2.2.2.2.2.1
abbrev z_xs (G : zG) : Nat → Int32 := G.2.2.2.2.2.2
def z_tys (G : zG) : List (ClassId × FieldType) := [(z_aI G, .int), (z_aZ G, .boolean), (z_aO G, .object "java/lang/Object")]
def z_wl (b top : Nat) (h : zH) : va_W := (List.range (top - b)).map (fun i => (b + i, h (b + i)))
theorem z_wl_len (b top : Nat) (h : zH) : (z_wl b top h).length = top - b := by simp [z_wl]
theorem z_wl_i {b top i : Nat} {h : zH} (hi : i < top - b) : (z_wl b top h)[i]? = some (b + i, h (b + i)) := by
  simp [z_wl, hi]
theorem z_wl_at {b top i : Nat} {h : zH} {p : Nat × va_E} (hp : (z_wl b top h)[i]? = some p) : i < top - b ∧ p = (b + i, h (b + i)) := by
  have hl := (List.getElem?_eq_some_iff.mp hp).1
  rw [z_wl_len] at hl
  rw [z_wl_i hl] at hp
  exact ⟨hl, (Option.some.inj hp).symm⟩
theorem z_wl_get {b top a : Nat} {h : zH} (h1 : b ≤ a) (h2 : a < top) : (z_wl b top h)[a - b]? = some (a, h a) := by
  rw [z_wl_i (by omega), show b + (a - b) = a by omega]
theorem z_wl_set {b top a : Nat} {h : zH} {e : va_E} (h1 : b ≤ a) (h2 : a < top) : (z_wl b top h).set (a - b) (a, e) = z_wl b top (va_up h a e) := by
  apply List.ext_getElem?
  intro i
  by_cases hi : i < top - b
  · rw [z_wl_i hi]
    by_cases hia : i = a - b
    · subst hia
      rw [List.getElem?_set_self (by rw [z_wl_len]; omega), show b + (a - b) = a by omega]
      simp [va_up]
    · rw [List.getElem?_set_ne (fun z => hia z.symm), z_wl_i hi]
      simp [va_up, show b + i ≠ a by omega]
  · rw [List.getElem?_eq_none (by rw [List.length_set, z_wl_len]; omega), List.getElem?_eq_none (by rw [z_wl_len]; omega)]
theorem z_wl_push {b top : Nat} {h : zH} {e : va_E} (h1 : b ≤ top) : z_wl b top h ++ [(top, e)] = z_wl b (top + 1) (va_up h top e) := by
  unfold z_wl
  rw [show top + 1 - b = (top - b) + 1 by omega, List.range_succ, List.map_append]
  congr 1
  · apply List.map_congr_left
    intro i hi
    have := List.mem_range.mp hi
    simp [va_up, show b + i ≠ top by omega]
  · simp [va_up, show b + (top - b) = top by omega]
theorem z_wl_D {b top : Nat} {h : zH} : va_D (fun q => b ≤ q) (z_wl b top h) := by
  refine ⟨fun i j p q hi hj hpq => ?_, fun k q hk => ?_⟩
  · obtain ⟨-, rfl⟩ := z_wl_at hi
    obtain ⟨-, rfl⟩ := z_wl_at hj
    have : b + i = b + j := hpq
    omega
  · obtain ⟨-, rfl⟩ := z_wl_at hk
    show b ≤ b + k
    omega
/-- the heap is what h says, from the base on -/
def z_HI (G : zG) (h : zH) (top : Nat) (H : Heap) : Prop := H.size = top ∧ z_b G ≤ top ∧ top ≤ z_b G + 320 ∧ va_P (z_D G) vwCl (z_wl (z_b G) top h) H
/-- words that a warming keeps, though they are not among the good ones -/
def zNW : List Cond := [.castable RX3 "java/lang/Object", .castable RX5 "java/lang/Object", .castable RX7 "java/lang/Object", .castable RX2 "java/lang/Object", .castable RX4 "java/lang/Object", .methodLinkNest RX0 167 yX8_isIn "GantryHall", .methodLinkNest RX7 30 yX8_hasBit "GantryHall", .methodLinkNest RX8 24 yX6_init "GantryHall", .methodLinkNest RX8 31 yX1_init "GantryHall", .methodLinkNest RX8 38 yX0_init "GantryHall", .declares ⟨"java/lang/Object", "getClass", "()Ljava/lang/Class;"⟩]
theorem z_nw_warm {w : Cond} (hm : w ∈ zNW) {s U : State} (hW : s.WarmedH U.vm) (h : va_Nw w s) : va_Nw w U := by
  simp only [zNW, List.mem_cons, List.not_mem_nil, or_false] at hm
  rcases hm with rfl | rfl | rfl | rfl | rfl | rfl | rfl | rfl | rfl | rfl | rfl
  all_goals first | exact va_Nw.warmC hW h | exact va_Nw.warmM hW h | exact va_Nw.warmD hW h
/-- what stays all the while -/
def z_EN (G : zG) (U : State) : Prop := va_K (z_D G) vwCl (z_tys G) U ∧ va_Z "java/util/ArrayList" "DEFAULTCAPACITY_EMPTY_ELEMENTDATA" "[Ljava/lang/Object;" (.ref (z_tE G)) (fun q => z_b G ≤ q) U U.heap ∧ va_T (.object "java/lang/Object") (z_tE G) 0 (fun _ => .null) (fun q => z_b G ≤ q) U U.heap ∧ (va_Mi "[Ljava/lang/Object;" (z_mO G) U ∧ va_AO "java/lang/Object" U ∧ ∀ w ∈ zNW, va_Nw w U) ∧ va_X (z_bs G) (z_L G) (z_xs G) U U.heap ∧ z_bs G < z_b G ∧ z_b G ≤ U.heap.size
theorem z_EN.to {G : zG} {s U : State} {H : Heap} {locs : List Loc} (h : z_EN G s) (hS : va_S (fun q => z_b G ≤ q) s.heap H locs) (hU : U.heap = H) (hW : s.WarmedH U.vm) : z_EN G U := by
  have hvm := hW.alike
  obtain ⟨h1, h2, h3, h4, h5, h6, h7⟩ := h
  refine ⟨va_K.moved hvm h1, ?_, ?_, ⟨va_Mi.moved hvm h4.1, h4.2.1.moved hvm, fun w hw => z_nw_warm hw hW (h4.2.2 w hw)⟩, ?_, h6, by rw [hU]; exact Nat.le_trans h7 hS.1⟩
  · rw [hU]; exact (va_Z.moved hvm h2).kept (fun a h8 h9 => hS.2.1 a h8 h9)
  · rw [hU]; exact (va_T.moved hvm h3).kept (fun a h8 h9 => hS.2.1 a h8 h9)
  · rw [hU]; exact (va_X.moved hvm h5).kept (hS.2.1 _ (by omega) (by omega))
theorem z_EN.calling {G : zG} {U : State} {g : JFrame} {mk : MethodId} {a : Array Value} (h : z_EN G U) : z_EN G (U.calling g mk a) := h.to (H := U.heap) (locs := []) va_S.rf rfl (State.WarmedH.refl U)
def z_rm (d : Nat) : Room := { frames := d, cells := 320 * d, slots := 419840 * d, locals := 41 * d }
/-- the slots of the cells behind n -/
def z_ss (n : Nat) (H : Heap) : Nat := ((H.toList.drop n).map (fun c => c.slots.size)).sum
def z_F (A B : Heap) (k : Nat) : Prop := A.size ≤ B.size ∧ (∀ (q : Nat) (c : Cell), A[q]? = some c → ∃ c' : Cell, B[q]? = some c' ∧ c'.slots.size = c.slots.size) ∧ z_ss A.size B ≤ k
theorem z_F.trans {A B C : Heap} {k1 k2 : Nat} (h1 : z_F A B k1) (h2 : z_F B C k2) : z_F A C (k1 + k2) := by
  obtain ⟨l1, p1, s1⟩ := h1
  obtain ⟨l2, p2, s2⟩ := h2
  refine ⟨Nat.le_trans l1 l2, fun q c hq => ?_, ?_⟩
  · obtain ⟨c1, e1, z1⟩ := p1 q c hq
    obtain ⟨c2, e2, z2⟩ := p2 q c1 e1
    exact ⟨c2, e2, z2.trans z1⟩
  · have e : (C.toList.map (fun c => c.slots.size)).take B.size = B.toList.map (fun c => c.slots.size) := by
      apply List.ext_getElem?
      intro i
      by_cases hi : i < B.size
      · rw [List.getElem?_take_of_lt hi, List.getElem?_map, List.getElem?_map, Array.getElem?_toList, Array.getElem?_toList]
        obtain ⟨c2, e2, z2⟩ := p2 i B[i] (Array.getElem?_eq_getElem hi)
        rw [e2, Array.getElem?_eq_getElem hi]
        simp [z2]
      · rw [List.getElem?_eq_none (by simp; omega), List.getElem?_eq_none (by simp; omega)]
    have e2 : C.toList.map (fun c => c.slots.size) = B.toList.map (fun c => c.slots.size) ++ (C.toList.map (fun c => c.slots.size)).drop B.size := by
      rw [← e, List.take_append_drop]
    unfold z_ss at *
    rw [List.map_drop] at *
    rw [e2, List.drop_append_of_le_length (by simp; omega), List.sum_append]
    omega
section ZW
variable {p : Program} {l : Launch} {e : Env} {R : Room} {s : State} {m : MethodId} {args : Array Value} {below : List Frame} {meth : Method} {c : Code} {H : Heap} {locs : List Loc} {cells slots : Nat} {Q : State → Prop} {g : JFrame}
theorem z_stF {T : State} (X : Stand p l e R s m args below meth c T locs cells slots) : z_F s.heap T.heap slots := by
  obtain ⟨h1, h2, h3, h4, h5, h6⟩ := X.same
  exact ⟨h2, fun q c hq => by obtain ⟨c', a, b, d, f⟩ := h6 q c hq; exact ⟨c', a, d⟩, h5⟩
theorem z_facts (k : z_F s.heap H slots → H.size ≤ s.heap.size + cells → W p l e R s m args below meth c H locs cells slots Q g) : W p l e R s m args below meth c H locs cells slots Q g := by
  intro T hT X
  exact k (by rw [← hT]; exact z_stF X) (by rw [← hT]; exact X.heapSize) T hT X
theorem z_stT {T : State} {k n : Nat} (X : Stand p l e R s m args below meth c T locs cells slots) (h1 : T.heap.size ≤ s.heap.size + k) (h2 : z_ss s.heap.size T.heap ≤ n) : Stand p l e R s m args below meth c T locs k n := by
  obtain ⟨g1, g2, g3, g4, g5, g6⟩ := X.same
  exact { X with same := ⟨g1, g2, h1, g4, h2, g6⟩ }
theorem z_tight {k n : Nat} (h1 : H.size ≤ s.heap.size + k) (h2 : z_ss s.heap.size H ≤ n) (kk : W p l e R s m args below meth c H locs k n Q g) : W p l e R s m args below meth c H locs cells slots Q g := by
  intro T hT X
  exact kk T hT (z_stT X (by rw [hT]; exact h1) (by rw [hT]; exact h2))
end ZW
/-- a method's end -/
def z_Qc (G : zG) (Post : Option Value → zH → Nat → Prop) : Array Value → State → Outcome → State → Prop := fun _ st oc t =>
  ∃ (r : Option Value) (h' : zH) (top' : Nat), oc = .returned r ∧ Post r h' top' ∧ z_HI G h' top' t.heap ∧ z_F st.heap t.heap ((top' - st.heap.size) * 1312) ∧ ∀ q : Nat, q < st.heap.size → ¬ z_b G ≤ q → t.heap[q]? = st.heap[q]?
/-- A CONTRACT: from the heap h (up to top) and the arguments av the method returns, and Post holds of its answer and of the heap behind it -/
def z_Ct (l : Launch) (y : MethodName) (cc : ByteArray) (maxL : Nat) (ret : Option FieldType) (d : Nat) (G : zG) (av : List Value) (h : zH) (top : Nat) (Post : Option Value → zH → Nat → Prop) : Prop :=
  Met l y (Cond.code y cc maxL ret :: zGT) (z_rm d) (va_Pc av (fun U => z_EN G U ∧ z_HI G h top U.heap)) (z_Qc G Post) (320 * d) (419840 * d) (fun q => z_b G ≤ q)
/-- an answer, and nothing changed -/
def z_R (v : Option Value) (h : zH) (top : Nat) : Option Value → zH → Nat → Prop := fun r h' top' => r = v ∧ h' = h ∧ top' = top
abbrev zX : Type := Program × Launch × Env × Room × State × MethodId × Array Value × List Frame × Method × Code × (State → Prop) × zG
def z_Z : zX → zH → Nat → Nat → List (Nat × Value) → List Value → Prop
  | (p, l, e, R, s, m, args, below, meth, c, Q, G), h, top, pc, lv, st => ∀ (H : Heap) (locs : List Loc) (ls : Array Slot), z_HI G h top H → va_S (fun q => z_b G ≤ q) s.heap H locs → s.heap.size ≤ top → lv_has ls c.maxLocals lv →
      W p l e R s m args below meth c H locs (top - s.heap.size) ((top - s.heap.size) * 1312) Q (F0 m pc ls st)
/-- the code that stands here, and all that a row asks of the frame -/
def z_ok : zX → ByteArray → Nat → String → Option FieldType → String → Nat → zG → Prop
  | (p, l, e, R, s, m, args, below, meth, c, Q, G'), cc, nL, own, ret, nm, d, G => p.tables.exec = Jvm.exec ∧ c.code = cc ∧ c.maxLocals = nL ∧ s.vm.findClass own = some m.cls ∧ (∀ w ∈ zGT, w.before args s = true) ∧ meth.sig.returnType = ret ∧ meth.locks = false ∧ meth.name = nm ∧ z_EN G s ∧ (d ≤ R.frames ∧ 41 * d ≤ R.locals ∧ 320 * d ≤ R.cells ∧ 419840 * d ≤ R.slots ∧ 1 ≤ d) ∧ G' = G
/-- its end is that of a contract -/
def z_mq : zX → (Option Value → zH → Nat → Prop) → Prop
  | (p, l, e, R, s, m, args, below, meth, c, Q, G), Post => Q = MQ below (z_Qc G Post) args s R.cells R.slots (fun q => z_b G ≤ q)
/-- an object of the heap -/
def z_at (G : zG) (h : zH) (top a : Nat) (e : va_E) : Prop := z_b G ≤ a ∧ a < top ∧ h a = e
theorem z_of {l : Launch} {y : MethodName} {cc : ByteArray} {maxL d : Nat} {ret : Option FieldType} {G : zG} {av : List Value} {h : zH} {top : Nat} {Post : Option Value → zH → Nat → Prop} {own nm : String} (hy : plainName y.cls = true) (ho : y.cls = own) (hnm : y.name = nm) (hd : 1 ≤ d) (hlen : (lg_sl av).length ≤ maxL)
    (k : ∀ X : zX, z_ok X cc maxL own ret nm d G → z_mq X Post → z_Z X h top 0 (lv_args 0 av) []) : z_Ct l y cc maxL ret d G av h top Post := by
  subst ho hnm
  refine Met.ofW (cc := cc) (maxL := maxL) (ret := ret) hy rfl ?_
  intro p e s m args below meth c s₁ B hml hv
  obtain ⟨rfl, hen, hH⟩ := hv
  have hts := atoms_spec (ws := Cond.code y cc maxL ret :: zGT) B.pre
  have hsz := hH.1
  have hl := lv_entry av (n := maxL) hlen
  rw [lg_entry_eq]
  generalize (lg_sl av ++ List.replicate (maxL - (lg_sl av).length) Slot.unset).toArray = ls at hl ⊢
  have K := k (p, l, e, (headSpec (Cond.code y cc maxL ret :: zGT) (z_rm d)).room, s, m, av.toArray, below, meth, c, MQ below (z_Qc G Post) av.toArray s (320 * d) (419840 * d) (fun q => z_b G ≤ q), G)
    ⟨B.exec, B.bytes, hml, findClass_of_methodNamed B.named, fun w hw => hts w (List.mem_cons_of_mem _ hw), B.returns, B.notSynchronized, (name_of_methodNamed B.named B.method).1, hen, ⟨Nat.le_refl _, Nat.le_refl _, Nat.le_refl _, Nat.le_refl _, hd⟩, rfl⟩ rfl
    s.heap [] ls hH va_S.rf (by omega) (by rw [hml]; exact hl)
  rw [show top - s.heap.size = 0 by omega] at K
  exact K

section ZR
variable {X : zX} {cc : ByteArray} {nL d : Nat} {own nm : String} {ret : Option FieldType} {G : zG} {h : zH} {top pc : Nat} {lv : List (Nat × Value)} {rest : List Value}
theorem r_iconst (hX : z_ok X cc nL own ret nm d G) {n : Int} {v : Int32} (hv : Int32.ofInt n = v) (hd : decode cc pc = .ok (.iconst n, 1)) (k : z_Z X h top (pc + 1) lv (.int v :: rest)) : z_Z X h top pc lv (rest) := by
  obtain ⟨p, l, e, R, s, m, args, below, meth, c, Q, G0⟩ := X
  obtain ⟨hx, hb, hml, hown, hts, hr, hlk, hnm, hen, hR, rfl⟩ := hX
  intro H locs ls a1 a2 a3 hl
  exact lv_iconst hx hb hd hv (k H locs ls a1 a2 a3 hl)
theorem r_bipush (hX : z_ok X cc nL own ret nm d G) {n : Int} {v : Int32} (hv : (Int8.ofInt n).toInt32 = v) (hd : decode cc pc = .ok (.bipush n, 2)) (k : z_Z X h top (pc + 2) lv (.int v :: rest)) : z_Z X h top pc lv (rest) := by
  obtain ⟨p, l, e, R, s, m, args, below, meth, c, Q, G0⟩ := X
  obtain ⟨hx, hb, hml, hown, hts, hr, hlk, hnm, hen, hR, rfl⟩ := hX
  intro H locs ls a1 a2 a3 hl
  exact lv_bipush hx hb hd hv (k H locs ls a1 a2 a3 hl)
theorem r_sipush (hX : z_ok X cc nL own ret nm d G) {n : Int} {v : Int32} (hv : (Int16.ofInt n).toInt32 = v) (hd : decode cc pc = .ok (.sipush n, 3)) (k : z_Z X h top (pc + 3) lv (.int v :: rest)) : z_Z X h top pc lv (rest) := by
  obtain ⟨p, l, e, R, s, m, args, below, meth, c, Q, G0⟩ := X
  obtain ⟨hx, hb, hml, hown, hts, hr, hlk, hnm, hen, hR, rfl⟩ := hX
  intro H locs ls a1 a2 a3 hl
  exact lv_sipush hx hb hd hv (k H locs ls a1 a2 a3 hl)
theorem r_null (hX : z_ok X cc nL own ret nm d G)  (hd : decode cc pc = .ok (.aconst_null, 1)) (k : z_Z X h top (pc + 1) lv (.null :: rest)) : z_Z X h top pc lv (rest) := by
  obtain ⟨p, l, e, R, s, m, args, below, meth, c, Q, G0⟩ := X
  obtain ⟨hx, hb, hml, hown, hts, hr, hlk, hnm, hen, hR, rfl⟩ := hX
  intro H locs ls a1 a2 a3 hl
  exact lv_null hx hb hd (k H locs ls a1 a2 a3 hl)
theorem r_iload_n (hX : z_ok X cc nL own ret nm d G) {k4 : Fin 4} {i : Nat} {x : Int32} (hi : (k4 : Nat) = i) (q : Nat) (hq : lv[q]? = some (i, .int x)) (hd : decode cc pc = .ok (.iload_n k4, 1)) (k : z_Z X h top (pc + 1) lv (.int x :: rest)) : z_Z X h top pc lv (rest) := by
  obtain ⟨p, l, e, R, s, m, args, below, meth, c, Q, G0⟩ := X
  obtain ⟨hx, hb, hml, hown, hts, hr, hlk, hnm, hen, hR, rfl⟩ := hX
  intro H locs ls a1 a2 a3 hl
  exact lv_iload_n hx hb hd hi (lv_at hl q hq) (k H locs ls a1 a2 a3 hl)
theorem r_iload (hX : z_ok X cc nL own ret nm d G) {i : Nat} {x : Int32} (q : Nat) (hq : lv[q]? = some (i, .int x)) (hd : decode cc pc = .ok (.iload i, 2)) (k : z_Z X h top (pc + 2) lv (.int x :: rest)) : z_Z X h top pc lv (rest) := by
  obtain ⟨p, l, e, R, s, m, args, below, meth, c, Q, G0⟩ := X
  obtain ⟨hx, hb, hml, hown, hts, hr, hlk, hnm, hen, hR, rfl⟩ := hX
  intro H locs ls a1 a2 a3 hl
  exact lv_iload hx hb hd (lv_at hl q hq) (k H locs ls a1 a2 a3 hl)
theorem r_aload_n (hX : z_ok X cc nL own ret nm d G) {k4 : Fin 4} {i : Nat} {x : Nat} (hi : (k4 : Nat) = i) (q : Nat) (hq : lv[q]? = some (i, .ref x)) (hd : decode cc pc = .ok (.aload_n k4, 1)) (k : z_Z X h top (pc + 1) lv (.ref x :: rest)) : z_Z X h top pc lv (rest) := by
  obtain ⟨p, l, e, R, s, m, args, below, meth, c, Q, G0⟩ := X
  obtain ⟨hx, hb, hml, hown, hts, hr, hlk, hnm, hen, hR, rfl⟩ := hX
  intro H locs ls a1 a2 a3 hl
  exact lv_aload_n hx hb hd hi (lv_at hl q hq) (k H locs ls a1 a2 a3 hl)
theorem r_aload (hX : z_ok X cc nL own ret nm d G) {i : Nat} {x : Nat} (q : Nat) (hq : lv[q]? = some (i, .ref x)) (hd : decode cc pc = .ok (.aload i, 2)) (k : z_Z X h top (pc + 2) lv (.ref x :: rest)) : z_Z X h top pc lv (rest) := by
  obtain ⟨p, l, e, R, s, m, args, below, meth, c, Q, G0⟩ := X
  obtain ⟨hx, hb, hml, hown, hts, hr, hlk, hnm, hen, hR, rfl⟩ := hX
  intro H locs ls a1 a2 a3 hl
  exact lv_aload hx hb hd (lv_at hl q hq) (k H locs ls a1 a2 a3 hl)
theorem r_lload_n (hX : z_ok X cc nL own ret nm d G) {k4 : Fin 4} {i : Nat} {x : Int64} (hi : (k4 : Nat) = i) (q : Nat) (hq : lv[q]? = some (i, .long x)) (hd : decode cc pc = .ok (.lload_n k4, 1)) (k : z_Z X h top (pc + 1) lv (.long x :: rest)) : z_Z X h top pc lv (rest) := by
  obtain ⟨p, l, e, R, s, m, args, below, meth, c, Q, G0⟩ := X
  obtain ⟨hx, hb, hml, hown, hts, hr, hlk, hnm, hen, hR, rfl⟩ := hX
  intro H locs ls a1 a2 a3 hl
  exact lv_lload_n hx hb hd hi (lv_at hl q hq) (k H locs ls a1 a2 a3 hl)
theorem r_lload (hX : z_ok X cc nL own ret nm d G) {i : Nat} {x : Int64} (q : Nat) (hq : lv[q]? = some (i, .long x)) (hd : decode cc pc = .ok (.lload i, 2)) (k : z_Z X h top (pc + 2) lv (.long x :: rest)) : z_Z X h top pc lv (rest) := by
  obtain ⟨p, l, e, R, s, m, args, below, meth, c, Q, G0⟩ := X
  obtain ⟨hx, hb, hml, hown, hts, hr, hlk, hnm, hen, hR, rfl⟩ := hX
  intro H locs ls a1 a2 a3 hl
  exact lv_lload hx hb hd (lv_at hl q hq) (k H locs ls a1 a2 a3 hl)
theorem r_aload_nN (hX : z_ok X cc nL own ret nm d G) {k4 : Fin 4} {i : Nat} (hi : (k4 : Nat) = i) (q : Nat) (hq : lv[q]? = some (i, .null)) (hd : decode cc pc = .ok (.aload_n k4, 1)) (k : z_Z X h top (pc + 1) lv (.null :: rest)) : z_Z X h top pc lv (rest) := by
  obtain ⟨p, l, e, R, s, m, args, below, meth, c, Q, G0⟩ := X
  obtain ⟨hx, hb, hml, hown, hts, hr, hlk, hnm, hen, hR, rfl⟩ := hX
  intro H locs ls a1 a2 a3 hl
  exact lv_aload_nN hx hb hd hi (lv_at hl q hq) (k H locs ls a1 a2 a3 hl)
theorem r_aloadN (hX : z_ok X cc nL own ret nm d G) {i : Nat} (q : Nat) (hq : lv[q]? = some (i, .null)) (hd : decode cc pc = .ok (.aload i, 2)) (k : z_Z X h top (pc + 2) lv (.null :: rest)) : z_Z X h top pc lv (rest) := by
  obtain ⟨p, l, e, R, s, m, args, below, meth, c, Q, G0⟩ := X
  obtain ⟨hx, hb, hml, hown, hts, hr, hlk, hnm, hen, hR, rfl⟩ := hX
  intro H locs ls a1 a2 a3 hl
  exact lv_aloadN hx hb hd (lv_at hl q hq) (k H locs ls a1 a2 a3 hl)
theorem r_istore_n (hX : z_ok X cc nL own ret nm d G) {k4 : Fin 4} {i : Nat} {x : Int32} {lv' : List (Nat × Value)} (hi : (k4 : Nat) = i) (hn : i < nL) (hlv : (i, Value.int x) :: lv.filter (fun q => !(q.1 == i) && !(q.1 + 1 == i && q.2.category == 2)) = lv') (hd : decode cc pc = .ok (.istore_n k4, 1)) (k : z_Z X h top (pc + 1) lv' rest) : z_Z X h top pc lv (.int x :: rest) := by
  obtain ⟨p, l, e, R, s, m, args, below, meth, c, Q, G0⟩ := X
  obtain ⟨hx, hb, hml, hown, hts, hr, hlk, hnm, hen, hR, rfl⟩ := hX
  intro H locs ls a1 a2 a3 hl
  exact lv_istore_n hx hb hd hi hl (by rw [hml]; exact hn) hlv (fun ls' hl' => k H locs ls' a1 a2 a3 hl')
theorem r_istore (hX : z_ok X cc nL own ret nm d G) {i : Nat} {x : Int32} {lv' : List (Nat × Value)} (hn : i < nL) (hlv : (i, Value.int x) :: lv.filter (fun q => !(q.1 == i) && !(q.1 + 1 == i && q.2.category == 2)) = lv') (hd : decode cc pc = .ok (.istore i, 2)) (k : z_Z X h top (pc + 2) lv' rest) : z_Z X h top pc lv (.int x :: rest) := by
  obtain ⟨p, l, e, R, s, m, args, below, meth, c, Q, G0⟩ := X
  obtain ⟨hx, hb, hml, hown, hts, hr, hlk, hnm, hen, hR, rfl⟩ := hX
  intro H locs ls a1 a2 a3 hl
  exact lv_istore hx hb hd hl (by rw [hml]; exact hn) hlv (fun ls' hl' => k H locs ls' a1 a2 a3 hl')
theorem r_astore_n (hX : z_ok X cc nL own ret nm d G) {k4 : Fin 4} {i : Nat} {x : Nat} {lv' : List (Nat × Value)} (hi : (k4 : Nat) = i) (hn : i < nL) (hlv : (i, Value.ref x) :: lv.filter (fun q => !(q.1 == i) && !(q.1 + 1 == i && q.2.category == 2)) = lv') (hd : decode cc pc = .ok (.astore_n k4, 1)) (k : z_Z X h top (pc + 1) lv' rest) : z_Z X h top pc lv (.ref x :: rest) := by
  obtain ⟨p, l, e, R, s, m, args, below, meth, c, Q, G0⟩ := X
  obtain ⟨hx, hb, hml, hown, hts, hr, hlk, hnm, hen, hR, rfl⟩ := hX
  intro H locs ls a1 a2 a3 hl
  exact lv_astore_n hx hb hd hi hl (by rw [hml]; exact hn) hlv (fun ls' hl' => k H locs ls' a1 a2 a3 hl')
theorem r_astore (hX : z_ok X cc nL own ret nm d G) {i : Nat} {x : Nat} {lv' : List (Nat × Value)} (hn : i < nL) (hlv : (i, Value.ref x) :: lv.filter (fun q => !(q.1 == i) && !(q.1 + 1 == i && q.2.category == 2)) = lv') (hd : decode cc pc = .ok (.astore i, 2)) (k : z_Z X h top (pc + 2) lv' rest) : z_Z X h top pc lv (.ref x :: rest) := by
  obtain ⟨p, l, e, R, s, m, args, below, meth, c, Q, G0⟩ := X
  obtain ⟨hx, hb, hml, hown, hts, hr, hlk, hnm, hen, hR, rfl⟩ := hX
  intro H locs ls a1 a2 a3 hl
  exact lv_astore hx hb hd hl (by rw [hml]; exact hn) hlv (fun ls' hl' => k H locs ls' a1 a2 a3 hl')
theorem r_lstore_n (hX : z_ok X cc nL own ret nm d G) {k4 : Fin 4} {i : Nat} {x : Int64} {lv' : List (Nat × Value)} (hi : (k4 : Nat) = i) (hn : i + 1 < nL) (hlv : (i, Value.long x) :: lv.filter (fun q => !(q.1 == i) && (!(q.1 == i + 1) && !(q.1 + 1 == i && q.2.category == 2))) = lv') (hd : decode cc pc = .ok (.lstore_n k4, 1)) (k : z_Z X h top (pc + 1) lv' rest) : z_Z X h top pc lv (.long x :: rest) := by
  obtain ⟨p, l, e, R, s, m, args, below, meth, c, Q, G0⟩ := X
  obtain ⟨hx, hb, hml, hown, hts, hr, hlk, hnm, hen, hR, rfl⟩ := hX
  intro H locs ls a1 a2 a3 hl
  exact lv_lstore_n hx hb hd hi hl (by rw [hml]; exact hn) hlv (fun ls' hl' => k H locs ls' a1 a2 a3 hl')
theorem r_lstore (hX : z_ok X cc nL own ret nm d G) {i : Nat} {x : Int64} {lv' : List (Nat × Value)} (hn : i + 1 < nL) (hlv : (i, Value.long x) :: lv.filter (fun q => !(q.1 == i) && (!(q.1 == i + 1) && !(q.1 + 1 == i && q.2.category == 2))) = lv') (hd : decode cc pc = .ok (.lstore i, 2)) (k : z_Z X h top (pc + 2) lv' rest) : z_Z X h top pc lv (.long x :: rest) := by
  obtain ⟨p, l, e, R, s, m, args, below, meth, c, Q, G0⟩ := X
  obtain ⟨hx, hb, hml, hown, hts, hr, hlk, hnm, hen, hR, rfl⟩ := hX
  intro H locs ls a1 a2 a3 hl
  exact lv_lstore hx hb hd hl (by rw [hml]; exact hn) hlv (fun ls' hl' => k H locs ls' a1 a2 a3 hl')
theorem r_astore_nN (hX : z_ok X cc nL own ret nm d G) {k4 : Fin 4} {i : Nat} {lv' : List (Nat × Value)} (hi : (k4 : Nat) = i) (hn : i < nL) (hlv : (i, Value.null) :: lv.filter (fun q => !(q.1 == i) && !(q.1 + 1 == i && q.2.category == 2)) = lv') (hd : decode cc pc = .ok (.astore_n k4, 1)) (k : z_Z X h top (pc + 1) lv' rest) : z_Z X h top pc lv (.null :: rest) := by
  obtain ⟨p, l, e, R, s, m, args, below, meth, c, Q, G0⟩ := X
  obtain ⟨hx, hb, hml, hown, hts, hr, hlk, hnm, hen, hR, rfl⟩ := hX
  intro H locs ls a1 a2 a3 hl
  exact lv_astore_nN hx hb hd hi hl (by rw [hml]; exact hn) hlv (fun ls' hl' => k H locs ls' a1 a2 a3 hl')
theorem r_astoreN (hX : z_ok X cc nL own ret nm d G) {i : Nat} {lv' : List (Nat × Value)} (hn : i < nL) (hlv : (i, Value.null) :: lv.filter (fun q => !(q.1 == i) && !(q.1 + 1 == i && q.2.category == 2)) = lv') (hd : decode cc pc = .ok (.astore i, 2)) (k : z_Z X h top (pc + 2) lv' rest) : z_Z X h top pc lv (.null :: rest) := by
  obtain ⟨p, l, e, R, s, m, args, below, meth, c, Q, G0⟩ := X
  obtain ⟨hx, hb, hml, hown, hts, hr, hlk, hnm, hen, hR, rfl⟩ := hX
  intro H locs ls a1 a2 a3 hl
  exact lv_astoreN hx hb hd hl (by rw [hml]; exact hn) hlv (fun ls' hl' => k H locs ls' a1 a2 a3 hl')
theorem r_iinc (hX : z_ok X cc nL own ret nm d G) {i q : Nat} {n : Int} {x v : Int32} {lv' : List (Nat × Value)} (hq : lv[q]? = some (i, .int x)) (hv : x + Int32.ofInt n = v) (hn : i < nL) (hlv : (i, Value.int v) :: lv.filter (fun q => !(q.1 == i) && !(q.1 + 1 == i && q.2.category == 2)) = lv') (hd : decode cc pc = .ok (.iinc i n, 3)) (k : z_Z X h top (pc + 3) lv' rest) : z_Z X h top pc lv rest := by
  obtain ⟨p, l, e, R, s, m, args, below, meth, c, Q, G0⟩ := X
  obtain ⟨hx, hb, hml, hown, hts, hr, hlk, hnm, hen, hR, rfl⟩ := hX
  intro H locs ls a1 a2 a3 hl
  exact lv_iinc hx hb hd hl hq hv (by rw [hml]; exact hn) hlv (fun ls' hl' => k H locs ls' a1 a2 a3 hl')
theorem r_iadd (hX : z_ok X cc nL own ret nm d G) {x y : Int32} (hd : decode cc pc = .ok (.iadd, 1)) (k : z_Z X h top (pc + 1) lv (.int (x + y) :: rest)) : z_Z X h top pc lv (.int y :: .int x :: rest) := by
  obtain ⟨p, l, e, R, s, m, args, below, meth, c, Q, G0⟩ := X
  obtain ⟨hx, hb, hml, hown, hts, hr, hlk, hnm, hen, hR, rfl⟩ := hX
  intro H locs ls a1 a2 a3 hl
  exact lv_iadd hx hb hd (k H locs ls a1 a2 a3 hl)
theorem r_isub (hX : z_ok X cc nL own ret nm d G) {x y : Int32} (hd : decode cc pc = .ok (.isub, 1)) (k : z_Z X h top (pc + 1) lv (.int (x - y) :: rest)) : z_Z X h top pc lv (.int y :: .int x :: rest) := by
  obtain ⟨p, l, e, R, s, m, args, below, meth, c, Q, G0⟩ := X
  obtain ⟨hx, hb, hml, hown, hts, hr, hlk, hnm, hen, hR, rfl⟩ := hX
  intro H locs ls a1 a2 a3 hl
  exact lv_isub hx hb hd (k H locs ls a1 a2 a3 hl)
theorem r_imul (hX : z_ok X cc nL own ret nm d G) {x y : Int32} (hd : decode cc pc = .ok (.imul, 1)) (k : z_Z X h top (pc + 1) lv (.int (x * y) :: rest)) : z_Z X h top pc lv (.int y :: .int x :: rest) := by
  obtain ⟨p, l, e, R, s, m, args, below, meth, c, Q, G0⟩ := X
  obtain ⟨hx, hb, hml, hown, hts, hr, hlk, hnm, hen, hR, rfl⟩ := hX
  intro H locs ls a1 a2 a3 hl
  exact lv_imul hx hb hd (k H locs ls a1 a2 a3 hl)
theorem r_iand (hX : z_ok X cc nL own ret nm d G) {x y : Int32} (hd : decode cc pc = .ok (.iand, 1)) (k : z_Z X h top (pc + 1) lv (.int (x &&& y) :: rest)) : z_Z X h top pc lv (.int y :: .int x :: rest) := by
  obtain ⟨p, l, e, R, s, m, args, below, meth, c, Q, G0⟩ := X
  obtain ⟨hx, hb, hml, hown, hts, hr, hlk, hnm, hen, hR, rfl⟩ := hX
  intro H locs ls a1 a2 a3 hl
  exact lv_iand hx hb hd (k H locs ls a1 a2 a3 hl)
theorem r_ior (hX : z_ok X cc nL own ret nm d G) {x y : Int32} (hd : decode cc pc = .ok (.ior, 1)) (k : z_Z X h top (pc + 1) lv (.int (x ||| y) :: rest)) : z_Z X h top pc lv (.int y :: .int x :: rest) := by
  obtain ⟨p, l, e, R, s, m, args, below, meth, c, Q, G0⟩ := X
  obtain ⟨hx, hb, hml, hown, hts, hr, hlk, hnm, hen, hR, rfl⟩ := hX
  intro H locs ls a1 a2 a3 hl
  exact lv_ior hx hb hd (k H locs ls a1 a2 a3 hl)
theorem r_ixor (hX : z_ok X cc nL own ret nm d G) {x y : Int32} (hd : decode cc pc = .ok (.ixor, 1)) (k : z_Z X h top (pc + 1) lv (.int (x ^^^ y) :: rest)) : z_Z X h top pc lv (.int y :: .int x :: rest) := by
  obtain ⟨p, l, e, R, s, m, args, below, meth, c, Q, G0⟩ := X
  obtain ⟨hx, hb, hml, hown, hts, hr, hlk, hnm, hen, hR, rfl⟩ := hX
  intro H locs ls a1 a2 a3 hl
  exact lv_ixor hx hb hd (k H locs ls a1 a2 a3 hl)
theorem r_ishl (hX : z_ok X cc nL own ret nm d G) {x y : Int32} (hd : decode cc pc = .ok (.ishl, 1)) (k : z_Z X h top (pc + 1) lv (.int (x <<< (y &&& 31)) :: rest)) : z_Z X h top pc lv (.int y :: .int x :: rest) := by
  obtain ⟨p, l, e, R, s, m, args, below, meth, c, Q, G0⟩ := X
  obtain ⟨hx, hb, hml, hown, hts, hr, hlk, hnm, hen, hR, rfl⟩ := hX
  intro H locs ls a1 a2 a3 hl
  exact lv_ishl hx hb hd (k H locs ls a1 a2 a3 hl)
theorem r_ishr (hX : z_ok X cc nL own ret nm d G) {x y : Int32} (hd : decode cc pc = .ok (.ishr, 1)) (k : z_Z X h top (pc + 1) lv (.int (x >>> (y &&& 31)) :: rest)) : z_Z X h top pc lv (.int y :: .int x :: rest) := by
  obtain ⟨p, l, e, R, s, m, args, below, meth, c, Q, G0⟩ := X
  obtain ⟨hx, hb, hml, hown, hts, hr, hlk, hnm, hen, hR, rfl⟩ := hX
  intro H locs ls a1 a2 a3 hl
  exact lv_ishr hx hb hd (k H locs ls a1 a2 a3 hl)
theorem r_idiv (hX : z_ok X cc nL own ret nm d G) {x y : Int32} (hne : ¬ y = 0) (hd : decode cc pc = .ok (.idiv, 1)) (k : z_Z X h top (pc + 1) lv (.int (x / y) :: rest)) : z_Z X h top pc lv (.int y :: .int x :: rest) := by
  obtain ⟨p, l, e, R, s, m, args, below, meth, c, Q, G0⟩ := X
  obtain ⟨hx, hb, hml, hown, hts, hr, hlk, hnm, hen, hR, rfl⟩ := hX
  intro H locs ls a1 a2 a3 hl
  exact lv_idiv hx hb hd hne (k H locs ls a1 a2 a3 hl)
theorem r_irem (hX : z_ok X cc nL own ret nm d G) {x y : Int32} (hne : ¬ y = 0) (hd : decode cc pc = .ok (.irem, 1)) (k : z_Z X h top (pc + 1) lv (.int (x - x / y * y) :: rest)) : z_Z X h top pc lv (.int y :: .int x :: rest) := by
  obtain ⟨p, l, e, R, s, m, args, below, meth, c, Q, G0⟩ := X
  obtain ⟨hx, hb, hml, hown, hts, hr, hlk, hnm, hen, hR, rfl⟩ := hX
  intro H locs ls a1 a2 a3 hl
  exact lv_irem hx hb hd hne (k H locs ls a1 a2 a3 hl)
theorem r_ladd (hX : z_ok X cc nL own ret nm d G) {x y : Int64} (hd : decode cc pc = .ok (.ladd, 1)) (k : z_Z X h top (pc + 1) lv (.long (x + y) :: rest)) : z_Z X h top pc lv (.long y :: .long x :: rest) := by
  obtain ⟨p, l, e, R, s, m, args, below, meth, c, Q, G0⟩ := X
  obtain ⟨hx, hb, hml, hown, hts, hr, hlk, hnm, hen, hR, rfl⟩ := hX
  intro H locs ls a1 a2 a3 hl
  exact lv_ladd hx hb hd (k H locs ls a1 a2 a3 hl)
theorem r_lmul (hX : z_ok X cc nL own ret nm d G) {x y : Int64} (hd : decode cc pc = .ok (.lmul, 1)) (k : z_Z X h top (pc + 1) lv (.long (x * y) :: rest)) : z_Z X h top pc lv (.long y :: .long x :: rest) := by
  obtain ⟨p, l, e, R, s, m, args, below, meth, c, Q, G0⟩ := X
  obtain ⟨hx, hb, hml, hown, hts, hr, hlk, hnm, hen, hR, rfl⟩ := hX
  intro H locs ls a1 a2 a3 hl
  exact lv_lmul hx hb hd (k H locs ls a1 a2 a3 hl)
theorem r_i2l (hX : z_ok X cc nL own ret nm d G) {x : Int32} (hd : decode cc pc = .ok (.i2l, 1)) (k : z_Z X h top (pc + 1) lv (.long x.toInt64 :: rest)) : z_Z X h top pc lv (.int x :: rest) := by
  obtain ⟨p, l, e, R, s, m, args, below, meth, c, Q, G0⟩ := X
  obtain ⟨hx, hb, hml, hown, hts, hr, hlk, hnm, hen, hR, rfl⟩ := hX
  intro H locs ls a1 a2 a3 hl
  exact lv_i2l hx hb hd rfl (k H locs ls a1 a2 a3 hl)
theorem r_lcmp (hX : z_ok X cc nL own ret nm d G) {x y : Int64} (hd : decode cc pc = .ok (.lcmp, 1)) (k : z_Z X h top (pc + 1) lv (.int (lg_cmp x y) :: rest)) : z_Z X h top pc lv (.long y :: .long x :: rest) := by
  obtain ⟨p, l, e, R, s, m, args, below, meth, c, Q, G0⟩ := X
  obtain ⟨hx, hb, hml, hown, hts, hr, hlk, hnm, hen, hR, rfl⟩ := hX
  intro H locs ls a1 a2 a3 hl
  exact W.lcmp hx hb hd (k H locs ls a1 a2 a3 hl)
theorem r_dup (hX : z_ok X cc nL own ret nm d G) {va : Value} (hva : va.category = 1) (hd : decode cc pc = .ok (.dup, 1)) (k : z_Z X h top (pc + 1) lv (va :: va :: rest)) : z_Z X h top pc lv (va :: rest) := by
  obtain ⟨p, l, e, R, s, m, args, below, meth, c, Q, G0⟩ := X
  obtain ⟨hx, hb, hml, hown, hts, hr, hlk, hnm, hen, hR, rfl⟩ := hX
  intro H locs ls a1 a2 a3 hl
  exact lv_dup hx hb hd hva (k H locs ls a1 a2 a3 hl)
theorem r_pop (hX : z_ok X cc nL own ret nm d G) {va : Value} (hva : va.category = 1) (hd : decode cc pc = .ok (.pop, 1)) (k : z_Z X h top (pc + 1) lv (rest)) : z_Z X h top pc lv (va :: rest) := by
  obtain ⟨p, l, e, R, s, m, args, below, meth, c, Q, G0⟩ := X
  obtain ⟨hx, hb, hml, hown, hts, hr, hlk, hnm, hen, hR, rfl⟩ := hX
  intro H locs ls a1 a2 a3 hl
  exact lv_pop hx hb hd hva (k H locs ls a1 a2 a3 hl)
theorem r_dup_x1 (hX : z_ok X cc nL own ret nm d G) {va vb : Value} (hva : va.category = 1) (hvb : vb.category = 1) (hd : decode cc pc = .ok (.dup_x1, 1)) (k : z_Z X h top (pc + 1) lv (va :: vb :: va :: rest)) : z_Z X h top pc lv (va :: vb :: rest) := by
  obtain ⟨p, l, e, R, s, m, args, below, meth, c, Q, G0⟩ := X
  obtain ⟨hx, hb, hml, hown, hts, hr, hlk, hnm, hen, hR, rfl⟩ := hX
  intro H locs ls a1 a2 a3 hl
  exact lv_dup_x1 hx hb hd hva hvb (k H locs ls a1 a2 a3 hl)
theorem r_dup2_11 (hX : z_ok X cc nL own ret nm d G) {va vb : Value} (hva : va.category = 1) (hvb : vb.category = 1) (hd : decode cc pc = .ok (.dup2, 1)) (k : z_Z X h top (pc + 1) lv (va :: vb :: va :: vb :: rest)) : z_Z X h top pc lv (va :: vb :: rest) := by
  obtain ⟨p, l, e, R, s, m, args, below, meth, c, Q, G0⟩ := X
  obtain ⟨hx, hb, hml, hown, hts, hr, hlk, hnm, hen, hR, rfl⟩ := hX
  intro H locs ls a1 a2 a3 hl
  exact lv_dup2_11 hx hb hd hva hvb (k H locs ls a1 a2 a3 hl)
theorem r_castN (hX : z_ok X cc nL own ret nm d G) {idx : Nat} (hd : decode cc pc = .ok (.checkcast idx, 3)) (k : z_Z X h top (pc + 3) lv (.null :: rest)) : z_Z X h top pc lv (.null :: rest) := by
  obtain ⟨p, l, e, R, s, m, args, below, meth, c, Q, G0⟩ := X
  obtain ⟨hx, hb, hml, hown, hts, hr, hlk, hnm, hen, hR, rfl⟩ := hX
  intro H locs ls a1 a2 a3 hl
  exact lv_castN hx hb hd (k H locs ls a1 a2 a3 hl)
theorem r_ifnull (hX : z_ok X cc nL own ret nm d G) {x : Nat} {off : Int} (hd : decode cc pc = .ok (.ifnull off, 3)) (k : z_Z X h top (pc + 3) lv (rest)) : z_Z X h top pc lv (.ref x :: rest) := by
  obtain ⟨p, l, e, R, s, m, args, below, meth, c, Q, G0⟩ := X
  obtain ⟨hx, hb, hml, hown, hts, hr, hlk, hnm, hen, hR, rfl⟩ := hX
  intro H locs ls a1 a2 a3 hl
  exact lv_ifnull hx hb hd (k H locs ls a1 a2 a3 hl)
theorem r_ifnonnullN (hX : z_ok X cc nL own ret nm d G) {off : Int} (hd : decode cc pc = .ok (.ifnonnull off, 3)) (k : z_Z X h top (pc + 3) lv (rest)) : z_Z X h top pc lv (.null :: rest) := by
  obtain ⟨p, l, e, R, s, m, args, below, meth, c, Q, G0⟩ := X
  obtain ⟨hx, hb, hml, hown, hts, hr, hlk, hnm, hen, hR, rfl⟩ := hX
  intro H locs ls a1 a2 a3 hl
  exact lv_ifnonnullN hx hb hd (k H locs ls a1 a2 a3 hl)
theorem r_ifnonnull (hX : z_ok X cc nL own ret nm d G) {x : Nat} {off : Int} {tgt : Nat} (ht : (pc : Int) + off = (tgt : Int)) (hd : decode cc pc = .ok (.ifnonnull off, 3)) (k : z_Z X h top (tgt) lv (rest)) : z_Z X h top pc lv (.ref x :: rest) := by
  obtain ⟨p, l, e, R, s, m, args, below, meth, c, Q, G0⟩ := X
  obtain ⟨hx, hb, hml, hown, hts, hr, hlk, hnm, hen, hR, rfl⟩ := hX
  intro H locs ls a1 a2 a3 hl
  exact lv_ifnonnull hx hb hd ht (k H locs ls a1 a2 a3 hl)
theorem r_ifnullN (hX : z_ok X cc nL own ret nm d G) {off : Int} {tgt : Nat} (ht : (pc : Int) + off = (tgt : Int)) (hd : decode cc pc = .ok (.ifnull off, 3)) (k : z_Z X h top (tgt) lv (rest)) : z_Z X h top pc lv (.null :: rest) := by
  obtain ⟨p, l, e, R, s, m, args, below, meth, c, Q, G0⟩ := X
  obtain ⟨hx, hb, hml, hown, hts, hr, hlk, hnm, hen, hR, rfl⟩ := hX
  intro H locs ls a1 a2 a3 hl
  exact lv_ifnullN hx hb hd ht (k H locs ls a1 a2 a3 hl)
theorem r_goto (hX : z_ok X cc nL own ret nm d G) {off : Int} {tgt : Nat} (ht : (pc : Int) + off = (tgt : Int)) (hd : decode cc pc = .ok (.goto off, 3)) (k : z_Z X h top (tgt) lv (rest)) : z_Z X h top pc lv (rest) := by
  obtain ⟨p, l, e, R, s, m, args, below, meth, c, Q, G0⟩ := X
  obtain ⟨hx, hb, hml, hown, hts, hr, hlk, hnm, hen, hR, rfl⟩ := hX
  intro H locs ls a1 a2 a3 hl
  exact lv_goto hx hb hd ht (k H locs ls a1 a2 a3 hl)
theorem r_tableOut (hX : z_ok X cc nL own ret nm d G) {dflt lo hi : Int} {offs : Array Int} {len : Nat} {x : Int32} {tgt : Nat} (hh : x.toInt < lo ∨ hi < x.toInt) (ht : (pc : Int) + dflt = (tgt : Int)) (hd : decode cc pc = .ok (.tableswitch dflt lo hi offs, len)) (k : z_Z X h top (tgt) lv (rest)) : z_Z X h top pc lv (.int x :: rest) := by
  obtain ⟨p, l, e, R, s, m, args, below, meth, c, Q, G0⟩ := X
  obtain ⟨hx, hb, hml, hown, hts, hr, hlk, hnm, hen, hR, rfl⟩ := hX
  intro H locs ls a1 a2 a3 hl
  exact lv_tableOut hx hb hd hh ht (k H locs ls a1 a2 a3 hl)
theorem r_tableIn (hX : z_ok X cc nL own ret nm d G) {dflt lo hi : Int} {offs : Array Int} {len : Nat} {x : Int32} {off : Int} {tgt : Nat} (h1 : ¬ x.toInt < lo) (h2 : ¬ hi < x.toInt) (ho : offs[(x.toInt - lo).toNat]? = some off) (ht : (pc : Int) + off = (tgt : Int)) (hd : decode cc pc = .ok (.tableswitch dflt lo hi offs, len)) (k : z_Z X h top (tgt) lv (rest)) : z_Z X h top pc lv (.int x :: rest) := by
  obtain ⟨p, l, e, R, s, m, args, below, meth, c, Q, G0⟩ := X
  obtain ⟨hx, hb, hml, hown, hts, hr, hlk, hnm, hen, hR, rfl⟩ := hX
  intro H locs ls a1 a2 a3 hl
  exact lv_tableIn hx hb hd h1 h2 ho ht (k H locs ls a1 a2 a3 hl)
theorem r_if_eq (hX : z_ok X cc nL own ret nm d G) {x : Int32} {off : Int} {tgt : Nat} (hd : decode cc pc = .ok (.ifCond .eq off, 3)) (ht : (pc : Int) + off = (tgt : Int)) (kt : x = 0 → z_Z X h top tgt lv rest) (kf : ¬ x = 0 → z_Z X h top (pc + 3) lv rest) : z_Z X h top pc lv (.int x :: rest) := by
  obtain ⟨p, l, e, R, s, m, args, below, meth, c, Q, G0⟩ := X
  obtain ⟨hx, hb, hml, hown, hts, hr, hlk, hnm, hen, hR, rfl⟩ := hX
  intro H locs ls a1 a2 a3 hl
  exact lv_if_eq hx hb hd ht (fun q => kt q H locs ls a1 a2 a3 hl) (fun q => kf q H locs ls a1 a2 a3 hl)
theorem r_icmp_eq (hX : z_ok X cc nL own ret nm d G) {x y : Int32} {off : Int} {tgt : Nat} (hd : decode cc pc = .ok (.if_icmp .eq off, 3)) (ht : (pc : Int) + off = (tgt : Int)) (kt : x = y → z_Z X h top tgt lv rest) (kf : ¬ x = y → z_Z X h top (pc + 3) lv rest) : z_Z X h top pc lv (.int y :: .int x :: rest) := by
  obtain ⟨p, l, e, R, s, m, args, below, meth, c, Q, G0⟩ := X
  obtain ⟨hx, hb, hml, hown, hts, hr, hlk, hnm, hen, hR, rfl⟩ := hX
  intro H locs ls a1 a2 a3 hl
  exact lv_icmp_eq hx hb hd ht (fun q => kt q H locs ls a1 a2 a3 hl) (fun q => kf q H locs ls a1 a2 a3 hl)
theorem r_if_ne (hX : z_ok X cc nL own ret nm d G) {x : Int32} {off : Int} {tgt : Nat} (hd : decode cc pc = .ok (.ifCond .ne off, 3)) (ht : (pc : Int) + off = (tgt : Int)) (kt : ¬ x = 0 → z_Z X h top tgt lv rest) (kf : x = 0 → z_Z X h top (pc + 3) lv rest) : z_Z X h top pc lv (.int x :: rest) := by
  obtain ⟨p, l, e, R, s, m, args, below, meth, c, Q, G0⟩ := X
  obtain ⟨hx, hb, hml, hown, hts, hr, hlk, hnm, hen, hR, rfl⟩ := hX
  intro H locs ls a1 a2 a3 hl
  exact lv_if_ne hx hb hd ht (fun q => kt q H locs ls a1 a2 a3 hl) (fun q => kf q H locs ls a1 a2 a3 hl)
theorem r_icmp_ne (hX : z_ok X cc nL own ret nm d G) {x y : Int32} {off : Int} {tgt : Nat} (hd : decode cc pc = .ok (.if_icmp .ne off, 3)) (ht : (pc : Int) + off = (tgt : Int)) (kt : ¬ x = y → z_Z X h top tgt lv rest) (kf : x = y → z_Z X h top (pc + 3) lv rest) : z_Z X h top pc lv (.int y :: .int x :: rest) := by
  obtain ⟨p, l, e, R, s, m, args, below, meth, c, Q, G0⟩ := X
  obtain ⟨hx, hb, hml, hown, hts, hr, hlk, hnm, hen, hR, rfl⟩ := hX
  intro H locs ls a1 a2 a3 hl
  exact lv_icmp_ne hx hb hd ht (fun q => kt q H locs ls a1 a2 a3 hl) (fun q => kf q H locs ls a1 a2 a3 hl)
theorem r_if_lt (hX : z_ok X cc nL own ret nm d G) {x : Int32} {off : Int} {tgt : Nat} (hd : decode cc pc = .ok (.ifCond .lt off, 3)) (ht : (pc : Int) + off = (tgt : Int)) (kt : x < 0 → z_Z X h top tgt lv rest) (kf : ¬ x < 0 → z_Z X h top (pc + 3) lv rest) : z_Z X h top pc lv (.int x :: rest) := by
  obtain ⟨p, l, e, R, s, m, args, below, meth, c, Q, G0⟩ := X
  obtain ⟨hx, hb, hml, hown, hts, hr, hlk, hnm, hen, hR, rfl⟩ := hX
  intro H locs ls a1 a2 a3 hl
  exact lv_if_lt hx hb hd ht (fun q => kt q H locs ls a1 a2 a3 hl) (fun q => kf q H locs ls a1 a2 a3 hl)
theorem r_icmp_lt (hX : z_ok X cc nL own ret nm d G) {x y : Int32} {off : Int} {tgt : Nat} (hd : decode cc pc = .ok (.if_icmp .lt off, 3)) (ht : (pc : Int) + off = (tgt : Int)) (kt : x < y → z_Z X h top tgt lv rest) (kf : ¬ x < y → z_Z X h top (pc + 3) lv rest) : z_Z X h top pc lv (.int y :: .int x :: rest) := by
  obtain ⟨p, l, e, R, s, m, args, below, meth, c, Q, G0⟩ := X
  obtain ⟨hx, hb, hml, hown, hts, hr, hlk, hnm, hen, hR, rfl⟩ := hX
  intro H locs ls a1 a2 a3 hl
  exact lv_icmp_lt hx hb hd ht (fun q => kt q H locs ls a1 a2 a3 hl) (fun q => kf q H locs ls a1 a2 a3 hl)
theorem r_if_ge (hX : z_ok X cc nL own ret nm d G) {x : Int32} {off : Int} {tgt : Nat} (hd : decode cc pc = .ok (.ifCond .ge off, 3)) (ht : (pc : Int) + off = (tgt : Int)) (kt : 0 ≤ x → z_Z X h top tgt lv rest) (kf : ¬ 0 ≤ x → z_Z X h top (pc + 3) lv rest) : z_Z X h top pc lv (.int x :: rest) := by
  obtain ⟨p, l, e, R, s, m, args, below, meth, c, Q, G0⟩ := X
  obtain ⟨hx, hb, hml, hown, hts, hr, hlk, hnm, hen, hR, rfl⟩ := hX
  intro H locs ls a1 a2 a3 hl
  exact lv_if_ge hx hb hd ht (fun q => kt q H locs ls a1 a2 a3 hl) (fun q => kf q H locs ls a1 a2 a3 hl)
theorem r_icmp_ge (hX : z_ok X cc nL own ret nm d G) {x y : Int32} {off : Int} {tgt : Nat} (hd : decode cc pc = .ok (.if_icmp .ge off, 3)) (ht : (pc : Int) + off = (tgt : Int)) (kt : y ≤ x → z_Z X h top tgt lv rest) (kf : ¬ y ≤ x → z_Z X h top (pc + 3) lv rest) : z_Z X h top pc lv (.int y :: .int x :: rest) := by
  obtain ⟨p, l, e, R, s, m, args, below, meth, c, Q, G0⟩ := X
  obtain ⟨hx, hb, hml, hown, hts, hr, hlk, hnm, hen, hR, rfl⟩ := hX
  intro H locs ls a1 a2 a3 hl
  exact lv_icmp_ge hx hb hd ht (fun q => kt q H locs ls a1 a2 a3 hl) (fun q => kf q H locs ls a1 a2 a3 hl)
theorem r_if_gt (hX : z_ok X cc nL own ret nm d G) {x : Int32} {off : Int} {tgt : Nat} (hd : decode cc pc = .ok (.ifCond .gt off, 3)) (ht : (pc : Int) + off = (tgt : Int)) (kt : 0 < x → z_Z X h top tgt lv rest) (kf : ¬ 0 < x → z_Z X h top (pc + 3) lv rest) : z_Z X h top pc lv (.int x :: rest) := by
  obtain ⟨p, l, e, R, s, m, args, below, meth, c, Q, G0⟩ := X
  obtain ⟨hx, hb, hml, hown, hts, hr, hlk, hnm, hen, hR, rfl⟩ := hX
  intro H locs ls a1 a2 a3 hl
  exact lv_if_gt hx hb hd ht (fun q => kt q H locs ls a1 a2 a3 hl) (fun q => kf q H locs ls a1 a2 a3 hl)
theorem r_icmp_gt (hX : z_ok X cc nL own ret nm d G) {x y : Int32} {off : Int} {tgt : Nat} (hd : decode cc pc = .ok (.if_icmp .gt off, 3)) (ht : (pc : Int) + off = (tgt : Int)) (kt : y < x → z_Z X h top tgt lv rest) (kf : ¬ y < x → z_Z X h top (pc + 3) lv rest) : z_Z X h top pc lv (.int y :: .int x :: rest) := by
  obtain ⟨p, l, e, R, s, m, args, below, meth, c, Q, G0⟩ := X
  obtain ⟨hx, hb, hml, hown, hts, hr, hlk, hnm, hen, hR, rfl⟩ := hX
  intro H locs ls a1 a2 a3 hl
  exact lv_icmp_gt hx hb hd ht (fun q => kt q H locs ls a1 a2 a3 hl) (fun q => kf q H locs ls a1 a2 a3 hl)
theorem r_if_le (hX : z_ok X cc nL own ret nm d G) {x : Int32} {off : Int} {tgt : Nat} (hd : decode cc pc = .ok (.ifCond .le off, 3)) (ht : (pc : Int) + off = (tgt : Int)) (kt : x ≤ 0 → z_Z X h top tgt lv rest) (kf : ¬ x ≤ 0 → z_Z X h top (pc + 3) lv rest) : z_Z X h top pc lv (.int x :: rest) := by
  obtain ⟨p, l, e, R, s, m, args, below, meth, c, Q, G0⟩ := X
  obtain ⟨hx, hb, hml, hown, hts, hr, hlk, hnm, hen, hR, rfl⟩ := hX
  intro H locs ls a1 a2 a3 hl
  exact lv_if_le hx hb hd ht (fun q => kt q H locs ls a1 a2 a3 hl) (fun q => kf q H locs ls a1 a2 a3 hl)
theorem r_icmp_le (hX : z_ok X cc nL own ret nm d G) {x y : Int32} {off : Int} {tgt : Nat} (hd : decode cc pc = .ok (.if_icmp .le off, 3)) (ht : (pc : Int) + off = (tgt : Int)) (kt : x ≤ y → z_Z X h top tgt lv rest) (kf : ¬ x ≤ y → z_Z X h top (pc + 3) lv rest) : z_Z X h top pc lv (.int y :: .int x :: rest) := by
  obtain ⟨p, l, e, R, s, m, args, below, meth, c, Q, G0⟩ := X
  obtain ⟨hx, hb, hml, hown, hts, hr, hlk, hnm, hen, hR, rfl⟩ := hX
  intro H locs ls a1 a2 a3 hl
  exact lv_icmp_le hx hb hd ht (fun q => kt q H locs ls a1 a2 a3 hl) (fun q => kf q H locs ls a1 a2 a3 hl)
theorem r_acmp_eq (hX : z_ok X cc nL own ret nm d G) {x y : Nat} {off : Int} {tgt : Nat} (hd : decode cc pc = .ok (.if_acmp .eq off, 3)) (ht : (pc : Int) + off = (tgt : Int)) (kt : x = y → z_Z X h top tgt lv rest) (kf : ¬ x = y → z_Z X h top (pc + 3) lv rest) : z_Z X h top pc lv (.ref y :: .ref x :: rest) := by
  obtain ⟨p, l, e, R, s, m, args, below, meth, c, Q, G0⟩ := X
  obtain ⟨hx, hb, hml, hown, hts, hr, hlk, hnm, hen, hR, rfl⟩ := hX
  intro H locs ls a1 a2 a3 hl
  exact lv_acmp_eq (rx := some x) (ry := some y) hx hb hd ht (fun q => kt (by simpa using q) H locs ls a1 a2 a3 hl) (fun q => kf (by simpa using q) H locs ls a1 a2 a3 hl)
theorem r_acmp_ne (hX : z_ok X cc nL own ret nm d G) {x y : Nat} {off : Int} {tgt : Nat} (hd : decode cc pc = .ok (.if_acmp .ne off, 3)) (ht : (pc : Int) + off = (tgt : Int)) (kt : ¬ x = y → z_Z X h top tgt lv rest) (kf : x = y → z_Z X h top (pc + 3) lv rest) : z_Z X h top pc lv (.ref y :: .ref x :: rest) := by
  obtain ⟨p, l, e, R, s, m, args, below, meth, c, Q, G0⟩ := X
  obtain ⟨hx, hb, hml, hown, hts, hr, hlk, hnm, hen, hR, rfl⟩ := hX
  intro H locs ls a1 a2 a3 hl
  exact lv_acmp_ne (rx := some x) (ry := some y) hx hb hd ht (fun q => kt (by simpa using q) H locs ls a1 a2 a3 hl) (fun q => kf (by simpa using q) H locs ls a1 a2 a3 hl)
theorem r_lookup (hX : z_ok X cc nL own ret nm d G) {dflt : Int} {ps : Array (Int × Int)} {len : Nat} {x : Int32} {off : Int} {tgt : Nat} (hd : decode cc pc = .ok (.lookupswitch dflt ps, len)) (hp : (ps.toList.zip (ps.toList.drop 1)).all (fun (a, next) => a.1 < next.1) = true) (ho : Op.lookupswitch.offset ps.toList dflt x.toInt = off) (ht : (pc : Int) + off = (tgt : Int)) (k : z_Z X h top tgt lv rest) : z_Z X h top pc lv (.int x :: rest) := by
  obtain ⟨p, l, e, R, s, m, args, below, meth, c, Q, G0⟩ := X
  obtain ⟨hx, hb, hml, hown, hts, hr, hlk, hnm, hen, hR, rfl⟩ := hX
  intro H locs ls a1 a2 a3 hl
  exact lv_lookup hx hb hd hp ho ht (k H locs ls a1 a2 a3 hl)
theorem r_ldc (hX : z_ok X cc nL own ret nm d G) {idx : Nat} {v : Int32} (hw : Cond.constant own idx v ∈ zGT) (hd : decode cc pc = .ok (.ldc idx, 2)) (k : z_Z X h top (pc + 2) lv (.int v :: rest)) : z_Z X h top pc lv rest := by
  obtain ⟨p, l, e, R, s, m, args, below, meth, c, Q, G0⟩ := X
  obtain ⟨hx, hb, hml, hown, hts, hr, hlk, hnm, hen, hR, rfl⟩ := hX
  intro H locs ls a1 a2 a3 hl
  exact lv_ldc hx hb hown (hts _ hw) hd (k H locs ls a1 a2 a3 hl)
theorem r_ldcw (hX : z_ok X cc nL own ret nm d G) {idx : Nat} {v : Int32} (hw : Cond.constant own idx v ∈ zGT) (hd : decode cc pc = .ok (.ldc_w idx, 3)) (k : z_Z X h top (pc + 3) lv (.int v :: rest)) : z_Z X h top pc lv rest := by
  obtain ⟨p, l, e, R, s, m, args, below, meth, c, Q, G0⟩ := X
  obtain ⟨hx, hb, hml, hown, hts, hr, hlk, hnm, hen, hR, rfl⟩ := hX
  intro H locs ls a1 a2 a3 hl
  exact lv_ldcw hx hb hown (hts _ hw) hd (k H locs ls a1 a2 a3 hl)
theorem r_ldc2 (hX : z_ok X cc nL own ret nm d G) {idx : Nat} {v : Int64} (hw : Cond.constantLong own idx v ∈ zGT) (hd : decode cc pc = .ok (.ldc2_w idx, 3)) (k : z_Z X h top (pc + 3) lv (.long v :: rest)) : z_Z X h top pc lv rest := by
  obtain ⟨p, l, e, R, s, m, args, below, meth, c, Q, G0⟩ := X
  obtain ⟨hx, hb, hml, hown, hts, hr, hlk, hnm, hen, hR, rfl⟩ := hX
  intro H locs ls a1 a2 a3 hl
  exact lv_ldc2 hx hb hown (hts _ hw) hd (k H locs ls a1 a2 a3 hl)
theorem r_ldcM (hX : z_ok X cc nL own ret nm d G) {idx : Nat} (hw : Cond.classLink own idx "[Ljava/lang/Object;" ∈ zGT) (hd : decode cc pc = .ok (.ldc idx, 2)) (k : z_Z X h top (pc + 2) lv (.ref (z_mO G) :: rest)) : z_Z X h top pc lv rest := by
  obtain ⟨p, l, e, R, s, m, args, below, meth, c, Q, G0⟩ := X
  obtain ⟨hx, hb, hml, hown, hts, hr, hlk, hnm, hen, hR, rfl⟩ := hX
  intro H locs ls a1 a2 a3 hl
  exact va_ldcM hx hb hown (hts _ hw) hen.2.2.2.1.1 hd (k H locs ls a1 a2 a3 hl)
theorem r_getsE (hX : z_ok X cc nL own ret nm d G) {idx : Nat} (hw : Cond.fieldLink own idx "java/util/ArrayList" "DEFAULTCAPACITY_EMPTY_ELEMENTDATA" "[Ljava/lang/Object;" ∈ zGT) (hd : decode cc pc = .ok (.getstatic idx, 3)) (k : z_Z X h top (pc + 3) lv (.ref (z_tE G) :: rest)) : z_Z X h top pc lv rest := by
  obtain ⟨p, l, e, R, s, m, args, below, meth, c, Q, G0⟩ := X
  obtain ⟨hx, hb, hml, hown, hts, hr, hlk, hnm, hen, hR, rfl⟩ := hX
  intro H locs ls a1 a2 a3 hl
  exact va_gets hx hb hen.2.1 a2 hown (hts _ hw) (fun _ q => q) hd (k H locs ls a1 a2 a3 hl)
theorem r_alenE (hX : z_ok X cc nL own ret nm d G) (hd : decode cc pc = .ok (.arraylength, 1)) (k : z_Z X h top (pc + 1) lv (.int 0 :: rest)) : z_Z X h top pc lv (.ref (z_tE G) :: rest) := by
  obtain ⟨p, l, e, R, s, m, args, below, meth, c, Q, G0⟩ := X
  obtain ⟨hx, hb, hml, hown, hts, hr, hlk, hnm, hen, hR, rfl⟩ := hX
  intro H locs ls a1 a2 a3 hl
  exact va_tlen hx hb hen.2.2.1 a2 (show Int32.ofNat 0 = 0 by decide) hd (k H locs ls a1 a2 a3 hl)
theorem r_sald (hX : z_ok X cc nL own ret nm d G) {i : Int32} (hin : vp_in i (z_L G)) (hd : decode cc pc = .ok (.iaload, 1)) (k : z_Z X h top (pc + 1) lv (.int (z_xs G i.toNatClampNeg) :: rest)) : z_Z X h top pc lv (.int i :: .ref (z_bs G) :: rest) := by
  obtain ⟨p, l, e, R, s, m, args, below, meth, c, Q, G0⟩ := X
  obtain ⟨hx, hb, hml, hown, hts, hr, hlk, hnm, hen, hR, rfl⟩ := hX
  intro H locs ls a1 a2 a3 hl
  obtain ⟨-, -, -, -, hsx, hsb, hsz⟩ := hen
  exact va_sld hx hb hsx (by omega) (show ¬ z_b G0 ≤ z_bs G0 by omega) a2 hin hd (k H locs ls a1 a2 a3 hl)
theorem r_slen (hX : z_ok X cc nL own ret nm d G) (hd : decode cc pc = .ok (.arraylength, 1)) (k : z_Z X h top (pc + 1) lv (.int (Int32.ofNat (z_L G)) :: rest)) : z_Z X h top pc lv (.ref (z_bs G) :: rest) := by
  obtain ⟨p, l, e, R, s, m, args, below, meth, c, Q, G0⟩ := X
  obtain ⟨hx, hb, hml, hown, hts, hr, hlk, hnm, hen, hR, rfl⟩ := hX
  intro H locs ls a1 a2 a3 hl
  obtain ⟨-, -, -, -, hsx, hsb, hsz⟩ := hen
  exact va_slen hx hb hsx (by omega) (show ¬ z_b G0 ≤ z_bs G0 by omega) a2 hd (k H locs ls a1 a2 a3 hl)
theorem r_objInit (hX : z_ok X cc nL own ret nm d G) {idx a : Nat} (h1 : Cond.methodLink own idx objectInit ∈ zGT) (h2 : Cond.instanceMethod objectInit ∈ zGT) (h3 : Cond.code objectInit ⟨#[0xb1]⟩ 1 none ∈ zGT) (hw : (rest.map fun v => v.category).sum ≤ 8) (hd : decode cc pc = .ok (.invokespecial idx, 3)) (k : z_Z X h top (pc + 3) lv rest) : z_Z X h top pc lv (.ref a :: rest) := by
  obtain ⟨p, l, e, R, s, m, args, below, meth, c, Q, G0⟩ := X
  obtain ⟨hx, hb, hml, hown, hts, hr, hlk, hnm, hen, hR, rfl⟩ := hX
  intro H locs ls a1 a2 a3 hl
  refine W.objInit hx hb hown (hts _ h1) (hts _ h2) (hts _ h3) rfl hl.1 rfl hd (by omega) (by show 2 * 0 + _ + 12 ≤ _; omega) ?_
  exact k H locs ls a1 a2 a3 hl
theorem r_max (hX : z_ok X cc nL own ret nm d G) {idx : Nat} {x y : Int32} (h1 : Cond.methodLink own idx Lib.Math.max.name ∈ zGT) (h2 : Cond.static Lib.Math.max.name ∈ zGT) (h3 : Cond.initialized "java/lang/Math" ∈ zGT) (h4 : Cond.code Lib.Math.max.name Lib.Math.max.code 2 (some .int) ∈ zGT) (hw : (rest.map fun v => v.category).sum ≤ 8) (hd : decode cc pc = .ok (.invokestatic idx, 3)) (k : z_Z X h top (pc + 3) lv (.int (if x < y then y else x) :: rest)) : z_Z X h top pc lv (.int y :: .int x :: rest) := by
  obtain ⟨p, l, e, R, s, m, args, below, meth, c, Q, G0⟩ := X
  obtain ⟨hx, hb, hml, hown, hts, hr, hlk, hnm, hen, hR, rfl⟩ := hX
  intro H locs ls a1 a2 a3 hl
  have g3 := a1.2.2.1
  have g4 := hen.2.2.2.2.2.2
  refine va_mmax hx hb hl.1.symm hown (hts _ h1) (hts _ h2) (hts _ h3) (hts _ h4) (by omega) (by omega) (by omega) (by omega) hd (k H locs ls a1 a2 a3 hl)
theorem r_min (hX : z_ok X cc nL own ret nm d G) {idx : Nat} {x y : Int32} (h1 : Cond.methodLink own idx Lib.Math.min.name ∈ zGT) (h2 : Cond.static Lib.Math.min.name ∈ zGT) (h3 : Cond.initialized "java/lang/Math" ∈ zGT) (h4 : Cond.code Lib.Math.min.name Lib.Math.min.code 2 (some .int) ∈ zGT) (hw : (rest.map fun v => v.category).sum ≤ 8) (hd : decode cc pc = .ok (.invokestatic idx, 3)) (k : z_Z X h top (pc + 3) lv (.int (if y < x then y else x) :: rest)) : z_Z X h top pc lv (.int y :: .int x :: rest) := by
  obtain ⟨p, l, e, R, s, m, args, below, meth, c, Q, G0⟩ := X
  obtain ⟨hx, hb, hml, hown, hts, hr, hlk, hnm, hen, hR, rfl⟩ := hX
  intro H locs ls a1 a2 a3 hl
  have g3 := a1.2.2.1
  have g4 := hen.2.2.2.2.2.2
  refine va_mmin hx hb hl.1.symm hown (hts _ h1) (hts _ h2) (hts _ h3) (hts _ h4) (by omega) (by omega) (by omega) (by omega) hd (k H locs ls a1 a2 a3 hl)

end ZR
/-! the memory -/
def z_fl (own : String) (idx ci j : Nat) : Prop := ∃ (C : String) (T : u_T) (N : Nat) (ref : String), vwCl[ci]? = some (C, T, N) ∧ j < N ∧ (∀ w ∈ u_ws C T N, w ∈ zGT) ∧ Cond.fieldLink own idx ref (T j).2.1 (T j).2.2.1 ∈ zGT ∧ (ref = (T j).1 ∨ Cond.sameField ref (T j).1 (T j).2.1 (T j).2.2.1 ∈ zGT)
/-- what a put asks: also the types, the names apart, final or not, the field's type -/
def z_fp (own : String) (idx ci j : Nat) (fin : Bool) (ty : FieldType) : Prop := ∃ (C : String) (T : u_T) (N : Nat) (ref : String) (ty0 : Nat → FieldType), vwCl[ci]? = some (C, T, N) ∧ j < N ∧ (∀ w ∈ u_ws C T N, w ∈ zGT) ∧ Cond.fieldLink own idx ref (T j).2.1 (T j).2.2.1 ∈ zGT ∧ (ref = (T j).1 ∨ Cond.sameField ref (T j).1 (T j).2.1 (T j).2.2.1 ∈ zGT) ∧
  (∀ i, i < N → parseFieldDescriptor (T i).2.2.1 = some (ty0 i)) ∧ (∀ a, a < N → ∀ b, b < N → a ≠ b → (T a).2.1 ≠ (T b).2.1) ∧ (T j).2.2.2 = fin ∧ (fin = true → (T j).1 = own) ∧ parseFieldDescriptor (T j).2.2.1 = some ty
def z_nw (own : String) (idx ci n : Nat) (fs : List Value) : Prop := ∃ (C : String) (T : u_T) (ty0 : Nat → FieldType), vwCl[ci]? = some (C, T, n) ∧ (∀ w ∈ u_ws C T n, w ∈ zGT) ∧ (∀ i, i < n → parseFieldDescriptor (T i).2.2.1 = some (ty0 i)) ∧ Cond.classLink own idx C ∈ zGT ∧ Cond.instantiable C n ∈ zGT ∧ Cond.initialized C ∈ zGT ∧ (∀ j, j < n → defaultValue (ty0 j) = vp_V fs j) ∧ n ≤ 1312
/-- an object that may stand in an Object[] -/
def z_ob (G : zG) (h : zH) (top a : Nat) : Prop := ∃ (ci : Nat) (fs : List Value) (r : vw_C), z_at G h top a (.inr (ci, fs)) ∧ vwCl[ci]? = some r ∧ Cond.castable r.1 "java/lang/Object" ∈ zNW
theorem z_HI.mk {G : zG} {h : zH} {top : Nat} {H1 : Heap} (hP : va_P (z_D G) vwCl (z_wl (z_b G) top h) H1) (hlt : z_b G < top) (hle : H1.size ≤ top) (hk : top ≤ z_b G + 320) : z_HI G h top H1 := by
  have := va_at.lt (hP (top - 1 - z_b G) _ (z_wl_get (a := top - 1) (by omega) (by omega)))
  have h2 : top - 1 < H1.size := this
  exact ⟨by omega, by omega, hk, hP⟩
theorem z_HI.lt {G : zG} {h : zH} {top a : Nat} {e : va_E} {H : Heap} (hH : z_HI G h top H) (ha : z_at G h top a e) : (z_wl (z_b G) top h)[a - z_b G]? = some (a, e) := by
  obtain ⟨h1, h2, h3⟩ := ha
  rw [z_wl_get h1 h2, h3]
/-- a fresh cell's address is the top -/
theorem z_fresh {D : va_G} {b top q : Nat} {h : zH} {e : va_E} {H1 : Heap} (hb : b ≤ top) (hP : va_P D vwCl (z_wl b top h ++ [(q, e)]) H1) (hD : va_D (fun x => b ≤ x) (z_wl b top h ++ [(q, e)])) (hle : H1.size ≤ top + 1) : q = top := by
  have e1 : (z_wl b top h ++ [(q, e)])[top - b]? = some (q, e) := by
    rw [List.getElem?_append_right (by rw [z_wl_len]; exact Nat.le_refl _), z_wl_len, Nat.sub_self]
    rfl
  have h1 : q < H1.size := va_at.lt (hP _ _ e1)
  have h2 : b ≤ q := hD.2 _ _ e1
  rcases Nat.lt_or_ge q top with hq | hq
  · have e2 : (z_wl b top h ++ [(q, e)])[q - b]? = some (q, h q) := by
      rw [List.getElem?_append_left (by rw [z_wl_len]; omega), z_wl_get h2 hq]
    have := hD.1 _ _ _ _ e1 e2 rfl
    omega
  · omega
section ZM
variable {X : zX} {cc : ByteArray} {nL d : Nat} {own nm : String} {ret : Option FieldType} {G : zG} {h : zH} {top pc : Nat} {lv : List (Nat × Value)} {rest : List Value} {a : Nat}
theorem r_getf (hX : z_ok X cc nL own ret nm d G) {idx ci j : Nat} {fs : List Value} {v : Value} (hf : z_fl own idx ci j) (ha : z_at G h top a (.inr (ci, fs))) (hv : fs[j]? = some v) (hd : decode cc pc = .ok (.getfield idx, 3)) (kk : z_Z X h top (pc + 3) lv (v :: rest)) : z_Z X h top pc lv (.ref a :: rest) := by
  obtain ⟨p, l, e, R, s, m, args, below, meth, c, Q, G0⟩ := X
  obtain ⟨hx, hb, hml, hown, hts, hr, hlk, hnm, hen, hR, rfl⟩ := hX
  intro H locs ls a1 a2 a3 hl
  obtain ⟨C, T, N, ref, hc, hj, hin, hlink, hsame⟩ := hf
  refine va_get (Ts := zGT) hx hb hts hin hown hen.1 a1.2.2.2 (a - z_b G0) (a1.lt ha) hc j hj (hts _ hlink) (fun x q => ?_) hv hd (kk H locs ls a1 a2 a3 hl)
  rcases hsame with e | e
  · rw [e]; exact q
  · exact u_same (hts _ e) x q
theorem r_putf (hX : z_ok X cc nL own ret nm d G) {idx ci j : Nat} {fs : List Value} {v : Value} {ty : FieldType} (hf : z_fp own idx ci j false ty) (ha : z_at G h top a (.inr (ci, fs))) (hn : narrow ty v = v) (hfit : fits ty v = true) (hlen : j < fs.length) (hd : decode cc pc = .ok (.putfield idx, 3)) (kk : z_Z X (va_up h a (.inr (ci, fs.set j v))) top (pc + 3) lv rest) : z_Z X h top pc lv (v :: .ref a :: rest) := by
  obtain ⟨p, l, e, R, s, m, args, below, meth, c, Q, G0⟩ := X
  obtain ⟨hx, hb, hml, hown, hts, hr, hlk, hnm, hen, hR, rfl⟩ := hX
  intro H locs ls a1 a2 a3 hl
  obtain ⟨C, T, N, ref, ty0, hc, hj, hin, hlink, hsame, hty, hnms, hfin, -, hdd⟩ := hf
  refine va_put (Ts := zGT) hx hb hts hin ty0 hty hnms hown hen.1 a1.2.2.2 z_wl_D a2 (a - z_b G0) (a1.lt ha) hc j hj (hts _ hlink) (fun x q => ?_) hfin hdd hn hfit hlen hd (fun H1 locs1 hP1 hD1 hS1 => ?_)
  · rcases hsame with e | e
    · rw [e]; exact q
    · exact u_same (hts _ e) x q
  · refine z_facts (fun hF hle => ?_)
    obtain ⟨g1, g2, g3⟩ := ha
    rw [z_wl_set g1 g2] at hP1
    exact kk H1 locs1 ls (z_HI.mk hP1 (by omega) (by omega) a1.2.2.1) hS1 a3 hl
theorem r_putF (hX : z_ok X cc nL own ret "<init>" d G) {idx ci j : Nat} {fs : List Value} {v : Value} {ty : FieldType} (hf : z_fp own idx ci j true ty) (ha : z_at G h top a (.inr (ci, fs))) (hn : narrow ty v = v) (hfit : fits ty v = true) (hlen : j < fs.length) (hd : decode cc pc = .ok (.putfield idx, 3)) (kk : z_Z X (va_up h a (.inr (ci, fs.set j v))) top (pc + 3) lv rest) : z_Z X h top pc lv (v :: .ref a :: rest) := by
  obtain ⟨p, l, e, R, s, m, args, below, meth, c, Q, G0⟩ := X
  obtain ⟨hx, hb, hml, hown, hts, hr, hlk, hnm, hen, hR, rfl⟩ := hX
  intro H locs ls a1 a2 a3 hl
  obtain ⟨C, T, N, ref, ty0, hc, hj, hin, hlink, hsame, hty, hnms, hfin, hdecl, hdd⟩ := hf
  refine va_putF (Ts := zGT) hx hb hts hin ty0 hty hnms hown hen.1 a1.2.2.2 z_wl_D a2 (a - z_b G0) (a1.lt ha) hc j hj (hts _ hlink) (fun x q => ?_) hfin hnm (hdecl rfl) hdd hn hfit hlen hd (fun H1 locs1 hP1 hD1 hS1 => ?_)
  · rcases hsame with e | e
    · rw [e]; exact q
    · exact u_same (hts _ e) x q
  · refine z_facts (fun hF hle => ?_)
    obtain ⟨g1, g2, g3⟩ := ha
    rw [z_wl_set g1 g2] at hP1
    exact kk H1 locs1 ls (z_HI.mk hP1 (by omega) (by omega) a1.2.2.1) hS1 a3 hl
theorem r_new (hX : z_ok X cc nL own ret nm d G) {idx ci n : Nat} {fs : List Value} (hf : z_nw own idx ci n fs) (htop : top + 1 ≤ z_b G + 320) (hd : decode cc pc = .ok (.new idx, 3)) (kk : z_Z X (va_up h top (.inr (ci, fs))) (top + 1) (pc + 3) lv (.ref top :: rest)) : z_Z X h top pc lv rest := by
  obtain ⟨p, l, e, R, s, m, args, below, meth, c, Q, G0⟩ := X
  obtain ⟨hx, hb, hml, hown, hts, hr, hlk, hnm, hen, hR, rfl⟩ := hX
  intro H locs ls a1 a2 a3 hl
  obtain ⟨C, T, ty0, hc, hin, hty, h1, h2, h3, hfs, hn⟩ := hf
  have hg := hen.2.2.2.2.2.2
  have hk := a1.2.2.1
  refine va_new (Ts := zGT) hx hb hts hin ty0 hty hown (hts _ h1) (hts _ h2) (hts _ h3) hen.1 a1.2.2.2 z_wl_D a2 (fun q hq => Nat.le_trans hg hq) hc hfs (by omega) (by omega) hd (fun q H1 hP1 hD1 hS1 => ?_)
  refine z_facts (fun hF hle => ?_)
  obtain rfl := z_fresh a1.2.1 hP1 hD1 (by omega)
  rw [z_wl_push a1.2.1] at hP1
  refine z_tight (k := q + 1 - s.heap.size) (n := (q + 1 - s.heap.size) * 1312) (by omega) (Nat.le_trans hF.2.2 (by omega)) ?_
  exact kk H1 locs ls (z_HI.mk hP1 (by have := a1.2.1; omega) (by omega) htop) hS1 (by omega) hl
theorem r_newi (hX : z_ok X cc nL own ret nm d G) {n : Int32} {N : Nat} (hw : Cond.arrayClass .int ∈ zGT) (hN : n.toNatClampNeg = N) (hn : ¬ n < 0) (hN2 : N ≤ 1312) (htop : top + 1 ≤ z_b G + 320) (hd : decode cc pc = .ok (.newarray .int, 2)) (kk : z_Z X (va_up h top (.inl (z_aI G, N, .inl (fun _ => 0)))) (top + 1) (pc + 2) lv (.ref top :: rest)) : z_Z X h top pc lv (.int n :: rest) := by
  obtain ⟨p, l, e, R, s, m, args, below, meth, c, Q, G0⟩ := X
  obtain ⟨hx, hb, hml, hown, hts, hr, hlk, hnm, hen, hR, rfl⟩ := hX
  intro H locs ls a1 a2 a3 hl
  have hg := hen.2.2.2.2.2.2
  have hk := a1.2.2.1
  refine va_newa (atype := .int) (ty := .int) (a0 := (N, .inl (fun _ => 0))) hx hb (hts _ hw) rfl hen.1 a1.2.2.2 z_wl_D a2 (fun q hq => Nat.le_trans hg hq) (fun cA => rfl) hn hN (show N * 4 ≤ 536870912 by omega) (by omega) (by omega) hd (fun q cA H1 hK1 hP1 hD1 hS1 => ?_)
  have hcA : cA = z_aI G0 := by
    have e1 := (hK1.2 3 (cA, .int) rfl).2
    have e2 := (hen.1.2 0 (z_aI G0, .int) rfl).2
    exact Option.some.inj (e1.symm.trans e2)
  subst hcA
  refine z_facts (fun hF hle => ?_)
  obtain rfl := z_fresh a1.2.1 hP1 hD1 (by omega)
  rw [z_wl_push a1.2.1] at hP1
  refine z_tight (k := q + 1 - s.heap.size) (n := (q + 1 - s.heap.size) * 1312) (by omega) (Nat.le_trans hF.2.2 (by omega)) ?_
  exact kk H1 locs ls (z_HI.mk hP1 (by have := a1.2.1; omega) (by omega) htop) hS1 (by omega) hl
theorem r_newz (hX : z_ok X cc nL own ret nm d G) {n : Int32} {N : Nat} (hw : Cond.arrayClass .boolean ∈ zGT) (hN : n.toNatClampNeg = N) (hn : ¬ n < 0) (hN2 : N ≤ 1312) (htop : top + 1 ≤ z_b G + 320) (hd : decode cc pc = .ok (.newarray .boolean, 2)) (kk : z_Z X (va_up h top (.inl (z_aZ G, N, .inl (fun _ => 0)))) (top + 1) (pc + 2) lv (.ref top :: rest)) : z_Z X h top pc lv (.int n :: rest) := by
  obtain ⟨p, l, e, R, s, m, args, below, meth, c, Q, G0⟩ := X
  obtain ⟨hx, hb, hml, hown, hts, hr, hlk, hnm, hen, hR, rfl⟩ := hX
  intro H locs ls a1 a2 a3 hl
  have hg := hen.2.2.2.2.2.2
  have hk := a1.2.2.1
  refine va_newa (atype := .boolean) (ty := .boolean) (a0 := (N, .inl (fun _ => 0))) hx hb (hts _ hw) rfl hen.1 a1.2.2.2 z_wl_D a2 (fun q hq => Nat.le_trans hg hq) (fun cA => rfl) hn hN (show N * 1 ≤ 536870912 by omega) (by omega) (by omega) hd (fun q cA H1 hK1 hP1 hD1 hS1 => ?_)
  have hcA : cA = z_aZ G0 := by
    have e1 := (hK1.2 3 (cA, .boolean) rfl).2
    have e2 := (hen.1.2 1 (z_aZ G0, .boolean) rfl).2
    exact Option.some.inj (e1.symm.trans e2)
  subst hcA
  refine z_facts (fun hF hle => ?_)
  obtain rfl := z_fresh a1.2.1 hP1 hD1 (by omega)
  rw [z_wl_push a1.2.1] at hP1
  refine z_tight (k := q + 1 - s.heap.size) (n := (q + 1 - s.heap.size) * 1312) (by omega) (Nat.le_trans hF.2.2 (by omega)) ?_
  exact kk H1 locs ls (z_HI.mk hP1 (by have := a1.2.1; omega) (by omega) htop) hS1 (by omega) hl
theorem r_anew (hX : z_ok X cc nL own ret nm d G) {idx : Nat} {n : Int32} {N : Nat} (hw : Cond.classLink own idx "java/lang/Object" ∈ zGT) (hN : n.toNatClampNeg = N) (hn : ¬ n < 0) (hN2 : N ≤ 1312) (htop : top + 1 ≤ z_b G + 320) (hd : decode cc pc = .ok (.anewarray idx, 3)) (kk : z_Z X (va_up h top (.inl (z_aO G, N, .inr (.inr (.inr (.inr (fun _ => none))))))) (top + 1) (pc + 3) lv (.ref top :: rest)) : z_Z X h top pc lv (.int n :: rest) := by
  obtain ⟨p, l, e, R, s, m, args, below, meth, c, Q, G0⟩ := X
  obtain ⟨hx, hb, hml, hown, hts, hr, hlk, hnm, hen, hR, rfl⟩ := hX
  intro H locs ls a1 a2 a3 hl
  have hg := hen.2.2.2.2.2.2
  have hk := a1.2.2.1
  refine va_newq hx hb hown (hts _ hw) hen.2.2.2.1.2.1 hen.1 a1.2.2.2 z_wl_D a2 (fun q hq => Nat.le_trans hg hq) hn hN (by omega) (by omega) (by omega) hd (fun q cA H1 hK1 hP1 hD1 hS1 => ?_)
  have hcA : cA = z_aO G0 := by
    obtain ⟨-, -, -, -, -, e1⟩ := (hK1.2 3 (cA, .object "java/lang/Object") rfl).2
    obtain ⟨-, -, -, -, -, e2⟩ := (hen.1.2 2 (z_aO G0, .object "java/lang/Object") rfl).2
    exact Option.some.inj (e1.symm.trans e2)
  subst hcA
  refine z_facts (fun hF hle => ?_)
  obtain rfl := z_fresh a1.2.1 hP1 hD1 (by omega)
  rw [z_wl_push a1.2.1] at hP1
  refine z_tight (k := q + 1 - s.heap.size) (n := (q + 1 - s.heap.size) * 1312) (by omega) (Nat.le_trans hF.2.2 (by omega)) ?_
  exact kk H1 locs ls (z_HI.mk hP1 (by have := a1.2.1; omega) (by omega) htop) hS1 (by omega) hl
theorem r_iald (hX : z_ok X cc nL own ret nm d G) {n : Nat} {f : Nat → Int32} {i v : Int32} (ha : z_at G h top a (.inl (z_aI G, n, .inl f))) (hin : vp_in i n) (hv : f i.toNatClampNeg = v) (hd : decode cc pc = .ok (.iaload, 1)) (kk : z_Z X h top (pc + 1) lv (.int v :: rest)) : z_Z X h top pc lv (.int i :: .ref a :: rest) := by
  obtain ⟨p, l, e, R, s, m, args, below, meth, c, Q, G0⟩ := X
  obtain ⟨hx, hb, hml, hown, hts, hr, hlk, hnm, hen, hR, rfl⟩ := hX
  intro H locs ls a1 a2 a3 hl
  subst hv
  exact va_iald hx hb hen.1 a1.2.2.2 (a - z_b G0) 0 (a1.lt ha) rfl hin hd (kk H locs ls a1 a2 a3 hl)
theorem r_zald (hX : z_ok X cc nL own ret nm d G) {n : Nat} {f : Nat → Int32} {i v : Int32} (ha : z_at G h top a (.inl (z_aZ G, n, .inl f))) (hin : vp_in i n) (hv : f i.toNatClampNeg = v) (hd : decode cc pc = .ok (.baload, 1)) (kk : z_Z X h top (pc + 1) lv (.int v :: rest)) : z_Z X h top pc lv (.int i :: .ref a :: rest) := by
  obtain ⟨p, l, e, R, s, m, args, below, meth, c, Q, G0⟩ := X
  obtain ⟨hx, hb, hml, hown, hts, hr, hlk, hnm, hen, hR, rfl⟩ := hX
  intro H locs ls a1 a2 a3 hl
  subst hv
  exact va_zald hx hb hen.1 a1.2.2.2 (a - z_b G0) 1 (a1.lt ha) rfl hin hd (kk H locs ls a1 a2 a3 hl)
theorem r_aald (hX : z_ok X cc nL own ret nm d G) {n : Nat} {f : Nat → Option Nat} {i : Int32} {v : Value} (ha : z_at G h top a (.inl (z_aO G, n, .inr (.inr (.inr (.inr f)))))) (hin : vp_in i n) (hv : va_rf (f i.toNatClampNeg) = v) (hd : decode cc pc = .ok (.aaload, 1)) (kk : z_Z X h top (pc + 1) lv (v :: rest)) : z_Z X h top pc lv (.int i :: .ref a :: rest) := by
  obtain ⟨p, l, e, R, s, m, args, below, meth, c, Q, G0⟩ := X
  obtain ⟨hx, hb, hml, hown, hts, hr, hlk, hnm, hen, hR, rfl⟩ := hX
  intro H locs ls a1 a2 a3 hl
  subst hv
  exact va_aldq (C := "java/lang/Object") hx hb hen.1 a1.2.2.2 (a - z_b G0) 2 (a1.lt ha) rfl hin hd (kk H locs ls a1 a2 a3 hl)
theorem r_iast (hX : z_ok X cc nL own ret nm d G) {n : Nat} {f : Nat → Int32} {i x : Int32} (ha : z_at G h top a (.inl (z_aI G, n, .inl f))) (hin : vp_in i n) (hd : decode cc pc = .ok (.iastore, 1)) (kk : z_Z X (va_up h a (.inl (z_aI G, n, .inl (upd f i.toNatClampNeg x)))) top (pc + 1) lv rest) : z_Z X h top pc lv (.int x :: .int i :: .ref a :: rest) := by
  obtain ⟨p, l, e, R, s, m, args, below, meth, c, Q, G0⟩ := X
  obtain ⟨hx, hb, hml, hown, hts, hr, hlk, hnm, hen, hR, rfl⟩ := hX
  intro H locs ls a1 a2 a3 hl
  refine va_iast hx hb hen.1 a1.2.2.2 z_wl_D a2 (a - z_b G0) 0 (a1.lt ha) rfl hin hd (fun H1 locs1 hP1 hD1 hS1 => ?_)
  refine z_facts (fun hF hle => ?_)
  obtain ⟨g1, g2, g3⟩ := ha
  rw [z_wl_set g1 g2] at hP1
  exact kk H1 locs1 ls (z_HI.mk hP1 (by omega) (by omega) a1.2.2.1) hS1 a3 hl
theorem r_aast (hX : z_ok X cc nL own ret nm d G) {n x : Nat} {f : Nat → Option Nat} {i : Int32} (ha : z_at G h top a (.inl (z_aO G, n, .inr (.inr (.inr (.inr f)))))) (hx9 : z_ob G h top x) (hin : vp_in i n) (hd : decode cc pc = .ok (.aastore, 1)) (kk : z_Z X (va_up h a (.inl (z_aO G, n, .inr (.inr (.inr (.inr (va_up f i.toNatClampNeg (some x)))))))) top (pc + 1) lv rest) : z_Z X h top pc lv (.ref x :: .int i :: .ref a :: rest) := by
  obtain ⟨p, l, e, R, s, m, args, below, meth, c, Q, G0⟩ := X
  obtain ⟨hx, hb, hml, hown, hts, hr, hlk, hnm, hen, hR, rfl⟩ := hX
  intro H locs ls a1 a2 a3 hl
  obtain ⟨ci, fs, r, hat, hci, hcs⟩ := hx9
  refine va_astqO (E := "java/lang/Object") hx hb hen.1 a1.2.2.2 z_wl_D a2 (a - z_b G0) 2 (x - z_b G0) ci (a1.lt ha) rfl (hen.2.2.2.1.2.2 _ hcs) (a1.lt hat) hci hin hd (fun H1 locs1 hP1 hD1 hS1 => ?_)
  refine z_facts (fun hF hle => ?_)
  obtain ⟨g1, g2, g3⟩ := ha
  rw [z_wl_set g1 g2] at hP1
  exact kk H1 locs1 ls (z_HI.mk hP1 (by omega) (by omega) a1.2.2.1) hS1 a3 hl
theorem r_aastN (hX : z_ok X cc nL own ret nm d G) {n : Nat} {f : Nat → Option Nat} {i : Int32} (ha : z_at G h top a (.inl (z_aO G, n, .inr (.inr (.inr (.inr f)))))) (hin : vp_in i n) (hd : decode cc pc = .ok (.aastore, 1)) (kk : z_Z X (va_up h a (.inl (z_aO G, n, .inr (.inr (.inr (.inr (va_up f i.toNatClampNeg none))))))) top (pc + 1) lv rest) : z_Z X h top pc lv (.null :: .int i :: .ref a :: rest) := by
  obtain ⟨p, l, e, R, s, m, args, below, meth, c, Q, G0⟩ := X
  obtain ⟨hx, hb, hml, hown, hts, hr, hlk, hnm, hen, hR, rfl⟩ := hX
  intro H locs ls a1 a2 a3 hl
  refine va_astqN (C := "java/lang/Object") hx hb hen.1 a1.2.2.2 z_wl_D a2 (a - z_b G0) 2 (a1.lt ha) rfl hin hd (fun H1 locs1 hP1 hD1 hS1 => ?_)
  refine z_facts (fun hF hle => ?_)
  obtain ⟨g1, g2, g3⟩ := ha
  rw [z_wl_set g1 g2] at hP1
  exact kk H1 locs1 ls (z_HI.mk hP1 (by omega) (by omega) a1.2.2.1) hS1 a3 hl
theorem r_alenI (hX : z_ok X cc nL own ret nm d G) {n : Nat} {f : Nat → Int32} {v : Int32} (ha : z_at G h top a (.inl (z_aI G, n, .inl f))) (hv : Int32.ofNat n = v) (hd : decode cc pc = .ok (.arraylength, 1)) (kk : z_Z X h top (pc + 1) lv (.int v :: rest)) : z_Z X h top pc lv (.ref a :: rest) := by
  obtain ⟨p, l, e, R, s, m, args, below, meth, c, Q, G0⟩ := X
  obtain ⟨hx, hb, hml, hown, hts, hr, hlk, hnm, hen, hR, rfl⟩ := hX
  intro H locs ls a1 a2 a3 hl
  exact va_alen hx hb hen.1 a1.2.2.2 (a - z_b G0) 0 (a1.lt ha) rfl hv hd (kk H locs ls a1 a2 a3 hl)
theorem r_alenZ (hX : z_ok X cc nL own ret nm d G) {n : Nat} {f : Nat → Int32} {v : Int32} (ha : z_at G h top a (.inl (z_aZ G, n, .inl f))) (hv : Int32.ofNat n = v) (hd : decode cc pc = .ok (.arraylength, 1)) (kk : z_Z X h top (pc + 1) lv (.int v :: rest)) : z_Z X h top pc lv (.ref a :: rest) := by
  obtain ⟨p, l, e, R, s, m, args, below, meth, c, Q, G0⟩ := X
  obtain ⟨hx, hb, hml, hown, hts, hr, hlk, hnm, hen, hR, rfl⟩ := hX
  intro H locs ls a1 a2 a3 hl
  exact va_alen hx hb hen.1 a1.2.2.2 (a - z_b G0) 1 (a1.lt ha) rfl hv hd (kk H locs ls a1 a2 a3 hl)
theorem r_alenO (hX : z_ok X cc nL own ret nm d G) {n : Nat} {f : Nat → Option Nat} {v : Int32} (ha : z_at G h top a (.inl (z_aO G, n, .inr (.inr (.inr (.inr f)))))) (hv : Int32.ofNat n = v) (hd : decode cc pc = .ok (.arraylength, 1)) (kk : z_Z X h top (pc + 1) lv (.int v :: rest)) : z_Z X h top pc lv (.ref a :: rest) := by
  obtain ⟨p, l, e, R, s, m, args, below, meth, c, Q, G0⟩ := X
  obtain ⟨hx, hb, hml, hown, hts, hr, hlk, hnm, hen, hR, rfl⟩ := hX
  intro H locs ls a1 a2 a3 hl
  exact va_alen hx hb hen.1 a1.2.2.2 (a - z_b G0) 2 (a1.lt ha) rfl hv hd (kk H locs ls a1 a2 a3 hl)
theorem r_cast (hX : z_ok X cc nL own ret nm d G) {idx ci N : Nat} {C : String} {T : u_T} {fs : List Value} (hc : vwCl[ci]? = some (C, T, N)) (ha : z_at G h top a (.inr (ci, fs))) (hw : Cond.classLink own idx C ∈ zGT) (hd : decode cc pc = .ok (.checkcast idx, 3)) (kk : z_Z X h top (pc + 3) lv (.ref a :: rest)) : z_Z X h top pc lv (.ref a :: rest) := by
  obtain ⟨p, l, e, R, s, m, args, below, meth, c, Q, G0⟩ := X
  obtain ⟨hx, hb, hml, hown, hts, hr, hlk, hnm, hen, hR, rfl⟩ := hX
  intro H locs ls a1 a2 a3 hl
  exact va_castS hx hb hown (hts _ hw) (hen.1.1 ci _ hc).2 (va_recv hen.1 a1.2.2.2 hc (a1.lt ha)) hd (kk H locs ls a1 a2 a3 hl)

theorem r_getC (hX : z_ok X cc nL own ret nm d G) {idx n : Nat} {f : Nat → Option Nat} (ha : z_at G h top a (.inl (z_aO G, n, .inr (.inr (.inr (.inr f)))))) (h1 : Cond.methodLink own idx ⟨"java/lang/Object", "getClass", "()Ljava/lang/Class;"⟩ ∈ zGT) (h2 : Cond.declares ⟨"java/lang/Object", "getClass", "()Ljava/lang/Class;"⟩ ∈ zNW) (h3 : Cond.selects "[Ljava/lang/Object;" ⟨"java/lang/Object", "getClass", "()Ljava/lang/Class;"⟩ ⟨"java/lang/Object", "getClass", "()Ljava/lang/Class;"⟩ ∈ zGT) (h4 : Cond.instanceMethod ⟨"java/lang/Object", "getClass", "()Ljava/lang/Class;"⟩ ∈ zGT) (h5 : Cond.native ⟨"java/lang/Object", "getClass", "()Ljava/lang/Class;"⟩ ∈ zGT) (hw : (rest.map fun v => v.category).sum ≤ 8) (hd : decode cc pc = .ok (.invokevirtual idx, 3)) (kk : z_Z X h top (pc + 3) lv (.ref (z_mO G) :: rest)) : z_Z X h top pc lv (.ref a :: rest) := by
  obtain ⟨p, l, e, R, s, m, args, below, meth, c, Q, G0⟩ := X
  obtain ⟨hx, hb, hml, hown, hts, hr, hlk, hnm, hen, hR, rfl⟩ := hX
  intro H locs ls a1 a2 a3 hl
  refine va_getC hx hb hl.1.symm hown (hts _ h1) (va_Nw.use rfl (hen.2.2.2.1.2.2 _ h2)) (hts _ h3) (hts _ h4) (hts _ h5) hen.2.2.2.1.1 ?_ (by omega) (by omega) hd (kk H locs ls a1 a2 a3 hl)
  have e := a1.2.2.2 _ _ (a1.lt ha)
  obtain ⟨kA, comp, f1, f2, f3, f4⟩ := (hen.1.2 2 (z_aO G0, .object "java/lang/Object") rfl).2
  exact ⟨_, e, rfl, f4⟩
theorem r_copy (hX : z_ok X cc nL own ret nm d G) {idx a0 n0 n1 : Nat} {f g : Nat → Option Nat} {sp dp n : Int32} (ha0 : z_at G h top a0 (.inl (z_aO G, n0, .inr (.inr (.inr (.inr f)))))) (ha1 : z_at G h top a (.inl (z_aO G, n1, .inr (.inr (.inr (.inr g)))))) (h1 : ¬ sp < 0) (h2 : ¬ dp < 0) (h3 : ¬ n < 0) (h4 : sp.toNatClampNeg + n.toNatClampNeg ≤ n0) (h5 : dp.toNatClampNeg + n.toNatClampNeg ≤ n1) (hel : ∀ i : Nat, i < n.toNatClampNeg → ∀ y : Nat, f (sp.toNatClampNeg + i) = some y → z_ob G h top y)
    (w1 : Cond.methodLink own idx arraycopyName ∈ zGT) (w2 : Cond.native arraycopyName ∈ zGT) (w3 : Cond.static arraycopyName ∈ zGT) (w4 : Cond.initialized "java/lang/System" ∈ zGT) (hroom : (rest.map fun v => v.category).sum + (nativeFrameWords "java/lang/System" "arraycopy" 5 + 11) ≤ 41 * d) (hd : decode cc pc = .ok (.invokestatic idx, 3)) (kk : z_Z X (va_up h a (.inl (z_aO G, n1, .inr (.inr (.inr (.inr (va_cpy f g sp.toNatClampNeg dp.toNatClampNeg n.toNatClampNeg))))))) top (pc + 3) lv rest) : z_Z X h top pc lv (.int n :: .int dp :: .ref a :: .int sp :: .ref a0 :: rest) := by
  obtain ⟨p, l, e, R, s, m, args, below, meth, c, Q, G0⟩ := X
  obtain ⟨hx, hb, hml, hown, hts, hr, hlk, hnm, hen, hR, rfl⟩ := hX
  intro H locs ls a1 a2 a3 hl
  refine va_copyM (E0 := "java/lang/Object") (E1 := "java/lang/Object") hx hb hl.1.symm hown (hts _ w1) (hts _ w2) (hts _ w3) (hts _ w4) hen.1 a1.2.2.2 z_wl_D a2 (a0 - z_b G0) (a - z_b G0) 2 2 (a1.lt ha0) (a1.lt ha1) rfl rfl h1 h2 h3 h4 h5 (fun i hi y hy => ?_) (by omega) (by omega) hd (fun H1 locs1 hP1 hD1 hS1 => ?_)
  · obtain ⟨ci, fs, r, hat, hci, hcs⟩ := hel i hi y hy
    refine va_rAny hen.1 a1.2.2.2 (a1.lt hat) hci (fun comp c0 q1 q2 => ?_)
    obtain ⟨c5, t5, e1, e2, e3⟩ := Cond.castable_spec (hen.2.2.2.1.2.2 _ hcs)
    cases e1.symm.trans q2
    cases e2.symm.trans q1
    exact e3
  · refine z_facts (fun hF hle => ?_)
    obtain ⟨g1, g2, g3⟩ := ha1
    rw [z_wl_set g1 g2] at hP1
    exact kk H1 locs1 ls (z_HI.mk hP1 (by omega) (by omega) a1.2.2.1) hS1 a3 hl
end ZM

/-! the ends -/
section ZE
variable {X : zX} {cc : ByteArray} {nL d : Nat} {own nm : String} {ret : Option FieldType} {G : zG} {h : zH} {top pc : Nat} {lv : List (Nat × Value)} {Post : Option Value → zH → Nat → Prop}

theorem r_iret (hX : z_ok X cc nL own (some .int) nm d G) (hq : z_mq X Post) {v : Int32} (hp : Post (some (.int v)) h top) (hd : decode cc pc = .ok (.ireturn, 1)) : z_Z X h top pc lv [.int v] := by
  obtain ⟨p, l, e, R, s, m, args, below, meth, c, Q, G0⟩ := X
  obtain ⟨hx, hb, hml, hown, hts, hr, hlk, hnm, hen, hR, rfl⟩ := hX
  obtain rfl : Q = _ := hq
  intro H locs ls a1 a2 a3 hl
  have hg := hen.2.2.2.2.2.2
  have hk := a1.2.2.1
  refine z_facts (fun hF hle => ?_)
  refine W.widen (k := R.cells) (n := R.slots) (by omega) (by omega) ?_
  exact W.iret hx hb hr (fun t ht hW => ⟨_, h, top, rfl, hp, by rw [ht]; exact a1, by rw [ht]; exact hF, fun q h1 h2 => by rw [ht]; exact a2.2.1 q h1 h2⟩) a2.2.2 hd hlk
theorem r_zret (hX : z_ok X cc nL own (some .boolean) nm d G) (hq : z_mq X Post) {v : Int32} (hv : v = 0 ∨ v = 1) (hp : Post (some (.int v)) h top) (hd : decode cc pc = .ok (.ireturn, 1)) : z_Z X h top pc lv [.int v] := by
  obtain ⟨p, l, e, R, s, m, args, below, meth, c, Q, G0⟩ := X
  obtain ⟨hx, hb, hml, hown, hts, hr, hlk, hnm, hen, hR, rfl⟩ := hX
  obtain rfl : Q = _ := hq
  intro H locs ls a1 a2 a3 hl
  have hg := hen.2.2.2.2.2.2
  have hk := a1.2.2.1
  refine z_facts (fun hF hle => ?_)
  refine W.widen (k := R.cells) (n := R.slots) (by omega) (by omega) ?_
  exact W.zret hx hb hr (by rcases hv with e | e <;> subst e <;> rfl) (fun t ht hW => ⟨_, h, top, rfl, hp, by rw [ht]; exact a1, by rw [ht]; exact hF, fun q h1 h2 => by rw [ht]; exact a2.2.1 q h1 h2⟩) a2.2.2 hd hlk
theorem r_lret (hX : z_ok X cc nL own (some .long) nm d G) (hq : z_mq X Post) {v : Int64} (hp : Post (some (.long v)) h top) (hd : decode cc pc = .ok (.lreturn, 1)) : z_Z X h top pc lv [.long v] := by
  obtain ⟨p, l, e, R, s, m, args, below, meth, c, Q, G0⟩ := X
  obtain ⟨hx, hb, hml, hown, hts, hr, hlk, hnm, hen, hR, rfl⟩ := hX
  obtain rfl : Q = _ := hq
  intro H locs ls a1 a2 a3 hl
  have hg := hen.2.2.2.2.2.2
  have hk := a1.2.2.1
  refine z_facts (fun hF hle => ?_)
  refine W.widen (k := R.cells) (n := R.slots) (by omega) (by omega) ?_
  exact W.lret hx hb hr (fun t ht hW => ⟨_, h, top, rfl, hp, by rw [ht]; exact a1, by rw [ht]; exact hF, fun q h1 h2 => by rw [ht]; exact a2.2.1 q h1 h2⟩) a2.2.2 hd hlk
theorem r_aret (hX : z_ok X cc nL own ret nm d G) {rt : FieldType} (hrt : ret = some rt) (hrr : (∃ n, rt = .object n) ∨ ∃ t, rt = .array t) (hq : z_mq X Post) {v : Value} (hv : v = .null ∨ ∃ a, v = .ref a) (hp : Post (some v) h top) (hd : decode cc pc = .ok (.areturn, 1)) : z_Z X h top pc lv [v] := by
  obtain ⟨p, l, e, R, s, m, args, below, meth, c, Q, G0⟩ := X
  obtain ⟨hx, hb, hml, hown, hts, hr, hlk, hnm, hen, hR, rfl⟩ := hX
  obtain rfl : Q = _ := hq
  intro H locs ls a1 a2 a3 hl
  have hg := hen.2.2.2.2.2.2
  have hk := a1.2.2.1
  refine z_facts (fun hF hle => ?_)
  refine W.widen (k := R.cells) (n := R.slots) (by omega) (by omega) ?_
  exact W.aret hx hb (hr.trans hrt) hrr hv (fun t ht hW => ⟨_, h, top, rfl, hp, by rw [ht]; exact a1, by rw [ht]; exact hF, fun q h1 h2 => by rw [ht]; exact a2.2.1 q h1 h2⟩) a2.2.2 hd hlk
theorem r_vret (hX : z_ok X cc nL own none nm d G) (hq : z_mq X Post) (hp : Post none h top) (hd : decode cc pc = .ok (.return_, 1)) : z_Z X h top pc lv [] := by
  obtain ⟨p, l, e, R, s, m, args, below, meth, c, Q, G0⟩ := X
  obtain ⟨hx, hb, hml, hown, hts, hr, hlk, hnm, hen, hR, rfl⟩ := hX
  obtain rfl : Q = _ := hq
  intro H locs ls a1 a2 a3 hl
  have hg := hen.2.2.2.2.2.2
  have hk := a1.2.2.1
  refine z_facts (fun hF hle => ?_)
  refine W.widen (k := R.cells) (n := R.slots) (by omega) (by omega) ?_
  exact W.vret hx hb hr (fun t ht hW => ⟨_, h, top, rfl, hp, by rw [ht]; exact a1, by rw [ht]; exact hF, fun q h1 h2 => by rw [ht]; exact a2.2.1 q h1 h2⟩) a2.2.2 hd hlk
end ZE

/-! the calls -/
def z_cV (own : String) (idx : Nat) (C : String) (y : MethodName) (cc : ByteArray) (maxL : Nat) (ret : Option FieldType) (n : Nat) : Prop :=
  Cond.methodLink own idx y ∈ zGT ∧ Cond.instanceMethod y ∈ zGT ∧ Cond.selects C y y ∈ zGT ∧ Cond.initialized C ∈ zGT ∧ Cond.code y cc maxL ret ∈ zGT ∧ maxL ≤ 22 ∧ (y.cls = C ∧ y.cls ≠ "java/lang/invoke/MethodHandle" ∧ y.cls ≠ "java/lang/invoke/VarHandle" ∧ (parseMethodDescriptor y.desc).map (fun d => d.parameters.length) = some n)
def z_cS (own : String) (idx : Nat) (y : MethodName) (cc : ByteArray) (maxL : Nat) (ret : Option FieldType) (n : Nat) : Prop :=
  Cond.methodLink own idx y ∈ zGT ∧ Cond.static y ∈ zGT ∧ Cond.initialized y.cls ∈ zGT ∧ Cond.code y cc maxL ret ∈ zGT ∧ maxL ≤ 22 ∧ (y.cls ≠ "java/lang/invoke/MethodHandle" ∧ y.cls ≠ "java/lang/invoke/VarHandle" ∧ (parseMethodDescriptor y.desc).map (fun d => d.parameters.length) = some n)
def z_cI (own : String) (idx : Nat) (y : MethodName) (cc : ByteArray) (maxL : Nat) (n : Nat) : Prop :=
  Cond.methodLink own idx y ∈ zGT ∧ Cond.instanceMethod y ∈ zGT ∧ Cond.initialized y.cls ∈ zGT ∧ Cond.code y cc maxL none ∈ zGT ∧ maxL ≤ 22 ∧ y.name = "<init>" ∧ (y.cls ≠ "java/lang/invoke/MethodHandle" ∧ y.cls ≠ "java/lang/invoke/VarHandle" ∧ (parseMethodDescriptor y.desc).map (fun d => d.parameters.length) = some n)
def z_cSN (own : String) (idx : Nat) (y : MethodName) (host : String) (cc : ByteArray) (maxL : Nat) (ret : Option FieldType) (n : Nat) : Prop :=
  Cond.methodLinkNest own idx y host ∈ zNW ∧ Cond.static y ∈ zGT ∧ Cond.initialized y.cls ∈ zGT ∧ Cond.code y cc maxL ret ∈ zGT ∧ maxL ≤ 22 ∧ (y.cls ≠ "java/lang/invoke/MethodHandle" ∧ y.cls ≠ "java/lang/invoke/VarHandle" ∧ (parseMethodDescriptor y.desc).map (fun d => d.parameters.length) = some n)
def z_cIN (own : String) (idx : Nat) (y : MethodName) (host : String) (cc : ByteArray) (maxL : Nat) (n : Nat) : Prop :=
  Cond.methodLinkNest own idx y host ∈ zNW ∧ Cond.instanceMethod y ∈ zGT ∧ Cond.initialized y.cls ∈ zGT ∧ Cond.code y cc maxL none ∈ zGT ∧ maxL ≤ 22 ∧ y.name = "<init>" ∧ (y.cls ≠ "java/lang/invoke/MethodHandle" ∧ y.cls ≠ "java/lang/invoke/VarHandle" ∧ (parseMethodDescriptor y.desc).map (fun d => d.parameters.length) = some n)
section ZC
variable {X : zX} {cc : ByteArray} {nL d : Nat} {own nm : String} {ret : Option FieldType} {G : zG} {h : zH} {top pc : Nat} {lv : List (Nat × Value)} {rest : List Value} {a : Nat}
variable {y : MethodName} {cc2 : ByteArray} {maxL d2 n idx : Nat} {ret2 : Option FieldType} {As st0 : List Value} {Post : Option Value → zH → Nat → Prop}
/-- behind a call -/
theorem z_call {p : Program} {l : Launch} {e : Env} {R : Room} {s : State} {m : MethodId} {args : Array Value} {below : List Frame} {meth : Method} {c : Code} {Q : State → Prop} {H : Heap} {locs : List Loc} {ls : Array Slot} {mc ms : Nat} {aa : Array Value}
    (a1 : z_HI G h top H) (a2 : va_S (fun q => z_b G ≤ q) s.heap H locs) (a3 : s.heap.size ≤ top) (hl : lv_has ls c.maxLocals lv)
    (hr : va_Run p l e R s m args below meth c H locs (top - s.heap.size) ((top - s.heap.size) * 1312) mc ms (F0 m pc ls st0) rest (z_Qc G Post aa) (fun q => z_b G ≤ q))
    (kk : ∀ (r : Option Value) (h' : zH) (top' : Nat), Post r h' top' → z_Z (p, l, e, R, s, m, args, below, meth, c, Q, G) h' top' (pc + 3) lv (r.toList ++ rest)) : W p l e R s m args below meth c H locs (top - s.heap.size) ((top - s.heap.size) * 1312) Q (F0 m pc ls st0) := by
  refine z_facts (fun hF hle => ?_)
  intro T hT XX
  obtain ⟨v, st₀, t, T', L, h0, X', hL, e1, e2, ⟨r, h', top', hv, hp, hh, hF2, hk2⟩, stp⟩ := hr T hT XX
  cases hv
  rw [h0] at hF2 hk2
  have hF3 : z_F H T'.heap ((top' - top) * 1312) := by rw [e1, ← a1.1]; exact hF2
  have hF4 := hF.trans hF3
  have hsz : T'.heap.size = top' := by rw [e1]; exact hh.1
  have hle2 : H.size ≤ T'.heap.size := hF3.1
  have hHt := a1.1
  have hS2 : va_S (fun q => z_b G ≤ q) s.heap T'.heap (locs ++ L) := by
    refine ⟨hF4.1, fun q g1 g2 => ?_, fun q hq => ?_⟩
    · rw [e1, hk2 q (Nat.lt_of_lt_of_le g1 hF.1) g2]
      exact a2.2.1 q g1 g2
    · rcases List.mem_append.mp hq with g | g
      · exact a2.2.2 q g
      · exact hL q g
  have X2 := z_stT (k := top' - s.heap.size) (n := (top' - s.heap.size) * 1312) X' (by omega) (Nat.le_trans hF4.2.2 (by omega))
  obtain ⟨t2, b1, b2⟩ := kk v h' top' hp T'.heap (locs ++ L) ls (by rw [e1]; exact hh) hS2 (by omega) hl T' rfl X2
  exact ⟨t2, stp t2 b1, b2⟩
theorem z_pre {s : State} {H : Heap} {locs : List Loc} {av : List Value} (hen : z_EN G s) (a1 : z_HI G h top H) (a2 : va_S (fun q => z_b G ≤ q) s.heap H locs) : PreS s H (va_Pc av (fun U => z_EN G U ∧ z_HI G h top U.heap)) av :=
  ⟨fun a U g mk q => ⟨q.1, q.2.1.calling, q.2.2⟩, fun U hU hW => ⟨rfl, hen.to a2 hU hW, by rw [hU]; exact a1⟩⟩
theorem r_callV (hX : z_ok X cc nL own ret nm d G) {C : String} {ci : Nat} {fs : List Value} (hc : z_cV own idx C y cc2 maxL ret2 n) (hdd : d2 + 1 ≤ d) (hM : ∀ l : Launch, z_Ct l y cc2 maxL ret2 d2 G (.ref a :: As) h top Post) (ha : z_at G h top a (.inr (ci, fs))) (hci : (vwCl[ci]?).map (fun r => r.1) = some C) (hn : As.length = n) (hst : st0 = As.reverse ++ .ref a :: rest) (hw : (rest.map fun v => v.category).sum ≤ 8) (hd : decode cc pc = .ok (.invokevirtual idx, 3))
    (kk : ∀ (r : Option Value) (h' : zH) (top' : Nat), Post r h' top' → z_Z X h' top' (pc + 3) lv (r.toList ++ rest)) : z_Z X h top pc lv st0 := by
  obtain ⟨p, l, e, R, s, m, args, below, meth, c, Q, G0⟩ := X
  obtain ⟨hx, hb, hml, hown, hts, hr, hlk, hnm, hen, hR, rfl⟩ := hX
  intro H locs ls a1 a2 a3 hl
  obtain ⟨w1, w2, w3, w4, w5, hmx, hdn⟩ := hc
  obtain ⟨⟨C', T, N⟩, hci2, hci3⟩ := Option.map_eq_some_iff.mp hci
  obtain rfl : C' = C := hci3
  have hg := hen.2.2.2.2.2.2
  have hk := a1.2.2.1
  refine z_call (pc := pc) (rest := rest) a1 a2 a3 hl (va_runV (Ts := zGT) (As := As) (b := a) ⟨hx, hb, rfl, hown, hts⟩ (hM l) (cwV n hts (ws := Cond.code y cc2 maxL ret2 :: zGT) (fun w hw => by
      unfold wsV at hw
      rcases List.mem_append.mp hw with q | q
      · simp only [List.mem_cons, List.not_mem_nil, or_false] at q
        rcases q with rfl | rfl | rfl | rfl
        · exact ⟨w1, z_good _ w1⟩
        · exact ⟨w2, z_good _ w2⟩
        · exact ⟨w3, z_good _ w3⟩
        · exact ⟨w4, z_good _ w4⟩
      · exact z_goodIn w5 w q) rfl rfl rfl hdn ⟨by show d2 + 1 ≤ _; omega, by show 8 + (maxL + 11) + 41 * d2 ≤ _; omega⟩)
    ⟨(z_pre (av := .ref a :: As) hen a1 a2).1, va_recv hen.1 a1.2.2.2 hci2 (a1.lt ha), (z_pre hen a1 a2).2⟩ rfl hn hl.1 hst (lv_room hw) hd ⟨by omega, by omega⟩) kk
theorem r_callS (hX : z_ok X cc nL own ret nm d G) (hc : z_cS own idx y cc2 maxL ret2 n) (hdd : d2 + 1 ≤ d) (hM : ∀ l : Launch, z_Ct l y cc2 maxL ret2 d2 G As h top Post) (hn : As.length = n) (hst : st0 = As.reverse ++ rest) (hw : (rest.map fun v => v.category).sum ≤ 8) (hd : decode cc pc = .ok (.invokestatic idx, 3))
    (kk : ∀ (r : Option Value) (h' : zH) (top' : Nat), Post r h' top' → z_Z X h' top' (pc + 3) lv (r.toList ++ rest)) : z_Z X h top pc lv st0 := by
  obtain ⟨p, l, e, R, s, m, args, below, meth, c, Q, G0⟩ := X
  obtain ⟨hx, hb, hml, hown, hts, hr, hlk, hnm, hen, hR, rfl⟩ := hX
  intro H locs ls a1 a2 a3 hl
  obtain ⟨w1, w2, w4, w5, hmx, hdn⟩ := hc
  have hg := hen.2.2.2.2.2.2
  have hk := a1.2.2.1
  refine z_call (pc := pc) (rest := rest) a1 a2 a3 hl (va_runS (Ts := zGT) (As := As) ⟨hx, hb, rfl, hown, hts⟩ (hM l) (va_cwS n hts (ws := Cond.code y cc2 maxL ret2 :: zGT) (fun w hw => by
      unfold va_wsS at hw
      rcases List.mem_append.mp hw with q | q
      · simp only [List.mem_cons, List.not_mem_nil, or_false] at q
        rcases q with rfl | rfl | rfl
        · exact ⟨w1, z_good _ w1⟩
        · exact ⟨w2, z_good _ w2⟩
        · exact ⟨w4, z_good _ w4⟩
      · exact z_goodIn w5 w q) rfl rfl rfl hdn ⟨by show d2 + 1 ≤ _; omega, by show 8 + (maxL + 11) + 41 * d2 ≤ _; omega⟩)
    (z_pre hen a1 a2) rfl hn hl.1 hst (lv_room hw) hd ⟨by omega, by omega⟩) kk
theorem r_callI (hX : z_ok X cc nL own ret nm d G) (hc : z_cI own idx y cc2 maxL n) (hdd : d2 + 1 ≤ d) (hM : ∀ l : Launch, z_Ct l y cc2 maxL none d2 G (.ref a :: As) h top Post) (hn : As.length = n) (hst : st0 = As.reverse ++ .ref a :: rest) (hw : (rest.map fun v => v.category).sum ≤ 8) (hd : decode cc pc = .ok (.invokespecial idx, 3))
    (kk : ∀ (r : Option Value) (h' : zH) (top' : Nat), Post r h' top' → z_Z X h' top' (pc + 3) lv (r.toList ++ rest)) : z_Z X h top pc lv st0 := by
  obtain ⟨p, l, e, R, s, m, args, below, meth, c, Q, G0⟩ := X
  obtain ⟨hx, hb, hml, hown, hts, hr, hlk, hnm, hen, hR, rfl⟩ := hX
  intro H locs ls a1 a2 a3 hl
  obtain ⟨w1, w2, w4, w5, hmx, hnI, hdn⟩ := hc
  have hg := hen.2.2.2.2.2.2
  have hk := a1.2.2.1
  refine z_call (pc := pc) (rest := rest) a1 a2 a3 hl (va_runI (Ts := zGT) (As := As) (b := a) ⟨hx, hb, rfl, hown, hts⟩ (hM l) (cwI n hts (ws := Cond.code y cc2 maxL none :: zGT) (z_goodIn w5) rfl rfl rfl (hts _ w4) (hts _ w1) (hts _ w2) hnI hdn ⟨by show d2 + 1 ≤ _; omega, by show 8 + (maxL + 11) + 41 * d2 ≤ _; omega⟩)
    (z_pre hen a1 a2) rfl hn hl.1 hst (lv_room hw) hd ⟨by omega, by omega⟩) kk
theorem r_callSN (hX : z_ok X cc nL own ret nm d G) {host : String} (hc : z_cSN own idx y host cc2 maxL ret2 n) (hdd : d2 + 1 ≤ d) (hM : ∀ l : Launch, z_Ct l y cc2 maxL ret2 d2 G As h top Post) (hn : As.length = n) (hst : st0 = As.reverse ++ rest) (hw : (rest.map fun v => v.category).sum ≤ 8) (hd : decode cc pc = .ok (.invokestatic idx, 3))
    (kk : ∀ (r : Option Value) (h' : zH) (top' : Nat), Post r h' top' → z_Z X h' top' (pc + 3) lv (r.toList ++ rest)) : z_Z X h top pc lv st0 := by
  obtain ⟨p, l, e, R, s, m, args, below, meth, c, Q, G0⟩ := X
  obtain ⟨hx, hb, hml, hown, hts, hr, hlk, hnm, hen, hR, rfl⟩ := hX
  intro H locs ls a1 a2 a3 hl
  obtain ⟨w1, w2, w4, w5, hmx, hdn⟩ := hc
  have hg := hen.2.2.2.2.2.2
  have hk := a1.2.2.1
  refine z_call (pc := pc) (rest := rest) a1 a2 a3 hl (va_runSN (Ts := zGT) (As := As) ⟨hx, hb, rfl, hown, hts⟩ (hM l) ⟨va_cnB n hts (ws := Cond.code y cc2 maxL ret2 :: zGT) (z_goodIn w5) rfl rfl rfl (hen.2.2.2.1.2.2 _ w1) (hts _ w4) hdn ⟨by show d2 + 1 ≤ _; omega, by show 8 + (maxL + 11) + 41 * d2 ≤ _; omega⟩, hts _ w2, trivial⟩
    (z_pre hen a1 a2) rfl hn hl.1 hst (lv_room hw) hd ⟨by omega, by omega⟩) kk
theorem r_callIN (hX : z_ok X cc nL own ret nm d G) {host : String} (hc : z_cIN own idx y host cc2 maxL n) (hdd : d2 + 1 ≤ d) (hM : ∀ l : Launch, z_Ct l y cc2 maxL none d2 G (.ref a :: As) h top Post) (hn : As.length = n) (hst : st0 = As.reverse ++ .ref a :: rest) (hw : (rest.map fun v => v.category).sum ≤ 8) (hd : decode cc pc = .ok (.invokespecial idx, 3))
    (kk : ∀ (r : Option Value) (h' : zH) (top' : Nat), Post r h' top' → z_Z X h' top' (pc + 3) lv (r.toList ++ rest)) : z_Z X h top pc lv st0 := by
  obtain ⟨p, l, e, R, s, m, args, below, meth, c, Q, G0⟩ := X
  obtain ⟨hx, hb, hml, hown, hts, hr, hlk, hnm, hen, hR, rfl⟩ := hX
  intro H locs ls a1 a2 a3 hl
  obtain ⟨w1, w2, w4, w5, hmx, hnI, hdn⟩ := hc
  have hg := hen.2.2.2.2.2.2
  have hk := a1.2.2.1
  refine z_call (pc := pc) (rest := rest) a1 a2 a3 hl (va_runIN (Ts := zGT) (As := As) (b := a) ⟨hx, hb, rfl, hown, hts⟩ (hM l) ⟨va_cnB n hts (ws := Cond.code y cc2 maxL none :: zGT) (z_goodIn w5) rfl rfl rfl (hen.2.2.2.1.2.2 _ w1) (hts _ w4) hdn ⟨by show d2 + 1 ≤ _; omega, by show 8 + (maxL + 11) + 41 * d2 ≤ _; omega⟩, hnI, hts _ w2⟩
    (z_pre hen a1 a2) rfl hn hl.1 hst (lv_room hw) hd ⟨by omega, by omega⟩) kk
end ZC
end
section
/-! more rows -/
section ZP
variable {X : zX} {cc : ByteArray} {nL d : Nat} {own nm : String} {ret : Option FieldType} {G : zG} {h : zH} {top pc : Nat} {lv : List (Nat × Value)} {rest : List Value} {a : Nat}
theorem z_at.self {e e2 : va_E} (ha : z_at G h top a e) : z_at G (va_up h a e2) top a e2 := ⟨ha.1, ha.2.1, by simp [va_up]⟩
theorem z_at.ne {a2 : Nat} {e e2 : va_E} (ha : z_at G h top a e) (hne : a ≠ a2) : z_at G (va_up h a2 e2) top a e := ⟨ha.1, ha.2.1, by simp [va_up, hne, ha.2.2]⟩
theorem z_at.dif {a2 : Nat} {e e2 : va_E} (ha : z_at G h top a e) (ha2 : z_at G h top a2 e2) (hne : e ≠ e2) : a ≠ a2 := fun q => hne (by rw [← ha.2.2, ← ha2.2.2, q])
theorem z_at.up {a2 : Nat} {e e2 e3 : va_E} (ha : z_at G h top a e) (ha2 : z_at G h top a2 e2) (hne : e ≠ e2) : z_at G (va_up h a2 e3) top a e := ha.ne (ha.dif ha2 hne)
theorem z_at.new {e e2 : va_E} (ha : z_at G h top a e) : z_at G (va_up h top e2) (top + 1) a e := ⟨ha.1, by have := ha.2.1; omega, by have := ha.2.1; simp [va_up, show a ≠ top by omega, ha.2.2]⟩
theorem z_at.fresh {e2 : va_E} (hb : z_b G ≤ top) : z_at G (va_up h top e2) (top + 1) top e2 := ⟨hb, Nat.lt_succ_self _, by simp [va_up]⟩
theorem z_at.uu {e2 e3 : va_E} (ha : z_at G (va_up h a e2) top a e2) : z_at G (va_up h a e3) top a e3 := ⟨ha.1, ha.2.1, by simp [va_up]⟩
theorem r_lv {lv2 : List (Nat × Value)} (ks : List Nat) (hlv : lv_pick lv ks = lv2) (kk : z_Z X h top pc lv2 rest) : z_Z X h top pc lv rest := by
  obtain ⟨p, l, e, R, s, m, args, below, meth, c, Q, G0⟩ := X
  intro H locs ls a1 a2 a3 hl
  exact kk H locs ls a1 a2 a3 (lv_sub hl ks hlv)
theorem r_put (hX : z_ok X cc nL own ret nm d G) {idx ci j : Nat} {fs fs2 : List Value} {v : Value} {ty : FieldType} (hf : z_fp own idx ci j false ty) (ha : z_at G h top a (.inr (ci, fs))) (hn : narrow ty v = v) (hfit : fits ty v = true) (hlen : j < fs.length) (hfs : fs.set j v = fs2) (hd : decode cc pc = .ok (.putfield idx, 3)) (kk : z_Z X (va_up h a (.inr (ci, fs2))) top (pc + 3) lv rest) : z_Z X h top pc lv (v :: .ref a :: rest) := by
  subst hfs
  exact r_putf hX hf ha hn hfit hlen hd kk
theorem r_putU (hX : z_ok X cc nL own ret nm d G) {idx ci j : Nat} {fs fs2 : List Value} {v : Value} {ty : FieldType} (hf : z_fp own idx ci j false ty) (ha : z_at G (va_up h a (.inr (ci, fs))) top a (.inr (ci, fs))) (hn : narrow ty v = v) (hfit : fits ty v = true) (hlen : j < fs.length) (hfs : fs.set j v = fs2) (hd : decode cc pc = .ok (.putfield idx, 3)) (kk : z_Z X (va_up h a (.inr (ci, fs2))) top (pc + 3) lv rest) : z_Z X (va_up h a (.inr (ci, fs))) top pc lv (v :: .ref a :: rest) := by
  subst hfs
  exact r_putf hX hf ha hn hfit hlen hd (by rw [bx_uu]; exact kk)
theorem r_putFU (hX : z_ok X cc nL own ret "<init>" d G) {idx ci j : Nat} {fs fs2 : List Value} {v : Value} {ty : FieldType} (hf : z_fp own idx ci j true ty) (ha : z_at G (va_up h a (.inr (ci, fs))) top a (.inr (ci, fs))) (hn : narrow ty v = v) (hfit : fits ty v = true) (hlen : j < fs.length) (hfs : fs.set j v = fs2) (hd : decode cc pc = .ok (.putfield idx, 3)) (kk : z_Z X (va_up h a (.inr (ci, fs2))) top (pc + 3) lv rest) : z_Z X (va_up h a (.inr (ci, fs))) top pc lv (v :: .ref a :: rest) := by
  subst hfs
  exact r_putF hX hf ha hn hfit hlen hd (by rw [bx_uu]; exact kk)
theorem r_putFA (hX : z_ok X cc nL own ret "<init>" d G) {idx ci j : Nat} {fs fs2 : List Value} {v : Value} {ty : FieldType} (hf : z_fp own idx ci j true ty) (ha : z_at G h top a (.inr (ci, fs))) (hn : narrow ty v = v) (hfit : fits ty v = true) (hlen : j < fs.length) (hfs : fs.set j v = fs2) (hd : decode cc pc = .ok (.putfield idx, 3)) (kk : z_Z X (va_up h a (.inr (ci, fs2))) top (pc + 3) lv rest) : z_Z X h top pc lv (v :: .ref a :: rest) := by
  subst hfs
  exact r_putF hX hf ha hn hfit hlen hd kk
variable {y : MethodName} {cc2 : ByteArray} {maxL d2 n idx : Nat} {ret2 : Option FieldType} {As st0 st1 : List Value} {rv : Option Value} {h2 : zH} {top2 : Nat}
theorem r_callVR (hX : z_ok X cc nL own ret nm d G) {C : String} {ci : Nat} {fs : List Value} (hc : z_cV own idx C y cc2 maxL ret2 n) (hdd : d2 + 1 ≤ d) (hM : ∀ l : Launch, z_Ct l y cc2 maxL ret2 d2 G (.ref a :: As) h top (z_R rv h2 top2)) (ha : z_at G h top a (.inr (ci, fs))) (hci : (vwCl[ci]?).map (fun r => r.1) = some C) (hn : As.length = n) (hst : st0 = As.reverse ++ .ref a :: rest) (hst1 : rv.toList ++ rest = st1) (hw : (rest.map fun v => v.category).sum ≤ 8) (hd : decode cc pc = .ok (.invokevirtual idx, 3))
    (kk : z_Z X h2 top2 (pc + 3) lv st1) : z_Z X h top pc lv st0 := by
  refine r_callV hX hc hdd hM ha hci hn hst hw hd (fun r h' top' hp => ?_)
  obtain ⟨rfl, rfl, rfl⟩ := hp
  rw [hst1]
  exact kk
theorem r_callSR (hX : z_ok X cc nL own ret nm d G) (hc : z_cS own idx y cc2 maxL ret2 n) (hdd : d2 + 1 ≤ d) (hM : ∀ l : Launch, z_Ct l y cc2 maxL ret2 d2 G As h top (z_R rv h2 top2)) (hn : As.length = n) (hst : st0 = As.reverse ++ rest) (hst1 : rv.toList ++ rest = st1) (hw : (rest.map fun v => v.category).sum ≤ 8) (hd : decode cc pc = .ok (.invokestatic idx, 3))
    (kk : z_Z X h2 top2 (pc + 3) lv st1) : z_Z X h top pc lv st0 := by
  refine r_callS hX hc hdd hM hn hst hw hd (fun r h' top' hp => ?_)
  obtain ⟨rfl, rfl, rfl⟩ := hp
  rw [hst1]
  exact kk
theorem r_callSNR (hX : z_ok X cc nL own ret nm d G) {host : String} (hc : z_cSN own idx y host cc2 maxL ret2 n) (hdd : d2 + 1 ≤ d) (hM : ∀ l : Launch, z_Ct l y cc2 maxL ret2 d2 G As h top (z_R rv h2 top2)) (hn : As.length = n) (hst : st0 = As.reverse ++ rest) (hst1 : rv.toList ++ rest = st1) (hw : (rest.map fun v => v.category).sum ≤ 8) (hd : decode cc pc = .ok (.invokestatic idx, 3))
    (kk : z_Z X h2 top2 (pc + 3) lv st1) : z_Z X h top pc lv st0 := by
  refine r_callSN hX hc hdd hM hn hst hw hd (fun r h' top' hp => ?_)
  obtain ⟨rfl, rfl, rfl⟩ := hp
  rw [hst1]
  exact kk
theorem r_callIR (hX : z_ok X cc nL own ret nm d G) (hc : z_cI own idx y cc2 maxL n) (hdd : d2 + 1 ≤ d) (hM : ∀ l : Launch, z_Ct l y cc2 maxL none d2 G (.ref a :: As) h top (z_R rv h2 top2)) (hn : As.length = n) (hst : st0 = As.reverse ++ .ref a :: rest) (hst1 : rv.toList ++ rest = st1) (hw : (rest.map fun v => v.category).sum ≤ 8) (hd : decode cc pc = .ok (.invokespecial idx, 3))
    (kk : z_Z X h2 top2 (pc + 3) lv st1) : z_Z X h top pc lv st0 := by
  refine r_callI hX hc hdd hM hn hst hw hd (fun r h' top' hp => ?_)
  obtain ⟨rfl, rfl, rfl⟩ := hp
  rw [hst1]
  exact kk
theorem r_callINR (hX : z_ok X cc nL own ret nm d G) {host : String} (hc : z_cIN own idx y host cc2 maxL n) (hdd : d2 + 1 ≤ d) (hM : ∀ l : Launch, z_Ct l y cc2 maxL none d2 G (.ref a :: As) h top (z_R rv h2 top2)) (hn : As.length = n) (hst : st0 = As.reverse ++ .ref a :: rest) (hst1 : rv.toList ++ rest = st1) (hw : (rest.map fun v => v.category).sum ≤ 8) (hd : decode cc pc = .ok (.invokespecial idx, 3))
    (kk : z_Z X h2 top2 (pc + 3) lv st1) : z_Z X h top pc lv st0 := by
  refine r_callIN hX hc hdd hM hn hst hw hd (fun r h' top' hp => ?_)
  obtain ⟨rfl, rfl, rfl⟩ := hp
  rw [hst1]
  exact kk
end ZP
theorem nw_X0_9 : z_nw RX0 9 0 3 [.int 0, .null, .int 0] := ⟨RJx4a65c, TJx4a65c, tyJx4a65c, rfl, zi_0, tyJx4a65c_ok, (z_gt 113 (by decide +kernel) (by decide +kernel)), (z_gt 34 (by decide +kernel) (by decide +kernel)), (z_gt 4 (by decide +kernel) (by decide +kernel)), fun j hj => by rcases (show j = 0 ∨ j = 1 ∨ j = 2 by omega) with rfl | rfl | rfl <;> rfl, by decide⟩
theorem cs_X0_11 : z_cI RX0 11 yJx4a65c_init_da8c8 cJx4a65c_init_da8c8 1 0 := ⟨(z_gt 114 (by decide +kernel) (by decide +kernel)), (z_gt 36 (by decide +kernel) (by decide +kernel)), (z_gt 4 (by decide +kernel) (by decide +kernel)), (z_gt 37 (by decide +kernel) (by decide +kernel)), by decide, rfl, ⟨by decide +kernel, by decide +kernel, by decide +kernel⟩⟩
theorem fp_X0_12 : z_fp RX0 12 1 0 true (.object "java/util/ArrayList") := ⟨RX0, TX0, 6, "GantryHall$DayBook", tyX0, rfl, by decide, zi_1, (z_gt 115 (by decide +kernel) (by decide +kernel)), (Or.inl rfl), tyX0_ok, nmX0, rfl, fun _ => by first | rfl | contradiction, by decide +kernel⟩
theorem fp_X0_18 : z_fp RX0 18 1 1 true (.object "java/util/ArrayList") := ⟨RX0, TX0, 6, "GantryHall$DayBook", tyX0, rfl, by decide, zi_1, (z_gt 116 (by decide +kernel) (by decide +kernel)), (Or.inl rfl), tyX0_ok, nmX0, rfl, fun _ => by first | rfl | contradiction, by decide +kernel⟩
theorem fp_X0_21 : z_fp RX0 21 1 2 true (.object "java/util/ArrayList") := ⟨RX0, TX0, 6, "GantryHall$DayBook", tyX0, rfl, by decide, zi_1, (z_gt 117 (by decide +kernel) (by decide +kernel)), (Or.inl rfl), tyX0_ok, nmX0, rfl, fun _ => by first | rfl | contradiction, by decide +kernel⟩
theorem fp_X0_24 : z_fp RX0 24 1 3 true (.object "java/util/ArrayList") := ⟨RX0, TX0, 6, "GantryHall$DayBook", tyX0, rfl, by decide, zi_1, (z_gt 118 (by decide +kernel) (by decide +kernel)), (Or.inl rfl), tyX0_ok, nmX0, rfl, fun _ => by first | rfl | contradiction, by decide +kernel⟩
theorem fl_X0_21 : z_fl RX0 21 1 2 := ⟨RX0, TX0, 6, "GantryHall$DayBook", rfl, by decide, zi_1, (z_gt 117 (by decide +kernel) (by decide +kernel)), (Or.inl rfl)⟩
theorem cs_X0_27 : z_cV RX0 27 RJx4a65c yJx4a65c_size_8abf5 cJx4a65c_size_8abf5 1 (some .int) 0 := ⟨(z_gt 348 (by decide +kernel) (by decide +kernel)), (z_gt 185 (by decide +kernel) (by decide +kernel)), (z_gt 186 (by decide +kernel) (by decide +kernel)), (z_gt 4 (by decide +kernel) (by decide +kernel)), (z_gt 187 (by decide +kernel) (by decide +kernel)), by decide, ⟨by decide +kernel, by decide +kernel, by decide +kernel, by decide +kernel⟩⟩
theorem fp_X0_31 : z_fp RX0 31 1 4 false .int := ⟨RX0, TX0, 6, "GantryHall$DayBook", tyX0, rfl, by decide, zi_1, (z_gt 119 (by decide +kernel) (by decide +kernel)), (Or.inl rfl), tyX0_ok, nmX0, rfl, fun _ => by first | rfl | contradiction, by decide +kernel⟩
theorem cs_X0_35 : z_cV RX0 35 RX0 yX0_pick cX0_pick 6 none 3 := ⟨(z_gt 340 (by decide +kernel) (by decide +kernel)), (z_gt 342 (by decide +kernel) (by decide +kernel)), (z_gs 6 (by decide +kernel) (by decide +kernel)), (z_gt 7 (by decide +kernel) (by decide +kernel)), (z_gt 343 (by decide +kernel) (by decide +kernel)), by decide, ⟨by decide +kernel, by decide +kernel, by decide +kernel, by decide +kernel⟩⟩
theorem cs_X0_39 : z_cV RX0 39 RX0 yX0_joinPicked cX0_joinPicked 4 none 0 := ⟨(z_gt 424 (by decide +kernel) (by decide +kernel)), (z_gt 426 (by decide +kernel) (by decide +kernel)), (z_gs 11 (by decide +kernel) (by decide +kernel)), (z_gt 7 (by decide +kernel) (by decide +kernel)), (z_gt 427 (by decide +kernel) (by decide +kernel)), by decide, ⟨by decide +kernel, by decide +kernel, by decide +kernel, by decide +kernel⟩⟩
theorem cs_X0_42 : z_cV RX0 42 RJx4a65c yJx4a65c_clear_da8c8 cJx4a65c_clear_da8c8 4 none 0 := ⟨(z_gt 344 (by decide +kernel) (by decide +kernel)), (z_gt 345 (by decide +kernel) (by decide +kernel)), (z_gt 346 (by decide +kernel) (by decide +kernel)), (z_gt 4 (by decide +kernel) (by decide +kernel)), (z_gt 347 (by decide +kernel) (by decide +kernel)), by decide, ⟨by decide +kernel, by decide +kernel, by decide +kernel, by decide +kernel⟩⟩
theorem cs_X0_45 : z_cV RX0 45 RX0 yX0_addSure cX0_addSure 5 none 1 := ⟨(z_gt 483 (by decide +kernel) (by decide +kernel)), (z_gt 485 (by decide +kernel) (by decide +kernel)), (z_gs 15 (by decide +kernel) (by decide +kernel)), (z_gt 7 (by decide +kernel) (by decide +kernel)), (z_gt 486 (by decide +kernel) (by decide +kernel)), by decide, ⟨by decide +kernel, by decide +kernel, by decide +kernel, by decide +kernel⟩⟩
theorem fp_X0_49 : z_fp RX0 49 1 5 false .int := ⟨RX0, TX0, 6, "GantryHall$DayBook", tyX0, rfl, by decide, zi_1, (z_gt 120 (by decide +kernel) (by decide +kernel)), (Or.inl rfl), tyX0_ok, nmX0, rfl, fun _ => by first | rfl | contradiction, by decide +kernel⟩
theorem cs_X0_52 : z_cV RX0 52 RX0 yX0_addDoubtful cX0_addDoubtful 3 none 0 := ⟨(z_gt 495 (by decide +kernel) (by decide +kernel)), (z_gt 497 (by decide +kernel) (by decide +kernel)), (z_gs 17 (by decide +kernel) (by decide +kernel)), (z_gt 7 (by decide +kernel) (by decide +kernel)), (z_gt 498 (by decide +kernel) (by decide +kernel)), by decide, ⟨by decide +kernel, by decide +kernel, by decide +kernel, by decide +kernel⟩⟩
theorem fl_X0_12 : z_fl RX0 12 1 0 := ⟨RX0, TX0, 6, "GantryHall$DayBook", rfl, by decide, zi_1, (z_gt 115 (by decide +kernel) (by decide +kernel)), (Or.inl rfl)⟩
theorem cs_X0_55 : z_cV RX0 55 RJx4a65c yJx4a65c_get_915e3 cJx4a65c_get_915e3 2 (some (.object "java/lang/Object")) 1 := ⟨(z_gt 349 (by decide +kernel) (by decide +kernel)), (z_gt 282 (by decide +kernel) (by decide +kernel)), (z_gt 283 (by decide +kernel) (by decide +kernel)), (z_gt 4 (by decide +kernel) (by decide +kernel)), (z_gt 284 (by decide +kernel) (by decide +kernel)), by decide, ⟨by decide +kernel, by decide +kernel, by decide +kernel, by decide +kernel⟩⟩
theorem cl_X0_59 : Cond.classLink RX0 59 RX4 ∈ zGT := (z_gt 350 (by decide +kernel) (by decide +kernel))
theorem cs_X0_61 : z_cV RX0 61 RX4 yX4_isOf cX4_isOf 3 (some .boolean) 2 := ⟨(z_gt 351 (by decide +kernel) (by decide +kernel)), (z_gt 352 (by decide +kernel) (by decide +kernel)), (z_gt 353 (by decide +kernel) (by decide +kernel)), (z_gt 24 (by decide +kernel) (by decide +kernel)), (z_gt 354 (by decide +kernel) (by decide +kernel)), by decide, ⟨by decide +kernel, by decide +kernel, by decide +kernel, by decide +kernel⟩⟩
theorem cs_X0_65 : z_cV RX0 65 RX0 yX0_placeOf cX0_placeOf 3 (some .int) 1 := ⟨(z_gt 355 (by decide +kernel) (by decide +kernel)), (z_gt 357 (by decide +kernel) (by decide +kernel)), (z_gs 7 (by decide +kernel) (by decide +kernel)), (z_gt 7 (by decide +kernel) (by decide +kernel)), (z_gt 358 (by decide +kernel) (by decide +kernel)), by decide, ⟨by decide +kernel, by decide +kernel, by decide +kernel, by decide +kernel⟩⟩
theorem cs_X0_69 : z_cV RX0 69 RJx4a65c yJx4a65c_add_7a177 cJx4a65c_add_7a177 5 none 2 := ⟨(z_gt 363 (by decide +kernel) (by decide +kernel)), (z_gt 364 (by decide +kernel) (by decide +kernel)), (z_gt 365 (by decide +kernel) (by decide +kernel)), (z_gt 4 (by decide +kernel) (by decide +kernel)), (z_gt 366 (by decide +kernel) (by decide +kernel)), by decide, ⟨by decide +kernel, by decide +kernel, by decide +kernel, by decide +kernel⟩⟩
theorem cs_X0_73 : z_cV RX0 73 RX4 yX4_isAheadOf cX4_isAheadOf 2 (some .boolean) 1 := ⟨(z_gt 359 (by decide +kernel) (by decide +kernel)), (z_gt 360 (by decide +kernel) (by decide +kernel)), (z_gt 361 (by decide +kernel) (by decide +kernel)), (z_gt 24 (by decide +kernel) (by decide +kernel)), (z_gt 362 (by decide +kernel) (by decide +kernel)), by decide, ⟨by decide +kernel, by decide +kernel, by decide +kernel, by decide +kernel⟩⟩
theorem fl_X0_18 : z_fl RX0 18 1 1 := ⟨RX0, TX0, 6, "GantryHall$DayBook", rfl, by decide, zi_1, (z_gt 116 (by decide +kernel) (by decide +kernel)), (Or.inl rfl)⟩
theorem fl_X0_77 : z_fl RX0 77 5 1 := ⟨RX4, TX4, 5, "GantryHall$Sighting", rfl, by decide, zi_5, (z_gt 874 (by decide +kernel) (by decide +kernel)), (Or.inl rfl)⟩
theorem cs_X0_81 : z_cV RX0 81 RX0 yX0_lastOn cX0_lastOn 4 (some (.object "GantryHall$Passage")) 1 := ⟨(z_gt 428 (by decide +kernel) (by decide +kernel)), (z_gt 430 (by decide +kernel) (by decide +kernel)), (z_gs 12 (by decide +kernel) (by decide +kernel)), (z_gt 7 (by decide +kernel) (by decide +kernel)), (z_gt 431 (by decide +kernel) (by decide +kernel)), by decide, ⟨by decide +kernel, by decide +kernel, by decide +kernel, by decide +kernel⟩⟩
theorem fl_X0_85 : z_fl RX0 85 5 2 := ⟨RX4, TX4, 5, "GantryHall$Sighting", rfl, by decide, zi_5, (z_gt 877 (by decide +kernel) (by decide +kernel)), (Or.inl rfl)⟩
theorem fl_X0_88 : z_fl RX0 88 3 1 := ⟨RX2, TX2, 6, "GantryHall$Passage", rfl, by decide, zi_3, (z_gt 445 (by decide +kernel) (by decide +kernel)), (Or.inl rfl)⟩
theorem cs_X0_91 : z_cV RX0 91 RX0 yX0_begin cX0_begin 4 (some (.object "GantryHall$Passage")) 2 := ⟨(z_gt 433 (by decide +kernel) (by decide +kernel)), (z_gt 435 (by decide +kernel) (by decide +kernel)), (z_gs 13 (by decide +kernel) (by decide +kernel)), (z_gt 7 (by decide +kernel) (by decide +kernel)), (z_gt 436 (by decide +kernel) (by decide +kernel)), by decide, ⟨by decide +kernel, by decide +kernel, by decide +kernel, by decide +kernel⟩⟩
theorem cs_X0_95 : z_cV RX0 95 RJx4a65c yJx4a65c_add_9ea2d cJx4a65c_add_9ea2d 2 (some .boolean) 1 := ⟨(z_gt 467 (by decide +kernel) (by decide +kernel)), (z_gt 468 (by decide +kernel) (by decide +kernel)), (z_gt 469 (by decide +kernel) (by decide +kernel)), (z_gt 4 (by decide +kernel) (by decide +kernel)), (z_gt 470 (by decide +kernel) (by decide +kernel)), by decide, ⟨by decide +kernel, by decide +kernel, by decide +kernel, by decide +kernel⟩⟩
theorem cs_X0_98 : z_cV RX0 98 RX2 yX2_join cX2_join 2 none 1 := ⟨(z_gt 479 (by decide +kernel) (by decide +kernel)), (z_gt 480 (by decide +kernel) (by decide +kernel)), (z_gt 481 (by decide +kernel) (by decide +kernel)), (z_gt 23 (by decide +kernel) (by decide +kernel)), (z_gt 482 (by decide +kernel) (by decide +kernel)), by decide, ⟨by decide +kernel, by decide +kernel, by decide +kernel, by decide +kernel⟩⟩
theorem cl_X0_89 : Cond.classLink RX0 89 RX2 ∈ zGT := (z_gt 432 (by decide +kernel) (by decide +kernel))
theorem fl_X0_102 : z_fl RX0 102 3 0 := ⟨RX2, TX2, 6, "GantryHall$Passage", rfl, by decide, zi_3, (z_gt 443 (by decide +kernel) (by decide +kernel)), (Or.inl rfl)⟩
theorem fl_X0_31 : z_fl RX0 31 1 4 := ⟨RX0, TX0, 6, "GantryHall$DayBook", rfl, by decide, zi_1, (z_gt 119 (by decide +kernel) (by decide +kernel)), (Or.inl rfl)⟩
theorem fl_X0_24 : z_fl RX0 24 1 3 := ⟨RX0, TX0, 6, "GantryHall$DayBook", rfl, by decide, zi_1, (z_gt 118 (by decide +kernel) (by decide +kernel)), (Or.inl rfl)⟩
theorem nw_X0_89 : z_nw RX0 89 3 6 [.null, .int 0, .int 0, .int 0, .int 0, .int 0] := ⟨RX2, TX2, tyX2, rfl, zi_3, tyX2_ok, (z_gt 432 (by decide +kernel) (by decide +kernel)), (z_gt 437 (by decide +kernel) (by decide +kernel)), (z_gt 23 (by decide +kernel) (by decide +kernel)), fun j hj => by rcases (show j = 0 ∨ j = 1 ∨ j = 2 ∨ j = 3 ∨ j = 4 ∨ j = 5 by omega) with rfl | rfl | rfl | rfl | rfl | rfl <;> rfl, by decide⟩
theorem cs_X0_103 : z_cI RX0 103 yX2_init cX2_init 3 2 := ⟨(z_gt 438 (by decide +kernel) (by decide +kernel)), (z_gt 439 (by decide +kernel) (by decide +kernel)), (z_gt 23 (by decide +kernel) (by decide +kernel)), (z_gt 440 (by decide +kernel) (by decide +kernel)), by decide, rfl, ⟨by decide +kernel, by decide +kernel, by decide +kernel⟩⟩
theorem cs_X0_106 : z_cV RX0 106 RX2 yX2_restart cX2_restart 3 none 2 := ⟨(z_gt 475 (by decide +kernel) (by decide +kernel)), (z_gt 476 (by decide +kernel) (by decide +kernel)), (z_gt 477 (by decide +kernel) (by decide +kernel)), (z_gt 23 (by decide +kernel) (by decide +kernel)), (z_gt 478 (by decide +kernel) (by decide +kernel)), by decide, ⟨by decide +kernel, by decide +kernel, by decide +kernel, by decide +kernel⟩⟩
theorem fl_X0_109 : z_fl RX0 109 3 3 := ⟨RX2, TX2, 6, "GantryHall$Passage", rfl, by decide, zi_3, (z_gt 449 (by decide +kernel) (by decide +kernel)), (Or.inl rfl)⟩
theorem cs_X0_113 : z_cV RX0 113 RX0 yX0_addInferred cX0_addInferred 7 none 3 := ⟨(z_gt 487 (by decide +kernel) (by decide +kernel)), (z_gt 489 (by decide +kernel) (by decide +kernel)), (z_gs 16 (by decide +kernel) (by decide +kernel)), (z_gt 7 (by decide +kernel) (by decide +kernel)), (z_gt 490 (by decide +kernel) (by decide +kernel)), by decide, ⟨by decide +kernel, by decide +kernel, by decide +kernel, by decide +kernel⟩⟩
theorem fl_X0_117 : z_fl RX0 117 4 2 := ⟨RX3, TX3, 8, "GantryHall$Segment", rfl, by decide, zi_4, (z_gt 737 (by decide +kernel) (by decide +kernel)), (Or.inl rfl)⟩
theorem fl_X0_122 : z_fl RX0 122 4 1 := ⟨RX3, TX3, 8, "GantryHall$Segment", rfl, by decide, zi_4, (z_gt 734 (by decide +kernel) (by decide +kernel)), (Or.inl rfl)⟩
theorem cs_X0_125 : z_cS RX0 125 yX0_onlyBetween cX0_onlyBetween 6 (some (.object "GantryHall$Segment")) 3 := ⟨(z_gt 491 (by decide +kernel) (by decide +kernel)), (z_gt 492 (by decide +kernel) (by decide +kernel)), (z_gt 7 (by decide +kernel) (by decide +kernel)), (z_gt 493 (by decide +kernel) (by decide +kernel)), by decide, ⟨by decide +kernel, by decide +kernel, by decide +kernel⟩⟩
theorem cl_X0_118 : Cond.classLink RX0 118 RX3 ∈ zGT := (z_gt 494 (by decide +kernel) (by decide +kernel))
theorem fl_X0_129 : z_fl RX0 129 8 2 := ⟨RX7, TX7, 8, "GantryHall$Vehicle", rfl, by decide, zi_8, (z_gt 824 (by decide +kernel) (by decide +kernel)), (Or.inl rfl)⟩
theorem cs_X0_134 : z_cV RX0 134 RX6 yX6_price cX6_price 9 (some .int) 4 := ⟨(z_gt 549 (by decide +kernel) (by decide +kernel)), (z_gt 520 (by decide +kernel) (by decide +kernel)), (z_gt 521 (by decide +kernel) (by decide +kernel)), (z_gt 5 (by decide +kernel) (by decide +kernel)), (z_gt 522 (by decide +kernel) (by decide +kernel)), by decide, ⟨by decide +kernel, by decide +kernel, by decide +kernel, by decide +kernel⟩⟩
theorem cs_X0_140 : z_cS RX0 140 yX0_reasonOf cX0_reasonOf 4 (some .int) 4 := ⟨(z_gt 550 (by decide +kernel) (by decide +kernel)), (z_gt 551 (by decide +kernel) (by decide +kernel)), (z_gt 7 (by decide +kernel) (by decide +kernel)), (z_gt 552 (by decide +kernel) (by decide +kernel)), by decide, ⟨by decide +kernel, by decide +kernel, by decide +kernel⟩⟩
theorem fp_X0_144 : z_fp RX0 144 3 4 false .int := ⟨RX2, TX2, 6, "GantryHall$Passage", tyX2, rfl, by decide, zi_3, (z_gt 451 (by decide +kernel) (by decide +kernel)), (Or.inl rfl), tyX2_ok, nmX2, rfl, fun _ => by first | rfl | contradiction, by decide +kernel⟩
theorem fl_X0_144 : z_fl RX0 144 3 4 := ⟨RX2, TX2, 6, "GantryHall$Passage", rfl, by decide, zi_3, (z_gt 451 (by decide +kernel) (by decide +kernel)), (Or.inl rfl)⟩
theorem cs_X0_147 : z_cS RX0 147 yX0_dueFor cX0_dueFor 3 (some .int) 3 := ⟨(z_gt 555 (by decide +kernel) (by decide +kernel)), (z_gt 556 (by decide +kernel) (by decide +kernel)), (z_gt 7 (by decide +kernel) (by decide +kernel)), (z_gt 557 (by decide +kernel) (by decide +kernel)), by decide, ⟨by decide +kernel, by decide +kernel, by decide +kernel⟩⟩
theorem fp_X0_151 : z_fp RX0 151 3 5 false .int := ⟨RX2, TX2, 6, "GantryHall$Passage", tyX2, rfl, by decide, zi_3, (z_gt 453 (by decide +kernel) (by decide +kernel)), (Or.inl rfl), tyX2_ok, nmX2, rfl, fun _ => by first | rfl | contradiction, by decide +kernel⟩
theorem fl_X0_151 : z_fl RX0 151 3 5 := ⟨RX2, TX2, 6, "GantryHall$Passage", rfl, by decide, zi_3, (z_gt 453 (by decide +kernel) (by decide +kernel)), (Or.inl rfl)⟩
theorem fl_X0_154 : z_fl RX0 154 4 4 := ⟨RX3, TX3, 8, "GantryHall$Segment", rfl, by decide, zi_4, (z_gt 744 (by decide +kernel) (by decide +kernel)), (Or.inl rfl)⟩
theorem cs_X0_157 : z_cV RX0 157 RX7 yX7_isExempt cX7_isExempt 2 (some .boolean) 1 := ⟨(z_gt 553 (by decide +kernel) (by decide +kernel)), (z_gt 509 (by decide +kernel) (by decide +kernel)), (z_gt 510 (by decide +kernel) (by decide +kernel)), (z_gt 20 (by decide +kernel) (by decide +kernel)), (z_gt 511 (by decide +kernel) (by decide +kernel)), by decide, ⟨by decide +kernel, by decide +kernel, by decide +kernel, by decide +kernel⟩⟩
theorem cs_X0_161 : z_cV RX0 161 RX3 yX3_isShut cX3_isShut 3 (some .boolean) 1 := ⟨(z_gt 554 (by decide +kernel) (by decide +kernel)), (z_gt 516 (by decide +kernel) (by decide +kernel)), (z_gt 517 (by decide +kernel) (by decide +kernel)), (z_gt 14 (by decide +kernel) (by decide +kernel)), (z_gt 518 (by decide +kernel) (by decide +kernel)), by decide, ⟨by decide +kernel, by decide +kernel, by decide +kernel, by decide +kernel⟩⟩
theorem fl_X0_49 : z_fl RX0 49 1 5 := ⟨RX0, TX0, 6, "GantryHall$DayBook", rfl, by decide, zi_1, (z_gt 120 (by decide +kernel) (by decide +kernel)), (Or.inl rfl)⟩
theorem fl_X0_164 : z_fl RX0 164 3 2 := ⟨RX2, TX2, 6, "GantryHall$Passage", rfl, by decide, zi_3, (z_gt 447 (by decide +kernel) (by decide +kernel)), (Or.inl rfl)⟩
theorem cs_X0_167 : z_cSN RX0 167 yX8_isIn "GantryHall" cX8_isIn 3 (some .boolean) 3 := ⟨(by decide +kernel), (z_gt 189 (by decide +kernel) (by decide +kernel)), (z_gt 1 (by decide +kernel) (by decide +kernel)), (z_gt 190 (by decide +kernel) (by decide +kernel)), by decide, ⟨by decide +kernel, by decide +kernel, by decide +kernel⟩⟩
theorem fl_X0_171 : z_fl RX0 171 4 0 := ⟨RX3, TX3, 8, "GantryHall$Segment", rfl, by decide, zi_4, (z_gt 732 (by decide +kernel) (by decide +kernel)), (Or.inl rfl)⟩
theorem fp_X1_9 : z_fp RX1 9 2 0 true (.array .int) := ⟨RX1, TX1, 6, "GantryHall$Ledger", tyX1, rfl, by decide, zi_2, (z_gt 84 (by decide +kernel) (by decide +kernel)), (Or.inl rfl), tyX1_ok, nmX1, rfl, fun _ => by first | rfl | contradiction, by decide +kernel⟩
theorem fp_X1_15 : z_fp RX1 15 2 1 true (.array .int) := ⟨RX1, TX1, 6, "GantryHall$Ledger", tyX1, rfl, by decide, zi_2, (z_gt 85 (by decide +kernel) (by decide +kernel)), (Or.inl rfl), tyX1_ok, nmX1, rfl, fun _ => by first | rfl | contradiction, by decide +kernel⟩
theorem fp_X1_18 : z_fp RX1 18 2 2 true (.array .int) := ⟨RX1, TX1, 6, "GantryHall$Ledger", tyX1, rfl, by decide, zi_2, (z_gt 86 (by decide +kernel) (by decide +kernel)), (Or.inl rfl), tyX1_ok, nmX1, rfl, fun _ => by first | rfl | contradiction, by decide +kernel⟩
theorem fl_X1_9 : z_fl RX1 9 2 0 := ⟨RX1, TX1, 6, "GantryHall$Ledger", rfl, by decide, zi_2, (z_gt 84 (by decide +kernel) (by decide +kernel)), (Or.inl rfl)⟩
theorem fl_X1_15 : z_fl RX1 15 2 1 := ⟨RX1, TX1, 6, "GantryHall$Ledger", rfl, by decide, zi_2, (z_gt 85 (by decide +kernel) (by decide +kernel)), (Or.inl rfl)⟩
theorem cs_X1_21 : z_cS RX1 21 yX1_placeOf cX1_placeOf 3 (some .int) 3 := ⟨(z_gt 566 (by decide +kernel) (by decide +kernel)), (z_gt 567 (by decide +kernel) (by decide +kernel)), (z_gt 6 (by decide +kernel) (by decide +kernel)), (z_gt 568 (by decide +kernel) (by decide +kernel)), by decide, ⟨by decide +kernel, by decide +kernel, by decide +kernel⟩⟩
theorem fl_X1_18 : z_fl RX1 18 2 2 := ⟨RX1, TX1, 6, "GantryHall$Ledger", rfl, by decide, zi_2, (z_gt 86 (by decide +kernel) (by decide +kernel)), (Or.inl rfl)⟩
theorem fl_X1_25 : z_fl RX1 25 2 4 := ⟨RX1, TX1, 6, "GantryHall$Ledger", rfl, by decide, zi_2, (z_gt 89 (by decide +kernel) (by decide +kernel)), (Or.inl rfl)⟩
theorem fp_X1_25 : z_fp RX1 25 2 4 false .int := ⟨RX1, TX1, 6, "GantryHall$Ledger", tyX1, rfl, by decide, zi_2, (z_gt 89 (by decide +kernel) (by decide +kernel)), (Or.inl rfl), tyX1_ok, nmX1, rfl, fun _ => by first | rfl | contradiction, by decide +kernel⟩
theorem cs_X1_29 : z_cV RX1 29 RX1 yX1_share cX1_share 5 none 3 := ⟨(z_gt 569 (by decide +kernel) (by decide +kernel)), (z_gt 571 (by decide +kernel) (by decide +kernel)), (z_gs 19 (by decide +kernel) (by decide +kernel)), (z_gt 6 (by decide +kernel) (by decide +kernel)), (z_gt 572 (by decide +kernel) (by decide +kernel)), by decide, ⟨by decide +kernel, by decide +kernel, by decide +kernel, by decide +kernel⟩⟩
theorem fl_X1_33 : z_fl RX1 33 2 5 := ⟨RX1, TX1, 6, "GantryHall$Ledger", rfl, by decide, zi_2, (z_gt 91 (by decide +kernel) (by decide +kernel)), (Or.inl rfl)⟩
theorem fp_X1_33 : z_fp RX1 33 2 5 false .int := ⟨RX1, TX1, 6, "GantryHall$Ledger", tyX1, rfl, by decide, zi_2, (z_gt 91 (by decide +kernel) (by decide +kernel)), (Or.inl rfl), tyX1_ok, nmX1, rfl, fun _ => by first | rfl | contradiction, by decide +kernel⟩
theorem fl_X1_36 : z_fl RX1 36 2 3 := ⟨RX1, TX1, 6, "GantryHall$Ledger", rfl, by decide, zi_2, (z_gt 87 (by decide +kernel) (by decide +kernel)), (Or.inl rfl)⟩
theorem fp_X1_36 : z_fp RX1 36 2 3 false .int := ⟨RX1, TX1, 6, "GantryHall$Ledger", tyX1, rfl, by decide, zi_2, (z_gt 87 (by decide +kernel) (by decide +kernel)), (Or.inl rfl), tyX1_ok, nmX1, rfl, fun _ => by first | rfl | contradiction, by decide +kernel⟩
theorem fp_X2_9 : z_fp RX2 9 3 0 false (.object "GantryHall$Segment") := ⟨RX2, TX2, 6, "GantryHall$Passage", tyX2, rfl, by decide, zi_3, (z_gt 442 (by decide +kernel) (by decide +kernel)), (Or.inl rfl), tyX2_ok, nmX2, rfl, fun _ => by first | rfl | contradiction, by decide +kernel⟩
theorem fp_X2_15 : z_fp RX2 15 3 1 false .int := ⟨RX2, TX2, 6, "GantryHall$Passage", tyX2, rfl, by decide, zi_3, (z_gt 444 (by decide +kernel) (by decide +kernel)), (Or.inl rfl), tyX2_ok, nmX2, rfl, fun _ => by first | rfl | contradiction, by decide +kernel⟩
theorem fp_X2_19 : z_fp RX2 19 3 2 false .int := ⟨RX2, TX2, 6, "GantryHall$Passage", tyX2, rfl, by decide, zi_3, (z_gt 446 (by decide +kernel) (by decide +kernel)), (Or.inl rfl), tyX2_ok, nmX2, rfl, fun _ => by first | rfl | contradiction, by decide +kernel⟩
theorem fp_X2_22 : z_fp RX2 22 3 3 false .boolean := ⟨RX2, TX2, 6, "GantryHall$Passage", tyX2, rfl, by decide, zi_3, (z_gt 448 (by decide +kernel) (by decide +kernel)), (Or.inl rfl), tyX2_ok, nmX2, rfl, fun _ => by first | rfl | contradiction, by decide +kernel⟩
theorem fp_X2_26 : z_fp RX2 26 3 4 false .int := ⟨RX2, TX2, 6, "GantryHall$Passage", tyX2, rfl, by decide, zi_3, (z_gt 450 (by decide +kernel) (by decide +kernel)), (Or.inl rfl), tyX2_ok, nmX2, rfl, fun _ => by first | rfl | contradiction, by decide +kernel⟩
theorem fp_X2_29 : z_fp RX2 29 3 5 false .int := ⟨RX2, TX2, 6, "GantryHall$Passage", tyX2, rfl, by decide, zi_3, (z_gt 452 (by decide +kernel) (by decide +kernel)), (Or.inl rfl), tyX2_ok, nmX2, rfl, fun _ => by first | rfl | contradiction, by decide +kernel⟩
theorem fl_X2_19 : z_fl RX2 19 3 2 := ⟨RX2, TX2, 6, "GantryHall$Passage", rfl, by decide, zi_3, (z_gt 446 (by decide +kernel) (by decide +kernel)), (Or.inl rfl)⟩
theorem fl_X2_32 : z_fl RX2 32 5 3 := ⟨RX4, TX4, 5, "GantryHall$Sighting", rfl, by decide, zi_5, (z_gt 880 (by decide +kernel) (by decide +kernel)), (Or.inl rfl)⟩
theorem fp_X3_9 : z_fp RX3 9 4 5 true (.array .int) := ⟨RX3, TX3, 8, "GantryHall$Segment", tyX3, rfl, by decide, zi_4, (z_gt 746 (by decide +kernel) (by decide +kernel)), (Or.inl rfl), tyX3_ok, nmX3, rfl, fun _ => by first | rfl | contradiction, by decide +kernel⟩
theorem fp_X3_15 : z_fp RX3 15 4 6 true (.array .int) := ⟨RX3, TX3, 8, "GantryHall$Segment", tyX3, rfl, by decide, zi_4, (z_gt 747 (by decide +kernel) (by decide +kernel)), (Or.inl rfl), tyX3_ok, nmX3, rfl, fun _ => by first | rfl | contradiction, by decide +kernel⟩
theorem fp_X3_18 : z_fp RX3 18 4 0 true .int := ⟨RX3, TX3, 8, "GantryHall$Segment", tyX3, rfl, by decide, zi_4, (z_gt 729 (by decide +kernel) (by decide +kernel)), (Or.inl rfl), tyX3_ok, nmX3, rfl, fun _ => by first | rfl | contradiction, by decide +kernel⟩
theorem fp_X3_22 : z_fp RX3 22 4 1 true .int := ⟨RX3, TX3, 8, "GantryHall$Segment", tyX3, rfl, by decide, zi_4, (z_gt 733 (by decide +kernel) (by decide +kernel)), (Or.inl rfl), tyX3_ok, nmX3, rfl, fun _ => by first | rfl | contradiction, by decide +kernel⟩
theorem fp_X3_25 : z_fp RX3 25 4 2 true .int := ⟨RX3, TX3, 8, "GantryHall$Segment", tyX3, rfl, by decide, zi_4, (z_gt 736 (by decide +kernel) (by decide +kernel)), (Or.inl rfl), tyX3_ok, nmX3, rfl, fun _ => by first | rfl | contradiction, by decide +kernel⟩
theorem fp_X3_28 : z_fp RX3 28 4 3 true .int := ⟨RX3, TX3, 8, "GantryHall$Segment", tyX3, rfl, by decide, zi_4, (z_gt 739 (by decide +kernel) (by decide +kernel)), (Or.inl rfl), tyX3_ok, nmX3, rfl, fun _ => by first | rfl | contradiction, by decide +kernel⟩
theorem fp_X3_31 : z_fp RX3 31 4 4 true .int := ⟨RX3, TX3, 8, "GantryHall$Segment", tyX3, rfl, by decide, zi_4, (z_gt 742 (by decide +kernel) (by decide +kernel)), (Or.inl rfl), tyX3_ok, nmX3, rfl, fun _ => by first | rfl | contradiction, by decide +kernel⟩
theorem fl_X3_34 : z_fl RX3 34 4 7 := ⟨RX3, TX3, 8, "GantryHall$Segment", rfl, by decide, zi_4, (z_gt 748 (by decide +kernel) (by decide +kernel)), (Or.inl rfl)⟩
theorem fl_X3_9 : z_fl RX3 9 4 5 := ⟨RX3, TX3, 8, "GantryHall$Segment", rfl, by decide, zi_4, (z_gt 746 (by decide +kernel) (by decide +kernel)), (Or.inl rfl)⟩
theorem fl_X3_15 : z_fl RX3 15 4 6 := ⟨RX3, TX3, 8, "GantryHall$Segment", rfl, by decide, zi_4, (z_gt 747 (by decide +kernel) (by decide +kernel)), (Or.inl rfl)⟩
theorem fp_X4_9 : z_fp RX4 9 5 0 false (.object "GantryHall$Vehicle") := ⟨RX4, TX4, 5, "GantryHall$Sighting", tyX4, rfl, by decide, zi_5, (z_gt 871 (by decide +kernel) (by decide +kernel)), (Or.inl rfl), tyX4_ok, nmX4, rfl, fun _ => by first | rfl | contradiction, by decide +kernel⟩
theorem fp_X4_15 : z_fp RX4 15 5 1 true (.object "GantryHall$Segment") := ⟨RX4, TX4, 5, "GantryHall$Sighting", tyX4, rfl, by decide, zi_5, (z_gt 873 (by decide +kernel) (by decide +kernel)), (Or.inl rfl), tyX4_ok, nmX4, rfl, fun _ => by first | rfl | contradiction, by decide +kernel⟩
theorem fp_X4_19 : z_fp RX4 19 5 2 true .int := ⟨RX4, TX4, 5, "GantryHall$Sighting", tyX4, rfl, by decide, zi_5, (z_gt 876 (by decide +kernel) (by decide +kernel)), (Or.inl rfl), tyX4_ok, nmX4, rfl, fun _ => by first | rfl | contradiction, by decide +kernel⟩
theorem fp_X4_23 : z_fp RX4 23 5 3 true .int := ⟨RX4, TX4, 5, "GantryHall$Sighting", tyX4, rfl, by decide, zi_5, (z_gt 879 (by decide +kernel) (by decide +kernel)), (Or.inl rfl), tyX4_ok, nmX4, rfl, fun _ => by first | rfl | contradiction, by decide +kernel⟩
theorem fl_X4_9 : z_fl RX4 9 5 0 := ⟨RX4, TX4, 5, "GantryHall$Sighting", rfl, by decide, zi_5, (z_gt 871 (by decide +kernel) (by decide +kernel)), (Or.inl rfl)⟩
theorem fl_X4_19 : z_fl RX4 19 5 2 := ⟨RX4, TX4, 5, "GantryHall$Sighting", rfl, by decide, zi_5, (z_gt 876 (by decide +kernel) (by decide +kernel)), (Or.inl rfl)⟩
theorem fl_X4_26 : z_fl RX4 26 5 4 := ⟨RX4, TX4, 5, "GantryHall$Sighting", rfl, by decide, zi_5, (z_gt 882 (by decide +kernel) (by decide +kernel)), (Or.inl rfl)⟩
theorem fl_X4_15 : z_fl RX4 15 5 1 := ⟨RX4, TX4, 5, "GantryHall$Sighting", rfl, by decide, zi_5, (z_gt 873 (by decide +kernel) (by decide +kernel)), (Or.inl rfl)⟩
theorem fl_X4_30 : z_fl RX4 30 4 0 := ⟨RX3, TX3, 8, "GantryHall$Segment", rfl, by decide, zi_4, (z_gt 730 (by decide +kernel) (by decide +kernel)), (Or.inl rfl)⟩
theorem fp_X5_7 : z_fp RX5 7 6 0 true .int := ⟨RX5, TX5, 5, "GantryHall$Tariff", tyX5, rfl, by decide, zi_6, (z_gt 781 (by decide +kernel) (by decide +kernel)), (Or.inl rfl), tyX5_ok, nmX5, rfl, fun _ => by first | rfl | contradiction, by decide +kernel⟩
theorem fp_X5_13 : z_fp RX5 13 6 1 true .int := ⟨RX5, TX5, 5, "GantryHall$Tariff", tyX5, rfl, by decide, zi_6, (z_gt 783 (by decide +kernel) (by decide +kernel)), (Or.inl rfl), tyX5_ok, nmX5, rfl, fun _ => by first | rfl | contradiction, by decide +kernel⟩
theorem fp_X5_16 : z_fp RX5 16 6 2 true .int := ⟨RX5, TX5, 5, "GantryHall$Tariff", tyX5, rfl, by decide, zi_6, (z_gt 786 (by decide +kernel) (by decide +kernel)), (Or.inl rfl), tyX5_ok, nmX5, rfl, fun _ => by first | rfl | contradiction, by decide +kernel⟩
theorem fp_X5_19 : z_fp RX5 19 6 3 true .int := ⟨RX5, TX5, 5, "GantryHall$Tariff", tyX5, rfl, by decide, zi_6, (z_gt 789 (by decide +kernel) (by decide +kernel)), (Or.inl rfl), tyX5_ok, nmX5, rfl, fun _ => by first | rfl | contradiction, by decide +kernel⟩
theorem fp_X5_22 : z_fp RX5 22 6 4 true .int := ⟨RX5, TX5, 5, "GantryHall$Tariff", tyX5, rfl, by decide, zi_6, (z_gt 792 (by decide +kernel) (by decide +kernel)), (Or.inl rfl), tyX5_ok, nmX5, rfl, fun _ => by first | rfl | contradiction, by decide +kernel⟩
theorem nw_X6_9 : z_nw RX6 9 0 3 [.int 0, .null, .int 0] := ⟨RJx4a65c, TJx4a65c, tyJx4a65c, rfl, zi_0, tyJx4a65c_ok, (z_gt 65 (by decide +kernel) (by decide +kernel)), (z_gt 34 (by decide +kernel) (by decide +kernel)), (z_gt 4 (by decide +kernel) (by decide +kernel)), fun j hj => by rcases (show j = 0 ∨ j = 1 ∨ j = 2 by omega) with rfl | rfl | rfl <;> rfl, by decide⟩
theorem cs_X6_11 : z_cI RX6 11 yJx4a65c_init_da8c8 cJx4a65c_init_da8c8 1 0 := ⟨(z_gt 66 (by decide +kernel) (by decide +kernel)), (z_gt 36 (by decide +kernel) (by decide +kernel)), (z_gt 4 (by decide +kernel) (by decide +kernel)), (z_gt 37 (by decide +kernel) (by decide +kernel)), by decide, rfl, ⟨by decide +kernel, by decide +kernel, by decide +kernel⟩⟩
theorem fp_X6_12 : z_fp RX6 12 7 0 true (.object "java/util/ArrayList") := ⟨RX6, TX6, 3, "GantryHall$Tariffs", tyX6, rfl, by decide, zi_7, (z_gt 67 (by decide +kernel) (by decide +kernel)), (Or.inl rfl), tyX6_ok, nmX6, rfl, fun _ => by first | rfl | contradiction, by decide +kernel⟩
theorem fp_X6_18 : z_fp RX6 18 7 1 true (.array .boolean) := ⟨RX6, TX6, 3, "GantryHall$Tariffs", tyX6, rfl, by decide, zi_7, (z_gt 68 (by decide +kernel) (by decide +kernel)), (Or.inl rfl), tyX6_ok, nmX6, rfl, fun _ => by first | rfl | contradiction, by decide +kernel⟩
theorem fl_X6_12 : z_fl RX6 12 7 0 := ⟨RX6, TX6, 3, "GantryHall$Tariffs", rfl, by decide, zi_7, (z_gt 67 (by decide +kernel) (by decide +kernel)), (Or.inl rfl)⟩
theorem cs_X6_22 : z_cV RX6 22 RJx4a65c yJx4a65c_size_8abf5 cJx4a65c_size_8abf5 1 (some .int) 0 := ⟨(z_gt 527 (by decide +kernel) (by decide +kernel)), (z_gt 185 (by decide +kernel) (by decide +kernel)), (z_gt 186 (by decide +kernel) (by decide +kernel)), (z_gt 4 (by decide +kernel) (by decide +kernel)), (z_gt 187 (by decide +kernel) (by decide +kernel)), by decide, ⟨by decide +kernel, by decide +kernel, by decide +kernel, by decide +kernel⟩⟩
theorem cs_X6_26 : z_cV RX6 26 RJx4a65c yJx4a65c_add_9ea2d cJx4a65c_add_9ea2d 2 (some .boolean) 1 := ⟨(z_gt 809 (by decide +kernel) (by decide +kernel)), (z_gt 468 (by decide +kernel) (by decide +kernel)), (z_gt 469 (by decide +kernel) (by decide +kernel)), (z_gt 4 (by decide +kernel) (by decide +kernel)), (z_gt 470 (by decide +kernel) (by decide +kernel)), by decide, ⟨by decide +kernel, by decide +kernel, by decide +kernel, by decide +kernel⟩⟩
theorem fl_X6_18 : z_fl RX6 18 7 1 := ⟨RX6, TX6, 3, "GantryHall$Tariffs", rfl, by decide, zi_7, (z_gt 68 (by decide +kernel) (by decide +kernel)), (Or.inl rfl)⟩
theorem cs_X6_34 : z_cV RX6 34 RJx4a65c yJx4a65c_get_915e3 cJx4a65c_get_915e3 2 (some (.object "java/lang/Object")) 1 := ⟨(z_gt 528 (by decide +kernel) (by decide +kernel)), (z_gt 282 (by decide +kernel) (by decide +kernel)), (z_gt 283 (by decide +kernel) (by decide +kernel)), (z_gt 4 (by decide +kernel) (by decide +kernel)), (z_gt 284 (by decide +kernel) (by decide +kernel)), by decide, ⟨by decide +kernel, by decide +kernel, by decide +kernel, by decide +kernel⟩⟩
theorem cl_X6_38 : Cond.classLink RX6 38 RX5 ∈ zGT := (z_gt 529 (by decide +kernel) (by decide +kernel))
theorem fl_X6_40 : z_fl RX6 40 6 0 := ⟨RX5, TX5, 5, "GantryHall$Tariff", rfl, by decide, zi_6, (z_gt 782 (by decide +kernel) (by decide +kernel)), (Or.inl rfl)⟩
theorem fl_X6_43 : z_fl RX6 43 6 4 := ⟨RX5, TX5, 5, "GantryHall$Tariff", rfl, by decide, zi_6, (z_gt 793 (by decide +kernel) (by decide +kernel)), (Or.inl rfl)⟩
theorem fl_X6_46 : z_fl RX6 46 4 4 := ⟨RX3, TX3, 8, "GantryHall$Segment", rfl, by decide, zi_4, (z_gt 743 (by decide +kernel) (by decide +kernel)), (Or.inl rfl)⟩
theorem cs_X6_49 : z_cV RX6 49 RX6 yX6_inForce cX6_inForce 5 (some (.object "GantryHall$Tariff")) 2 := ⟨(z_gt 523 (by decide +kernel) (by decide +kernel)), (z_gt 524 (by decide +kernel) (by decide +kernel)), (z_gt 525 (by decide +kernel) (by decide +kernel)), (z_gt 5 (by decide +kernel) (by decide +kernel)), (z_gt 526 (by decide +kernel) (by decide +kernel)), by decide, ⟨by decide +kernel, by decide +kernel, by decide +kernel, by decide +kernel⟩⟩
theorem fl_X6_53 : z_fl RX6 53 4 3 := ⟨RX3, TX3, 8, "GantryHall$Segment", rfl, by decide, zi_4, (z_gt 740 (by decide +kernel) (by decide +kernel)), (Or.inl rfl)⟩
theorem fl_X6_56 : z_fl RX6 56 6 1 := ⟨RX5, TX5, 5, "GantryHall$Tariff", rfl, by decide, zi_6, (z_gt 784 (by decide +kernel) (by decide +kernel)), (Or.inl rfl)⟩
theorem fl_X6_59 : z_fl RX6 59 6 2 := ⟨RX5, TX5, 5, "GantryHall$Tariff", rfl, by decide, zi_6, (z_gt 787 (by decide +kernel) (by decide +kernel)), (Or.inl rfl)⟩
theorem cs_X6_62 : z_cS RX6 62 yX6_isPeakHour cX6_isPeakHour 2 (some .boolean) 1 := ⟨(z_gt 530 (by decide +kernel) (by decide +kernel)), (z_gt 531 (by decide +kernel) (by decide +kernel)), (z_gt 5 (by decide +kernel) (by decide +kernel)), (z_gt 532 (by decide +kernel) (by decide +kernel)), by decide, ⟨by decide +kernel, by decide +kernel, by decide +kernel⟩⟩
theorem cs_X6_66 : z_cV RX6 66 RX6 yX6_isHoliday cX6_isHoliday 2 (some .boolean) 1 := ⟨(z_gt 533 (by decide +kernel) (by decide +kernel)), (z_gt 534 (by decide +kernel) (by decide +kernel)), (z_gt 535 (by decide +kernel) (by decide +kernel)), (z_gt 5 (by decide +kernel) (by decide +kernel)), (z_gt 536 (by decide +kernel) (by decide +kernel)), by decide, ⟨by decide +kernel, by decide +kernel, by decide +kernel, by decide +kernel⟩⟩
theorem fl_X6_69 : z_fl RX6 69 6 3 := ⟨RX5, TX5, 5, "GantryHall$Tariff", rfl, by decide, zi_6, (z_gt 790 (by decide +kernel) (by decide +kernel)), (Or.inl rfl)⟩
theorem fp_X7_9 : z_fp RX7 9 8 0 true .int := ⟨RX7, TX7, 8, "GantryHall$Vehicle", tyX7, rfl, by decide, zi_8, (z_gt 819 (by decide +kernel) (by decide +kernel)), (Or.inl rfl), tyX7_ok, nmX7, rfl, fun _ => by first | rfl | contradiction, by decide +kernel⟩
theorem fp_X7_15 : z_fp RX7 15 8 1 true .int := ⟨RX7, TX7, 8, "GantryHall$Vehicle", tyX7, rfl, by decide, zi_8, (z_gt 821 (by decide +kernel) (by decide +kernel)), (Or.inl rfl), tyX7_ok, nmX7, rfl, fun _ => by first | rfl | contradiction, by decide +kernel⟩
theorem fp_X7_18 : z_fp RX7 18 8 2 true .int := ⟨RX7, TX7, 8, "GantryHall$Vehicle", tyX7, rfl, by decide, zi_8, (z_gt 823 (by decide +kernel) (by decide +kernel)), (Or.inl rfl), tyX7_ok, nmX7, rfl, fun _ => by first | rfl | contradiction, by decide +kernel⟩
theorem fp_X7_21 : z_fp RX7 21 8 3 true .int := ⟨RX7, TX7, 8, "GantryHall$Vehicle", tyX7, rfl, by decide, zi_8, (z_gt 826 (by decide +kernel) (by decide +kernel)), (Or.inl rfl), tyX7_ok, nmX7, rfl, fun _ => by first | rfl | contradiction, by decide +kernel⟩
theorem fl_X7_21 : z_fl RX7 21 8 3 := ⟨RX7, TX7, 8, "GantryHall$Vehicle", rfl, by decide, zi_8, (z_gt 826 (by decide +kernel) (by decide +kernel)), (Or.inl rfl)⟩
theorem fl_X7_24 : z_fl RX7 24 8 4 := ⟨RX7, TX7, 8, "GantryHall$Vehicle", rfl, by decide, zi_8, (z_gt 828 (by decide +kernel) (by decide +kernel)), (Or.inl rfl)⟩
theorem fl_X7_27 : z_fl RX7 27 8 5 := ⟨RX7, TX7, 8, "GantryHall$Vehicle", rfl, by decide, zi_8, (z_gt 830 (by decide +kernel) (by decide +kernel)), (Or.inl rfl)⟩
theorem cs_X7_30 : z_cSN RX7 30 yX8_hasBit "GantryHall" cX8_hasBit 2 (some .boolean) 2 := ⟨(by decide +kernel), (z_gt 513 (by decide +kernel) (by decide +kernel)), (z_gt 1 (by decide +kernel) (by decide +kernel)), (z_gt 514 (by decide +kernel) (by decide +kernel)), by decide, ⟨by decide +kernel, by decide +kernel, by decide +kernel⟩⟩
theorem fp_X7_27 : z_fp RX7 27 8 5 false .int := ⟨RX7, TX7, 8, "GantryHall$Vehicle", tyX7, rfl, by decide, zi_8, (z_gt 830 (by decide +kernel) (by decide +kernel)), (Or.inl rfl), tyX7_ok, nmX7, rfl, fun _ => by first | rfl | contradiction, by decide +kernel⟩
theorem nw_X8_7 : z_nw RX8 7 0 3 [.int 0, .null, .int 0] := ⟨RJx4a65c, TJx4a65c, tyJx4a65c, rfl, zi_0, tyJx4a65c_ok, (z_gt 33 (by decide +kernel) (by decide +kernel)), (z_gt 34 (by decide +kernel) (by decide +kernel)), (z_gt 4 (by decide +kernel) (by decide +kernel)), fun j hj => by rcases (show j = 0 ∨ j = 1 ∨ j = 2 by omega) with rfl | rfl | rfl <;> rfl, by decide⟩
theorem cs_X8_9 : z_cI RX8 9 yJx4a65c_init_da8c8 cJx4a65c_init_da8c8 1 0 := ⟨(z_gt 35 (by decide +kernel) (by decide +kernel)), (z_gt 36 (by decide +kernel) (by decide +kernel)), (z_gt 4 (by decide +kernel) (by decide +kernel)), (z_gt 37 (by decide +kernel) (by decide +kernel)), by decide, rfl, ⟨by decide +kernel, by decide +kernel, by decide +kernel⟩⟩
theorem fp_X8_10 : z_fp RX8 10 9 0 true (.object "java/util/ArrayList") := ⟨RX8, TX8, 14, "GantryHall", tyX8, rfl, by decide, zi_9, (z_gt 134 (by decide +kernel) (by decide +kernel)), (Or.inl rfl), tyX8_ok, nmX8, rfl, fun _ => by first | rfl | contradiction, by decide +kernel⟩
theorem fp_X8_16 : z_fp RX8 16 9 1 true (.object "java/util/ArrayList") := ⟨RX8, TX8, 14, "GantryHall", tyX8, rfl, by decide, zi_9, (z_gt 135 (by decide +kernel) (by decide +kernel)), (Or.inl rfl), tyX8_ok, nmX8, rfl, fun _ => by first | rfl | contradiction, by decide +kernel⟩
theorem fp_X8_19 : z_fp RX8 19 9 2 true (.object "java/util/ArrayList") := ⟨RX8, TX8, 14, "GantryHall", tyX8, rfl, by decide, zi_9, (z_gt 136 (by decide +kernel) (by decide +kernel)), (Or.inl rfl), tyX8_ok, nmX8, rfl, fun _ => by first | rfl | contradiction, by decide +kernel⟩
theorem nw_X8_22 : z_nw RX8 22 7 3 [.null, .null, .int 0] := ⟨RX6, TX6, tyX6, rfl, zi_7, tyX6_ok, (z_gt 59 (by decide +kernel) (by decide +kernel)), (z_gt 60 (by decide +kernel) (by decide +kernel)), (z_gt 5 (by decide +kernel) (by decide +kernel)), fun j hj => by rcases (show j = 0 ∨ j = 1 ∨ j = 2 by omega) with rfl | rfl | rfl <;> rfl, by decide⟩
theorem cs_X8_24 : z_cIN RX8 24 yX6_init "GantryHall" cX6_init 1 0 := ⟨(by decide +kernel), (z_gt 62 (by decide +kernel) (by decide +kernel)), (z_gt 5 (by decide +kernel) (by decide +kernel)), (z_gt 63 (by decide +kernel) (by decide +kernel)), by decide, rfl, ⟨by decide +kernel, by decide +kernel, by decide +kernel⟩⟩
theorem fp_X8_25 : z_fp RX8 25 9 3 true (.object "GantryHall$Tariffs") := ⟨RX8, TX8, 14, "GantryHall", tyX8, rfl, by decide, zi_9, (z_gt 137 (by decide +kernel) (by decide +kernel)), (Or.inl rfl), tyX8_ok, nmX8, rfl, fun _ => by first | rfl | contradiction, by decide +kernel⟩
theorem nw_X8_29 : z_nw RX8 29 2 6 [.null, .null, .null, .int 0, .int 0, .int 0] := ⟨RX1, TX1, tyX1, rfl, zi_2, tyX1_ok, (z_gt 78 (by decide +kernel) (by decide +kernel)), (z_gt 79 (by decide +kernel) (by decide +kernel)), (z_gt 6 (by decide +kernel) (by decide +kernel)), fun j hj => by rcases (show j = 0 ∨ j = 1 ∨ j = 2 ∨ j = 3 ∨ j = 4 ∨ j = 5 by omega) with rfl | rfl | rfl | rfl | rfl | rfl <;> rfl, by decide⟩
theorem cs_X8_31 : z_cIN RX8 31 yX1_init "GantryHall" cX1_init 1 0 := ⟨(by decide +kernel), (z_gt 81 (by decide +kernel) (by decide +kernel)), (z_gt 6 (by decide +kernel) (by decide +kernel)), (z_gt 82 (by decide +kernel) (by decide +kernel)), by decide, rfl, ⟨by decide +kernel, by decide +kernel, by decide +kernel⟩⟩
theorem fp_X8_32 : z_fp RX8 32 9 4 true (.object "GantryHall$Ledger") := ⟨RX8, TX8, 14, "GantryHall", tyX8, rfl, by decide, zi_9, (z_gt 138 (by decide +kernel) (by decide +kernel)), (Or.inl rfl), tyX8_ok, nmX8, rfl, fun _ => by first | rfl | contradiction, by decide +kernel⟩
theorem nw_X8_36 : z_nw RX8 36 1 6 [.null, .null, .null, .null, .int 0, .int 0] := ⟨RX0, TX0, tyX0, rfl, zi_1, tyX0_ok, (z_gt 107 (by decide +kernel) (by decide +kernel)), (z_gt 108 (by decide +kernel) (by decide +kernel)), (z_gt 7 (by decide +kernel) (by decide +kernel)), fun j hj => by rcases (show j = 0 ∨ j = 1 ∨ j = 2 ∨ j = 3 ∨ j = 4 ∨ j = 5 by omega) with rfl | rfl | rfl | rfl | rfl | rfl <;> rfl, by decide⟩
theorem cs_X8_38 : z_cIN RX8 38 yX0_init "GantryHall" cX0_init 1 0 := ⟨(by decide +kernel), (z_gt 110 (by decide +kernel) (by decide +kernel)), (z_gt 7 (by decide +kernel) (by decide +kernel)), (z_gt 111 (by decide +kernel) (by decide +kernel)), by decide, rfl, ⟨by decide +kernel, by decide +kernel, by decide +kernel⟩⟩
theorem fp_X8_39 : z_fp RX8 39 9 5 true (.object "GantryHall$DayBook") := ⟨RX8, TX8, 14, "GantryHall", tyX8, rfl, by decide, zi_9, (z_gt 139 (by decide +kernel) (by decide +kernel)), (Or.inl rfl), tyX8_ok, nmX8, rfl, fun _ => by first | rfl | contradiction, by decide +kernel⟩
theorem fp_X8_43 : z_fp RX8 43 9 6 true (.array .int) := ⟨RX8, TX8, 14, "GantryHall", tyX8, rfl, by decide, zi_9, (z_gt 140 (by decide +kernel) (by decide +kernel)), (Or.inl rfl), tyX8_ok, nmX8, rfl, fun _ => by first | rfl | contradiction, by decide +kernel⟩
theorem fp_X8_47 : z_fp RX8 47 9 9 false .int := ⟨RX8, TX8, 14, "GantryHall", tyX8, rfl, by decide, zi_9, (z_gt 142 (by decide +kernel) (by decide +kernel)), (Or.inl rfl), tyX8_ok, nmX8, rfl, fun _ => by first | rfl | contradiction, by decide +kernel⟩
theorem cs_X8_51 : z_cS RX8 51 yX8_isKnot cX8_isKnot 1 (some .boolean) 1 := ⟨(z_gt 619 (by decide +kernel) (by decide +kernel)), (z_gt 620 (by decide +kernel) (by decide +kernel)), (z_gt 1 (by decide +kernel) (by decide +kernel)), (z_gt 621 (by decide +kernel) (by decide +kernel)), by decide, ⟨by decide +kernel, by decide +kernel, by decide +kernel⟩⟩
theorem cs_X8_55 : z_cS RX8 55 yX8_isOwner cX8_isOwner 1 (some .boolean) 1 := ⟨(z_gt 659 (by decide +kernel) (by decide +kernel)), (z_gt 660 (by decide +kernel) (by decide +kernel)), (z_gt 1 (by decide +kernel) (by decide +kernel)), (z_gt 661 (by decide +kernel) (by decide +kernel)), by decide, ⟨by decide +kernel, by decide +kernel, by decide +kernel⟩⟩
theorem cs_X8_58 : z_cS RX8 58 yX8_needIndex cX8_needIndex 1 none 1 := ⟨(z_gt 191 (by decide +kernel) (by decide +kernel)), (z_gt 192 (by decide +kernel) (by decide +kernel)), (z_gt 1 (by decide +kernel) (by decide +kernel)), (z_gt 193 (by decide +kernel) (by decide +kernel)), by decide, ⟨by decide +kernel, by decide +kernel, by decide +kernel⟩⟩
theorem cs_X8_62 : z_cS RX8 62 yX8_isIn cX8_isIn 3 (some .boolean) 3 := ⟨(z_gt 188 (by decide +kernel) (by decide +kernel)), (z_gt 189 (by decide +kernel) (by decide +kernel)), (z_gt 1 (by decide +kernel) (by decide +kernel)), (z_gt 190 (by decide +kernel) (by decide +kernel)), by decide, ⟨by decide +kernel, by decide +kernel, by decide +kernel⟩⟩
theorem cs_X8_66 : z_cS RX8 66 yX8_needArgument cX8_needArgument 1 none 1 := ⟨(z_gt 262 (by decide +kernel) (by decide +kernel)), (z_gt 263 (by decide +kernel) (by decide +kernel)), (z_gt 1 (by decide +kernel) (by decide +kernel)), (z_gt 264 (by decide +kernel) (by decide +kernel)), by decide, ⟨by decide +kernel, by decide +kernel, by decide +kernel⟩⟩
theorem fl_X8_10 : z_fl RX8 10 9 0 := ⟨RX8, TX8, 14, "GantryHall", rfl, by decide, zi_9, (z_gt 134 (by decide +kernel) (by decide +kernel)), (Or.inl rfl)⟩
theorem cs_X8_69 : z_cV RX8 69 RJx4a65c yJx4a65c_size_8abf5 cJx4a65c_size_8abf5 1 (some .int) 0 := ⟨(z_gt 184 (by decide +kernel) (by decide +kernel)), (z_gt 185 (by decide +kernel) (by decide +kernel)), (z_gt 186 (by decide +kernel) (by decide +kernel)), (z_gt 4 (by decide +kernel) (by decide +kernel)), (z_gt 187 (by decide +kernel) (by decide +kernel)), by decide, ⟨by decide +kernel, by decide +kernel, by decide +kernel, by decide +kernel⟩⟩
theorem cs_X8_73 : z_cS RX8 73 yX8_needState cX8_needState 1 none 1 := ⟨(z_gt 312 (by decide +kernel) (by decide +kernel)), (z_gt 313 (by decide +kernel) (by decide +kernel)), (z_gt 1 (by decide +kernel) (by decide +kernel)), (z_gt 314 (by decide +kernel) (by decide +kernel)), by decide, ⟨by decide +kernel, by decide +kernel, by decide +kernel⟩⟩
theorem nw_X8_76 : z_nw RX8 76 4 8 [.int 0, .int 0, .int 0, .int 0, .int 0, .null, .null, .int 0] := ⟨RX3, TX3, tyX3, rfl, zi_4, tyX3_ok, (z_gt 331 (by decide +kernel) (by decide +kernel)), (z_gt 724 (by decide +kernel) (by decide +kernel)), (z_gt 14 (by decide +kernel) (by decide +kernel)), fun j hj => by rcases (show j = 0 ∨ j = 1 ∨ j = 2 ∨ j = 3 ∨ j = 4 ∨ j = 5 ∨ j = 6 ∨ j = 7 by omega) with rfl | rfl | rfl | rfl | rfl | rfl | rfl | rfl <;> rfl, by decide⟩
theorem cs_X8_78 : z_cI RX8 78 yX3_init cX3_init 6 5 := ⟨(z_gt 725 (by decide +kernel) (by decide +kernel)), (z_gt 726 (by decide +kernel) (by decide +kernel)), (z_gt 14 (by decide +kernel) (by decide +kernel)), (z_gt 727 (by decide +kernel) (by decide +kernel)), by decide, rfl, ⟨by decide +kernel, by decide +kernel, by decide +kernel⟩⟩
theorem cs_X8_81 : z_cV RX8 81 RJx4a65c yJx4a65c_add_9ea2d cJx4a65c_add_9ea2d 2 (some .boolean) 1 := ⟨(z_gt 766 (by decide +kernel) (by decide +kernel)), (z_gt 468 (by decide +kernel) (by decide +kernel)), (z_gt 469 (by decide +kernel) (by decide +kernel)), (z_gt 4 (by decide +kernel) (by decide +kernel)), (z_gt 470 (by decide +kernel) (by decide +kernel)), by decide, ⟨by decide +kernel, by decide +kernel, by decide +kernel, by decide +kernel⟩⟩
theorem cs_X8_100 : z_cV RX8 100 RX8 yX8_isDayToTell cX8_isDayToTell 2 (some .boolean) 1 := ⟨(z_gt 771 (by decide +kernel) (by decide +kernel)), (z_gt 773 (by decide +kernel) (by decide +kernel)), (z_gs 30 (by decide +kernel) (by decide +kernel)), (z_gt 1 (by decide +kernel) (by decide +kernel)), (z_gt 774 (by decide +kernel) (by decide +kernel)), by decide, ⟨by decide +kernel, by decide +kernel, by decide +kernel, by decide +kernel⟩⟩
theorem fl_X8_25 : z_fl RX8 25 9 3 := ⟨RX8, TX8, 14, "GantryHall", rfl, by decide, zi_9, (z_gt 137 (by decide +kernel) (by decide +kernel)), (Or.inl rfl)⟩
theorem cs_X8_103 : z_cV RX8 103 RX6 yX6_size cX6_size 1 (some .int) 0 := ⟨(z_gt 611 (by decide +kernel) (by decide +kernel)), (z_gt 612 (by decide +kernel) (by decide +kernel)), (z_gt 613 (by decide +kernel) (by decide +kernel)), (z_gt 5 (by decide +kernel) (by decide +kernel)), (z_gt 614 (by decide +kernel) (by decide +kernel)), by decide, ⟨by decide +kernel, by decide +kernel, by decide +kernel, by decide +kernel⟩⟩
theorem nw_X8_104 : z_nw RX8 104 6 5 [.int 0, .int 0, .int 0, .int 0, .int 0] := ⟨RX5, TX5, tyX5, rfl, zi_6, tyX5_ok, (z_gt 775 (by decide +kernel) (by decide +kernel)), (z_gt 776 (by decide +kernel) (by decide +kernel)), (z_gt 19 (by decide +kernel) (by decide +kernel)), fun j hj => by rcases (show j = 0 ∨ j = 1 ∨ j = 2 ∨ j = 3 ∨ j = 4 by omega) with rfl | rfl | rfl | rfl | rfl <;> rfl, by decide⟩
theorem cs_X8_106 : z_cI RX8 106 yX5_init cX5_init 6 5 := ⟨(z_gt 777 (by decide +kernel) (by decide +kernel)), (z_gt 778 (by decide +kernel) (by decide +kernel)), (z_gt 19 (by decide +kernel) (by decide +kernel)), (z_gt 779 (by decide +kernel) (by decide +kernel)), by decide, rfl, ⟨by decide +kernel, by decide +kernel, by decide +kernel⟩⟩
theorem cs_X8_107 : z_cV RX8 107 RX6 yX6_addTariff cX6_addTariff 2 none 1 := ⟨(z_gt 805 (by decide +kernel) (by decide +kernel)), (z_gt 806 (by decide +kernel) (by decide +kernel)), (z_gt 807 (by decide +kernel) (by decide +kernel)), (z_gt 5 (by decide +kernel) (by decide +kernel)), (z_gt 808 (by decide +kernel) (by decide +kernel)), by decide, ⟨by decide +kernel, by decide +kernel, by decide +kernel, by decide +kernel⟩⟩
theorem fl_X8_16 : z_fl RX8 16 9 1 := ⟨RX8, TX8, 14, "GantryHall", rfl, by decide, zi_9, (z_gt 135 (by decide +kernel) (by decide +kernel)), (Or.inl rfl)⟩
theorem nw_X8_121 : z_nw RX8 121 8 8 [.int 0, .int 0, .int 0, .int 0, .int 0, .int 0, .int 0, .int 0] := ⟨RX7, TX7, tyX7, rfl, zi_8, tyX7_ok, (z_gt 295 (by decide +kernel) (by decide +kernel)), (z_gt 814 (by decide +kernel) (by decide +kernel)), (z_gt 20 (by decide +kernel) (by decide +kernel)), fun j hj => by rcases (show j = 0 ∨ j = 1 ∨ j = 2 ∨ j = 3 ∨ j = 4 ∨ j = 5 ∨ j = 6 ∨ j = 7 by omega) with rfl | rfl | rfl | rfl | rfl | rfl | rfl | rfl <;> rfl, by decide⟩
theorem cs_X8_123 : z_cI RX8 123 yX7_init cX7_init 5 4 := ⟨(z_gt 815 (by decide +kernel) (by decide +kernel)), (z_gt 816 (by decide +kernel) (by decide +kernel)), (z_gt 20 (by decide +kernel) (by decide +kernel)), (z_gt 817 (by decide +kernel) (by decide +kernel)), by decide, rfl, ⟨by decide +kernel, by decide +kernel, by decide +kernel⟩⟩
theorem cs_X8_126 : z_cV RX8 126 RX8 yX8_isVehicle cX8_isVehicle 2 (some .boolean) 1 := ⟨(z_gt 180 (by decide +kernel) (by decide +kernel)), (z_gt 182 (by decide +kernel) (by decide +kernel)), (z_gs 0 (by decide +kernel) (by decide +kernel)), (z_gt 1 (by decide +kernel) (by decide +kernel)), (z_gt 183 (by decide +kernel) (by decide +kernel)), by decide, ⟨by decide +kernel, by decide +kernel, by decide +kernel, by decide +kernel⟩⟩
theorem cs_X8_92 : z_cV RX8 92 RJx4a65c yJx4a65c_get_915e3 cJx4a65c_get_915e3 2 (some (.object "java/lang/Object")) 1 := ⟨(z_gt 281 (by decide +kernel) (by decide +kernel)), (z_gt 282 (by decide +kernel) (by decide +kernel)), (z_gt 283 (by decide +kernel) (by decide +kernel)), (z_gt 4 (by decide +kernel) (by decide +kernel)), (z_gt 284 (by decide +kernel) (by decide +kernel)), by decide, ⟨by decide +kernel, by decide +kernel, by decide +kernel, by decide +kernel⟩⟩
theorem cl_X8_121 : Cond.classLink RX8 121 RX7 ∈ zGT := (z_gt 295 (by decide +kernel) (by decide +kernel))
theorem cs_X8_129 : z_cV RX8 129 RX7 yX7_isExempt cX7_isExempt 2 (some .boolean) 1 := ⟨(z_gt 508 (by decide +kernel) (by decide +kernel)), (z_gt 509 (by decide +kernel) (by decide +kernel)), (z_gt 510 (by decide +kernel) (by decide +kernel)), (z_gt 20 (by decide +kernel) (by decide +kernel)), (z_gt 511 (by decide +kernel) (by decide +kernel)), by decide, ⟨by decide +kernel, by decide +kernel, by decide +kernel, by decide +kernel⟩⟩
theorem cs_X8_132 : z_cV RX8 132 RX7 yX7_setExempt cX7_setExempt 4 none 2 := ⟨(z_gt 855 (by decide +kernel) (by decide +kernel)), (z_gt 856 (by decide +kernel) (by decide +kernel)), (z_gt 857 (by decide +kernel) (by decide +kernel)), (z_gt 20 (by decide +kernel) (by decide +kernel)), (z_gt 858 (by decide +kernel) (by decide +kernel)), by decide, ⟨by decide +kernel, by decide +kernel, by decide +kernel, by decide +kernel⟩⟩
theorem fl_X8_136 : z_fl RX8 136 8 4 := ⟨RX7, TX7, 8, "GantryHall$Vehicle", rfl, by decide, zi_8, (z_gt 829 (by decide +kernel) (by decide +kernel)), (Or.inl rfl)⟩
theorem fp_X8_136 : z_fp RX8 136 8 4 false .int := ⟨RX7, TX7, 8, "GantryHall$Vehicle", tyX7, rfl, by decide, zi_8, (z_gt 829 (by decide +kernel) (by decide +kernel)), (Or.inl rfl), tyX7_ok, nmX7, rfl, fun _ => by first | rfl | contradiction, by decide +kernel⟩
theorem cs_X8_85 : z_cV RX8 85 RX8 yX8_isSegment cX8_isSegment 2 (some .boolean) 1 := ⟨(z_gt 300 (by decide +kernel) (by decide +kernel)), (z_gt 302 (by decide +kernel) (by decide +kernel)), (z_gs 2 (by decide +kernel) (by decide +kernel)), (z_gt 1 (by decide +kernel) (by decide +kernel)), (z_gt 303 (by decide +kernel) (by decide +kernel)), by decide, ⟨by decide +kernel, by decide +kernel, by decide +kernel, by decide +kernel⟩⟩
theorem fl_X8_139 : z_fl RX8 139 9 8 := ⟨RX8, TX8, 14, "GantryHall", rfl, by decide, zi_9, (z_gt 141 (by decide +kernel) (by decide +kernel)), (Or.inl rfl)⟩
theorem cs_X8_142 : z_cV RX8 142 RX8 yX8_isClosed cX8_isClosed 2 (some .boolean) 1 := ⟨(z_gt 304 (by decide +kernel) (by decide +kernel)), (z_gt 306 (by decide +kernel) (by decide +kernel)), (z_gs 3 (by decide +kernel) (by decide +kernel)), (z_gt 1 (by decide +kernel) (by decide +kernel)), (z_gt 307 (by decide +kernel) (by decide +kernel)), by decide, ⟨by decide +kernel, by decide +kernel, by decide +kernel, by decide +kernel⟩⟩
theorem fl_X8_19 : z_fl RX8 19 9 2 := ⟨RX8, TX8, 14, "GantryHall", rfl, by decide, zi_9, (z_gt 136 (by decide +kernel) (by decide +kernel)), (Or.inl rfl)⟩
theorem nw_X8_145 : z_nw RX8 145 5 5 [.null, .null, .int 0, .int 0, .int 0] := ⟨RX4, TX4, tyX4, rfl, zi_5, tyX4_ok, (z_gt 606 (by decide +kernel) (by decide +kernel)), (z_gt 866 (by decide +kernel) (by decide +kernel)), (z_gt 24 (by decide +kernel) (by decide +kernel)), fun j hj => by rcases (show j = 0 ∨ j = 1 ∨ j = 2 ∨ j = 3 ∨ j = 4 by omega) with rfl | rfl | rfl | rfl | rfl <;> rfl, by decide⟩
theorem cl_X8_76 : Cond.classLink RX8 76 RX3 ∈ zGT := (z_gt 331 (by decide +kernel) (by decide +kernel))
theorem cs_X8_147 : z_cI RX8 147 yX4_init cX4_init 5 4 := ⟨(z_gt 867 (by decide +kernel) (by decide +kernel)), (z_gt 868 (by decide +kernel) (by decide +kernel)), (z_gt 24 (by decide +kernel) (by decide +kernel)), (z_gt 869 (by decide +kernel) (by decide +kernel)), by decide, rfl, ⟨by decide +kernel, by decide +kernel, by decide +kernel⟩⟩
theorem fl_X8_150 : z_fl RX8 150 9 10 := ⟨RX8, TX8, 14, "GantryHall", rfl, by decide, zi_9, (z_gt 143 (by decide +kernel) (by decide +kernel)), (Or.inl rfl)⟩
theorem cs_X8_153 : z_cS RX8 153 yX8_hasBit cX8_hasBit 2 (some .boolean) 2 := ⟨(z_gt 895 (by decide +kernel) (by decide +kernel)), (z_gt 513 (by decide +kernel) (by decide +kernel)), (z_gt 1 (by decide +kernel) (by decide +kernel)), (z_gt 514 (by decide +kernel) (by decide +kernel)), by decide, ⟨by decide +kernel, by decide +kernel, by decide +kernel⟩⟩
theorem fl_X8_157 : z_fl RX8 157 9 11 := ⟨RX8, TX8, 14, "GantryHall", rfl, by decide, zi_9, (z_gt 144 (by decide +kernel) (by decide +kernel)), (Or.inl rfl)⟩
theorem fp_X8_157 : z_fp RX8 157 9 11 false .int := ⟨RX8, TX8, 14, "GantryHall", tyX8, rfl, by decide, zi_9, (z_gt 144 (by decide +kernel) (by decide +kernel)), (Or.inl rfl), tyX8_ok, nmX8, rfl, fun _ => by first | rfl | contradiction, by decide +kernel⟩
theorem cs_X8_177 : z_cV RX8 177 RX8 yX8_hasPassed cX8_hasPassed 5 (some .boolean) 3 := ⟨(z_gt 332 (by decide +kernel) (by decide +kernel)), (z_gt 334 (by decide +kernel) (by decide +kernel)), (z_gs 5 (by decide +kernel) (by decide +kernel)), (z_gt 1 (by decide +kernel) (by decide +kernel)), (z_gt 335 (by decide +kernel) (by decide +kernel)), by decide, ⟨by decide +kernel, by decide +kernel, by decide +kernel, by decide +kernel⟩⟩
theorem cs_X8_181 : z_cV RX8 181 RX8 yX8_tollOf cX8_tollOf 4 (some .int) 3 := ⟨(z_gt 504 (by decide +kernel) (by decide +kernel)), (z_gt 506 (by decide +kernel) (by decide +kernel)), (z_gs 18 (by decide +kernel) (by decide +kernel)), (z_gt 1 (by decide +kernel) (by decide +kernel)), (z_gt 507 (by decide +kernel) (by decide +kernel)), by decide, ⟨by decide +kernel, by decide +kernel, by decide +kernel, by decide +kernel⟩⟩
theorem fl_X8_185 : z_fl RX8 185 8 7 := ⟨RX7, TX7, 8, "GantryHall$Vehicle", rfl, by decide, zi_8, (z_gt 833 (by decide +kernel) (by decide +kernel)), (Or.inl rfl)⟩
theorem fp_X8_185 : z_fp RX8 185 8 7 false .int := ⟨RX7, TX7, 8, "GantryHall$Vehicle", tyX7, rfl, by decide, zi_8, (z_gt 833 (by decide +kernel) (by decide +kernel)), (Or.inl rfl), tyX7_ok, nmX7, rfl, fun _ => by first | rfl | contradiction, by decide +kernel⟩
theorem fl_X8_32 : z_fl RX8 32 9 4 := ⟨RX8, TX8, 14, "GantryHall", rfl, by decide, zi_9, (z_gt 138 (by decide +kernel) (by decide +kernel)), (Or.inl rfl)⟩
theorem fl_X8_188 : z_fl RX8 188 2 3 := ⟨RX1, TX1, 6, "GantryHall$Ledger", rfl, by decide, zi_2, (z_gt 88 (by decide +kernel) (by decide +kernel)), (Or.inl rfl)⟩
theorem fp_X8_188 : z_fp RX8 188 2 3 false .int := ⟨RX1, TX1, 6, "GantryHall$Ledger", tyX1, rfl, by decide, zi_2, (z_gt 88 (by decide +kernel) (by decide +kernel)), (Or.inl rfl), tyX1_ok, nmX1, rfl, fun _ => by first | rfl | contradiction, by decide +kernel⟩
theorem fl_X8_191 : z_fl RX8 191 9 12 := ⟨RX8, TX8, 14, "GantryHall", rfl, by decide, zi_9, (z_gt 145 (by decide +kernel) (by decide +kernel)), (Or.inl rfl)⟩
theorem fp_X8_191 : z_fp RX8 191 9 12 false .int := ⟨RX8, TX8, 14, "GantryHall", tyX8, rfl, by decide, zi_9, (z_gt 145 (by decide +kernel) (by decide +kernel)), (Or.inl rfl), tyX8_ok, nmX8, rfl, fun _ => by first | rfl | contradiction, by decide +kernel⟩
theorem cs_X8_194 : z_cV RX8 194 RX8 yX8_today cX8_today 1 (some .int) 0 := ⟨(z_gt 308 (by decide +kernel) (by decide +kernel)), (z_gt 310 (by decide +kernel) (by decide +kernel)), (z_gs 4 (by decide +kernel) (by decide +kernel)), (z_gt 1 (by decide +kernel) (by decide +kernel)), (z_gt 311 (by decide +kernel) (by decide +kernel)), by decide, ⟨by decide +kernel, by decide +kernel, by decide +kernel, by decide +kernel⟩⟩
theorem fl_X8_39 : z_fl RX8 39 9 5 := ⟨RX8, TX8, 14, "GantryHall", rfl, by decide, zi_9, (z_gt 139 (by decide +kernel) (by decide +kernel)), (Or.inl rfl)⟩
theorem cs_X8_197 : z_cV RX8 197 RX0 yX0_gather cX0_gather 5 none 4 := ⟨(z_gt 336 (by decide +kernel) (by decide +kernel)), (z_gt 337 (by decide +kernel) (by decide +kernel)), (z_gt 338 (by decide +kernel) (by decide +kernel)), (z_gt 7 (by decide +kernel) (by decide +kernel)), (z_gt 339 (by decide +kernel) (by decide +kernel)), by decide, ⟨by decide +kernel, by decide +kernel, by decide +kernel, by decide +kernel⟩⟩
theorem fl_X8_201 : z_fl RX8 201 8 1 := ⟨RX7, TX7, 8, "GantryHall$Vehicle", rfl, by decide, zi_8, (z_gt 822 (by decide +kernel) (by decide +kernel)), (Or.inl rfl)⟩
theorem cs_X8_204 : z_cV RX8 204 RX1 yX1_capOfClosing cX1_capOfClosing 2 (some .int) 1 := ⟨(z_gt 541 (by decide +kernel) (by decide +kernel)), (z_gt 542 (by decide +kernel) (by decide +kernel)), (z_gt 543 (by decide +kernel) (by decide +kernel)), (z_gt 6 (by decide +kernel) (by decide +kernel)), (z_gt 544 (by decide +kernel) (by decide +kernel)), by decide, ⟨by decide +kernel, by decide +kernel, by decide +kernel, by decide +kernel⟩⟩
theorem cs_X8_208 : z_cV RX8 208 RX0 yX0_charge cX0_charge 9 (some .int) 4 := ⟨(z_gt 545 (by decide +kernel) (by decide +kernel)), (z_gt 546 (by decide +kernel) (by decide +kernel)), (z_gt 547 (by decide +kernel) (by decide +kernel)), (z_gt 7 (by decide +kernel) (by decide +kernel)), (z_gt 548 (by decide +kernel) (by decide +kernel)), by decide, ⟨by decide +kernel, by decide +kernel, by decide +kernel, by decide +kernel⟩⟩
theorem cs_X8_212 : z_cV RX8 212 RX0 yX0_dueTo cX0_dueTo 5 (some .int) 1 := ⟨(z_gt 558 (by decide +kernel) (by decide +kernel)), (z_gt 559 (by decide +kernel) (by decide +kernel)), (z_gt 560 (by decide +kernel) (by decide +kernel)), (z_gt 7 (by decide +kernel) (by decide +kernel)), (z_gt 561 (by decide +kernel) (by decide +kernel)), by decide, ⟨by decide +kernel, by decide +kernel, by decide +kernel, by decide +kernel⟩⟩
theorem cs_X8_215 : z_cV RX8 215 RX1 yX1_giveBack cX1_giveBack 7 (some .int) 4 := ⟨(z_gt 562 (by decide +kernel) (by decide +kernel)), (z_gt 563 (by decide +kernel) (by decide +kernel)), (z_gt 564 (by decide +kernel) (by decide +kernel)), (z_gt 6 (by decide +kernel) (by decide +kernel)), (z_gt 565 (by decide +kernel) (by decide +kernel)), by decide, ⟨by decide +kernel, by decide +kernel, by decide +kernel, by decide +kernel⟩⟩
theorem fl_X8_219 : z_fl RX8 219 8 6 := ⟨RX7, TX7, 8, "GantryHall$Vehicle", rfl, by decide, zi_8, (z_gt 832 (by decide +kernel) (by decide +kernel)), (Or.inl rfl)⟩
theorem fp_X8_219 : z_fp RX8 219 8 6 false .int := ⟨RX7, TX7, 8, "GantryHall$Vehicle", tyX7, rfl, by decide, zi_8, (z_gt 832 (by decide +kernel) (by decide +kernel)), (Or.inl rfl), tyX7_ok, nmX7, rfl, fun _ => by first | rfl | contradiction, by decide +kernel⟩
theorem kc_X8_88 : Cond.constant RX8 88 (60000) ∈ zGT := (z_gt 577 (by decide +kernel) (by decide +kernel))
theorem cs_X8_222 : z_cV RX8 222 RX8 yX8_closeDay cX8_closeDay 4 (some .int) 1 := ⟨(z_gt 578 (by decide +kernel) (by decide +kernel)), (z_gt 580 (by decide +kernel) (by decide +kernel)), (z_gs 20 (by decide +kernel) (by decide +kernel)), (z_gt 1 (by decide +kernel) (by decide +kernel)), (z_gt 581 (by decide +kernel) (by decide +kernel)), by decide, ⟨by decide +kernel, by decide +kernel, by decide +kernel, by decide +kernel⟩⟩
theorem cs_X8_225 : z_cV RX8 225 RX8 yX8_blockedSet cX8_blockedSet 3 (some .int) 0 := ⟨(z_gt 594 (by decide +kernel) (by decide +kernel)), (z_gt 596 (by decide +kernel) (by decide +kernel)), (z_gs 22 (by decide +kernel) (by decide +kernel)), (z_gt 1 (by decide +kernel) (by decide +kernel)), (z_gt 597 (by decide +kernel) (by decide +kernel)), by decide, ⟨by decide +kernel, by decide +kernel, by decide +kernel, by decide +kernel⟩⟩
theorem fp_X8_150 : z_fp RX8 150 9 10 false .int := ⟨RX8, TX8, 14, "GantryHall", tyX8, rfl, by decide, zi_9, (z_gt 143 (by decide +kernel) (by decide +kernel)), (Or.inl rfl), tyX8_ok, nmX8, rfl, fun _ => by first | rfl | contradiction, by decide +kernel⟩
theorem cs_X8_228 : z_cV RX8 228 RX8 yX8_eraseDay cX8_eraseDay 4 none 1 := ⟨(z_gt 602 (by decide +kernel) (by decide +kernel)), (z_gt 604 (by decide +kernel) (by decide +kernel)), (z_gs 23 (by decide +kernel) (by decide +kernel)), (z_gt 1 (by decide +kernel) (by decide +kernel)), (z_gt 605 (by decide +kernel) (by decide +kernel)), by decide, ⟨by decide +kernel, by decide +kernel, by decide +kernel, by decide +kernel⟩⟩
theorem fp_X8_139 : z_fp RX8 139 9 8 false .int := ⟨RX8, TX8, 14, "GantryHall", tyX8, rfl, by decide, zi_9, (z_gt 141 (by decide +kernel) (by decide +kernel)), (Or.inl rfl), tyX8_ok, nmX8, rfl, fun _ => by first | rfl | contradiction, by decide +kernel⟩
theorem fl_X8_231 : z_fl RX8 231 4 1 := ⟨RX3, TX3, 8, "GantryHall$Segment", rfl, by decide, zi_4, (z_gt 735 (by decide +kernel) (by decide +kernel)), (Or.inl rfl)⟩
theorem fl_X8_234 : z_fl RX8 234 4 2 := ⟨RX3, TX3, 8, "GantryHall$Segment", rfl, by decide, zi_4, (z_gt 738 (by decide +kernel) (by decide +kernel)), (Or.inl rfl)⟩
theorem fl_X8_237 : z_fl RX8 237 4 3 := ⟨RX3, TX3, 8, "GantryHall$Segment", rfl, by decide, zi_4, (z_gt 741 (by decide +kernel) (by decide +kernel)), (Or.inl rfl)⟩
theorem fl_X8_240 : z_fl RX8 240 4 4 := ⟨RX3, TX3, 8, "GantryHall$Segment", rfl, by decide, zi_4, (z_gt 745 (by decide +kernel) (by decide +kernel)), (Or.inl rfl)⟩
theorem cs_X8_243 : z_cV RX8 243 RX3 yX3_isShut cX3_isShut 3 (some .boolean) 1 := ⟨(z_gt 515 (by decide +kernel) (by decide +kernel)), (z_gt 516 (by decide +kernel) (by decide +kernel)), (z_gt 517 (by decide +kernel) (by decide +kernel)), (z_gt 14 (by decide +kernel) (by decide +kernel)), (z_gt 518 (by decide +kernel) (by decide +kernel)), by decide, ⟨by decide +kernel, by decide +kernel, by decide +kernel, by decide +kernel⟩⟩
theorem fl_X8_246 : z_fl RX8 246 8 2 := ⟨RX7, TX7, 8, "GantryHall$Vehicle", rfl, by decide, zi_8, (z_gt 825 (by decide +kernel) (by decide +kernel)), (Or.inl rfl)⟩
theorem fl_X8_249 : z_fl RX8 249 8 3 := ⟨RX7, TX7, 8, "GantryHall$Vehicle", rfl, by decide, zi_8, (z_gt 827 (by decide +kernel) (by decide +kernel)), (Or.inl rfl)⟩
theorem cs_X8_252 : z_cV RX8 252 RX7 yX7_isBlocked cX7_isBlocked 1 (some .boolean) 0 := ⟨(z_gt 598 (by decide +kernel) (by decide +kernel)), (z_gt 599 (by decide +kernel) (by decide +kernel)), (z_gt 600 (by decide +kernel) (by decide +kernel)), (z_gt 20 (by decide +kernel) (by decide +kernel)), (z_gt 601 (by decide +kernel) (by decide +kernel)), by decide, ⟨by decide +kernel, by decide +kernel, by decide +kernel, by decide +kernel⟩⟩
theorem fl_X8_256 : z_fl RX8 256 8 5 := ⟨RX7, TX7, 8, "GantryHall$Vehicle", rfl, by decide, zi_8, (z_gt 831 (by decide +kernel) (by decide +kernel)), (Or.inl rfl)⟩
theorem cs_X8_160 : z_cV RX8 160 RX8 yX8_isSighting cX8_isSighting 2 (some .boolean) 1 := ⟨(z_gt 671 (by decide +kernel) (by decide +kernel)), (z_gt 673 (by decide +kernel) (by decide +kernel)), (z_gs 27 (by decide +kernel) (by decide +kernel)), (z_gt 1 (by decide +kernel) (by decide +kernel)), (z_gt 674 (by decide +kernel) (by decide +kernel)), by decide, ⟨by decide +kernel, by decide +kernel, by decide +kernel, by decide +kernel⟩⟩
theorem cl_X8_145 : Cond.classLink RX8 145 RX4 ∈ zGT := (z_gt 606 (by decide +kernel) (by decide +kernel))
theorem fl_X8_166 : z_fl RX8 166 5 4 := ⟨RX4, TX4, 5, "GantryHall$Sighting", rfl, by decide, zi_5, (z_gt 883 (by decide +kernel) (by decide +kernel)), (Or.inl rfl)⟩
theorem fl_X8_170 : z_fl RX8 170 5 0 := ⟨RX4, TX4, 5, "GantryHall$Sighting", rfl, by decide, zi_5, (z_gt 872 (by decide +kernel) (by decide +kernel)), (Or.inl rfl)⟩
theorem fl_X8_174 : z_fl RX8 174 8 0 := ⟨RX7, TX7, 8, "GantryHall$Vehicle", rfl, by decide, zi_8, (z_gt 820 (by decide +kernel) (by decide +kernel)), (Or.inl rfl)⟩
theorem fl_X8_259 : z_fl RX8 259 5 1 := ⟨RX4, TX4, 5, "GantryHall$Sighting", rfl, by decide, zi_5, (z_gt 875 (by decide +kernel) (by decide +kernel)), (Or.inl rfl)⟩
theorem fl_X8_263 : z_fl RX8 263 4 0 := ⟨RX3, TX3, 8, "GantryHall$Segment", rfl, by decide, zi_4, (z_gt 731 (by decide +kernel) (by decide +kernel)), (Or.inl rfl)⟩
theorem fl_X8_264 : z_fl RX8 264 5 2 := ⟨RX4, TX4, 5, "GantryHall$Sighting", rfl, by decide, zi_5, (z_gt 878 (by decide +kernel) (by decide +kernel)), (Or.inl rfl)⟩
theorem fl_X8_163 : z_fl RX8 163 5 3 := ⟨RX4, TX4, 5, "GantryHall$Sighting", rfl, by decide, zi_5, (z_gt 881 (by decide +kernel) (by decide +kernel)), (Or.inl rfl)⟩
theorem cs_X8_267 : z_cV RX8 267 RX1 yX1_coinsOf cX1_coinsOf 2 (some .int) 1 := ⟨(z_gt 662 (by decide +kernel) (by decide +kernel)), (z_gt 663 (by decide +kernel) (by decide +kernel)), (z_gt 664 (by decide +kernel) (by decide +kernel)), (z_gt 6 (by decide +kernel) (by decide +kernel)), (z_gt 665 (by decide +kernel) (by decide +kernel)), by decide, ⟨by decide +kernel, by decide +kernel, by decide +kernel, by decide +kernel⟩⟩
theorem cs_X8_270 : z_cV RX8 270 RX6 yX6_inForce cX6_inForce 5 (some (.object "GantryHall$Tariff")) 2 := ⟨(z_gt 666 (by decide +kernel) (by decide +kernel)), (z_gt 524 (by decide +kernel) (by decide +kernel)), (z_gt 525 (by decide +kernel) (by decide +kernel)), (z_gt 5 (by decide +kernel) (by decide +kernel)), (z_gt 526 (by decide +kernel) (by decide +kernel)), by decide, ⟨by decide +kernel, by decide +kernel, by decide +kernel, by decide +kernel⟩⟩
theorem fl_X8_274 : z_fl RX8 274 6 1 := ⟨RX5, TX5, 5, "GantryHall$Tariff", rfl, by decide, zi_6, (z_gt 785 (by decide +kernel) (by decide +kernel)), (Or.inl rfl)⟩
theorem fl_X8_277 : z_fl RX8 277 6 2 := ⟨RX5, TX5, 5, "GantryHall$Tariff", rfl, by decide, zi_6, (z_gt 788 (by decide +kernel) (by decide +kernel)), (Or.inl rfl)⟩
theorem fl_X8_280 : z_fl RX8 280 6 3 := ⟨RX5, TX5, 5, "GantryHall$Tariff", rfl, by decide, zi_6, (z_gt 791 (by decide +kernel) (by decide +kernel)), (Or.inl rfl)⟩
theorem cs_X8_283 : z_cV RX8 283 RX0 yX0_size cX0_size 1 (some .int) 0 := ⟨(z_gt 691 (by decide +kernel) (by decide +kernel)), (z_gt 692 (by decide +kernel) (by decide +kernel)), (z_gt 693 (by decide +kernel) (by decide +kernel)), (z_gt 7 (by decide +kernel) (by decide +kernel)), (z_gt 694 (by decide +kernel) (by decide +kernel)), by decide, ⟨by decide +kernel, by decide +kernel, by decide +kernel, by decide +kernel⟩⟩
theorem fl_X8_47 : z_fl RX8 47 9 9 := ⟨RX8, TX8, 14, "GantryHall", rfl, by decide, zi_9, (z_gt 142 (by decide +kernel) (by decide +kernel)), (Or.inl rfl)⟩
theorem cs_X8_284 : z_cV RX8 284 RX0 yX0_fact cX0_fact 4 (some .int) 2 := ⟨(z_gt 695 (by decide +kernel) (by decide +kernel)), (z_gt 696 (by decide +kernel) (by decide +kernel)), (z_gt 697 (by decide +kernel) (by decide +kernel)), (z_gt 7 (by decide +kernel) (by decide +kernel)), (z_gt 698 (by decide +kernel) (by decide +kernel)), by decide, ⟨by decide +kernel, by decide +kernel, by decide +kernel, by decide +kernel⟩⟩
theorem cs_X8_288 : z_cV RX8 288 RX0 yX0_journeyCount cX0_journeyCount 5 (some .int) 0 := ⟨(z_gt 687 (by decide +kernel) (by decide +kernel)), (z_gt 688 (by decide +kernel) (by decide +kernel)), (z_gt 689 (by decide +kernel) (by decide +kernel)), (z_gt 7 (by decide +kernel) (by decide +kernel)), (z_gt 690 (by decide +kernel) (by decide +kernel)), by decide, ⟨by decide +kernel, by decide +kernel, by decide +kernel, by decide +kernel⟩⟩
theorem fl_X8_291 : z_fl RX8 291 9 13 := ⟨RX8, TX8, 14, "GantryHall", rfl, by decide, zi_9, (z_gt 146 (by decide +kernel) (by decide +kernel)), (Or.inl rfl)⟩
theorem fl_X8_114 : z_fl RX8 114 7 2 := ⟨RX6, TX6, 3, "GantryHall$Tariffs", rfl, by decide, zi_7, (z_gt 69 (by decide +kernel) (by decide +kernel)), (Or.inl rfl)⟩
theorem fl_X8_294 : z_fl RX8 294 2 4 := ⟨RX1, TX1, 6, "GantryHall$Ledger", rfl, by decide, zi_2, (z_gt 90 (by decide +kernel) (by decide +kernel)), (Or.inl rfl)⟩
theorem fl_X8_295 : z_fl RX8 295 2 5 := ⟨RX1, TX1, 6, "GantryHall$Ledger", rfl, by decide, zi_2, (z_gt 92 (by decide +kernel) (by decide +kernel)), (Or.inl rfl)⟩
theorem kc_X8_301 : Cond.constant RX8 301 (72000) ∈ zGT := (z_gt 708 (by decide +kernel) (by decide +kernel))
theorem fl_X8_43 : z_fl RX8 43 9 6 := ⟨RX8, TX8, 14, "GantryHall", rfl, by decide, zi_9, (z_gt 140 (by decide +kernel) (by decide +kernel)), (Or.inl rfl)⟩
theorem cs_X8_302 : z_cS RX8 302 yJ7_fill_53178 cJ7_fill_53178 4 none 2 := ⟨(z_gt 622 (by decide +kernel) (by decide +kernel)), (z_gt 623 (by decide +kernel) (by decide +kernel)), (z_gt 17 (by decide +kernel) (by decide +kernel)), (z_gt 624 (by decide +kernel) (by decide +kernel)), by decide, ⟨by decide +kernel, by decide +kernel, by decide +kernel⟩⟩
theorem cs_X8_308 : z_cV RX8 308 RX8 yX8_setReach cX8_setReach 3 none 2 := ⟨(z_gt 625 (by decide +kernel) (by decide +kernel)), (z_gt 627 (by decide +kernel) (by decide +kernel)), (z_gs 24 (by decide +kernel) (by decide +kernel)), (z_gt 1 (by decide +kernel) (by decide +kernel)), (z_gt 628 (by decide +kernel) (by decide +kernel)), by decide, ⟨by decide +kernel, by decide +kernel, by decide +kernel, by decide +kernel⟩⟩
theorem cs_X8_311 : z_cV RX8 311 RX8 yX8_extendWays cX8_extendWays 7 (some .boolean) 1 := ⟨(z_gt 629 (by decide +kernel) (by decide +kernel)), (z_gt 631 (by decide +kernel) (by decide +kernel)), (z_gs 25 (by decide +kernel) (by decide +kernel)), (z_gt 1 (by decide +kernel) (by decide +kernel)), (z_gt 632 (by decide +kernel) (by decide +kernel)), by decide, ⟨by decide +kernel, by decide +kernel, by decide +kernel, by decide +kernel⟩⟩
theorem cs_X8_315 : z_cV RX8 315 RX8 yX8_reachOf cX8_reachOf 2 (some .int) 1 := ⟨(z_gt 633 (by decide +kernel) (by decide +kernel)), (z_gt 635 (by decide +kernel) (by decide +kernel)), (z_gs 26 (by decide +kernel) (by decide +kernel)), (z_gt 1 (by decide +kernel) (by decide +kernel)), (z_gt 636 (by decide +kernel) (by decide +kernel)), by decide, ⟨by decide +kernel, by decide +kernel, by decide +kernel, by decide +kernel⟩⟩
theorem cs_X8_318 : z_cV RX8 318 RX6 yX6_price cX6_price 9 (some .int) 4 := ⟨(z_gt 519 (by decide +kernel) (by decide +kernel)), (z_gt 520 (by decide +kernel) (by decide +kernel)), (z_gt 521 (by decide +kernel) (by decide +kernel)), (z_gt 5 (by decide +kernel) (by decide +kernel)), (z_gt 522 (by decide +kernel) (by decide +kernel)), by decide, ⟨by decide +kernel, by decide +kernel, by decide +kernel, by decide +kernel⟩⟩
theorem kc_X8_322 : Cond.constantLong RX8 322 (4805) ∈ zGT := (z_gt 645 (by decide +kernel) (by decide +kernel))
theorem cs_X8_324 : z_cV RX8 324 RX8 yX8_many cX8_many 2 (some .int) 1 := ⟨(z_gt 646 (by decide +kernel) (by decide +kernel)), (z_gt 608 (by decide +kernel) (by decide +kernel)), (z_gt 609 (by decide +kernel) (by decide +kernel)), (z_gt 1 (by decide +kernel) (by decide +kernel)), (z_gt 610 (by decide +kernel) (by decide +kernel)), by decide, ⟨by decide +kernel, by decide +kernel, by decide +kernel, by decide +kernel⟩⟩
theorem cs_X8_327 : z_cS RX8 327 yX8_fold cX8_fold 3 (some .long) 2 := ⟨(z_gt 647 (by decide +kernel) (by decide +kernel)), (z_gt 648 (by decide +kernel) (by decide +kernel)), (z_gt 1 (by decide +kernel) (by decide +kernel)), (z_gt 649 (by decide +kernel) (by decide +kernel)), by decide, ⟨by decide +kernel, by decide +kernel, by decide +kernel⟩⟩
theorem cs_X8_331 : z_cV RX8 331 RX8 yX8_ofSegment cX8_ofSegment 4 (some .int) 2 := ⟨(z_gt 651 (by decide +kernel) (by decide +kernel)), (z_gt 652 (by decide +kernel) (by decide +kernel)), (z_gt 653 (by decide +kernel) (by decide +kernel)), (z_gt 1 (by decide +kernel) (by decide +kernel)), (z_gt 654 (by decide +kernel) (by decide +kernel)), by decide, ⟨by decide +kernel, by decide +kernel, by decide +kernel, by decide +kernel⟩⟩
theorem cs_X8_334 : z_cV RX8 334 RX8 yX8_ofOwner cX8_ofOwner 4 (some .int) 2 := ⟨(z_gt 655 (by decide +kernel) (by decide +kernel)), (z_gt 656 (by decide +kernel) (by decide +kernel)), (z_gt 657 (by decide +kernel) (by decide +kernel)), (z_gt 1 (by decide +kernel) (by decide +kernel)), (z_gt 658 (by decide +kernel) (by decide +kernel)), by decide, ⟨by decide +kernel, by decide +kernel, by decide +kernel, by decide +kernel⟩⟩
theorem cs_X8_337 : z_cV RX8 337 RX8 yX8_ofSighting cX8_ofSighting 4 (some .int) 2 := ⟨(z_gt 667 (by decide +kernel) (by decide +kernel)), (z_gt 668 (by decide +kernel) (by decide +kernel)), (z_gt 669 (by decide +kernel) (by decide +kernel)), (z_gt 1 (by decide +kernel) (by decide +kernel)), (z_gt 670 (by decide +kernel) (by decide +kernel)), by decide, ⟨by decide +kernel, by decide +kernel, by decide +kernel, by decide +kernel⟩⟩
theorem cs_X8_340 : z_cV RX8 340 RX8 yX8_foldVehicle cX8_foldVehicle 8 (some .long) 2 := ⟨(z_gt 675 (by decide +kernel) (by decide +kernel)), (z_gt 677 (by decide +kernel) (by decide +kernel)), (z_gs 28 (by decide +kernel) (by decide +kernel)), (z_gt 1 (by decide +kernel) (by decide +kernel)), (z_gt 678 (by decide +kernel) (by decide +kernel)), by decide, ⟨by decide +kernel, by decide +kernel, by decide +kernel, by decide +kernel⟩⟩
theorem kc_X8_361 : Cond.constantLong RX8 361 (31) ∈ zGT := (z_gt 650 (by decide +kernel) (by decide +kernel))
theorem cs_X8_363 : z_cV RX8 363 RX0 yX0_hasBegun cX0_hasBegun 5 (some .boolean) 2 := ⟨(z_gt 499 (by decide +kernel) (by decide +kernel)), (z_gt 500 (by decide +kernel) (by decide +kernel)), (z_gt 501 (by decide +kernel) (by decide +kernel)), (z_gt 7 (by decide +kernel) (by decide +kernel)), (z_gt 502 (by decide +kernel) (by decide +kernel)), by decide, ⟨by decide +kernel, by decide +kernel, by decide +kernel, by decide +kernel⟩⟩
theorem cs_X8_367 : z_cV RX8 367 RX1 yX1_keepCap cX1_keepCap 3 none 2 := ⟨(z_gt 582 (by decide +kernel) (by decide +kernel)), (z_gt 583 (by decide +kernel) (by decide +kernel)), (z_gt 584 (by decide +kernel) (by decide +kernel)), (z_gt 6 (by decide +kernel) (by decide +kernel)), (z_gt 585 (by decide +kernel) (by decide +kernel)), by decide, ⟨by decide +kernel, by decide +kernel, by decide +kernel, by decide +kernel⟩⟩
theorem cs_X8_370 : z_cV RX8 370 RX8 yX8_takeBill cX8_takeBill 5 (some .int) 2 := ⟨(z_gt 586 (by decide +kernel) (by decide +kernel)), (z_gt 588 (by decide +kernel) (by decide +kernel)), (z_gs 21 (by decide +kernel) (by decide +kernel)), (z_gt 1 (by decide +kernel) (by decide +kernel)), (z_gt 589 (by decide +kernel) (by decide +kernel)), by decide, ⟨by decide +kernel, by decide +kernel, by decide +kernel, by decide +kernel⟩⟩
theorem cs_X8_374 : z_cV RX8 374 RX1 yX1_receive cX1_receive 6 none 4 := ⟨(z_gt 590 (by decide +kernel) (by decide +kernel)), (z_gt 591 (by decide +kernel) (by decide +kernel)), (z_gt 592 (by decide +kernel) (by decide +kernel)), (z_gt 6 (by decide +kernel) (by decide +kernel)), (z_gt 593 (by decide +kernel) (by decide +kernel)), by decide, ⟨by decide +kernel, by decide +kernel, by decide +kernel, by decide +kernel⟩⟩
theorem fp_X8_166 : z_fp RX8 166 5 4 false .boolean := ⟨RX4, TX4, 5, "GantryHall$Sighting", tyX4, rfl, by decide, zi_5, (z_gt 883 (by decide +kernel) (by decide +kernel)), (Or.inl rfl), tyX4_ok, nmX4, rfl, fun _ => by first | rfl | contradiction, by decide +kernel⟩
theorem fp_X8_291 : z_fp RX8 291 9 13 false .int := ⟨RX8, TX8, 14, "GantryHall", tyX8, rfl, by decide, zi_9, (z_gt 146 (by decide +kernel) (by decide +kernel)), (Or.inl rfl), tyX8_ok, nmX8, rfl, fun _ => by first | rfl | contradiction, by decide +kernel⟩
theorem cs_X8_377 : z_cV RX8 377 RX8 yX8_ofVehicle cX8_ofVehicle 4 (some .int) 2 := ⟨(z_gt 679 (by decide +kernel) (by decide +kernel)), (z_gt 680 (by decide +kernel) (by decide +kernel)), (z_gt 681 (by decide +kernel) (by decide +kernel)), (z_gt 1 (by decide +kernel) (by decide +kernel)), (z_gt 682 (by decide +kernel) (by decide +kernel)), by decide, ⟨by decide +kernel, by decide +kernel, by decide +kernel, by decide +kernel⟩⟩
theorem cs_X8_380 : z_cV RX8 380 RX8 yX8_foldDay cX8_foldDay 9 (some .long) 3 := ⟨(z_gt 683 (by decide +kernel) (by decide +kernel)), (z_gt 685 (by decide +kernel) (by decide +kernel)), (z_gs 29 (by decide +kernel) (by decide +kernel)), (z_gt 1 (by decide +kernel) (by decide +kernel)), (z_gt 686 (by decide +kernel) (by decide +kernel)), by decide, ⟨by decide +kernel, by decide +kernel, by decide +kernel, by decide +kernel⟩⟩
theorem cs_X8_384 : z_cV RX8 384 RX8 yX8_cheapest cX8_cheapest 6 (some .int) 3 := ⟨(z_gt 699 (by decide +kernel) (by decide +kernel)), (z_gt 616 (by decide +kernel) (by decide +kernel)), (z_gt 617 (by decide +kernel) (by decide +kernel)), (z_gt 1 (by decide +kernel) (by decide +kernel)), (z_gt 618 (by decide +kernel) (by decide +kernel)), by decide, ⟨by decide +kernel, by decide +kernel, by decide +kernel, by decide +kernel⟩⟩
theorem cs_X8_388 : z_cV RX8 388 RX8 yX8_wouldSave cX8_wouldSave 6 (some .int) 1 := ⟨(z_gt 700 (by decide +kernel) (by decide +kernel)), (z_gt 701 (by decide +kernel) (by decide +kernel)), (z_gt 702 (by decide +kernel) (by decide +kernel)), (z_gt 1 (by decide +kernel) (by decide +kernel)), (z_gt 703 (by decide +kernel) (by decide +kernel)), by decide, ⟨by decide +kernel, by decide +kernel, by decide +kernel, by decide +kernel⟩⟩
theorem cs_X8_391 : z_cV RX8 391 RX8 yX8_toll cX8_toll 4 (some .int) 3 := ⟨(z_gt 704 (by decide +kernel) (by decide +kernel)), (z_gt 705 (by decide +kernel) (by decide +kernel)), (z_gt 706 (by decide +kernel) (by decide +kernel)), (z_gt 1 (by decide +kernel) (by decide +kernel)), (z_gt 707 (by decide +kernel) (by decide +kernel)), by decide, ⟨by decide +kernel, by decide +kernel, by decide +kernel, by decide +kernel⟩⟩
theorem cs_Jxc12de_1 : z_cI RJxc12de 1 yJxa1e45_init_da8c8 cJxa1e45_init_da8c8 1 0 := ⟨(z_gt 41 (by decide +kernel) (by decide +kernel)), (z_gt 42 (by decide +kernel) (by decide +kernel)), (z_gt 2 (by decide +kernel) (by decide +kernel)), (z_gt 43 (by decide +kernel) (by decide +kernel)), by decide, rfl, ⟨by decide +kernel, by decide +kernel, by decide +kernel⟩⟩
theorem fp_Jxc12de_7 : z_fp RJxc12de 7 0 0 false .int := ⟨RJx4a65c, TJx4a65c, 3, "java/util/AbstractList", tyJx4a65c, rfl, by decide, zi_0, (z_gt 49 (by decide +kernel) (by decide +kernel)), (Or.inl rfl), tyJx4a65c_ok, nmJx4a65c, rfl, fun _ => by first | rfl | contradiction, by decide +kernel⟩
theorem cs_Jx4a65c_1 : z_cI RJx4a65c 1 yJxc12de_init_da8c8 cJxc12de_init_da8c8 1 0 := ⟨(z_gt 38 (by decide +kernel) (by decide +kernel)), (z_gt 39 (by decide +kernel) (by decide +kernel)), (z_gt 3 (by decide +kernel) (by decide +kernel)), (z_gt 40 (by decide +kernel) (by decide +kernel)), by decide, rfl, ⟨by decide +kernel, by decide +kernel, by decide +kernel⟩⟩
theorem fp_Jx4a65c_9 : z_fp RJx4a65c 9 0 1 false (.array (.object "java/lang/Object")) := ⟨RJx4a65c, TJx4a65c, 3, "java/util/ArrayList", tyJx4a65c, rfl, by decide, zi_0, (z_gt 47 (by decide +kernel) (by decide +kernel)), (Or.inl rfl), tyJx4a65c_ok, nmJx4a65c, rfl, fun _ => by first | rfl | contradiction, by decide +kernel⟩
theorem fl_Jx4a65c_9 : z_fl RJx4a65c 9 0 1 := ⟨RJx4a65c, TJx4a65c, 3, "java/util/ArrayList", rfl, by decide, zi_0, (z_gt 47 (by decide +kernel) (by decide +kernel)), (Or.inl rfl)⟩
theorem cs_Jx4a65c_73 : z_cS RJx4a65c 73 yJ8_newLength_cabcc cJ8_newLength_cabcc 4 (some .int) 3 := ⟨(z_gt 379 (by decide +kernel) (by decide +kernel)), (z_gt 380 (by decide +kernel) (by decide +kernel)), (z_gt 15 (by decide +kernel) (by decide +kernel)), (z_gt 381 (by decide +kernel) (by decide +kernel)), by decide, ⟨by decide +kernel, by decide +kernel, by decide +kernel⟩⟩
theorem cs_Jx4a65c_66 : z_cS RJx4a65c 66 yJ7_copyOf_1904c cJ7_copyOf_1904c 2 (some (.array (.object "java/lang/Object"))) 2 := ⟨(z_gt 389 (by decide +kernel) (by decide +kernel)), (z_gt 390 (by decide +kernel) (by decide +kernel)), (z_gt 17 (by decide +kernel) (by decide +kernel)), (z_gt 391 (by decide +kernel) (by decide +kernel)), by decide, ⟨by decide +kernel, by decide +kernel, by decide +kernel⟩⟩
theorem cs_Jx4a65c_79 : z_cS RJx4a65c 79 yJ9_max_7cf53 cJ9_max_7cf53 2 (some .int) 2 := ⟨(z_gt 421 (by decide +kernel) (by decide +kernel)), (z_gt 383 (by decide +kernel) (by decide +kernel)), (z_gt 16 (by decide +kernel) (by decide +kernel)), (z_gt 384 (by decide +kernel) (by decide +kernel)), by decide, ⟨by decide +kernel, by decide +kernel, by decide +kernel⟩⟩
theorem fl_Jx4a65c_48 : z_fl RJx4a65c 48 0 2 := ⟨RJx4a65c, TJx4a65c, 3, "java/util/ArrayList", rfl, by decide, zi_0, (z_gt 48 (by decide +kernel) (by decide +kernel)), (Or.inl rfl)⟩
theorem cs_Jx4a65c_69 : z_cV RJx4a65c 69 RJx4a65c yJx4a65c_grow_92f84 cJx4a65c_grow_92f84 4 (some (.array (.object "java/lang/Object"))) 1 := ⟨(z_gt 375 (by decide +kernel) (by decide +kernel)), (z_gt 377 (by decide +kernel) (by decide +kernel)), (z_gs 10 (by decide +kernel) (by decide +kernel)), (z_gt 4 (by decide +kernel) (by decide +kernel)), (z_gt 378 (by decide +kernel) (by decide +kernel)), by decide, ⟨by decide +kernel, by decide +kernel, by decide +kernel, by decide +kernel⟩⟩
theorem cs_Jx4a65c_118 : z_cS RJx4a65c 118 yJ15_checkIndex_7cf53 cJ15_checkIndex_7cf53 2 (some .int) 2 := ⟨(z_gt 285 (by decide +kernel) (by decide +kernel)), (z_gt 286 (by decide +kernel) (by decide +kernel)), (z_gt 21 (by decide +kernel) (by decide +kernel)), (z_gt 287 (by decide +kernel) (by decide +kernel)), by decide, ⟨by decide +kernel, by decide +kernel, by decide +kernel⟩⟩
theorem cs_Jx4a65c_123 : z_cV RJx4a65c 123 RJx4a65c yJx4a65c_elementData_915e3 cJx4a65c_elementData_915e3 2 (some (.object "java/lang/Object")) 1 := ⟨(z_gt 291 (by decide +kernel) (by decide +kernel)), (z_gt 292 (by decide +kernel) (by decide +kernel)), (z_gt 293 (by decide +kernel) (by decide +kernel)), (z_gt 4 (by decide +kernel) (by decide +kernel)), (z_gt 294 (by decide +kernel) (by decide +kernel)), by decide, ⟨by decide +kernel, by decide +kernel, by decide +kernel, by decide +kernel⟩⟩
theorem cs_Jx4a65c_129 : z_cV RJx4a65c 129 RJx4a65c yJx4a65c_grow_d5877 cJx4a65c_grow_d5877 1 (some (.array (.object "java/lang/Object"))) 0 := ⟨(z_gt 371 (by decide +kernel) (by decide +kernel)), (z_gt 373 (by decide +kernel) (by decide +kernel)), (z_gs 9 (by decide +kernel) (by decide +kernel)), (z_gt 4 (by decide +kernel) (by decide +kernel)), (z_gt 374 (by decide +kernel) (by decide +kernel)), by decide, ⟨by decide +kernel, by decide +kernel, by decide +kernel, by decide +kernel⟩⟩
theorem fp_Jx4a65c_48 : z_fp RJx4a65c 48 0 2 false .int := ⟨RJx4a65c, TJx4a65c, 3, "java/util/ArrayList", tyJx4a65c, rfl, by decide, zi_0, (z_gt 48 (by decide +kernel) (by decide +kernel)), (Or.inl rfl), tyJx4a65c_ok, nmJx4a65c, rfl, fun _ => by first | rfl | contradiction, by decide +kernel⟩
theorem fl_Jx4a65c_63 : z_fl RJx4a65c 63 0 0 := ⟨RJx4a65c, TJx4a65c, 3, "java/util/ArrayList", rfl, by decide, zi_0, (z_gt 50 (by decide +kernel) (by decide +kernel)), (Or.inr (z_gt 51 (by decide +kernel) (by decide +kernel)))⟩
theorem fp_Jx4a65c_63 : z_fp RJx4a65c 63 0 0 false .int := ⟨RJx4a65c, TJx4a65c, 3, "java/util/ArrayList", tyJx4a65c, rfl, by decide, zi_0, (z_gt 50 (by decide +kernel) (by decide +kernel)), (Or.inr (z_gt 51 (by decide +kernel) (by decide +kernel))), tyJx4a65c_ok, nmJx4a65c, rfl, fun _ => by first | rfl | contradiction, by decide +kernel⟩
theorem cs_Jx4a65c_131 : z_cV RJx4a65c 131 RJx4a65c yJx4a65c_add_72be8 cJx4a65c_add_72be8 4 none 3 := ⟨(z_gt 471 (by decide +kernel) (by decide +kernel)), (z_gt 473 (by decide +kernel) (by decide +kernel)), (z_gs 14 (by decide +kernel) (by decide +kernel)), (z_gt 4 (by decide +kernel) (by decide +kernel)), (z_gt 474 (by decide +kernel) (by decide +kernel)), by decide, ⟨by decide +kernel, by decide +kernel, by decide +kernel, by decide +kernel⟩⟩
theorem cs_Jx4a65c_135 : z_cV RJx4a65c 135 RJx4a65c yJx4a65c_rangeCheckForAdd_d00df cJx4a65c_rangeCheckForAdd_d00df 2 none 1 := ⟨(z_gt 367 (by decide +kernel) (by decide +kernel)), (z_gt 369 (by decide +kernel) (by decide +kernel)), (z_gs 8 (by decide +kernel) (by decide +kernel)), (z_gt 4 (by decide +kernel) (by decide +kernel)), (z_gt 370 (by decide +kernel) (by decide +kernel)), by decide, ⟨by decide +kernel, by decide +kernel, by decide +kernel, by decide +kernel⟩⟩
theorem cs_J7_300 : z_cS RJ7 300 yJ7_copyOf_6403c cJ7_copyOf_6403c 4 (some (.array (.object "java/lang/Object"))) 3 := ⟨(z_gt 409 (by decide +kernel) (by decide +kernel)), (z_gt 410 (by decide +kernel) (by decide +kernel)), (z_gt 17 (by decide +kernel) (by decide +kernel)), (z_gt 411 (by decide +kernel) (by decide +kernel)), by decide, ⟨by decide +kernel, by decide +kernel, by decide +kernel⟩⟩
theorem cl_J7_110 : Cond.classLink RJ7 110 "[Ljava/lang/Object;" ∈ zGT := (z_gt 412 (by decide +kernel) (by decide +kernel))
theorem cs_J7_304 : z_cS RJ7 304 yJ9_min_7cf53 cJ9_min_7cf53 2 (some .int) 2 := ⟨(z_gt 415 (by decide +kernel) (by decide +kernel)), (z_gt 416 (by decide +kernel) (by decide +kernel)), (z_gt 16 (by decide +kernel) (by decide +kernel)), (z_gt 417 (by decide +kernel) (by decide +kernel)), by decide, ⟨by decide +kernel, by decide +kernel, by decide +kernel⟩⟩
theorem cs_J15_105 : z_cS RJ15 105 yJ3_checkIndex_8e157 cJ3_checkIndex_8e157 3 (some .int) 3 := ⟨(z_gt 288 (by decide +kernel) (by decide +kernel)), (z_gt 289 (by decide +kernel) (by decide +kernel)), (z_gt 22 (by decide +kernel) (by decide +kernel)), (z_gt 290 (by decide +kernel) (by decide +kernel)), by decide, ⟨by decide +kernel, by decide +kernel, by decide +kernel⟩⟩
theorem cs_J8_194 : z_cS RJ8 194 yJ9_max_7cf53 cJ9_max_7cf53 2 (some .int) 2 := ⟨(z_gt 382 (by decide +kernel) (by decide +kernel)), (z_gt 383 (by decide +kernel) (by decide +kernel)), (z_gt 16 (by decide +kernel) (by decide +kernel)), (z_gt 384 (by decide +kernel) (by decide +kernel)), by decide, ⟨by decide +kernel, by decide +kernel, by decide +kernel⟩⟩
theorem kc_J8_200 : Cond.constant RJ8 200 (2147483639) ∈ zGT := (z_gt 385 (by decide +kernel) (by decide +kernel))
theorem cs_J8_201 : z_cS RJ8 201 yJ8_hugeLength_7cf53 cJ8_hugeLength_7cf53 3 (some .int) 2 := ⟨(z_gt 386 (by decide +kernel) (by decide +kernel)), (z_gt 387 (by decide +kernel) (by decide +kernel)), (z_gt 15 (by decide +kernel) (by decide +kernel)), (z_gt 388 (by decide +kernel) (by decide +kernel)), by decide, ⟨by decide +kernel, by decide +kernel, by decide +kernel⟩⟩
theorem kc_L_7 : Cond.constant RL 7 (2147483647) ∈ zGT := (z_gt 712 (by decide +kernel) (by decide +kernel))
theorem kc_L_8 : Cond.constant RL 8 (790386105) ∈ zGT := (z_gt 716 (by decide +kernel) (by decide +kernel))
theorem cs_L_9 : z_cS RL 9 yL_cell cL_cell 2 (some .int) 2 := ⟨(z_gt 713 (by decide +kernel) (by decide +kernel)), (z_gt 714 (by decide +kernel) (by decide +kernel)), (z_gt 0 (by decide +kernel) (by decide +kernel)), (z_gt 715 (by decide +kernel) (by decide +kernel)), by decide, ⟨by decide +kernel, by decide +kernel, by decide +kernel⟩⟩
theorem cs_L_15 : z_cS RL 15 yL_below cL_below 2 (some .int) 2 := ⟨(z_gt 709 (by decide +kernel) (by decide +kernel)), (z_gt 710 (by decide +kernel) (by decide +kernel)), (z_gt 0 (by decide +kernel) (by decide +kernel)), (z_gt 711 (by decide +kernel) (by decide +kernel)), by decide, ⟨by decide +kernel, by decide +kernel, by decide +kernel⟩⟩
theorem cs_L_19 : z_cV RL 19 RX8 yX8_segment cX8_segment 6 (some .int) 4 := ⟨(z_gt 720 (by decide +kernel) (by decide +kernel)), (z_gt 721 (by decide +kernel) (by decide +kernel)), (z_gt 722 (by decide +kernel) (by decide +kernel)), (z_gt 1 (by decide +kernel) (by decide +kernel)), (z_gt 723 (by decide +kernel) (by decide +kernel)), by decide, ⟨by decide +kernel, by decide +kernel, by decide +kernel, by decide +kernel⟩⟩
theorem cs_L_25 : z_cV RL 25 RX8 yX8_tariff cX8_tariff 6 (some .int) 5 := ⟨(z_gt 767 (by decide +kernel) (by decide +kernel)), (z_gt 768 (by decide +kernel) (by decide +kernel)), (z_gt 769 (by decide +kernel) (by decide +kernel)), (z_gt 1 (by decide +kernel) (by decide +kernel)), (z_gt 770 (by decide +kernel) (by decide +kernel)), by decide, ⟨by decide +kernel, by decide +kernel, by decide +kernel, by decide +kernel⟩⟩
theorem cs_L_29 : z_cV RL 29 RX8 yX8_vehicle cX8_vehicle 5 (some .int) 3 := ⟨(z_gt 810 (by decide +kernel) (by decide +kernel)), (z_gt 811 (by decide +kernel) (by decide +kernel)), (z_gt 812 (by decide +kernel) (by decide +kernel)), (z_gt 1 (by decide +kernel) (by decide +kernel)), (z_gt 813 (by decide +kernel) (by decide +kernel)), by decide, ⟨by decide +kernel, by decide +kernel, by decide +kernel, by decide +kernel⟩⟩
theorem cs_L_33 : z_cV RL 33 RX8 yX8_exempt cX8_exempt 6 (some .boolean) 3 := ⟨(z_gt 851 (by decide +kernel) (by decide +kernel)), (z_gt 852 (by decide +kernel) (by decide +kernel)), (z_gt 853 (by decide +kernel) (by decide +kernel)), (z_gt 1 (by decide +kernel) (by decide +kernel)), (z_gt 854 (by decide +kernel) (by decide +kernel)), by decide, ⟨by decide +kernel, by decide +kernel, by decide +kernel, by decide +kernel⟩⟩
theorem cs_L_37 : z_cV RL 37 RX8 yX8_pass cX8_pass 5 (some .int) 1 := ⟨(z_gt 573 (by decide +kernel) (by decide +kernel)), (z_gt 574 (by decide +kernel) (by decide +kernel)), (z_gt 575 (by decide +kernel) (by decide +kernel)), (z_gt 1 (by decide +kernel) (by decide +kernel)), (z_gt 576 (by decide +kernel) (by decide +kernel)), by decide, ⟨by decide +kernel, by decide +kernel, by decide +kernel, by decide +kernel⟩⟩
theorem cs_L_41 : z_cV RL 41 RX8 yX8_many cX8_many 2 (some .int) 1 := ⟨(z_gt 607 (by decide +kernel) (by decide +kernel)), (z_gt 608 (by decide +kernel) (by decide +kernel)), (z_gt 609 (by decide +kernel) (by decide +kernel)), (z_gt 1 (by decide +kernel) (by decide +kernel)), (z_gt 610 (by decide +kernel) (by decide +kernel)), by decide, ⟨by decide +kernel, by decide +kernel, by decide +kernel, by decide +kernel⟩⟩
theorem cs_L_44 : z_cV RL 44 RX8 yX8_see cX8_see 6 (some .int) 4 := ⟨(z_gt 862 (by decide +kernel) (by decide +kernel)), (z_gt 863 (by decide +kernel) (by decide +kernel)), (z_gt 864 (by decide +kernel) (by decide +kernel)), (z_gt 1 (by decide +kernel) (by decide +kernel)), (z_gt 865 (by decide +kernel) (by decide +kernel)), by decide, ⟨by decide +kernel, by decide +kernel, by decide +kernel, by decide +kernel⟩⟩
theorem cs_L_47 : z_cS RL 47 yJ9_min_7cf53 cJ9_min_7cf53 2 (some .int) 2 := ⟨(z_gt 896 (by decide +kernel) (by decide +kernel)), (z_gt 416 (by decide +kernel) (by decide +kernel)), (z_gt 16 (by decide +kernel) (by decide +kernel)), (z_gt 417 (by decide +kernel) (by decide +kernel)), by decide, ⟨by decide +kernel, by decide +kernel, by decide +kernel⟩⟩
theorem cs_L_84 : z_cV RL 84 RX8 yX8_ofOwner cX8_ofOwner 4 (some .int) 2 := ⟨(z_gt 900 (by decide +kernel) (by decide +kernel)), (z_gt 656 (by decide +kernel) (by decide +kernel)), (z_gt 657 (by decide +kernel) (by decide +kernel)), (z_gt 1 (by decide +kernel) (by decide +kernel)), (z_gt 658 (by decide +kernel) (by decide +kernel)), by decide, ⟨by decide +kernel, by decide +kernel, by decide +kernel, by decide +kernel⟩⟩
theorem cs_L_87 : z_cV RL 87 RX8 yX8_ofVehicle cX8_ofVehicle 4 (some .int) 2 := ⟨(z_gt 901 (by decide +kernel) (by decide +kernel)), (z_gt 680 (by decide +kernel) (by decide +kernel)), (z_gt 681 (by decide +kernel) (by decide +kernel)), (z_gt 1 (by decide +kernel) (by decide +kernel)), (z_gt 682 (by decide +kernel) (by decide +kernel)), by decide, ⟨by decide +kernel, by decide +kernel, by decide +kernel, by decide +kernel⟩⟩
theorem cs_L_90 : z_cV RL 90 RX8 yX8_passages cX8_passages 3 (some .int) 2 := ⟨(z_gt 902 (by decide +kernel) (by decide +kernel)), (z_gt 903 (by decide +kernel) (by decide +kernel)), (z_gt 904 (by decide +kernel) (by decide +kernel)), (z_gt 1 (by decide +kernel) (by decide +kernel)), (z_gt 905 (by decide +kernel) (by decide +kernel)), by decide, ⟨by decide +kernel, by decide +kernel, by decide +kernel, by decide +kernel⟩⟩
theorem cs_L_93 : z_cV RL 93 RX8 yX8_ofPassage cX8_ofPassage 6 (some .int) 4 := ⟨(z_gt 906 (by decide +kernel) (by decide +kernel)), (z_gt 907 (by decide +kernel) (by decide +kernel)), (z_gt 908 (by decide +kernel) (by decide +kernel)), (z_gt 1 (by decide +kernel) (by decide +kernel)), (z_gt 909 (by decide +kernel) (by decide +kernel)), by decide, ⟨by decide +kernel, by decide +kernel, by decide +kernel, by decide +kernel⟩⟩
theorem cs_L_96 : z_cV RL 96 RX8 yX8_bill cX8_bill 5 (some .int) 3 := ⟨(z_gt 910 (by decide +kernel) (by decide +kernel)), (z_gt 911 (by decide +kernel) (by decide +kernel)), (z_gt 912 (by decide +kernel) (by decide +kernel)), (z_gt 1 (by decide +kernel) (by decide +kernel)), (z_gt 913 (by decide +kernel) (by decide +kernel)), by decide, ⟨by decide +kernel, by decide +kernel, by decide +kernel, by decide +kernel⟩⟩
theorem cs_L_99 : z_cV RL 99 RX8 yX8_journeys cX8_journeys 3 (some .int) 2 := ⟨(z_gt 914 (by decide +kernel) (by decide +kernel)), (z_gt 915 (by decide +kernel) (by decide +kernel)), (z_gt 916 (by decide +kernel) (by decide +kernel)), (z_gt 1 (by decide +kernel) (by decide +kernel)), (z_gt 917 (by decide +kernel) (by decide +kernel)), by decide, ⟨by decide +kernel, by decide +kernel, by decide +kernel, by decide +kernel⟩⟩
theorem nw_L_20 : z_nw RL 20 9 14 [.null, .null, .null, .null, .null, .null, .null, .int 0, .int 0, .int 0, .int 0, .int 0, .int 0, .int 0] := ⟨RX8, TX8, tyX8, rfl, zi_9, tyX8_ok, (z_gt 25 (by decide +kernel) (by decide +kernel)), (z_gt 26 (by decide +kernel) (by decide +kernel)), (z_gt 1 (by decide +kernel) (by decide +kernel)), fun j hj => by rcases (show j = 0 ∨ j = 1 ∨ j = 2 ∨ j = 3 ∨ j = 4 ∨ j = 5 ∨ j = 6 ∨ j = 7 ∨ j = 8 ∨ j = 9 ∨ j = 10 ∨ j = 11 ∨ j = 12 ∨ j = 13 by omega) with rfl | rfl | rfl | rfl | rfl | rfl | rfl | rfl | rfl | rfl | rfl | rfl | rfl | rfl <;> rfl, by decide⟩
theorem cs_L_52 : z_cI RL 52 yX8_init cX8_init 1 0 := ⟨(z_gt 27 (by decide +kernel) (by decide +kernel)), (z_gt 28 (by decide +kernel) (by decide +kernel)), (z_gt 1 (by decide +kernel) (by decide +kernel)), (z_gt 29 (by decide +kernel) (by decide +kernel)), by decide, rfl, ⟨by decide +kernel, by decide +kernel, by decide +kernel⟩⟩
theorem cs_L_53 : z_cS RL 53 yL_write cL_write 6 none 3 := ⟨(z_gt 717 (by decide +kernel) (by decide +kernel)), (z_gt 718 (by decide +kernel) (by decide +kernel)), (z_gt 0 (by decide +kernel) (by decide +kernel)), (z_gt 719 (by decide +kernel) (by decide +kernel)), by decide, ⟨by decide +kernel, by decide +kernel, by decide +kernel⟩⟩
theorem cs_L_57 : z_cV RL 57 RX8 yX8_pay cX8_pay 4 (some .int) 2 := ⟨(z_gt 176 (by decide +kernel) (by decide +kernel)), (z_gt 177 (by decide +kernel) (by decide +kernel)), (z_gt 178 (by decide +kernel) (by decide +kernel)), (z_gt 1 (by decide +kernel) (by decide +kernel)), (z_gt 179 (by decide +kernel) (by decide +kernel)), by decide, ⟨by decide +kernel, by decide +kernel, by decide +kernel, by decide +kernel⟩⟩
theorem cs_L_60 : z_cS RL 60 yL_drive cL_drive 8 none 5 := ⟨(z_gt 859 (by decide +kernel) (by decide +kernel)), (z_gt 860 (by decide +kernel) (by decide +kernel)), (z_gt 0 (by decide +kernel) (by decide +kernel)), (z_gt 861 (by decide +kernel) (by decide +kernel)), by decide, ⟨by decide +kernel, by decide +kernel, by decide +kernel⟩⟩
theorem cs_L_64 : z_cV RL 64 RX8 yX8_control cX8_control 7 (some .int) 3 := ⟨(z_gt 296 (by decide +kernel) (by decide +kernel)), (z_gt 297 (by decide +kernel) (by decide +kernel)), (z_gt 298 (by decide +kernel) (by decide +kernel)), (z_gt 1 (by decide +kernel) (by decide +kernel)), (z_gt 299 (by decide +kernel) (by decide +kernel)), by decide, ⟨by decide +kernel, by decide +kernel, by decide +kernel, by decide +kernel⟩⟩
theorem cs_L_67 : z_cV RL 67 RX8 yX8_dispute cX8_dispute 6 (some .int) 2 := ⟨(z_gt 537 (by decide +kernel) (by decide +kernel)), (z_gt 538 (by decide +kernel) (by decide +kernel)), (z_gt 539 (by decide +kernel) (by decide +kernel)), (z_gt 1 (by decide +kernel) (by decide +kernel)), (z_gt 540 (by decide +kernel) (by decide +kernel)), by decide, ⟨by decide +kernel, by decide +kernel, by decide +kernel, by decide +kernel⟩⟩
theorem cs_L_70 : z_cS RL 70 yL_isSound cL_isSound 9 (some .boolean) 2 := ⟨(z_gt 897 (by decide +kernel) (by decide +kernel)), (z_gt 898 (by decide +kernel) (by decide +kernel)), (z_gt 0 (by decide +kernel) (by decide +kernel)), (z_gt 899 (by decide +kernel) (by decide +kernel)), by decide, ⟨by decide +kernel, by decide +kernel, by decide +kernel⟩⟩
theorem cs_L_74 : z_cV RL 74 RX8 yX8_digest cX8_digest 5 (some .long) 0 := ⟨(z_gt 641 (by decide +kernel) (by decide +kernel)), (z_gt 642 (by decide +kernel) (by decide +kernel)), (z_gt 643 (by decide +kernel) (by decide +kernel)), (z_gt 1 (by decide +kernel) (by decide +kernel)), (z_gt 644 (by decide +kernel) (by decide +kernel)), by decide, ⟨by decide +kernel, by decide +kernel, by decide +kernel, by decide +kernel⟩⟩
theorem cs_L_78 : z_cV RL 78 RX8 yX8_cheapest cX8_cheapest 6 (some .int) 3 := ⟨(z_gt 615 (by decide +kernel) (by decide +kernel)), (z_gt 616 (by decide +kernel) (by decide +kernel)), (z_gt 617 (by decide +kernel) (by decide +kernel)), (z_gt 1 (by decide +kernel) (by decide +kernel)), (z_gt 618 (by decide +kernel) (by decide +kernel)), by decide, ⟨by decide +kernel, by decide +kernel, by decide +kernel, by decide +kernel⟩⟩
theorem cs_L_81 : z_cV RL 81 RX8 yX8_bestMinute cX8_bestMinute 11 (some .int) 2 := ⟨(z_gt 637 (by decide +kernel) (by decide +kernel)), (z_gt 638 (by decide +kernel) (by decide +kernel)), (z_gt 639 (by decide +kernel) (by decide +kernel)), (z_gt 1 (by decide +kernel) (by decide +kernel)), (z_gt 640 (by decide +kernel) (by decide +kernel)), by decide, ⟨by decide +kernel, by decide +kernel, by decide +kernel, by decide +kernel⟩⟩
theorem kw_ai : Cond.arrayClass .int ∈ zGT := (z_gt 106 (by decide +kernel) (by decide +kernel))
theorem kw_az : Cond.arrayClass .boolean ∈ zGT := (z_gt 77 (by decide +kernel) (by decide +kernel))
theorem kw_oi1 : Cond.instanceMethod objectInit ∈ zGT := (z_gt 31 (by decide +kernel) (by decide +kernel))
theorem kw_oi2 : Cond.code objectInit ⟨#[0xb1]⟩ 1 none ∈ zGT := (z_gt 32 (by decide +kernel) (by decide +kernel))
theorem oi_X8_1 : Cond.methodLink RX8 1 objectInit ∈ zGT := (z_gt 30 (by decide +kernel) (by decide +kernel))
theorem oi_Jxa1e45_1 : Cond.methodLink RJxa1e45 1 objectInit ∈ zGT := (z_gt 44 (by decide +kernel) (by decide +kernel))
theorem oi_X6_3 : Cond.methodLink RX6 3 objectInit ∈ zGT := (z_gt 64 (by decide +kernel) (by decide +kernel))
theorem oi_X1_3 : Cond.methodLink RX1 3 objectInit ∈ zGT := (z_gt 83 (by decide +kernel) (by decide +kernel))
theorem oi_X0_3 : Cond.methodLink RX0 3 objectInit ∈ zGT := (z_gt 112 (by decide +kernel) (by decide +kernel))
theorem oi_X2_3 : Cond.methodLink RX2 3 objectInit ∈ zGT := (z_gt 441 (by decide +kernel) (by decide +kernel))
theorem oi_X3_3 : Cond.methodLink RX3 3 objectInit ∈ zGT := (z_gt 728 (by decide +kernel) (by decide +kernel))
theorem oi_X5_1 : Cond.methodLink RX5 1 objectInit ∈ zGT := (z_gt 780 (by decide +kernel) (by decide +kernel))
theorem oi_X7_3 : Cond.methodLink RX7 3 objectInit ∈ zGT := (z_gt 818 (by decide +kernel) (by decide +kernel))
theorem oi_X4_3 : Cond.methodLink RX4 3 objectInit ∈ zGT := (z_gt 870 (by decide +kernel) (by decide +kernel))
theorem kw_ob4 : Cond.castable RX3 "java/lang/Object" ∈ zNW := by decide +kernel
theorem kw_ob6 : Cond.castable RX5 "java/lang/Object" ∈ zNW := by decide +kernel
theorem kw_ob8 : Cond.castable RX7 "java/lang/Object" ∈ zNW := by decide +kernel
theorem kw_ob3 : Cond.castable RX2 "java/lang/Object" ∈ zNW := by decide +kernel
theorem kw_ob5 : Cond.castable RX4 "java/lang/Object" ∈ zNW := by decide +kernel
theorem kw_max_J8_194 : Cond.methodLink RJ8 194 Lib.Math.max.name ∈ zGT := (z_gt 382 (by decide +kernel) (by decide +kernel))
theorem kw_max_Jx4a65c_79 : Cond.methodLink RJx4a65c 79 Lib.Math.max.name ∈ zGT := (z_gt 421 (by decide +kernel) (by decide +kernel))
theorem kw_min_J7_304 : Cond.methodLink RJ7 304 Lib.Math.min.name ∈ zGT := (z_gt 415 (by decide +kernel) (by decide +kernel))
theorem kw_min_L_47 : Cond.methodLink RL 47 Lib.Math.min.name ∈ zGT := (z_gt 896 (by decide +kernel) (by decide +kernel))
theorem kw_m2max : Cond.static Lib.Math.max.name ∈ zGT := (z_gt 383 (by decide +kernel) (by decide +kernel))
theorem kw_m4max : Cond.code Lib.Math.max.name Lib.Math.max.code 2 (some .int) ∈ zGT := (z_gt 384 (by decide +kernel) (by decide +kernel))
theorem kw_m2min : Cond.static Lib.Math.min.name ∈ zGT := (z_gt 416 (by decide +kernel) (by decide +kernel))
theorem kw_m4min : Cond.code Lib.Math.min.name Lib.Math.min.code 2 (some .int) ∈ zGT := (z_gt 417 (by decide +kernel) (by decide +kernel))
theorem kw_m3 : Cond.initialized "java/lang/Math" ∈ zGT := (z_gt 16 (by decide +kernel) (by decide +kernel))
theorem kw_gc1 : Cond.methodLink RJ7 86 ⟨"java/lang/Object", "getClass", "()Ljava/lang/Class;"⟩ ∈ zGT := (z_gt 392 (by decide +kernel) (by decide +kernel))
theorem kw_gc2 : Cond.declares ⟨"java/lang/Object", "getClass", "()Ljava/lang/Class;"⟩ ∈ zNW := by decide +kernel
theorem kw_gc3 : Cond.selects "[Ljava/lang/Object;" ⟨"java/lang/Object", "getClass", "()Ljava/lang/Class;"⟩ ⟨"java/lang/Object", "getClass", "()Ljava/lang/Class;"⟩ ∈ zGT := (z_gt 935 (by decide +kernel) (by decide +kernel))
theorem kw_gc4 : Cond.instanceMethod ⟨"java/lang/Object", "getClass", "()Ljava/lang/Class;"⟩ ∈ zGT := (z_gt 393 (by decide +kernel) (by decide +kernel))
theorem kw_gc5 : Cond.native ⟨"java/lang/Object", "getClass", "()Ljava/lang/Class;"⟩ ∈ zGT := (z_gt 408 (by decide +kernel) (by decide +kernel))
theorem kw_ac_J7_150 : Cond.methodLink RJ7 150 arraycopyName ∈ zGT := (z_gt 418 (by decide +kernel) (by decide +kernel))
theorem kw_ac_Jx4a65c_112 : Cond.methodLink RJx4a65c 112 arraycopyName ∈ zGT := (z_gt 423 (by decide +kernel) (by decide +kernel))
theorem kw_ac2 : Cond.native arraycopyName ∈ zGT := (z_gt 420 (by decide +kernel) (by decide +kernel))
theorem kw_ac3 : Cond.static arraycopyName ∈ zGT := (z_gt 419 (by decide +kernel) (by decide +kernel))
theorem kw_ac4 : Cond.initialized "java/lang/System" ∈ zGT := (z_gt 18 (by decide +kernel) (by decide +kernel))
theorem kw_getsE_39 : Cond.fieldLink RJx4a65c 39 "java/util/ArrayList" "DEFAULTCAPACITY_EMPTY_ELEMENTDATA" "[Ljava/lang/Object;" ∈ zGT := (z_gt 45 (by decide +kernel) (by decide +kernel))
theorem kw_an_J7_2 : Cond.classLink RJ7 2 "java/lang/Object" ∈ zGT := (z_gt 414 (by decide +kernel) (by decide +kernel))
theorem kw_an_Jx4a65c_7 : Cond.classLink RJx4a65c 7 "java/lang/Object" ∈ zGT := (z_gt 422 (by decide +kernel) (by decide +kernel))
end
section
/-! small static methods -/
def zf_b (c : Bool) : Int32 := if c then 1 else 0
theorem zf_b01 (c : Bool) : zf_b c = 0 ∨ zf_b c = 1 := by cases c <;> simp [zf_b]
def zf_isIn (x lo hi : Int32) : Bool := decide (lo ≤ x) && decide (x ≤ hi)
def zf_hasBit (set place : Int32) : Bool := ((set >>> (place &&& 31)) &&& 1) == 1
def zf_fold (d : Int64) (v : Int32) : Int64 := d * 31 + v.toInt64
set_option maxRecDepth 20000 in
set_option maxHeartbeats 4000000 in
theorem c_X8_isIn (l : Launch) (G : zG) (h : zH) (top : Nat) (x lo hi : Int32) : z_Ct l yX8_isIn cX8_isIn 3 (some .boolean) 1 G [.int x, .int lo, .int hi] h top (z_R (some (.int (zf_b (zf_isIn x lo hi)))) h top) := by
  refine z_of (own := RX8) (nm := "isIn") (by decide) rfl rfl (by decide) (Nat.le_of_ble_eq_true rfl) (fun X hX hq => ?_)
  replace hX : z_ok X cX8_isIn 3 RX8 (some .boolean) "isIn" 1 G := hX
  show z_Z X h top 0 [(0, .int x), (1, .int lo), (2, .int hi)] []
  refine r_iload_n hX rfl 0 rfl dX8_isIn_0 ?_
  refine r_iload_n hX rfl 1 rfl dX8_isIn_1 ?_
  refine r_icmp_lt (tgt := 14) hX dX8_isIn_2 rfl (fun c2 => ?_) (fun c2 => ?_)
  · skip
    refine r_iconst (v := 0) hX (by decide) dX8_isIn_14 ?_
    exact r_zret hX hq (by decide) ⟨by rw [show zf_isIn x lo hi = false from by simp only [zf_isIn, Bool.and_eq_false_iff, Bool.and_eq_true, decide_eq_false_iff_not, decide_eq_true_eq, Int32.lt_iff_toInt_lt, Int32.le_iff_toInt_le] at *; omega]; rfl, rfl, rfl⟩ dX8_isIn_15
  · skip
    refine r_iload_n hX rfl 0 rfl dX8_isIn_5 ?_
    refine r_iload_n hX rfl 2 rfl dX8_isIn_6 ?_
    refine r_icmp_gt (tgt := 14) hX dX8_isIn_7 rfl (fun c7 => ?_) (fun c7 => ?_)
    · skip
      refine r_iconst (v := 0) hX (by decide) dX8_isIn_14 ?_
      exact r_zret hX hq (by decide) ⟨by rw [show zf_isIn x lo hi = false from by simp only [zf_isIn, Bool.and_eq_false_iff, Bool.and_eq_true, decide_eq_false_iff_not, decide_eq_true_eq, Int32.lt_iff_toInt_lt, Int32.le_iff_toInt_le] at *; omega]; rfl, rfl, rfl⟩ dX8_isIn_15
    · skip
      refine r_iconst (v := 1) hX (by decide) dX8_isIn_10 ?_
      refine r_goto (tgt := 15) hX rfl dX8_isIn_11 ?_
      exact r_zret hX hq (by decide) ⟨by rw [show zf_isIn x lo hi = true from by simp only [zf_isIn, Bool.and_eq_false_iff, Bool.and_eq_true, decide_eq_false_iff_not, decide_eq_true_eq, Int32.lt_iff_toInt_lt, Int32.le_iff_toInt_le] at *; omega]; rfl, rfl, rfl⟩ dX8_isIn_15

set_option maxRecDepth 20000 in
set_option maxHeartbeats 4000000 in
theorem c_X8_isKnot (l : Launch) (G : zG) (h : zH) (top : Nat) (x : Int32) : z_Ct l yX8_isKnot cX8_isKnot 1 (some .boolean) 2 G [.int x] h top (z_R (some (.int (zf_b (zf_isIn x 0 7)))) h top) := by
  refine z_of (own := RX8) (nm := "isKnot") (by decide) rfl rfl (by decide) (Nat.le_of_ble_eq_true rfl) (fun X hX hq => ?_)
  replace hX : z_ok X cX8_isKnot 1 RX8 (some .boolean) "isKnot" 2 G := hX
  show z_Z X h top 0 [(0, .int x)] []
  refine r_iload_n hX rfl 0 rfl dX8_isKnot_0 ?_
  refine r_iconst (v := 0) hX (by decide) dX8_isKnot_1 ?_
  refine r_bipush (v := 7) hX (by decide) dX8_isKnot_2 ?_
  refine r_callSR (As := [.int x, .int 0, .int 7]) (rest := []) (rv := some (.int (zf_b (zf_isIn x 0 7)))) (st1 := [.int (zf_b (zf_isIn x 0 7))]) hX cs_X8_62 (by decide) (fun l => c_X8_isIn l G h top x 0 7) rfl rfl rfl (Nat.le_of_ble_eq_true rfl) dX8_isKnot_4 ?_
  exact r_zret hX hq (zf_b01 _) ⟨rfl, rfl, rfl⟩ dX8_isKnot_7

set_option maxRecDepth 20000 in
set_option maxHeartbeats 4000000 in
theorem c_X8_isOwner (l : Launch) (G : zG) (h : zH) (top : Nat) (x : Int32) : z_Ct l yX8_isOwner cX8_isOwner 1 (some .boolean) 2 G [.int x] h top (z_R (some (.int (zf_b (zf_isIn x 0 3)))) h top) := by
  refine z_of (own := RX8) (nm := "isOwner") (by decide) rfl rfl (by decide) (Nat.le_of_ble_eq_true rfl) (fun X hX hq => ?_)
  replace hX : z_ok X cX8_isOwner 1 RX8 (some .boolean) "isOwner" 2 G := hX
  show z_Z X h top 0 [(0, .int x)] []
  refine r_iload_n hX rfl 0 rfl dX8_isOwner_0 ?_
  refine r_iconst (v := 0) hX (by decide) dX8_isOwner_1 ?_
  refine r_iconst (v := 3) hX (by decide) dX8_isOwner_2 ?_
  refine r_callSR (As := [.int x, .int 0, .int 3]) (rest := []) (rv := some (.int (zf_b (zf_isIn x 0 3)))) (st1 := [.int (zf_b (zf_isIn x 0 3))]) hX cs_X8_62 (by decide) (fun l => c_X8_isIn l G h top x 0 3) rfl rfl rfl (Nat.le_of_ble_eq_true rfl) dX8_isOwner_3 ?_
  exact r_zret hX hq (by first | assumption | exact zf_b01 _) ⟨rfl, rfl, rfl⟩ dX8_isOwner_6

set_option maxRecDepth 20000 in
set_option maxHeartbeats 4000000 in
theorem c_X8_hasBit (l : Launch) (G : zG) (h : zH) (top : Nat) (set place : Int32) : z_Ct l yX8_hasBit cX8_hasBit 2 (some .boolean) 1 G [.int set, .int place] h top (z_R (some (.int (zf_b (zf_hasBit set place)))) h top) := by
  refine z_of (own := RX8) (nm := "hasBit") (by decide) rfl rfl (by decide) (Nat.le_of_ble_eq_true rfl) (fun X hX hq => ?_)
  replace hX : z_ok X cX8_hasBit 2 RX8 (some .boolean) "hasBit" 1 G := hX
  show z_Z X h top 0 [(0, .int set), (1, .int place)] []
  refine r_iload_n hX rfl 0 rfl dX8_hasBit_0 ?_
  refine r_iload_n hX rfl 1 rfl dX8_hasBit_1 ?_
  refine r_ishr hX dX8_hasBit_2 ?_
  refine r_iconst (v := 1) hX (by decide) dX8_hasBit_3 ?_
  refine r_iand hX dX8_hasBit_4 ?_
  refine r_iconst (v := 1) hX (by decide) dX8_hasBit_5 ?_
  refine r_icmp_ne (tgt := 13) hX dX8_hasBit_6 rfl (fun c6 => ?_) (fun c6 => ?_)
  · skip
    refine r_iconst (v := 0) hX (by decide) dX8_hasBit_13 ?_
    exact r_zret hX hq (by decide) ⟨by simp [zf_b, zf_hasBit, *], rfl, rfl⟩ dX8_hasBit_14
  · skip
    refine r_iconst (v := 1) hX (by decide) dX8_hasBit_9 ?_
    refine r_goto (tgt := 14) hX rfl dX8_hasBit_10 ?_
    exact r_zret hX hq (by decide) ⟨by simp [zf_b, zf_hasBit, *], rfl, rfl⟩ dX8_hasBit_14

set_option maxRecDepth 20000 in
set_option maxHeartbeats 4000000 in
theorem c_X8_fold (l : Launch) (G : zG) (h : zH) (top : Nat) (dd : Int64) (v : Int32) : z_Ct l yX8_fold cX8_fold 3 (some .long) 1 G [.long dd, .int v] h top (z_R (some (.long (zf_fold dd v))) h top) := by
  refine z_of (own := RX8) (nm := "fold") (by decide) rfl rfl (by decide) (Nat.le_of_ble_eq_true rfl) (fun X hX hq => ?_)
  replace hX : z_ok X cX8_fold 3 RX8 (some .long) "fold" 1 G := hX
  show z_Z X h top 0 [(0, .long dd), (2, .int v)] []
  refine r_lload_n hX rfl 0 rfl dX8_fold_0 ?_
  refine r_ldc2 hX kc_X8_361 dX8_fold_1 ?_
  refine r_lmul hX dX8_fold_4 ?_
  refine r_iload_n hX rfl 1 rfl dX8_fold_5 ?_
  refine r_i2l hX dX8_fold_6 ?_
  refine r_ladd hX dX8_fold_7 ?_
  exact r_lret hX hq ⟨rfl, rfl, rfl⟩ dX8_fold_8

set_option maxRecDepth 20000 in
set_option maxHeartbeats 4000000 in
theorem c_X8_needIndex (l : Launch) (G : zG) (h : zH) (top : Nat)  : z_Ct l yX8_needIndex cX8_needIndex 1 none 1 G [.int 1] h top (z_R none h top) := by
  refine z_of (own := RX8) (nm := "needIndex") (by decide) rfl rfl (by decide) (Nat.le_of_ble_eq_true rfl) (fun X hX hq => ?_)
  replace hX : z_ok X cX8_needIndex 1 RX8 none "needIndex" 1 G := hX
  show z_Z X h top 0 [(0, .int 1)] []
  refine r_iload_n hX rfl 0 rfl dX8_needIndex_0 ?_
  refine r_if_ne (tgt := 15) hX dX8_needIndex_1 rfl (fun _ => ?_) (fun c => False.elim (absurd c (by decide)))
  exact r_vret hX hq ⟨rfl, rfl, rfl⟩ dX8_needIndex_15

set_option maxRecDepth 20000 in
set_option maxHeartbeats 4000000 in
theorem c_X8_needArgument (l : Launch) (G : zG) (h : zH) (top : Nat)  : z_Ct l yX8_needArgument cX8_needArgument 1 none 1 G [.int 1] h top (z_R none h top) := by
  refine z_of (own := RX8) (nm := "needArgument") (by decide) rfl rfl (by decide) (Nat.le_of_ble_eq_true rfl) (fun X hX hq => ?_)
  replace hX : z_ok X cX8_needArgument 1 RX8 none "needArgument" 1 G := hX
  show z_Z X h top 0 [(0, .int 1)] []
  refine r_iload_n hX rfl 0 rfl dX8_needArgument_0 ?_
  refine r_if_ne (tgt := 15) hX dX8_needArgument_1 rfl (fun _ => ?_) (fun c => False.elim (absurd c (by decide)))
  exact r_vret hX hq ⟨rfl, rfl, rfl⟩ dX8_needArgument_15

set_option maxRecDepth 20000 in
set_option maxHeartbeats 4000000 in
theorem c_X8_needState (l : Launch) (G : zG) (h : zH) (top : Nat)  : z_Ct l yX8_needState cX8_needState 1 none 1 G [.int 1] h top (z_R none h top) := by
  refine z_of (own := RX8) (nm := "needState") (by decide) rfl rfl (by decide) (Nat.le_of_ble_eq_true rfl) (fun X hX hq => ?_)
  replace hX : z_ok X cX8_needState 1 RX8 none "needState" 1 G := hX
  show z_Z X h top 0 [(0, .int 1)] []
  refine r_iload_n hX rfl 0 rfl dX8_needState_0 ?_
  refine r_if_ne (tgt := 15) hX dX8_needState_1 rfl (fun _ => ?_) (fun c => False.elim (absurd c (by decide)))
  exact r_vret hX hq ⟨rfl, rfl, rfl⟩ dX8_needState_15
end
section
/-! ArrayList: reads and makings -/
set_option maxRecDepth 20000 in
set_option maxHeartbeats 4000000 in
theorem c_Jxa1e45_init_da8c8 (l : Launch) (G : zG) (h : zH) (top : Nat) (a : Nat) : z_Ct l yJxa1e45_init_da8c8 cJxa1e45_init_da8c8 1 none 1 G [.ref a] h top (z_R none h top) := by
  refine z_of (own := RJxa1e45) (nm := "<init>") (by decide) rfl rfl (by decide) (Nat.le_of_ble_eq_true rfl) (fun X hX hq => ?_)
  replace hX : z_ok X cJxa1e45_init_da8c8 1 RJxa1e45 none "<init>" 1 G := hX
  show z_Z X h top 0 [(0, .ref a)] []
  refine r_aload_n hX rfl 0 rfl dJxa1e45_init_da8c8_0 ?_
  refine r_objInit hX oi_Jxa1e45_1 kw_oi1 kw_oi2 (by decide) dJxa1e45_init_da8c8_1 ?_
  exact r_vret hX hq ⟨rfl, rfl, rfl⟩ dJxa1e45_init_da8c8_4

set_option maxRecDepth 20000 in
set_option maxHeartbeats 4000000 in
theorem c_Jxc12de_init_da8c8 (l : Launch) (G : zG) (h : zH) (top : Nat) (a : Nat) (m : Int32) (v1 v2 : Value) (ha : z_at G h top a (.inr (0, [.int m, v1, v2]))) : z_Ct l yJxc12de_init_da8c8 cJxc12de_init_da8c8 1 none 2 G [.ref a] h top (z_R none (va_up h a (.inr (0, [.int 0, v1, v2]))) top) := by
  refine z_of (own := RJxc12de) (nm := "<init>") (by decide) rfl rfl (by decide) (Nat.le_of_ble_eq_true rfl) (fun X hX hq => ?_)
  replace hX : z_ok X cJxc12de_init_da8c8 1 RJxc12de none "<init>" 2 G := hX
  show z_Z X h top 0 [(0, .ref a)] []
  refine r_aload_n hX rfl 0 rfl dJxc12de_init_da8c8_0 ?_
  refine r_callIR (As := []) (rest := []) (rv := none) (st1 := []) hX cs_Jxc12de_1 (by decide) (fun l => c_Jxa1e45_init_da8c8 l G h top a) rfl rfl rfl (Nat.le_of_ble_eq_true rfl) dJxc12de_init_da8c8_1 ?_
  refine r_aload_n hX rfl 0 rfl dJxc12de_init_da8c8_4 ?_
  refine r_iconst (v := 0) hX (by decide) dJxc12de_init_da8c8_5 ?_
  refine r_put (fs2 := [.int 0, v1, v2]) hX fp_Jxc12de_7 ha rfl rfl (Nat.le_of_ble_eq_true rfl) rfl dJxc12de_init_da8c8_6 ?_
  replace ha : z_at G (va_up h a (.inr (0, [.int 0, v1, v2]))) top a (.inr (0, [.int 0, v1, v2])) := z_at.self ha
  exact r_vret hX hq ⟨rfl, rfl, rfl⟩ dJxc12de_init_da8c8_9

set_option maxRecDepth 20000 in
set_option maxHeartbeats 4000000 in
theorem c_Jx4a65c_init_da8c8 (l : Launch) (G : zG) (h : zH) (top : Nat) (a : Nat) (m : Int32) (v1 v2 : Value) (ha : z_at G h top a (.inr (0, [.int m, v1, v2]))) : z_Ct l yJx4a65c_init_da8c8 cJx4a65c_init_da8c8 1 none 3 G [.ref a] h top (z_R none (va_up h a (.inr (0, [.int 0, .ref (z_tE G), v2]))) top) := by
  refine z_of (own := RJx4a65c) (nm := "<init>") (by decide) rfl rfl (by decide) (Nat.le_of_ble_eq_true rfl) (fun X hX hq => ?_)
  replace hX : z_ok X cJx4a65c_init_da8c8 1 RJx4a65c none "<init>" 3 G := hX
  show z_Z X h top 0 [(0, .ref a)] []
  refine r_aload_n hX rfl 0 rfl dJx4a65c_init_da8c8_0 ?_
  refine r_callIR (As := []) (rest := []) (rv := none) (st1 := []) hX cs_Jx4a65c_1 (by decide) (fun l => c_Jxc12de_init_da8c8 l G h top a m v1 v2 ha) rfl rfl rfl (Nat.le_of_ble_eq_true rfl) dJx4a65c_init_da8c8_1 ?_
  replace ha : z_at G (va_up h a (.inr (0, [.int 0, v1, v2]))) top a (.inr (0, [.int 0, v1, v2])) := z_at.self ha
  refine r_aload_n hX rfl 0 rfl dJx4a65c_init_da8c8_4 ?_
  refine r_getsE hX kw_getsE_39 dJx4a65c_init_da8c8_5 ?_
  refine r_putU (fs2 := [.int 0, .ref (z_tE G), v2]) hX fp_Jx4a65c_9 ha rfl rfl (Nat.le_of_ble_eq_true rfl) rfl dJx4a65c_init_da8c8_8 ?_
  replace ha : z_at G (va_up h a (.inr (0, [.int 0, .ref (z_tE G), v2]))) top a (.inr (0, [.int 0, .ref (z_tE G), v2])) := z_at.uu ha
  exact r_vret hX hq ⟨rfl, rfl, rfl⟩ dJx4a65c_init_da8c8_11

set_option maxRecDepth 20000 in
set_option maxHeartbeats 4000000 in
theorem c_Jx4a65c_size_8abf5 (l : Launch) (G : zG) (h : zH) (top : Nat) (a e : Nat) (m k : Int32) (ha : z_at G h top a (.inr (0, [.int m, .ref e, .int k]))) : z_Ct l yJx4a65c_size_8abf5 cJx4a65c_size_8abf5 1 (some .int) 1 G [.ref a] h top (z_R (some (.int k)) h top) := by
  refine z_of (own := RJx4a65c) (nm := "size") (by decide) rfl rfl (by decide) (Nat.le_of_ble_eq_true rfl) (fun X hX hq => ?_)
  replace hX : z_ok X cJx4a65c_size_8abf5 1 RJx4a65c (some .int) "size" 1 G := hX
  show z_Z X h top 0 [(0, .ref a)] []
  refine r_aload_n hX rfl 0 rfl dJx4a65c_size_8abf5_0 ?_
  refine r_getf hX fl_Jx4a65c_48 ha rfl dJx4a65c_size_8abf5_1 ?_
  exact r_iret hX hq ⟨rfl, rfl, rfl⟩ dJx4a65c_size_8abf5_4

set_option maxRecDepth 20000 in
set_option maxHeartbeats 4000000 in
theorem c_J3_checkIndex_8e157 (l : Launch) (G : zG) (h : zH) (top : Nat) (i k : Int32) (h1 : ¬ i < 0) (h2 : i < k) : z_Ct l yJ3_checkIndex_8e157 cJ3_checkIndex_8e157 3 (some .int) 1 G [.int i, .int k, .null] h top (z_R (some (.int i)) h top) := by
  refine z_of (own := RJ3) (nm := "checkIndex") (by decide) rfl rfl (by decide) (Nat.le_of_ble_eq_true rfl) (fun X hX hq => ?_)
  replace hX : z_ok X cJ3_checkIndex_8e157 3 RJ3 (some .int) "checkIndex" 1 G := hX
  show z_Z X h top 0 [(0, .int i), (1, .int k), (2, .null)] []
  refine r_iload_n hX rfl 0 rfl dJ3_checkIndex_8e157_0 ?_
  refine r_if_lt (tgt := 9) hX dJ3_checkIndex_8e157_1 rfl (fun c => False.elim (absurd c (fun z => h1 z))) (fun _ => ?_)
  refine r_iload_n hX rfl 0 rfl dJ3_checkIndex_8e157_4 ?_
  refine r_iload_n hX rfl 1 rfl dJ3_checkIndex_8e157_5 ?_
  refine r_icmp_lt (tgt := 16) hX dJ3_checkIndex_8e157_6 rfl (fun _ => ?_) (fun c => False.elim (c h2))
  refine r_iload_n hX rfl 0 rfl dJ3_checkIndex_8e157_16 ?_
  exact r_iret hX hq ⟨rfl, rfl, rfl⟩ dJ3_checkIndex_8e157_17

set_option maxRecDepth 20000 in
set_option maxHeartbeats 4000000 in
theorem c_J15_checkIndex_7cf53 (l : Launch) (G : zG) (h : zH) (top : Nat) (i k : Int32) (h1 : ¬ i < 0) (h2 : i < k) : z_Ct l yJ15_checkIndex_7cf53 cJ15_checkIndex_7cf53 2 (some .int) 2 G [.int i, .int k] h top (z_R (some (.int i)) h top) := by
  refine z_of (own := RJ15) (nm := "checkIndex") (by decide) rfl rfl (by decide) (Nat.le_of_ble_eq_true rfl) (fun X hX hq => ?_)
  replace hX : z_ok X cJ15_checkIndex_7cf53 2 RJ15 (some .int) "checkIndex" 2 G := hX
  show z_Z X h top 0 [(0, .int i), (1, .int k)] []
  refine r_iload_n hX rfl 0 rfl dJ15_checkIndex_7cf53_0 ?_
  refine r_iload_n hX rfl 1 rfl dJ15_checkIndex_7cf53_1 ?_
  refine r_null hX dJ15_checkIndex_7cf53_2 ?_
  refine r_callSR (As := [.int i, .int k, .null]) (rest := []) (rv := some (.int i)) (st1 := [.int i]) hX cs_J15_105 (by decide) (fun l => c_J3_checkIndex_8e157 l G h top i k h1 h2) rfl rfl rfl (Nat.le_of_ble_eq_true rfl) dJ15_checkIndex_7cf53_3 ?_
  exact r_iret hX hq ⟨rfl, rfl, rfl⟩ dJ15_checkIndex_7cf53_6

set_option maxRecDepth 20000 in
set_option maxHeartbeats 4000000 in
theorem c_Jx4a65c_elementData_915e3 (l : Launch) (G : zG) (h : zH) (top : Nat) (a e cap x : Nat) (m k i : Int32) (f : Nat → Option Nat) (ha : z_at G h top a (.inr (0, [.int m, .ref e, .int k]))) (he : z_at G h top e (.inl (z_aO G, cap, .inr (.inr (.inr (.inr f)))))) (hin : vp_in i cap) (hf : va_rf (f i.toNatClampNeg) = .ref x) : z_Ct l yJx4a65c_elementData_915e3 cJx4a65c_elementData_915e3 2 (some (.object "java/lang/Object")) 1 G [.ref a, .int i] h top (z_R (some (.ref x)) h top) := by
  refine z_of (own := RJx4a65c) (nm := "elementData") (by decide) rfl rfl (by decide) (Nat.le_of_ble_eq_true rfl) (fun X hX hq => ?_)
  replace hX : z_ok X cJx4a65c_elementData_915e3 2 RJx4a65c (some (.object "java/lang/Object")) "elementData" 1 G := hX
  show z_Z X h top 0 [(0, .ref a), (1, .int i)] []
  refine r_aload_n hX rfl 0 rfl dJx4a65c_elementData_915e3_0 ?_
  refine r_getf hX fl_Jx4a65c_9 ha rfl dJx4a65c_elementData_915e3_1 ?_
  refine r_iload_n hX rfl 1 rfl dJx4a65c_elementData_915e3_4 ?_
  refine r_aald (v := .ref x) hX he hin hf dJx4a65c_elementData_915e3_5 ?_
  exact r_aret hX rfl (Or.inl ⟨_, rfl⟩) hq (Or.inr ⟨_, rfl⟩) ⟨rfl, rfl, rfl⟩ dJx4a65c_elementData_915e3_6

set_option maxRecDepth 20000 in
set_option maxHeartbeats 4000000 in
theorem c_Jx4a65c_get_915e3 (l : Launch) (G : zG) (h : zH) (top : Nat) (a e cap x : Nat) (m k i : Int32) (f : Nat → Option Nat) (ha : z_at G h top a (.inr (0, [.int m, .ref e, .int k]))) (he : z_at G h top e (.inl (z_aO G, cap, .inr (.inr (.inr (.inr f)))))) (h1 : ¬ i < 0) (h2 : i < k) (hin : vp_in i cap) (hf : va_rf (f i.toNatClampNeg) = .ref x) : z_Ct l yJx4a65c_get_915e3 cJx4a65c_get_915e3 2 (some (.object "java/lang/Object")) 3 G [.ref a, .int i] h top (z_R (some (.ref x)) h top) := by
  refine z_of (own := RJx4a65c) (nm := "get") (by decide) rfl rfl (by decide) (Nat.le_of_ble_eq_true rfl) (fun X hX hq => ?_)
  replace hX : z_ok X cJx4a65c_get_915e3 2 RJx4a65c (some (.object "java/lang/Object")) "get" 3 G := hX
  show z_Z X h top 0 [(0, .ref a), (1, .int i)] []
  refine r_iload_n hX rfl 1 rfl dJx4a65c_get_915e3_0 ?_
  refine r_aload_n hX rfl 0 rfl dJx4a65c_get_915e3_1 ?_
  refine r_getf hX fl_Jx4a65c_48 ha rfl dJx4a65c_get_915e3_2 ?_
  refine r_callSR (As := [.int i, .int k]) (rest := []) (rv := some (.int i)) (st1 := [.int i]) hX cs_Jx4a65c_118 (by decide) (fun l => c_J15_checkIndex_7cf53 l G h top i k h1 h2) rfl rfl rfl (Nat.le_of_ble_eq_true rfl) dJx4a65c_get_915e3_5 ?_
  refine r_pop hX rfl dJx4a65c_get_915e3_8 ?_
  refine r_aload_n hX rfl 0 rfl dJx4a65c_get_915e3_9 ?_
  refine r_iload_n hX rfl 1 rfl dJx4a65c_get_915e3_10 ?_
  refine r_callVR (As := [.int i]) (rest := []) (rv := some (.ref x)) (st1 := [.ref x]) hX cs_Jx4a65c_123 (by decide) (fun l => c_Jx4a65c_elementData_915e3 l G h top a e cap x m k i f ha he hin hf) ha rfl rfl rfl rfl (Nat.le_of_ble_eq_true rfl) dJx4a65c_get_915e3_11 ?_
  exact r_aret hX rfl (Or.inl ⟨_, rfl⟩) hq (Or.inr ⟨_, rfl⟩) ⟨rfl, rfl, rfl⟩ dJx4a65c_get_915e3_14
end
section
/-! ArrayList: growing -/
def z_refs (G : zG) (cap : Nat) (f : Nat → Option Nat) : va_E := .inl (z_aO G, cap, .inr (.inr (.inr (.inr f))))
/-- a list: n elements f 0 .. f (n - 1) in an array e of cap places -/
def z_AL (G : zG) (h : zH) (top a : Nat) (m : Int32) (e n cap : Nat) (f : Nat → Option Nat) : Prop :=
  z_at G h top a (.inr (0, [.int m, .ref e, .int (nI n)])) ∧ n ≤ cap ∧ cap ≤ 225 ∧ (∀ i, n ≤ i → f i = none) ∧ ((cap = 0 ∧ e = z_tE G) ∨ (0 < cap ∧ z_at G h top e (z_refs G cap f)))
def z_gr (c : Nat) : Nat := if c = 0 then 10 else c + (if 1 < c / 2 then c / 2 else 1)
theorem z_ob.ne {G : zG} {h : zH} {top y a : Nat} {fs : List Value} (hy : z_ob G h top y) (ha : z_at G h top a (.inr (0, fs))) : y ≠ a := by
  obtain ⟨ci, gs, r, h1, h2, h3⟩ := hy
  intro e
  subst e
  have e1 := h1.2.2.symm.trans ha.2.2
  cases e1
  cases h2
  exact absurd h3 (by decide +kernel)
theorem z_ob.neO {G : zG} {h : zH} {top y e : Nat} {x : ClassId × vp_A} (hy : z_ob G h top y) (ha : z_at G h top e (.inl x)) : y ≠ e := by
  obtain ⟨ci, gs, r, h1, h2, h3⟩ := hy
  intro q
  subst q
  have e1 := h1.2.2.symm.trans ha.2.2
  cases e1
theorem z_ob.keep {G : zG} {h h' : zH} {top top' y : Nat} (hy : z_ob G h top y) (e : h' y = h y) (ht : top ≤ top') : z_ob G h' top' y := by
  obtain ⟨ci, gs, r, ⟨g1, g2, g3⟩, h2, h3⟩ := hy
  exact ⟨ci, gs, r, ⟨g1, by omega, by rw [e, g3]⟩, h2, h3⟩
theorem z_ob.up {G : zG} {h : zH} {top y a : Nat} {v : va_E} (hy : z_ob G h top y) (hne : y ≠ a) : z_ob G (va_up h a v) top y := hy.keep (by simp [va_up, hne]) (Nat.le_refl _)
theorem z_ob.new {G : zG} {h : zH} {top y : Nat} {v : va_E} (hy : z_ob G h top y) : z_ob G (va_up h top v) (top + 1) y := by
  have : y < top := by obtain ⟨ci, gs, r, ⟨g1, g2, g3⟩, h2, h3⟩ := hy; exact g2
  exact hy.keep (by simp [va_up, show y ≠ top by omega]) (Nat.le_succ _)
theorem z_nlt0 {n : Nat} (h : n < 2 ^ 31) : ¬ nI n < 0 := nI_pos h
theorem z_gr_pos {n : Nat} (h : 0 < n) : z_gr n = n + (if 1 < n / 2 then n / 2 else 1) := by
  unfold z_gr
  rw [if_neg (show ¬ n = 0 by omega)]
theorem z_mxg {n : Nat} (h : n ≤ 1000) : (if nI 1 < nI (n / 2) then nI (n / 2) else nI 1) = nI (if 1 < n / 2 then n / 2 else 1) := by
  by_cases q : 1 < n / 2
  · rw [if_pos q, if_pos ((nI_ltI (by omega) (by omega)).mpr q)]
  · rw [if_neg q, if_neg (fun z => q ((nI_ltI (by omega) (by omega)).mp z))]
theorem zi_cl0 : (0 : Int32).toNatClampNeg = 0 := by decide

set_option maxRecDepth 20000 in
set_option maxHeartbeats 4000000 in
theorem c_J8_newLength_cabcc (l : Launch) (G : zG) (h : zH) (top : Nat) (o g : Nat) (mg pg : Int32) (ho : 0 < o) (ho2 : o ≤ 1000) (hg : g ≤ 1000) (hmx : (if mg < pg then pg else mg) = nI g) : z_Ct l yJ8_newLength_cabcc cJ8_newLength_cabcc 4 (some .int) 2 G [.int (nI o), .int mg, .int pg] h top (z_R (some (.int (nI (o + g)))) h top) := by
  refine z_of (own := RJ8) (nm := "newLength") (by decide) rfl rfl (by decide) (Nat.le_of_ble_eq_true rfl) (fun X hX hq => ?_)
  replace hX : z_ok X cJ8_newLength_cabcc 4 RJ8 (some .int) "newLength" 2 G := hX
  show z_Z X h top 0 [(0, .int (nI o)), (1, .int mg), (2, .int pg)] []
  refine r_iload_n hX rfl 0 rfl dJ8_newLength_cabcc_0 ?_
  refine r_iload_n hX rfl 1 rfl dJ8_newLength_cabcc_1 ?_
  refine r_iload_n hX rfl 2 rfl dJ8_newLength_cabcc_2 ?_
  refine r_max hX kw_max_J8_194 kw_m2max kw_m3 kw_m4max (Nat.le_of_ble_eq_true rfl) dJ8_newLength_cabcc_3 ?_
  rw [hmx]
  refine r_iadd hX dJ8_newLength_cabcc_6 ?_
  rw [nI_add o g]
  refine r_istore_n (lv' := [(3, .int (nI (o + g))), (0, .int (nI o)), (1, .int mg), (2, .int pg)]) hX rfl (by decide) rfl dJ8_newLength_cabcc_7 ?_
  refine r_iconst (v := 0) hX (by decide) dJ8_newLength_cabcc_8 ?_
  refine r_iload_n hX rfl 0 rfl dJ8_newLength_cabcc_9 ?_
  refine r_icmp_ge (tgt := 21) hX dJ8_newLength_cabcc_10 rfl (fun c => False.elim (absurd c (by rw [← nI_0]; exact nI_ge (by omega) (by omega)))) (fun _ => ?_)
  refine r_iload_n hX rfl 0 rfl dJ8_newLength_cabcc_13 ?_
  refine r_ldc hX kc_J8_200 dJ8_newLength_cabcc_14 ?_
  refine r_icmp_gt (tgt := 21) hX dJ8_newLength_cabcc_16 rfl (fun c => False.elim (absurd c (by rw [show (2147483639 : Int32) = nI 2147483639 by decide]; exact nI_nlt (by omega) (by omega)))) (fun _ => ?_)
  refine r_iload_n hX rfl 0 rfl dJ8_newLength_cabcc_19 ?_
  exact r_iret hX hq ⟨rfl, rfl, rfl⟩ dJ8_newLength_cabcc_20

set_option maxRecDepth 20000 in
set_option maxHeartbeats 4000000 in
theorem c_J7_copyOf_6403c (l : Launch) (G : zG) (h : zH) (top : Nat) (e0 cap N : Nat) (f : Nat → Option Nat) (hbt : z_b G ≤ top) (he : z_at G h top e0 (z_refs G cap f)) (hel : ∀ i, i < cap → ∀ y, f i = some y → z_ob G h top y) (hN : cap ≤ N) (hN2 : N ≤ 1000) (hroom : top + 1 ≤ z_b G + 320) : z_Ct l yJ7_copyOf_6403c cJ7_copyOf_6403c 4 (some (.array (.object "java/lang/Object"))) 2 G [.ref e0, .int (nI N), .ref (z_mO G)] h top (fun r h' top' => r = some (.ref top) ∧ top' = top + 1 ∧ ∃ g, (∀ i, i < cap → g i = f i) ∧ (∀ i, cap ≤ i → g i = none) ∧ h' = va_up h top (z_refs G N g)) := by
  refine z_of (own := RJ7) (nm := "copyOf") (by decide) rfl rfl (by decide) (Nat.le_of_ble_eq_true rfl) (fun X hX hq => ?_)
  replace hX : z_ok X cJ7_copyOf_6403c 4 RJ7 (some (.array (.object "java/lang/Object"))) "copyOf" 2 G := hX
  show z_Z X h top 0 [(0, .ref e0), (1, .int (nI N)), (2, .ref (z_mO G))] []
  have he9 := he
  unfold z_refs at he
  refine r_aload_n hX rfl 2 rfl dJ7_copyOf_6403c_0 ?_
  refine r_ldcM hX cl_J7_110 dJ7_copyOf_6403c_1 ?_
  refine r_acmp_ne (tgt := 13) hX dJ7_copyOf_6403c_3 rfl (fun c => False.elim (c rfl)) (fun _ => ?_)
  refine r_iload_n hX rfl 1 rfl dJ7_copyOf_6403c_6 ?_
  refine r_anew (N := N) hX kw_an_J7_2 (nI_clamp (by omega)) (z_nlt0 (by omega)) (by omega) (by omega) dJ7_copyOf_6403c_7 ?_
  replace he := he.new (e2 := (.inl (z_aO G, N, .inr (.inr (.inr (.inr (fun _ => none)))))))
  have hN7 : z_at G (va_up h top (.inl (z_aO G, N, .inr (.inr (.inr (.inr (fun _ => none))))))) (top + 1) top (.inl (z_aO G, N, .inr (.inr (.inr (.inr (fun _ => none)))))) := z_at.fresh hbt
  refine r_goto (tgt := 24) hX rfl dJ7_copyOf_6403c_10 ?_
  refine r_astore_n (lv' := [(3, .ref top), (0, .ref e0), (1, .int (nI N)), (2, .ref (z_mO G))]) hX rfl (by decide) rfl dJ7_copyOf_6403c_24 ?_
  refine r_aload_n hX rfl 1 rfl dJ7_copyOf_6403c_25 ?_
  refine r_iconst (v := 0) hX (by decide) dJ7_copyOf_6403c_26 ?_
  refine r_aload_n hX rfl 0 rfl dJ7_copyOf_6403c_27 ?_
  refine r_iconst (v := 0) hX (by decide) dJ7_copyOf_6403c_28 ?_
  refine r_aload_n hX rfl 1 rfl dJ7_copyOf_6403c_29 ?_
  refine r_alenO (v := (nI cap)) hX he rfl dJ7_copyOf_6403c_30 ?_
  refine r_iload_n hX rfl 2 rfl dJ7_copyOf_6403c_31 ?_
  refine r_min hX kw_min_J7_304 kw_m2min kw_m3 kw_m4min (Nat.le_of_ble_eq_true rfl) dJ7_copyOf_6403c_32 ?_
  rw [show (if nI N < nI cap then nI N else nI cap) = nI cap from if_neg (nI_nlt (by omega) (by omega))]
  refine r_copy (sp := 0) (dp := 0) (n := (nI cap)) hX he hN7 (by decide) (by decide) (z_nlt0 (by omega)) (by rw [nI_clamp (by omega), zi_cl0]; omega) (by rw [nI_clamp (by omega), zi_cl0]; omega) (fun i hi y hy => (hel i (by rw [nI_clamp (by omega)] at hi; omega) y (by rw [zi_cl0, Nat.zero_add] at hy; exact hy)).new) kw_ac_J7_150 kw_ac2 kw_ac3 kw_ac4 (by decide +kernel) dJ7_copyOf_6403c_35 ?_
  replace he := he.ne (a2 := top) (e2 := (.inl (z_aO G, N, .inr (.inr (.inr (.inr (va_cpy f (fun _ => none) (0 : Int32).toNatClampNeg (0 : Int32).toNatClampNeg ((nI cap) : Int32).toNatClampNeg))))))) (by have := he9.2.1; omega)
  replace hN7 : z_at G (va_up (va_up h top (.inl (z_aO G, N, .inr (.inr (.inr (.inr (fun _ => none))))))) top (.inl (z_aO G, N, .inr (.inr (.inr (.inr (va_cpy f (fun _ => none) (0 : Int32).toNatClampNeg (0 : Int32).toNatClampNeg ((nI cap) : Int32).toNatClampNeg))))))) (top + 1) top (.inl (z_aO G, N, .inr (.inr (.inr (.inr (va_cpy f (fun _ => none) (0 : Int32).toNatClampNeg (0 : Int32).toNatClampNeg ((nI cap) : Int32).toNatClampNeg)))))) := z_at.self hN7
  refine r_aload_n hX rfl 0 rfl dJ7_copyOf_6403c_38 ?_
  exact r_aret hX rfl (Or.inr ⟨_, rfl⟩) hq (Or.inr ⟨_, rfl⟩) ⟨rfl, rfl, (va_cpy f (fun _ => none) (0 : Int32).toNatClampNeg (0 : Int32).toNatClampNeg ((nI cap) : Int32).toNatClampNeg), fun i hi => by rw [zi_cl0, nI_clamp (by omega), pk_cpy_in (by omega) (by omega)]; simp, fun i hi => by rw [zi_cl0, nI_clamp (by omega), pk_cpy_out (by omega)], by rw [bx_uu]; rfl⟩ dJ7_copyOf_6403c_39

set_option maxRecDepth 20000 in
set_option maxHeartbeats 4000000 in
theorem c_J7_copyOf_1904c (l : Launch) (G : zG) (h : zH) (top : Nat) (e0 cap N : Nat) (f : Nat → Option Nat) (hbt : z_b G ≤ top) (he0 : z_at G h top e0 (z_refs G cap f)) (hel : ∀ i, i < cap → ∀ y, f i = some y → z_ob G h top y) (hN : cap ≤ N) (hN2 : N ≤ 1000) (hroom : top + 1 ≤ z_b G + 320) : z_Ct l yJ7_copyOf_1904c cJ7_copyOf_1904c 2 (some (.array (.object "java/lang/Object"))) 3 G [.ref e0, .int (nI N)] h top (fun r h' top' => r = some (.ref top) ∧ top' = top + 1 ∧ ∃ g, (∀ i, i < cap → g i = f i) ∧ (∀ i, cap ≤ i → g i = none) ∧ h' = va_up h top (z_refs G N g)) := by
  refine z_of (own := RJ7) (nm := "copyOf") (by decide) rfl rfl (by decide) (Nat.le_of_ble_eq_true rfl) (fun X hX hq => ?_)
  replace hX : z_ok X cJ7_copyOf_1904c 2 RJ7 (some (.array (.object "java/lang/Object"))) "copyOf" 3 G := hX
  show z_Z X h top 0 [(0, .ref e0), (1, .int (nI N))] []
  have he := he0
  unfold z_refs at he
  refine r_aload_n hX rfl 0 rfl dJ7_copyOf_1904c_0 ?_
  refine r_iload_n hX rfl 1 rfl dJ7_copyOf_1904c_1 ?_
  refine r_aload_n hX rfl 0 rfl dJ7_copyOf_1904c_2 ?_
  refine r_getC hX he kw_gc1 kw_gc2 kw_gc3 kw_gc4 kw_gc5 (Nat.le_of_ble_eq_true rfl) dJ7_copyOf_1904c_3 ?_
  refine r_callS (As := [.ref e0, .int (nI N), .ref (z_mO G)]) (rest := []) hX cs_J7_300 (by decide) (fun l => c_J7_copyOf_6403c l G h top e0 cap N f hbt he0 hel hN hN2 hroom) rfl rfl (Nat.le_of_ble_eq_true rfl) dJ7_copyOf_1904c_6 (fun r1 h1 top1 hp1 => ?_)
  obtain ⟨rfl, hp1⟩ := hp1
  exact r_aret hX rfl (Or.inr ⟨_, rfl⟩) hq (Or.inr ⟨_, rfl⟩) ⟨rfl, hp1⟩ dJ7_copyOf_1904c_9

set_option maxRecDepth 20000 in
set_option maxHeartbeats 4000000 in
theorem c_grow_0 (l : Launch) (G : zG) (h : zH) (top : Nat) (a : Nat) (m : Int32) (f : Nat → Option Nat) (hbt : z_b G ≤ top) (ha : z_at G h top a (.inr (0, [.int m, .ref (z_tE G), .int (nI 0)]))) (hroom : top + 1 ≤ z_b G + 320) : z_Ct l yJx4a65c_grow_92f84 cJx4a65c_grow_92f84 4 (some (.array (.object "java/lang/Object"))) 4 G [.ref a, .int 1] h top (fun r h' top' => r = some (.ref top) ∧ top' = top + 1 ∧ ∃ g, (∀ i, i < 0 → g i = f i) ∧ (∀ i, 0 ≤ i → g i = none) ∧ h' = va_up (va_up h top (z_refs G (z_gr 0) g)) a (.inr (0, [.int m, .ref top, .int (nI 0)]))) := by
  refine z_of (own := RJx4a65c) (nm := "grow") (by decide) rfl rfl (by decide) (Nat.le_of_ble_eq_true rfl) (fun X hX hq => ?_)
  replace hX : z_ok X cJx4a65c_grow_92f84 4 RJx4a65c (some (.array (.object "java/lang/Object"))) "grow" 4 G := hX
  show z_Z X h top 0 [(0, .ref a), (1, .int 1)] []
  refine r_aload_n hX rfl 0 rfl dJx4a65c_grow_92f84_0 ?_
  refine r_getf hX fl_Jx4a65c_9 ha rfl dJx4a65c_grow_92f84_1 ?_
  refine r_alenE hX dJx4a65c_grow_92f84_4 ?_
  refine r_istore_n (lv' := [(2, .int 0), (0, .ref a), (1, .int 1)]) hX rfl (by decide) rfl dJx4a65c_grow_92f84_5 ?_
  refine r_iload_n hX rfl 0 rfl dJx4a65c_grow_92f84_6 ?_
  refine r_if_gt (tgt := 20) hX dJx4a65c_grow_92f84_7 rfl (fun c => False.elim (absurd c (by decide))) (fun _ => ?_)
  refine r_aload_n hX rfl 1 rfl dJx4a65c_grow_92f84_10 ?_
  refine r_getf hX fl_Jx4a65c_9 ha rfl dJx4a65c_grow_92f84_11 ?_
  refine r_getsE hX kw_getsE_39 dJx4a65c_grow_92f84_14 ?_
  refine r_acmp_eq (tgt := 45) hX dJx4a65c_grow_92f84_17 rfl (fun _ => ?_) (fun c => False.elim (c rfl))
  refine r_aload_n hX rfl 1 rfl dJx4a65c_grow_92f84_45 ?_
  refine r_bipush (v := 10) hX (by decide) dJx4a65c_grow_92f84_46 ?_
  refine r_iload_n hX rfl 2 rfl dJx4a65c_grow_92f84_48 ?_
  refine r_max hX kw_max_Jx4a65c_79 kw_m2max kw_m3 kw_m4max (Nat.le_of_ble_eq_true rfl) dJx4a65c_grow_92f84_49 ?_
  rw [show (if (10 : Int32) < 1 then (1 : Int32) else 10) = nI 10 by decide]
  refine r_anew (N := 10) hX kw_an_Jx4a65c_7 (nI_clamp (by omega)) (z_nlt0 (by omega)) (by omega) (by omega) dJx4a65c_grow_92f84_52 ?_
  replace ha := ha.new (e2 := (.inl (z_aO G, 10, .inr (.inr (.inr (.inr (fun _ => none)))))))
  have hN52 : z_at G (va_up h top (.inl (z_aO G, 10, .inr (.inr (.inr (.inr (fun _ => none))))))) (top + 1) top (.inl (z_aO G, 10, .inr (.inr (.inr (.inr (fun _ => none)))))) := z_at.fresh hbt
  refine r_dup_x1 hX rfl rfl dJx4a65c_grow_92f84_55 ?_
  refine r_put (fs2 := [.int m, .ref top, .int (nI 0)]) hX fp_Jx4a65c_9 ha rfl rfl (Nat.le_of_ble_eq_true rfl) rfl dJx4a65c_grow_92f84_56 ?_
  replace hN52 := hN52.up (e3 := (.inr (0, [.int m, .ref top, .int (nI 0)]))) ha (by intro z; cases z)
  replace ha : z_at G (va_up (va_up h top (.inl (z_aO G, 10, .inr (.inr (.inr (.inr (fun _ => none))))))) a (.inr (0, [.int m, .ref top, .int (nI 0)]))) (top + 1) a (.inr (0, [.int m, .ref top, .int (nI 0)])) := z_at.self ha
  exact r_aret hX rfl (Or.inr ⟨_, rfl⟩) hq (Or.inr ⟨_, rfl⟩) ⟨rfl, rfl, fun _ => none, fun i hi => by omega, fun i hi => rfl, rfl⟩ dJx4a65c_grow_92f84_59

set_option maxRecDepth 20000 in
set_option maxHeartbeats 4000000 in
theorem c_grow_1 (l : Launch) (G : zG) (h : zH) (top : Nat) (a e n : Nat) (m : Int32) (f : Nat → Option Nat) (hbt : z_b G ≤ top) (ha : z_at G h top a (.inr (0, [.int m, .ref e, .int (nI n)]))) (he0 : z_at G h top e (z_refs G n f)) (hel : ∀ i, i < n → ∀ y, f i = some y → z_ob G h top y) (hn0 : 0 < n) (hn : n ≤ 150) (hroom : top + 1 ≤ z_b G + 320) : z_Ct l yJx4a65c_grow_92f84 cJx4a65c_grow_92f84 4 (some (.array (.object "java/lang/Object"))) 4 G [.ref a, .int (nI (n + 1))] h top (fun r h' top' => r = some (.ref top) ∧ top' = top + 1 ∧ ∃ g, (∀ i, i < n → g i = f i) ∧ (∀ i, n ≤ i → g i = none) ∧ h' = va_up (va_up h top (z_refs G (z_gr n) g)) a (.inr (0, [.int m, .ref top, .int (nI n)]))) := by
  refine z_of (own := RJx4a65c) (nm := "grow") (by decide) rfl rfl (by decide) (Nat.le_of_ble_eq_true rfl) (fun X hX hq => ?_)
  replace hX : z_ok X cJx4a65c_grow_92f84 4 RJx4a65c (some (.array (.object "java/lang/Object"))) "grow" 4 G := hX
  show z_Z X h top 0 [(0, .ref a), (1, .int (nI (n + 1)))] []
  have he := he0
  unfold z_refs at he
  refine r_aload_n hX rfl 0 rfl dJx4a65c_grow_92f84_0 ?_
  refine r_getf hX fl_Jx4a65c_9 ha rfl dJx4a65c_grow_92f84_1 ?_
  refine r_alenO (v := (nI n)) hX he rfl dJx4a65c_grow_92f84_4 ?_
  refine r_istore_n (lv' := [(2, .int (nI n)), (0, .ref a), (1, .int (nI (n + 1)))]) hX rfl (by decide) rfl dJx4a65c_grow_92f84_5 ?_
  refine r_iload_n hX rfl 0 rfl dJx4a65c_grow_92f84_6 ?_
  refine r_if_gt (tgt := 20) hX dJx4a65c_grow_92f84_7 rfl (fun _ => ?_) (fun c => False.elim (absurd (show (0 : Int32) < nI n by rw [← nI_0]; exact nI_lt (by omega) (by omega)) c))
  refine r_iload_n hX rfl 0 rfl dJx4a65c_grow_92f84_20 ?_
  refine r_iload_n hX rfl 2 rfl dJx4a65c_grow_92f84_21 ?_
  refine r_iload_n hX rfl 0 rfl dJx4a65c_grow_92f84_22 ?_
  refine r_isub hX dJx4a65c_grow_92f84_23 ?_
  refine r_iload_n hX rfl 0 rfl dJx4a65c_grow_92f84_24 ?_
  refine r_iconst (v := 1) hX (by decide) dJx4a65c_grow_92f84_25 ?_
  refine r_ishr hX dJx4a65c_grow_92f84_26 ?_
  rw [show nI n >>> ((1 : Int32) &&& 31) = nI (n / 2) from by have k := pk_shrN (n := n) (by omega) ((1 : Int32) &&& 31) 1 (by decide); rw [Nat.pow_one] at k; exact k, pk_sub (a := n + 1) (b := n) (by omega), Nat.add_sub_cancel_left]
  refine r_callSR (As := [.int (nI n), .int (nI 1), .int (nI (n / 2))]) (rest := []) (rv := some (.int (nI (n + (if 1 < n / 2 then n / 2 else 1))))) (st1 := [.int (nI (n + (if 1 < n / 2 then n / 2 else 1)))]) hX cs_Jx4a65c_73 (by decide) (fun l => c_J8_newLength_cabcc l G h top n (if 1 < n / 2 then n / 2 else 1) (nI 1) (nI (n / 2)) (by omega) (by omega) (by split <;> omega) (z_mxg (by omega))) rfl rfl rfl (Nat.le_of_ble_eq_true rfl) dJx4a65c_grow_92f84_27 ?_
  refine r_istore_n (lv' := [(3, .int (nI (n + (if 1 < n / 2 then n / 2 else 1)))), (2, .int (nI n)), (0, .ref a), (1, .int (nI (n + 1)))]) hX rfl (by decide) rfl dJx4a65c_grow_92f84_30 ?_
  refine r_aload_n hX rfl 2 rfl dJx4a65c_grow_92f84_31 ?_
  refine r_aload_n hX rfl 2 rfl dJx4a65c_grow_92f84_32 ?_
  refine r_getf hX fl_Jx4a65c_9 ha rfl dJx4a65c_grow_92f84_33 ?_
  refine r_iload_n hX rfl 0 rfl dJx4a65c_grow_92f84_36 ?_
  refine r_callS (As := [.ref e, .int (nI (n + (if 1 < n / 2 then n / 2 else 1)))]) (rest := [.ref a]) hX cs_Jx4a65c_66 (by decide) (fun l => c_J7_copyOf_1904c l G h top e n (n + (if 1 < n / 2 then n / 2 else 1)) f hbt he0 hel (by omega) (by split <;> omega) hroom) rfl rfl (Nat.le_of_ble_eq_true rfl) dJx4a65c_grow_92f84_37 (fun r1 h1 top1 hp1 => ?_)
  obtain ⟨rfl, rfl, g, hg1, hg2, rfl⟩ := hp1
  replace ha : z_at G (va_up h top (z_refs G (z_gr n) g)) (top + 1) a (.inr (0, [.int m, .ref e, .int (nI n)])) := by rw [z_gr_pos hn0]; exact ha.new
  rw [← z_gr_pos hn0]
  refine r_dup_x1 hX rfl rfl dJx4a65c_grow_92f84_40 ?_
  refine r_put (fs2 := [.int m, .ref top, .int (nI n)]) hX fp_Jx4a65c_9 ha rfl rfl (Nat.le_of_ble_eq_true rfl) rfl dJx4a65c_grow_92f84_41 ?_
  replace ha : z_at G (va_up (va_up h top (z_refs G (z_gr n) g)) a (.inr (0, [.int m, .ref top, .int (nI n)]))) (top + 1) a (.inr (0, [.int m, .ref top, .int (nI n)])) := z_at.self ha
  exact r_aret hX rfl (Or.inr ⟨_, rfl⟩) hq (Or.inr ⟨_, rfl⟩) ⟨rfl, rfl, g, hg1, hg2, rfl⟩ dJx4a65c_grow_92f84_44

set_option maxRecDepth 20000 in
set_option maxHeartbeats 4000000 in
theorem c_Jx4a65c_grow_d5877 (l : Launch) (G : zG) (h : zH) (top : Nat) (a e n : Nat) (m : Int32) (f : Nat → Option Nat) (hbt : z_b G ≤ top) (hL : z_AL G h top a m e n n f) (hel : ∀ i, i < n → ∀ y, f i = some y → z_ob G h top y) (hn : n ≤ 150) (hroom : top + 1 ≤ z_b G + 320) : z_Ct l yJx4a65c_grow_d5877 cJx4a65c_grow_d5877 1 (some (.array (.object "java/lang/Object"))) 5 G [.ref a] h top (fun r h' top' => r = some (.ref top) ∧ top' = top + 1 ∧ ∃ g, (∀ i, i < n → g i = f i) ∧ (∀ i, n ≤ i → g i = none) ∧ h' = va_up (va_up h top (z_refs G (z_gr n) g)) a (.inr (0, [.int m, .ref top, .int (nI n)]))) := by
  refine z_of (own := RJx4a65c) (nm := "grow") (by decide) rfl rfl (by decide) (Nat.le_of_ble_eq_true rfl) (fun X hX hq => ?_)
  replace hX : z_ok X cJx4a65c_grow_d5877 1 RJx4a65c (some (.array (.object "java/lang/Object"))) "grow" 5 G := hX
  show z_Z X h top 0 [(0, .ref a)] []
  have ha := hL.1
  have hgrow : ∀ l : Launch, z_Ct l yJx4a65c_grow_92f84 cJx4a65c_grow_92f84 4 (some (.array (.object "java/lang/Object"))) 4 G [.ref a, .int (nI (n + 1))] h top (fun r h' top' => r = some (.ref top) ∧ top' = top + 1 ∧ ∃ g, (∀ i, i < n → g i = f i) ∧ (∀ i, n ≤ i → g i = none) ∧ h' = va_up (va_up h top (z_refs G (z_gr n) g)) a (.inr (0, [.int m, .ref top, .int (nI n)]))) := by
    intro l
    rcases hL.2.2.2.2 with ⟨h0, he⟩ | ⟨h0, he⟩
    · subst h0 he
      exact c_grow_0 l G h top a m f hbt ha hroom
    · exact c_grow_1 l G h top a e n m f hbt ha he hel h0 hn hroom
  refine r_aload_n hX rfl 0 rfl dJx4a65c_grow_d5877_0 ?_
  refine r_aload_n hX rfl 0 rfl dJx4a65c_grow_d5877_1 ?_
  refine r_getf hX fl_Jx4a65c_48 ha rfl dJx4a65c_grow_d5877_2 ?_
  refine r_iconst (v := 1) hX (by decide) dJx4a65c_grow_d5877_5 ?_
  refine r_iadd hX dJx4a65c_grow_d5877_6 ?_
  rw [nI_1]
  refine r_callV (As := [.int (nI (n + 1))]) (rest := []) hX cs_Jx4a65c_69 (by decide) (fun l => hgrow l) ha rfl rfl rfl (Nat.le_of_ble_eq_true rfl) dJx4a65c_grow_d5877_7 (fun r1 h1 top1 hp1 => ?_)
  obtain ⟨rfl, hp1⟩ := hp1
  exact r_aret hX rfl (Or.inr ⟨_, rfl⟩) hq (Or.inr ⟨_, rfl⟩) ⟨rfl, hp1⟩ dJx4a65c_grow_d5877_10
end
section
/-! ArrayList: adding, clearing -/
/-- behind an add at place i of n -/
def z_PAdd (G : zG) (h : zH) (top a e n cap : Nat) (f : Nat → Option Nat) (i x : Nat) (rv : Option Value) : Option Value → zH → Nat → Prop := fun r h' top' =>
  r = rv ∧ ∃ (m' : Int32) (e' cap' : Nat) (f' : Nat → Option Nat), z_AL G h' top' a m' e' (n + 1) cap' f' ∧ (∀ j, j < i → f' j = f j) ∧ f' i = some x ∧ (∀ j, i ≤ j → j < n → f' (j + 1) = f j) ∧ (∀ q, q < top → q ≠ a → q ≠ e → h' q = h q) ∧ ((n < cap ∧ e' = e ∧ cap' = cap ∧ top' = top) ∨ (n = cap ∧ e' = top ∧ cap' = z_gr n ∧ top' = top + 1))
theorem z_gr_lt {n : Nat} (h : n ≤ 150) : n < z_gr n ∧ z_gr n ≤ 225 := by
  unfold z_gr
  split
  · omega
  · split <;> omega
theorem z_AL.ne {G : zG} {h : zH} {top a : Nat} {m : Int32} {e n cap : Nat} {f : Nat → Option Nat} (hL : z_AL G h top a m e n cap f) : 0 < cap → a ≠ e := by
  intro h0 q
  obtain ⟨h1, -, -, -, h5 | h5⟩ := hL
  · omega
  · subst q
    have := h1.2.2.symm.trans h5.2.2.2
    cases this

set_option maxRecDepth 20000 in
set_option maxHeartbeats 4000000 in
theorem f_add_tail {X : zX} {G : zG} {h : zH} {top : Nat} {Post : Option Value → zH → Nat → Prop} (a x e n cap : Nat) (m : Int32) (f : Nat → Option Nat) (ha0 : z_at G h top a (.inr (0, [.int m, .ref e, .int (nI n)]))) (he0 : z_at G h top e (z_refs G cap f)) (hlt : n < cap) (hc : cap ≤ 225) (hob : z_ob G h top x) (hp : Post none (va_up (va_up h e (z_refs G cap (va_up f n (some x)))) a (.inr (0, [.int m, .ref e, .int (nI (n + 1))]))) top) (hX : z_ok X cJx4a65c_add_72be8 4 RJx4a65c none "add" 6 G) (hq : z_mq X (Post)) : z_Z X h top 11 [(0, .ref a), (1, .ref x), (2, .ref e), (3, .int (nI n))] [] := by
  have ha := ha0
  have he := he0
  unfold z_refs at he
  refine r_aload_n hX rfl 2 rfl dJx4a65c_add_72be8_11 ?_
  refine r_iload_n hX rfl 3 rfl dJx4a65c_add_72be8_12 ?_
  refine r_aload_n hX rfl 1 rfl dJx4a65c_add_72be8_13 ?_
  refine r_aast hX he hob (vp_in_nI hlt (by omega)) dJx4a65c_add_72be8_14 ?_
  replace ha := ha.up (e3 := (.inl (z_aO G, cap, .inr (.inr (.inr (.inr (va_up f ((nI n) : Int32).toNatClampNeg (some x)))))))) he (by intro z; cases z)
  replace he : z_at G (va_up h e (.inl (z_aO G, cap, .inr (.inr (.inr (.inr (va_up f ((nI n) : Int32).toNatClampNeg (some x)))))))) top e (.inl (z_aO G, cap, .inr (.inr (.inr (.inr (va_up f ((nI n) : Int32).toNatClampNeg (some x))))))) := z_at.self he
  rw [nI_clamp (show n < 2 ^ 31 by omega)] at he ha ⊢
  refine r_aload_n hX rfl 0 rfl dJx4a65c_add_72be8_15 ?_
  refine r_iload_n hX rfl 3 rfl dJx4a65c_add_72be8_16 ?_
  refine r_iconst (v := 1) hX (by decide) dJx4a65c_add_72be8_17 ?_
  refine r_iadd hX dJx4a65c_add_72be8_18 ?_
  rw [nI_1]
  refine r_put (fs2 := [.int m, .ref e, .int (nI (n + 1))]) hX fp_Jx4a65c_48 ha rfl rfl (Nat.le_of_ble_eq_true rfl) rfl dJx4a65c_add_72be8_19 ?_
  replace he := he.up (e3 := (.inr (0, [.int m, .ref e, .int (nI (n + 1))]))) ha (by intro z; cases z)
  replace ha : z_at G (va_up (va_up h e (.inl (z_aO G, cap, .inr (.inr (.inr (.inr (va_up f n (some x)))))))) a (.inr (0, [.int m, .ref e, .int (nI (n + 1))]))) top a (.inr (0, [.int m, .ref e, .int (nI (n + 1))])) := z_at.self ha
  exact r_vret hX hq hp dJx4a65c_add_72be8_22

theorem z_padd_no {G : zG} {h : zH} {top a : Nat} {m : Int32} {e n cap x : Nat} {f : Nat → Option Nat} {rv : Option Value} (hL : z_AL G h top a m e n cap f) (hlt : n < cap) : z_PAdd G h top a e n cap f n x rv rv (va_up (va_up h e (z_refs G cap (va_up f n (some x)))) a (.inr (0, [.int m, .ref e, .int (nI (n + 1))]))) top := by
  have hne := hL.ne (by omega)
  obtain ⟨h1, h2, h3, h4, h5⟩ := hL
  rcases h5 with h5 | ⟨h5, he⟩
  · omega
  refine ⟨rfl, m, e, cap, va_up f n (some x), ⟨⟨h1.1, h1.2.1, by simp [va_up]⟩, by omega, h3, fun i hi => ?_, Or.inr ⟨h5, he.1, he.2.1, ?_⟩⟩, fun j hj => ?_, by simp [va_up], fun j g1 g2 => by omega, fun q g1 g2 g3 => by simp [va_up, g2, g3], Or.inl ⟨hlt, rfl, rfl, rfl⟩⟩
  · simp [va_up, show i ≠ n by omega, h4 i (by omega)]
  · simp [va_up, Ne.symm hne]
  · simp [va_up, show j ≠ n by omega]
theorem z_padd_gr {G : zG} {h : zH} {top a : Nat} {m : Int32} {e n x : Nat} {f g : Nat → Option Nat} {rv : Option Value} (hL : z_AL G h top a m e n n f) (hbt : z_b G ≤ top) (hn : n ≤ 150) (hg1 : ∀ i, i < n → g i = f i) (hg2 : ∀ i, n ≤ i → g i = none) : z_PAdd G h top a e n n f n x rv rv (va_up (va_up (va_up (va_up h top (z_refs G (z_gr n) g)) a (.inr (0, [.int m, .ref top, .int (nI n)]))) top (z_refs G (z_gr n) (va_up g n (some x)))) a (.inr (0, [.int m, .ref top, .int (nI (n + 1))]))) (top + 1) := by
  have hlt := z_gr_lt hn
  obtain ⟨h1, h2, h3, h4, h5⟩ := hL
  have hat : a ≠ top := by have := h1.2.1; omega
  refine ⟨rfl, m, top, z_gr n, va_up g n (some x), ⟨⟨h1.1, by have := h1.2.1; omega, by simp [va_up]⟩, by omega, by omega, fun i hi => ?_, Or.inr ⟨by omega, hbt, by omega, ?_⟩⟩, fun j hj => ?_, by simp [va_up], fun j g1 g2 => by omega, fun q g1 g2 g3 => by simp [va_up, g2, show q ≠ top by omega], Or.inr ⟨rfl, rfl, rfl, rfl⟩⟩
  · simp [va_up, show i ≠ n by omega, hg2 i (by omega)]
  · simp [va_up, Ne.symm hat]
  · simp [va_up, show j ≠ n by omega, hg1 j (by omega)]

set_option maxRecDepth 20000 in
set_option maxHeartbeats 4000000 in
theorem c_add3_no (l : Launch) (G : zG) (h : zH) (top : Nat) (a x e n cap : Nat) (m : Int32) (f : Nat → Option Nat) (Post : Option Value → zH → Nat → Prop) (ha : z_at G h top a (.inr (0, [.int m, .ref e, .int (nI n)]))) (he0 : z_at G h top e (z_refs G cap f)) (hlt : n < cap) (hc : cap ≤ 225) (hob : z_ob G h top x) (hp : Post none (va_up (va_up h e (z_refs G cap (va_up f n (some x)))) a (.inr (0, [.int m, .ref e, .int (nI (n + 1))]))) top) : z_Ct l yJx4a65c_add_72be8 cJx4a65c_add_72be8 4 none 6 G [.ref a, .ref x, .ref e, .int (nI n)] h top (Post) := by
  refine z_of (own := RJx4a65c) (nm := "add") (by decide) rfl rfl (by decide) (Nat.le_of_ble_eq_true rfl) (fun X hX hq => ?_)
  replace hX : z_ok X cJx4a65c_add_72be8 4 RJx4a65c none "add" 6 G := hX
  show z_Z X h top 0 [(0, .ref a), (1, .ref x), (2, .ref e), (3, .int (nI n))] []
  have he := he0
  unfold z_refs at he
  refine r_iload_n hX rfl 3 rfl dJx4a65c_add_72be8_0 ?_
  refine r_aload_n hX rfl 2 rfl dJx4a65c_add_72be8_1 ?_
  refine r_alenO (v := (nI cap)) hX he rfl dJx4a65c_add_72be8_2 ?_
  refine r_icmp_ne (tgt := 11) hX dJx4a65c_add_72be8_3 rfl (fun _ => ?_) (fun c => False.elim (absurd ((nI_eq (by omega) (by omega)).mp c) (by omega)))
  exact f_add_tail a x e n cap m f ha he0 hlt hc hob hp hX hq

set_option maxRecDepth 20000 in
set_option maxHeartbeats 4000000 in
theorem c_add3_gr (l : Launch) (G : zG) (h : zH) (top : Nat) (a x e n : Nat) (m : Int32) (f : Nat → Option Nat) (Post : Option Value → zH → Nat → Prop) (hbt : z_b G ≤ top) (hL : z_AL G h top a m e n n f) (he0 : z_at G h top e (z_refs G n f)) (hel : ∀ i, i < n → ∀ y, f i = some y → z_ob G h top y) (hn : n ≤ 150) (hob : z_ob G h top x) (hroom : top + 1 ≤ z_b G + 320) (hp : ∀ g : Nat → Option Nat, (∀ i, i < n → g i = f i) → (∀ i, n ≤ i → g i = none) → Post none (va_up (va_up (va_up (va_up h top (z_refs G (z_gr n) g)) a (.inr (0, [.int m, .ref top, .int (nI n)]))) top (z_refs G (z_gr n) (va_up g n (some x)))) a (.inr (0, [.int m, .ref top, .int (nI (n + 1))]))) (top + 1)) : z_Ct l yJx4a65c_add_72be8 cJx4a65c_add_72be8 4 none 6 G [.ref a, .ref x, .ref e, .int (nI n)] h top (Post) := by
  refine z_of (own := RJx4a65c) (nm := "add") (by decide) rfl rfl (by decide) (Nat.le_of_ble_eq_true rfl) (fun X hX hq => ?_)
  replace hX : z_ok X cJx4a65c_add_72be8 4 RJx4a65c none "add" 6 G := hX
  show z_Z X h top 0 [(0, .ref a), (1, .ref x), (2, .ref e), (3, .int (nI n))] []
  have ha := hL.1
  have he := he0
  unfold z_refs at he
  refine r_iload_n hX rfl 3 rfl dJx4a65c_add_72be8_0 ?_
  refine r_aload_n hX rfl 2 rfl dJx4a65c_add_72be8_1 ?_
  refine r_alenO (v := (nI n)) hX he rfl dJx4a65c_add_72be8_2 ?_
  refine r_icmp_ne (tgt := 11) hX dJx4a65c_add_72be8_3 rfl (fun c => False.elim (c rfl)) (fun _ => ?_)
  refine r_aload_n hX rfl 0 rfl dJx4a65c_add_72be8_6 ?_
  refine r_callV (As := []) (rest := []) hX cs_Jx4a65c_129 (by decide) (fun l => c_Jx4a65c_grow_d5877 l G h top a e n m f hbt hL hel hn hroom) ha rfl rfl rfl (Nat.le_of_ble_eq_true rfl) dJx4a65c_add_72be8_7 (fun r1 h1 top1 hp1 => ?_)
  obtain ⟨rfl, rfl, g, hg1, hg2, rfl⟩ := hp1
  have hlt := z_gr_lt hn
  have hat : a ≠ top := by have := ha.2.1; omega
  have hnew : z_at G (va_up h top (z_refs G (z_gr n) g)) (top + 1) top (z_refs G (z_gr n) g) := z_at.fresh hbt
  have hnew2 := hnew.ne (a2 := a) (e2 := .inr (0, [.int m, .ref top, .int (nI n)])) (Ne.symm hat)
  have ha2 : z_at G (va_up (va_up h top (z_refs G (z_gr n) g)) a (.inr (0, [.int m, .ref top, .int (nI n)]))) (top + 1) a (.inr (0, [.int m, .ref top, .int (nI n)])) := z_at.self (ha.new (e2 := z_refs G (z_gr n) g))
  have hob2 : z_ob G (va_up (va_up h top (z_refs G (z_gr n) g)) a (.inr (0, [.int m, .ref top, .int (nI n)]))) (top + 1) x := (z_ob.new hob).up (hob.ne ha)
  refine r_astore_n (lv' := [(2, .ref top), (0, .ref a), (1, .ref x), (3, .int (nI n))]) hX rfl (by decide) rfl dJx4a65c_add_72be8_10 ?_
  refine r_lv [1, 2, 0, 3] (lv2 := [(0, .ref a), (1, .ref x), (2, .ref top), (3, .int (nI n))]) rfl ?_
  exact f_add_tail a x top n (z_gr n) m g ha2 hnew2 hlt.1 hlt.2 hob2 (hp g hg1 hg2) hX hq

set_option maxRecDepth 20000 in
set_option maxHeartbeats 4000000 in
theorem c_add3_gr0 (l : Launch) (G : zG) (h : zH) (top : Nat) (a x n : Nat) (m : Int32) (f : Nat → Option Nat) (Post : Option Value → zH → Nat → Prop) (hbt : z_b G ≤ top) (hL : z_AL G h top a m (z_tE G) n n f) (h0 : n = 0) (hel : ∀ i, i < n → ∀ y, f i = some y → z_ob G h top y) (hn : n ≤ 150) (hob : z_ob G h top x) (hroom : top + 1 ≤ z_b G + 320) (hp : ∀ g : Nat → Option Nat, (∀ i, i < n → g i = f i) → (∀ i, n ≤ i → g i = none) → Post none (va_up (va_up (va_up (va_up h top (z_refs G (z_gr n) g)) a (.inr (0, [.int m, .ref top, .int (nI n)]))) top (z_refs G (z_gr n) (va_up g n (some x)))) a (.inr (0, [.int m, .ref top, .int (nI (n + 1))]))) (top + 1)) : z_Ct l yJx4a65c_add_72be8 cJx4a65c_add_72be8 4 none 6 G [.ref a, .ref x, .ref (z_tE G), .int (nI n)] h top (Post) := by
  refine z_of (own := RJx4a65c) (nm := "add") (by decide) rfl rfl (by decide) (Nat.le_of_ble_eq_true rfl) (fun X hX hq => ?_)
  replace hX : z_ok X cJx4a65c_add_72be8 4 RJx4a65c none "add" 6 G := hX
  show z_Z X h top 0 [(0, .ref a), (1, .ref x), (2, .ref (z_tE G)), (3, .int (nI n))] []
  have ha := hL.1
  refine r_iload_n hX rfl 3 rfl dJx4a65c_add_72be8_0 ?_
  refine r_aload_n hX rfl 2 rfl dJx4a65c_add_72be8_1 ?_
  refine r_alenE hX dJx4a65c_add_72be8_2 ?_
  refine r_icmp_ne (tgt := 11) hX dJx4a65c_add_72be8_3 rfl (fun c => False.elim (c (by rw [h0]; exact nI_0))) (fun _ => ?_)
  refine r_aload_n hX rfl 0 rfl dJx4a65c_add_72be8_6 ?_
  refine r_callV (As := []) (rest := []) hX cs_Jx4a65c_129 (by decide) (fun l => c_Jx4a65c_grow_d5877 l G h top a (z_tE G) n m f hbt hL hel hn hroom) ha rfl rfl rfl (Nat.le_of_ble_eq_true rfl) dJx4a65c_add_72be8_7 (fun r1 h1 top1 hp1 => ?_)
  obtain ⟨rfl, rfl, g, hg1, hg2, rfl⟩ := hp1
  have hlt := z_gr_lt hn
  have hat : a ≠ top := by have := ha.2.1; omega
  have hnew : z_at G (va_up h top (z_refs G (z_gr n) g)) (top + 1) top (z_refs G (z_gr n) g) := z_at.fresh hbt
  have hnew2 := hnew.ne (a2 := a) (e2 := .inr (0, [.int m, .ref top, .int (nI n)])) (Ne.symm hat)
  have ha2 : z_at G (va_up (va_up h top (z_refs G (z_gr n) g)) a (.inr (0, [.int m, .ref top, .int (nI n)]))) (top + 1) a (.inr (0, [.int m, .ref top, .int (nI n)])) := z_at.self (ha.new (e2 := z_refs G (z_gr n) g))
  have hob2 : z_ob G (va_up (va_up h top (z_refs G (z_gr n) g)) a (.inr (0, [.int m, .ref top, .int (nI n)]))) (top + 1) x := (z_ob.new hob).up (hob.ne ha)
  refine r_astore_n (lv' := [(2, .ref top), (0, .ref a), (1, .ref x), (3, .int (nI n))]) hX rfl (by decide) rfl dJx4a65c_add_72be8_10 ?_
  refine r_lv [1, 2, 0, 3] (lv2 := [(0, .ref a), (1, .ref x), (2, .ref top), (3, .int (nI n))]) rfl ?_
  exact f_add_tail a x top n (z_gr n) m g ha2 hnew2 hlt.1 hlt.2 hob2 (hp g hg1 hg2) hX hq

/-- add(E, Object[], int), any list -/
theorem c_add3 (l : Launch) (G : zG) (h : zH) (top a x e n cap : Nat) (m : Int32) (f : Nat → Option Nat) (hbt : z_b G ≤ top) (hL : z_AL G h top a m e n cap f) (hel : ∀ i, i < n → ∀ y, f i = some y → z_ob G h top y) (hn : n ≤ 150) (hob : z_ob G h top x) (hroom : n = cap → top + 1 ≤ z_b G + 320) : z_Ct l yJx4a65c_add_72be8 cJx4a65c_add_72be8 4 none 6 G [.ref a, .ref x, .ref e, .int (nI n)] h top (z_PAdd G h top a e n cap f n x none) := by
  rcases Nat.lt_or_ge n cap with hlt | hge
  · rcases hL.2.2.2.2 with h5 | ⟨h5, he⟩
    · omega
    · exact c_add3_no l G h top a x e n cap m f _ hL.1 he hlt hL.2.2.1 hob (z_padd_no hL hlt)
  · obtain rfl : n = cap := by have := hL.2.1; omega
    rcases hL.2.2.2.2 with ⟨h5, h6⟩ | ⟨h5, he⟩
    · subst h6
      exact c_add3_gr0 l G h top a x n m f _ hbt hL h5 hel hn hob (hroom rfl) (fun g hg1 hg2 => z_padd_gr hL hbt hn hg1 hg2)
    · exact c_add3_gr l G h top a x e n m f _ hbt hL he hel hn hob (hroom rfl) (fun g hg1 hg2 => z_padd_gr hL hbt hn hg1 hg2)

theorem z_AL.mod {G : zG} {h : zH} {top a : Nat} {m m2 : Int32} {e n cap : Nat} {f : Nat → Option Nat} (hL : z_AL G h top a m e n cap f) : z_AL G (va_up h a (.inr (0, [.int m2, .ref e, .int (nI n)]))) top a m2 e n cap f := by
  have hne := hL.ne
  obtain ⟨h1, h2, h3, h4, h5⟩ := hL
  refine ⟨z_at.self h1, h2, h3, h4, ?_⟩
  rcases h5 with h5 | ⟨h5, he⟩
  · exact Or.inl h5
  · exact Or.inr ⟨h5, he.ne (Ne.symm (hne h5))⟩
theorem z_padd_up {G : zG} {h h' : zH} {top top' a e n cap i x : Nat} {f : Nat → Option Nat} {v : va_E} {rv r : Option Value} (hp : z_PAdd G (va_up h a v) top a e n cap f i x rv r h' top') : z_PAdd G h top a e n cap f i x rv r h' top' := by
  obtain ⟨h1, m', e', cap', f', g1, g2, g3, g4, g5, g6⟩ := hp
  exact ⟨h1, m', e', cap', f', g1, g2, g3, g4, fun q q1 q2 q3 => by rw [g5 q q1 q2 q3]; simp [va_up, q2], g6⟩
set_option maxRecDepth 20000 in
set_option maxHeartbeats 4000000 in
theorem c_add1 (l : Launch) (G : zG) (h : zH) (top : Nat) (a x e n cap : Nat) (m : Int32) (f : Nat → Option Nat) (hbt : z_b G ≤ top) (hL : z_AL G h top a m e n cap f) (hel : ∀ i, i < n → ∀ y, f i = some y → z_ob G h top y) (hn : n ≤ 150) (hob : z_ob G h top x) (hroom : n = cap → top + 1 ≤ z_b G + 320) : z_Ct l yJx4a65c_add_9ea2d cJx4a65c_add_9ea2d 2 (some .boolean) 7 G [.ref a, .ref x] h top (z_PAdd G h top a e n cap f n x (some (.int 1))) := by
  refine z_of (own := RJx4a65c) (nm := "add") (by decide) rfl rfl (by decide) (Nat.le_of_ble_eq_true rfl) (fun X hX hq => ?_)
  replace hX : z_ok X cJx4a65c_add_9ea2d 2 RJx4a65c (some .boolean) "add" 7 G := hX
  show z_Z X h top 0 [(0, .ref a), (1, .ref x)] []
  have ha := hL.1
  refine r_aload_n hX rfl 0 rfl dJx4a65c_add_9ea2d_0 ?_
  refine r_dup hX rfl dJx4a65c_add_9ea2d_1 ?_
  refine r_getf hX fl_Jx4a65c_63 ha rfl dJx4a65c_add_9ea2d_2 ?_
  refine r_iconst (v := 1) hX (by decide) dJx4a65c_add_9ea2d_5 ?_
  refine r_iadd hX dJx4a65c_add_9ea2d_6 ?_
  refine r_put (fs2 := [.int (m + 1), .ref e, .int (nI n)]) hX fp_Jx4a65c_63 ha rfl rfl (Nat.le_of_ble_eq_true rfl) rfl dJx4a65c_add_9ea2d_7 ?_
  replace ha : z_at G (va_up h a (.inr (0, [.int (m + 1), .ref e, .int (nI n)]))) top a (.inr (0, [.int (m + 1), .ref e, .int (nI n)])) := z_at.self ha
  refine r_aload_n hX rfl 0 rfl dJx4a65c_add_9ea2d_10 ?_
  refine r_aload_n hX rfl 1 rfl dJx4a65c_add_9ea2d_11 ?_
  refine r_aload_n hX rfl 0 rfl dJx4a65c_add_9ea2d_12 ?_
  refine r_getf hX fl_Jx4a65c_9 ha rfl dJx4a65c_add_9ea2d_13 ?_
  refine r_aload_n hX rfl 0 rfl dJx4a65c_add_9ea2d_16 ?_
  refine r_getf hX fl_Jx4a65c_48 ha rfl dJx4a65c_add_9ea2d_17 ?_
  refine r_callV (As := [.ref x, .ref e, .int (nI n)]) (rest := []) hX cs_Jx4a65c_131 (by decide) (fun l => c_add3 l G (va_up h a (.inr (0, [.int (m + 1), .ref e, .int (nI n)]))) top a x e n cap (m + 1) f hbt (hL.mod) (fun i h1 y h2 => (hel i h1 y h2).up ((hel i h1 y h2).ne hL.1)) hn (hob.up (hob.ne hL.1)) hroom) ha rfl rfl rfl (Nat.le_of_ble_eq_true rfl) dJx4a65c_add_9ea2d_20 (fun r1 h1 top1 hp1 => ?_)
  have hp2 := z_padd_up hp1
  obtain rfl : r1 = none := hp1.1
  refine r_iconst (v := 1) hX (by decide) dJx4a65c_add_9ea2d_23 ?_
  exact r_zret hX hq (by decide) ⟨rfl, hp2.2⟩ dJx4a65c_add_9ea2d_24
end
section
/-! ArrayList: clearing, inserting; Arrays.fill -/
set_option maxRecDepth 20000 in
set_option maxHeartbeats 4000000 in
theorem f_clear_step {X : zX} {G : zG} {h : zH} {top : Nat} {Post : Option Value → zH → Nat → Prop} (a e n cap k i : Nat) (h0 : zH) (f : Nat → Option Nat) (hn : n ≤ cap) (hc : cap ≤ 225) (hi : i ≤ n) (hk : n - i < k + 1) (he : 0 < cap → z_at G h top e (z_refs G cap f)) (hf1 : ∀ j, n ≤ j → f j = none) (hf2 : ∀ j, j < i → f j = none) (hfr : ∀ q, q ≠ e → h q = h0 q) (ih : ∀ (i : Nat) (h : zH) (f : Nat → Option Nat), n - i < k → i ≤ n → (0 < cap → z_at G h top e (z_refs G cap f)) → (∀ j, n ≤ j → f j = none) → (∀ j, j < i → f j = none) → (∀ q, q ≠ e → h q = h0 q) → z_Z X h top 27 [(3, .int (nI i)), (2, .int (nI n)), (1, .ref e), (0, .ref a)] []) (hp : ∀ (h' : zH) (f' : Nat → Option Nat), (0 < cap → z_at G h' top e (z_refs G cap f')) → (∀ j, f' j = none) → (∀ q, q ≠ e → h' q = h0 q) → Post none h' top) (hX : z_ok X cJx4a65c_clear_da8c8 4 RJx4a65c none "clear" 1 G) (hq : z_mq X (Post)) : z_Z X h top 27 [(3, .int (nI i)), (2, .int (nI n)), (1, .ref e), (0, .ref a)] [] := by
  refine r_iload_n hX rfl 0 rfl dJx4a65c_clear_da8c8_27 ?_
  refine r_iload_n hX rfl 1 rfl dJx4a65c_clear_da8c8_28 ?_
  refine r_icmp_ge (tgt := 42) hX dJx4a65c_clear_da8c8_29 rfl (fun c29 => ?_) (fun c29 => ?_)
  · skip
    exact r_vret hX hq (hp h f (fun hc => he hc) (fun j => (Nat.lt_or_ge j n).elim (fun q => hf2 j (Nat.lt_of_lt_of_le q ((nI_leI (by omega) (by omega)).mp c29))) (hf1 j)) hfr) dJx4a65c_clear_da8c8_42
  · skip
    have hlt : i < n := by
      rcases Nat.lt_or_ge i n with q | q
      · exact q
      · exact absurd (nI_le q (by omega)) c29
    have he9 := he (by omega)
    have he := he9
    unfold z_refs at he
    refine r_aload_n hX rfl 2 rfl dJx4a65c_clear_da8c8_32 ?_
    refine r_iload_n hX rfl 0 rfl dJx4a65c_clear_da8c8_33 ?_
    refine r_null hX dJx4a65c_clear_da8c8_34 ?_
    refine r_aastN hX he (vp_in_nI (show i < cap by omega) (by omega)) dJx4a65c_clear_da8c8_35 ?_
    replace he : z_at G (va_up h e (.inl (z_aO G, cap, .inr (.inr (.inr (.inr (va_up f ((nI i) : Int32).toNatClampNeg none))))))) top e (.inl (z_aO G, cap, .inr (.inr (.inr (.inr (va_up f ((nI i) : Int32).toNatClampNeg none)))))) := z_at.self he
    refine r_iinc (q := 0) (lv' := [(3, .int ((nI i) + 1)), (2, .int (nI n)), (1, .ref e), (0, .ref a)]) hX rfl rfl (by decide) rfl dJx4a65c_clear_da8c8_36 ?_
    refine r_goto (tgt := 27) hX rfl dJx4a65c_clear_da8c8_39 ?_
    rw [nI_1, nI_clamp (show i < 2 ^ 31 by omega)]
    exact ih (i + 1) _ (va_up f i none) (by omega) (by omega) (fun _ => ⟨he9.1, he9.2.1, by simp [va_up, z_refs]⟩) (fun j hj => by by_cases q : j = i <;> simp [va_up, q, hf1 j hj]) (fun j hj => by by_cases q : j = i <;> simp [va_up, q]; exact hf2 j (by omega)) (fun q hq => by simp [va_up, hq, hfr q hq])

theorem f_clear_loop {X : zX} {G : zG} {top : Nat} {Post : Option Value → zH → Nat → Prop} (a e n cap : Nat) (h0 : zH) (hn : n ≤ cap) (hc : cap ≤ 225) (hX : z_ok X cJx4a65c_clear_da8c8 4 RJx4a65c none "clear" 1 G) (hq : z_mq X Post) (hp : ∀ (h' : zH) (f' : Nat → Option Nat), (0 < cap → z_at G h' top e (z_refs G cap f')) → (∀ j, f' j = none) → (∀ q, q ≠ e → h' q = h0 q) → Post none h' top) : ∀ (k i : Nat) (h : zH) (f : Nat → Option Nat), n - i < k → i ≤ n → (0 < cap → z_at G h top e (z_refs G cap f)) → (∀ j, n ≤ j → f j = none) → (∀ j, j < i → f j = none) → (∀ q, q ≠ e → h q = h0 q) → z_Z X h top 27 [(3, .int (nI i)), (2, .int (nI n)), (1, .ref e), (0, .ref a)] [] := by
  intro k
  induction k with
  | zero => intro i h f hk; omega
  | succ k ih => intro i h f hk hi he hf1 hf2 hfr; exact f_clear_step a e n cap k i h0 f hn hc hi hk he hf1 hf2 hfr ih hp hX hq
set_option maxRecDepth 20000 in
set_option maxHeartbeats 4000000 in
theorem c_Jx4a65c_clear_da8c8 (l : Launch) (G : zG) (h : zH) (top : Nat) (a e n cap : Nat) (m : Int32) (f : Nat → Option Nat) (hL : z_AL G h top a m e n cap f) (hte : a ≠ z_tE G) : z_Ct l yJx4a65c_clear_da8c8 cJx4a65c_clear_da8c8 4 none 1 G [.ref a] h top (fun r h' top' => r = none ∧ top' = top ∧ ∃ (m' : Int32) (f' : Nat → Option Nat), z_AL G h' top a m' e 0 cap f' ∧ ∀ q, q ≠ a → q ≠ e → h' q = h q) := by
  refine z_of (own := RJx4a65c) (nm := "clear") (by decide) rfl rfl (by decide) (Nat.le_of_ble_eq_true rfl) (fun X hX hq => ?_)
  replace hX : z_ok X cJx4a65c_clear_da8c8 4 RJx4a65c none "clear" 1 G := hX
  show z_Z X h top 0 [(0, .ref a)] []
  have ha0 := hL.1
  have ha := hL.1
  refine r_aload_n hX rfl 0 rfl dJx4a65c_clear_da8c8_0 ?_
  refine r_dup hX rfl dJx4a65c_clear_da8c8_1 ?_
  refine r_getf hX fl_Jx4a65c_63 ha rfl dJx4a65c_clear_da8c8_2 ?_
  refine r_iconst (v := 1) hX (by decide) dJx4a65c_clear_da8c8_5 ?_
  refine r_iadd hX dJx4a65c_clear_da8c8_6 ?_
  refine r_put (fs2 := [.int (m + 1), .ref e, .int (nI n)]) hX fp_Jx4a65c_63 ha rfl rfl (Nat.le_of_ble_eq_true rfl) rfl dJx4a65c_clear_da8c8_7 ?_
  replace ha : z_at G (va_up h a (.inr (0, [.int (m + 1), .ref e, .int (nI n)]))) top a (.inr (0, [.int (m + 1), .ref e, .int (nI n)])) := z_at.self ha
  refine r_aload_n hX rfl 0 rfl dJx4a65c_clear_da8c8_10 ?_
  refine r_getf hX fl_Jx4a65c_9 ha rfl dJx4a65c_clear_da8c8_11 ?_
  refine r_astore_n (lv' := [(1, .ref e), (0, .ref a)]) hX rfl (by decide) rfl dJx4a65c_clear_da8c8_14 ?_
  refine r_aload_n hX rfl 1 rfl dJx4a65c_clear_da8c8_15 ?_
  refine r_getf hX fl_Jx4a65c_48 ha rfl dJx4a65c_clear_da8c8_16 ?_
  refine r_istore_n (lv' := [(2, .int (nI n)), (1, .ref e), (0, .ref a)]) hX rfl (by decide) rfl dJx4a65c_clear_da8c8_19 ?_
  refine r_aload_n hX rfl 2 rfl dJx4a65c_clear_da8c8_20 ?_
  refine r_iconst (v := 0) hX (by decide) dJx4a65c_clear_da8c8_21 ?_
  refine r_dup_x1 hX rfl rfl dJx4a65c_clear_da8c8_22 ?_
  refine r_putU (fs2 := [.int (m + 1), .ref e, .int 0]) hX fp_Jx4a65c_48 ha rfl rfl (Nat.le_of_ble_eq_true rfl) rfl dJx4a65c_clear_da8c8_23 ?_
  replace ha : z_at G (va_up h a (.inr (0, [.int (m + 1), .ref e, .int 0]))) top a (.inr (0, [.int (m + 1), .ref e, .int 0])) := z_at.uu ha
  refine r_istore_n (lv' := [(3, .int 0), (2, .int (nI n)), (1, .ref e), (0, .ref a)]) hX rfl (by decide) rfl dJx4a65c_clear_da8c8_26 ?_
  have hL2 := hL.mod (m2 := m + 1)
  have ha2 : a ≠ e ∨ cap = 0 := by
    rcases Nat.eq_zero_or_pos cap with q | q
    · exact Or.inr q
    · exact Or.inl (hL.ne q)
  have key : z_Z X (va_up h a (.inr (0, [.int (m + 1), .ref e, .int 0]))) top 27 [(3, .int (nI 0)), (2, .int (nI n)), (1, .ref e), (0, .ref a)] [] := by
    refine f_clear_loop a e n cap (va_up h a (.inr (0, [.int (m + 1), .ref e, .int 0]))) hL.2.1 hL.2.2.1 hX hq (fun h' f' g1 g2 g3 => ?_) (n + 1) 0 _ f (by omega) (by omega) (fun hc0 => ?_) hL.2.2.2.1 (fun j hj => by omega) (fun q hq => rfl)
    · refine ⟨rfl, rfl, m + 1, f', ⟨⟨ha0.1, ha0.2.1, ?_⟩, Nat.zero_le _, hL.2.2.1, fun j _ => g2 j, ?_⟩, fun q q1 q2 => by rw [g3 q q2]; simp [va_up, q1]⟩
      · rcases ha2 with q | q
        · rw [g3 a q]; simp [va_up, nI_0]
        · rcases hL.2.2.2.2 with ⟨_, z⟩ | ⟨z, _⟩
          · rw [g3 a (by rw [z]; exact hte)]; simp [va_up, nI_0]
          · omega
      · rcases hL.2.2.2.2 with z | ⟨z, _⟩
        · exact Or.inl z
        · exact Or.inr ⟨z, g1 z⟩
    · rcases hL.2.2.2.2 with ⟨z, _⟩ | ⟨z, he⟩
      · omega
      · exact he.ne (Ne.symm (hL.ne hc0))
  rw [nI_0] at key
  refine r_lv [0, 1, 2, 3] rfl ?_
  exact key

set_option maxRecDepth 20000 in
set_option maxHeartbeats 4000000 in
theorem f_fill_step {X : zX} {G : zG} {h : zH} {top : Nat} {Post : Option Value → zH → Nat → Prop} (a n k i : Nat) (v : Int32) (h0 : zH) (f : Nat → Int32) (hn : n ≤ 1000) (hi : i ≤ n) (hk : n - i < k + 1) (ha0 : z_at G h top a (.inl (z_aI G, n, .inl f))) (hf : ∀ j, j < i → f j = v) (hfr : ∀ q, q ≠ a → h q = h0 q) (ih : ∀ (i : Nat) (h : zH) (f : Nat → Int32), n - i < k → i ≤ n → z_at G h top a (.inl (z_aI G, n, .inl f)) → (∀ j, j < i → f j = v) → (∀ q, q ≠ a → h q = h0 q) → z_Z X h top 5 [(2, .int (nI i)), (3, .int (nI n)), (0, .ref a), (1, .int v)] []) (hp : ∀ (h' : zH) (f' : Nat → Int32), z_at G h' top a (.inl (z_aI G, n, .inl f')) → (∀ j, j < n → f' j = v) → (∀ q, q ≠ a → h' q = h0 q) → Post none h' top) (hX : z_ok X cJ7_fill_53178 4 RJ7 none "fill" 1 G) (hq : z_mq X (Post)) : z_Z X h top 5 [(2, .int (nI i)), (3, .int (nI n)), (0, .ref a), (1, .int v)] [] := by
  have ha := ha0
  refine r_iload_n hX rfl 0 rfl dJ7_fill_53178_5 ?_
  refine r_iload_n hX rfl 1 rfl dJ7_fill_53178_6 ?_
  refine r_icmp_ge (tgt := 20) hX dJ7_fill_53178_7 rfl (fun c7 => ?_) (fun c7 => ?_)
  · skip
    exact r_vret hX hq (hp h f ha0 (fun j hj => hf j (Nat.lt_of_lt_of_le hj ((nI_leI (by omega) (by omega)).mp c7))) hfr) dJ7_fill_53178_20
  · skip
    have hlt : i < n := by
      rcases Nat.lt_or_ge i n with q | q
      · exact q
      · exact absurd (nI_le q (by omega)) c7
    refine r_aload_n hX rfl 2 rfl dJ7_fill_53178_10 ?_
    refine r_iload_n hX rfl 0 rfl dJ7_fill_53178_11 ?_
    refine r_iload_n hX rfl 3 rfl dJ7_fill_53178_12 ?_
    refine r_iast hX ha (vp_in_nI hlt (by omega)) dJ7_fill_53178_13 ?_
    replace ha : z_at G (va_up h a (.inl (z_aI G, n, .inl (upd f ((nI i) : Int32).toNatClampNeg v)))) top a (.inl (z_aI G, n, .inl (upd f ((nI i) : Int32).toNatClampNeg v))) := z_at.self ha
    refine r_iinc (q := 0) (lv' := [(2, .int ((nI i) + 1)), (3, .int (nI n)), (0, .ref a), (1, .int v)]) hX rfl rfl (by decide) rfl dJ7_fill_53178_14 ?_
    refine r_goto (tgt := 5) hX rfl dJ7_fill_53178_17 ?_
    rw [nI_1, nI_clamp (show i < 2 ^ 31 by omega)]
    exact ih (i + 1) _ (upd f i v) (by omega) (by omega) ⟨ha0.1, ha0.2.1, by simp [va_up]⟩ (fun j hj => by by_cases q : j = i <;> simp [upd, q]; exact hf j (by omega)) (fun q hq => by simp [va_up, hq, hfr q hq])

theorem f_fill_loop {X : zX} {G : zG} {top : Nat} {Post : Option Value → zH → Nat → Prop} (a n : Nat) (v : Int32) (h0 : zH) (hn : n ≤ 1000) (hX : z_ok X cJ7_fill_53178 4 RJ7 none "fill" 1 G) (hq : z_mq X Post) (hp : ∀ (h' : zH) (f' : Nat → Int32), z_at G h' top a (.inl (z_aI G, n, .inl f')) → (∀ j, j < n → f' j = v) → (∀ q, q ≠ a → h' q = h0 q) → Post none h' top) : ∀ (k i : Nat) (h : zH) (f : Nat → Int32), n - i < k → i ≤ n → z_at G h top a (.inl (z_aI G, n, .inl f)) → (∀ j, j < i → f j = v) → (∀ q, q ≠ a → h q = h0 q) → z_Z X h top 5 [(2, .int (nI i)), (3, .int (nI n)), (0, .ref a), (1, .int v)] [] := by
  intro k
  induction k with
  | zero => intro i h f hk; omega
  | succ k ih => intro i h f hk hi ha hf hfr; exact f_fill_step a n k i v h0 f hn hi hk ha hf hfr ih hp hX hq
set_option maxRecDepth 20000 in
set_option maxHeartbeats 4000000 in
theorem c_J7_fill_53178 (l : Launch) (G : zG) (h : zH) (top : Nat) (a n : Nat) (v : Int32) (f : Nat → Int32) (hn : n ≤ 1000) (ha : z_at G h top a (.inl (z_aI G, n, .inl f))) : z_Ct l yJ7_fill_53178 cJ7_fill_53178 4 none 1 G [.ref a, .int v] h top (fun r h' top' => r = none ∧ top' = top ∧ ∃ f' : Nat → Int32, z_at G h' top a (.inl (z_aI G, n, .inl f')) ∧ (∀ j, j < n → f' j = v) ∧ ∀ q, q ≠ a → h' q = h q) := by
  refine z_of (own := RJ7) (nm := "fill") (by decide) rfl rfl (by decide) (Nat.le_of_ble_eq_true rfl) (fun X hX hq => ?_)
  replace hX : z_ok X cJ7_fill_53178 4 RJ7 none "fill" 1 G := hX
  show z_Z X h top 0 [(0, .ref a), (1, .int v)] []
  refine r_iconst (v := 0) hX (by decide) dJ7_fill_53178_0 ?_
  refine r_istore_n (lv' := [(2, .int 0), (0, .ref a), (1, .int v)]) hX rfl (by decide) rfl dJ7_fill_53178_1 ?_
  refine r_aload_n hX rfl 1 rfl dJ7_fill_53178_2 ?_
  refine r_alenI (v := (nI n)) hX ha rfl dJ7_fill_53178_3 ?_
  refine r_istore_n (lv' := [(3, .int (nI n)), (2, .int 0), (0, .ref a), (1, .int v)]) hX rfl (by decide) rfl dJ7_fill_53178_4 ?_
  refine r_lv [1, 0, 2, 3] (lv2 := [(2, .int (nI 0)), (3, .int (nI n)), (0, .ref a), (1, .int v)]) (by rw [nI_0]; rfl) ?_
  exact f_fill_loop a n v h hn hX hq (fun h' f' g1 g2 g3 => ⟨rfl, rfl, f', g1, g2, g3⟩) (n + 1) 0 h f (by omega) (by omega) ha (fun j hj => by omega) (fun q _ => rfl)

set_option maxRecDepth 20000 in
set_option maxHeartbeats 4000000 in
theorem c_Jx4a65c_rangeCheckForAdd_d00df (l : Launch) (G : zG) (h : zH) (top : Nat) (a e i n : Nat) (m : Int32) (hi : i ≤ n) (hn : n ≤ 1000) (ha : z_at G h top a (.inr (0, [.int m, .ref e, .int (nI n)]))) : z_Ct l yJx4a65c_rangeCheckForAdd_d00df cJx4a65c_rangeCheckForAdd_d00df 2 none 1 G [.ref a, .int (nI i)] h top (z_R none h top) := by
  refine z_of (own := RJx4a65c) (nm := "rangeCheckForAdd") (by decide) rfl rfl (by decide) (Nat.le_of_ble_eq_true rfl) (fun X hX hq => ?_)
  replace hX : z_ok X cJx4a65c_rangeCheckForAdd_d00df 2 RJx4a65c none "rangeCheckForAdd" 1 G := hX
  show z_Z X h top 0 [(0, .ref a), (1, .int (nI i))] []
  refine r_iload_n hX rfl 1 rfl dJx4a65c_rangeCheckForAdd_d00df_0 ?_
  refine r_aload_n hX rfl 0 rfl dJx4a65c_rangeCheckForAdd_d00df_1 ?_
  refine r_getf hX fl_Jx4a65c_48 ha rfl dJx4a65c_rangeCheckForAdd_d00df_2 ?_
  refine r_icmp_gt (tgt := 12) hX dJx4a65c_rangeCheckForAdd_d00df_5 rfl (fun c => False.elim (absurd c (nI_nlt hi (by omega)))) (fun _ => ?_)
  refine r_iload_n hX rfl 1 rfl dJx4a65c_rangeCheckForAdd_d00df_8 ?_
  refine r_if_ge (tgt := 25) hX dJx4a65c_rangeCheckForAdd_d00df_9 rfl (fun _ => ?_) (fun c => False.elim (absurd (nI_pos' (show i < 2 ^ 31 by omega)) c))
  exact r_vret hX hq ⟨rfl, rfl, rfl⟩ dJx4a65c_rangeCheckForAdd_d00df_25

theorem z_cpyI {f : Nat → Option Nat} {n i x : Nat} (hi : i ≤ n) (hf : ∀ j, n ≤ j → f j = none) : (∀ j, j < i → (va_up (va_cpy f f i (i + 1) (n - i)) i (some x)) j = f j) ∧ (va_up (va_cpy f f i (i + 1) (n - i)) i (some x)) i = some x ∧ (∀ j, i ≤ j → j < n → (va_up (va_cpy f f i (i + 1) (n - i)) i (some x)) (j + 1) = f j) ∧ (∀ j, n + 1 ≤ j → (va_up (va_cpy f f i (i + 1) (n - i)) i (some x)) j = none) := by
  refine ⟨fun j hj => ?_, by simp [va_up], fun j h1 h2 => ?_, fun j hj => ?_⟩
  · simp only [va_up, if_neg (show ¬ j = i by omega)]
    exact pk_cpy_out (by omega)
  · simp only [va_up, if_neg (show ¬ j + 1 = i by omega)]
    rw [pk_cpy_in (by omega) (by omega)]
    congr 1
    omega
  · simp only [va_up, if_neg (show ¬ j = i by omega)]
    rw [pk_cpy_out (by omega)]
    exact hf j (by omega)
theorem z_pins_no {G : zG} {h : zH} {top a : Nat} {m m2 : Int32} {e n cap x i : Nat} {f : Nat → Option Nat} {rv : Option Value} (hL : z_AL G h top a m e n cap f) (hlt : n < cap) (hi : i ≤ n) : z_PAdd G h top a e n cap f i x rv rv (va_up (va_up (va_up h a (.inr (0, [.int m2, .ref e, .int (nI n)]))) e (z_refs G cap (va_up (va_cpy f f i (i + 1) (n - i)) i (some x)))) a (.inr (0, [.int m2, .ref e, .int (nI (n + 1))]))) top := by
  have hne := hL.ne (by omega)
  obtain ⟨h1, h2, h3, h4, h5⟩ := hL
  rcases h5 with h5 | ⟨h5, he⟩
  · omega
  obtain ⟨k1, k2, k3, k4⟩ := z_cpyI (x := x) hi h4
  refine ⟨rfl, m2, e, cap, _, ⟨⟨h1.1, h1.2.1, by simp [va_up]⟩, by omega, h3, k4, Or.inr ⟨h5, he.1, he.2.1, ?_⟩⟩, k1, k2, k3, fun q g1 g2 g3 => by simp [va_up, g2, g3], Or.inl ⟨hlt, rfl, rfl, rfl⟩⟩
  simp [va_up, Ne.symm hne]
theorem z_pins_gr {G : zG} {h : zH} {top a : Nat} {m m2 : Int32} {e n x i : Nat} {f g : Nat → Option Nat} {rv : Option Value} (hL : z_AL G h top a m e n n f) (hbt : z_b G ≤ top) (hn : n ≤ 150) (hi : i ≤ n) (hg1 : ∀ i, i < n → g i = f i) (hg2 : ∀ i, n ≤ i → g i = none) : z_PAdd G h top a e n n f i x rv rv (va_up (va_up (va_up (va_up (va_up h a (.inr (0, [.int m2, .ref e, .int (nI n)]))) top (z_refs G (z_gr n) g)) a (.inr (0, [.int m2, .ref top, .int (nI n)]))) top (z_refs G (z_gr n) (va_up (va_cpy g g i (i + 1) (n - i)) i (some x)))) a (.inr (0, [.int m2, .ref top, .int (nI (n + 1))]))) (top + 1) := by
  have hlt := z_gr_lt hn
  obtain ⟨h1, h2, h3, h4, h5⟩ := hL
  have hat : a ≠ top := by have := h1.2.1; omega
  obtain ⟨k1, k2, k3, k4⟩ := z_cpyI (x := x) hi hg2
  refine ⟨rfl, m2, top, z_gr n, _, ⟨⟨h1.1, by have := h1.2.1; omega, by simp [va_up]⟩, by omega, by omega, k4, Or.inr ⟨by omega, hbt, by omega, ?_⟩⟩, fun j hj => (k1 j hj).trans (hg1 j (by omega)), k2, fun j q1 q2 => (k3 j q1 q2).trans (hg1 j q2), fun q g1 g2 g3 => by simp [va_up, g2, show q ≠ top by omega], Or.inr ⟨rfl, rfl, rfl, rfl⟩⟩
  simp [va_up, Ne.symm hat]

set_option maxRecDepth 20000 in
set_option maxHeartbeats 4000000 in
theorem f_ins_tail {X : zX} {G : zG} {h : zH} {top : Nat} {Post : Option Value → zH → Nat → Prop} (a x e n cap i : Nat) (m : Int32) (f : Nat → Option Nat) (ha0 : z_at G h top a (.inr (0, [.int m, .ref e, .int (nI n)]))) (he0 : z_at G h top e (z_refs G cap f)) (hi : i ≤ n) (hlt : n < cap) (hc : cap ≤ 225) (hob : z_ob G h top x) (hel : ∀ i, i < n → ∀ y, f i = some y → z_ob G h top y) (hp : Post none (va_up (va_up h e (z_refs G cap (va_up (va_cpy f f i (i + 1) (n - i)) i (some x)))) a (.inr (0, [.int m, .ref e, .int (nI (n + 1))]))) top) (hX : z_ok X cJx4a65c_add_7a177 5 RJx4a65c none "add" 6 G) (hq : z_mq X (Post)) : z_Z X h top 38 [(0, .ref a), (1, .int (nI i)), (2, .ref x), (3, .int (nI n)), (4, .ref e)] [] := by
  have ha := ha0
  have he := he0
  unfold z_refs at he
  have he9 := he
  refine r_aload hX 4 rfl dJx4a65c_add_7a177_38 ?_
  refine r_iload_n hX rfl 1 rfl dJx4a65c_add_7a177_40 ?_
  refine r_aload hX 4 rfl dJx4a65c_add_7a177_41 ?_
  refine r_iload_n hX rfl 1 rfl dJx4a65c_add_7a177_43 ?_
  refine r_iconst (v := 1) hX (by decide) dJx4a65c_add_7a177_44 ?_
  refine r_iadd hX dJx4a65c_add_7a177_45 ?_
  refine r_iload_n hX rfl 3 rfl dJx4a65c_add_7a177_46 ?_
  refine r_iload_n hX rfl 1 rfl dJx4a65c_add_7a177_47 ?_
  refine r_isub hX dJx4a65c_add_7a177_48 ?_
  rw [nI_1, pk_sub hi]
  refine r_copy (sp := (nI i)) (dp := (nI (i + 1))) (n := (nI (n - i))) hX he he (z_nlt0 (by omega)) (z_nlt0 (by omega)) (z_nlt0 (by omega)) (by rw [nI_clamp (by omega), nI_clamp (by omega)]; omega) (by rw [nI_clamp (by omega), nI_clamp (by omega)]; omega) (fun j hj y hy => hel (i + j) (by rw [nI_clamp (by omega)] at hj; omega) y (by rw [nI_clamp (by omega)] at hy; exact hy)) kw_ac_Jx4a65c_112 kw_ac2 kw_ac3 kw_ac4 (by decide +kernel) dJx4a65c_add_7a177_49 ?_
  replace ha := ha.up (e3 := (.inl (z_aO G, cap, .inr (.inr (.inr (.inr (va_cpy f f ((nI i) : Int32).toNatClampNeg ((nI (i + 1)) : Int32).toNatClampNeg ((nI (n - i)) : Int32).toNatClampNeg))))))) he (by intro z; cases z)
  replace he : z_at G (va_up h e (.inl (z_aO G, cap, .inr (.inr (.inr (.inr (va_cpy f f ((nI i) : Int32).toNatClampNeg ((nI (i + 1)) : Int32).toNatClampNeg ((nI (n - i)) : Int32).toNatClampNeg))))))) top e (.inl (z_aO G, cap, .inr (.inr (.inr (.inr (va_cpy f f ((nI i) : Int32).toNatClampNeg ((nI (i + 1)) : Int32).toNatClampNeg ((nI (n - i)) : Int32).toNatClampNeg)))))) := z_at.self he
  rw [nI_clamp (show i < 2 ^ 31 by omega), nI_clamp (show i + 1 < 2 ^ 31 by omega), nI_clamp (show n - i < 2 ^ 31 by omega)] at he ha ⊢
  refine r_aload hX 4 rfl dJx4a65c_add_7a177_52 ?_
  refine r_iload_n hX rfl 1 rfl dJx4a65c_add_7a177_54 ?_
  refine r_aload_n hX rfl 2 rfl dJx4a65c_add_7a177_55 ?_
  refine r_aast hX he (hob.up (hob.neO he9)) (vp_in_nI (show i < cap by omega) (by omega)) dJx4a65c_add_7a177_56 ?_
  replace ha := ha.up (e3 := (.inl (z_aO G, cap, .inr (.inr (.inr (.inr (va_up (va_cpy f f i (i + 1) (n - i)) ((nI i) : Int32).toNatClampNeg (some x)))))))) he (by intro z; cases z)
  replace he : z_at G (va_up (va_up h e (.inl (z_aO G, cap, .inr (.inr (.inr (.inr (va_cpy f f i (i + 1) (n - i)))))))) e (.inl (z_aO G, cap, .inr (.inr (.inr (.inr (va_up (va_cpy f f i (i + 1) (n - i)) ((nI i) : Int32).toNatClampNeg (some x)))))))) top e (.inl (z_aO G, cap, .inr (.inr (.inr (.inr (va_up (va_cpy f f i (i + 1) (n - i)) ((nI i) : Int32).toNatClampNeg (some x))))))) := z_at.self he
  rw [nI_clamp (show i < 2 ^ 31 by omega)] at he ha ⊢
  rw [bx_uu] at he ha ⊢
  refine r_aload_n hX rfl 0 rfl dJx4a65c_add_7a177_57 ?_
  refine r_iload_n hX rfl 3 rfl dJx4a65c_add_7a177_58 ?_
  refine r_iconst (v := 1) hX (by decide) dJx4a65c_add_7a177_59 ?_
  refine r_iadd hX dJx4a65c_add_7a177_60 ?_
  rw [nI_1]
  refine r_put (fs2 := [.int m, .ref e, .int (nI (n + 1))]) hX fp_Jx4a65c_48 ha rfl rfl (Nat.le_of_ble_eq_true rfl) rfl dJx4a65c_add_7a177_61 ?_
  replace he := he.up (e3 := (.inr (0, [.int m, .ref e, .int (nI (n + 1))]))) ha (by intro z; cases z)
  replace ha : z_at G (va_up (va_up h e (.inl (z_aO G, cap, .inr (.inr (.inr (.inr (va_up (va_cpy f f i (i + 1) (n - i)) i (some x)))))))) a (.inr (0, [.int m, .ref e, .int (nI (n + 1))]))) top a (.inr (0, [.int m, .ref e, .int (nI (n + 1))])) := z_at.self ha
  exact r_vret hX hq hp dJx4a65c_add_7a177_64

set_option maxRecDepth 20000 in
set_option maxHeartbeats 4000000 in
theorem c_ins_no (l : Launch) (G : zG) (h : zH) (top : Nat) (a x e n cap i : Nat) (m : Int32) (f : Nat → Option Nat) (Post : Option Value → zH → Nat → Prop) (hbt : z_b G ≤ top) (hi : i ≤ n) (hL : z_AL G h top a m e n cap f) (he0 : z_at G h top e (z_refs G cap f)) (hel : ∀ i, i < n → ∀ y, f i = some y → z_ob G h top y) (hn : n ≤ 150) (hob : z_ob G h top x) (hlt : n < cap) (hp : Post none (va_up (va_up (va_up h a (.inr (0, [.int (m + 1), .ref e, .int (nI n)]))) e (z_refs G cap (va_up (va_cpy f f i (i + 1) (n - i)) i (some x)))) a (.inr (0, [.int (m + 1), .ref e, .int (nI (n + 1))]))) top) : z_Ct l yJx4a65c_add_7a177 cJx4a65c_add_7a177 5 none 6 G [.ref a, .int (nI i), .ref x] h top (Post) := by
  refine z_of (own := RJx4a65c) (nm := "add") (by decide) rfl rfl (by decide) (Nat.le_of_ble_eq_true rfl) (fun X hX hq => ?_)
  replace hX : z_ok X cJx4a65c_add_7a177 5 RJx4a65c none "add" 6 G := hX
  show z_Z X h top 0 [(0, .ref a), (1, .int (nI i)), (2, .ref x)] []
  have ha := hL.1
  have hc225 := hL.2.2.1
  have he := he0
  unfold z_refs at he
  have he0b : z_at G (va_up h a (.inr (0, [.int (m + 1), .ref e, .int (nI n)]))) top e (z_refs G cap f) := he0.up hL.1 (by intro z; cases z)
  refine r_aload_n hX rfl 0 rfl dJx4a65c_add_7a177_0 ?_
  refine r_iload_n hX rfl 1 rfl dJx4a65c_add_7a177_1 ?_
  refine r_callVR (As := [.int (nI i)]) (rest := []) (rv := none) (st1 := []) hX cs_Jx4a65c_135 (by decide) (fun l => c_Jx4a65c_rangeCheckForAdd_d00df l G h top a e i n m hi (by omega) hL.1) ha rfl rfl rfl rfl (Nat.le_of_ble_eq_true rfl) dJx4a65c_add_7a177_2 ?_
  refine r_aload_n hX rfl 0 rfl dJx4a65c_add_7a177_5 ?_
  refine r_dup hX rfl dJx4a65c_add_7a177_6 ?_
  refine r_getf hX fl_Jx4a65c_63 ha rfl dJx4a65c_add_7a177_7 ?_
  refine r_iconst (v := 1) hX (by decide) dJx4a65c_add_7a177_10 ?_
  refine r_iadd hX dJx4a65c_add_7a177_11 ?_
  refine r_put (fs2 := [.int (m + 1), .ref e, .int (nI n)]) hX fp_Jx4a65c_63 ha rfl rfl (Nat.le_of_ble_eq_true rfl) rfl dJx4a65c_add_7a177_12 ?_
  replace he := he.up (e3 := (.inr (0, [.int (m + 1), .ref e, .int (nI n)]))) ha (by intro z; cases z)
  replace ha : z_at G (va_up h a (.inr (0, [.int (m + 1), .ref e, .int (nI n)]))) top a (.inr (0, [.int (m + 1), .ref e, .int (nI n)])) := z_at.self ha
  refine r_aload_n hX rfl 0 rfl dJx4a65c_add_7a177_15 ?_
  refine r_getf hX fl_Jx4a65c_48 ha rfl dJx4a65c_add_7a177_16 ?_
  refine r_dup hX rfl dJx4a65c_add_7a177_19 ?_
  refine r_istore_n (lv' := [(3, .int (nI n)), (0, .ref a), (1, .int (nI i)), (2, .ref x)]) hX rfl (by decide) rfl dJx4a65c_add_7a177_20 ?_
  refine r_aload_n hX rfl 1 rfl dJx4a65c_add_7a177_21 ?_
  refine r_getf hX fl_Jx4a65c_9 ha rfl dJx4a65c_add_7a177_22 ?_
  refine r_dup hX rfl dJx4a65c_add_7a177_25 ?_
  refine r_astore (lv' := [(4, .ref e), (3, .int (nI n)), (0, .ref a), (1, .int (nI i)), (2, .ref x)]) hX (by decide) rfl dJx4a65c_add_7a177_26 ?_
  refine r_alenO (v := (nI cap)) hX he rfl dJx4a65c_add_7a177_28 ?_
  refine r_icmp_ne (tgt := 38) hX dJx4a65c_add_7a177_29 rfl (fun _ => ?_) (fun c => False.elim (absurd ((nI_eq (by omega) (by omega)).mp c) (by omega)))
  refine r_lv [2, 3, 4, 1, 0] (lv2 := [(0, .ref a), (1, .int (nI i)), (2, .ref x), (3, .int (nI n)), (4, .ref e)]) rfl ?_
  exact f_ins_tail a x e n cap i (m + 1) f ha he0b hi hlt hL.2.2.1 (hob.up (hob.ne hL.1)) (fun i h1 y h2 => (hel i h1 y h2).up ((hel i h1 y h2).ne hL.1)) hp hX hq

set_option maxRecDepth 20000 in
set_option maxHeartbeats 4000000 in
theorem c_ins_gr (l : Launch) (G : zG) (h : zH) (top : Nat) (a x e n i : Nat) (m : Int32) (f : Nat → Option Nat) (Post : Option Value → zH → Nat → Prop) (hbt : z_b G ≤ top) (hi : i ≤ n) (hL : z_AL G h top a m e n n f) (he0 : z_at G h top e (z_refs G n f)) (hel : ∀ i, i < n → ∀ y, f i = some y → z_ob G h top y) (hn : n ≤ 150) (hob : z_ob G h top x) (hroom : top + 1 ≤ z_b G + 320) (hp : ∀ g : Nat → Option Nat, (∀ i, i < n → g i = f i) → (∀ i, n ≤ i → g i = none) → Post none (va_up (va_up (va_up (va_up (va_up h a (.inr (0, [.int (m + 1), .ref e, .int (nI n)]))) top (z_refs G (z_gr n) g)) a (.inr (0, [.int (m + 1), .ref top, .int (nI n)]))) top (z_refs G (z_gr n) (va_up (va_cpy g g i (i + 1) (n - i)) i (some x)))) a (.inr (0, [.int (m + 1), .ref top, .int (nI (n + 1))]))) (top + 1)) : z_Ct l yJx4a65c_add_7a177 cJx4a65c_add_7a177 5 none 6 G [.ref a, .int (nI i), .ref x] h top (Post) := by
  refine z_of (own := RJx4a65c) (nm := "add") (by decide) rfl rfl (by decide) (Nat.le_of_ble_eq_true rfl) (fun X hX hq => ?_)
  replace hX : z_ok X cJx4a65c_add_7a177 5 RJx4a65c none "add" 6 G := hX
  show z_Z X h top 0 [(0, .ref a), (1, .int (nI i)), (2, .ref x)] []
  have ha := hL.1
  have hc225 := hL.2.2.1
  have he := he0
  unfold z_refs at he
  have he0b : z_at G (va_up h a (.inr (0, [.int (m + 1), .ref e, .int (nI n)]))) top e (z_refs G n f) := he0.up hL.1 (by intro z; cases z)
  refine r_aload_n hX rfl 0 rfl dJx4a65c_add_7a177_0 ?_
  refine r_iload_n hX rfl 1 rfl dJx4a65c_add_7a177_1 ?_
  refine r_callVR (As := [.int (nI i)]) (rest := []) (rv := none) (st1 := []) hX cs_Jx4a65c_135 (by decide) (fun l => c_Jx4a65c_rangeCheckForAdd_d00df l G h top a e i n m hi (by omega) hL.1) ha rfl rfl rfl rfl (Nat.le_of_ble_eq_true rfl) dJx4a65c_add_7a177_2 ?_
  refine r_aload_n hX rfl 0 rfl dJx4a65c_add_7a177_5 ?_
  refine r_dup hX rfl dJx4a65c_add_7a177_6 ?_
  refine r_getf hX fl_Jx4a65c_63 ha rfl dJx4a65c_add_7a177_7 ?_
  refine r_iconst (v := 1) hX (by decide) dJx4a65c_add_7a177_10 ?_
  refine r_iadd hX dJx4a65c_add_7a177_11 ?_
  refine r_put (fs2 := [.int (m + 1), .ref e, .int (nI n)]) hX fp_Jx4a65c_63 ha rfl rfl (Nat.le_of_ble_eq_true rfl) rfl dJx4a65c_add_7a177_12 ?_
  replace he := he.up (e3 := (.inr (0, [.int (m + 1), .ref e, .int (nI n)]))) ha (by intro z; cases z)
  replace ha : z_at G (va_up h a (.inr (0, [.int (m + 1), .ref e, .int (nI n)]))) top a (.inr (0, [.int (m + 1), .ref e, .int (nI n)])) := z_at.self ha
  refine r_aload_n hX rfl 0 rfl dJx4a65c_add_7a177_15 ?_
  refine r_getf hX fl_Jx4a65c_48 ha rfl dJx4a65c_add_7a177_16 ?_
  refine r_dup hX rfl dJx4a65c_add_7a177_19 ?_
  refine r_istore_n (lv' := [(3, .int (nI n)), (0, .ref a), (1, .int (nI i)), (2, .ref x)]) hX rfl (by decide) rfl dJx4a65c_add_7a177_20 ?_
  refine r_aload_n hX rfl 1 rfl dJx4a65c_add_7a177_21 ?_
  refine r_getf hX fl_Jx4a65c_9 ha rfl dJx4a65c_add_7a177_22 ?_
  refine r_dup hX rfl dJx4a65c_add_7a177_25 ?_
  refine r_astore (lv' := [(4, .ref e), (3, .int (nI n)), (0, .ref a), (1, .int (nI i)), (2, .ref x)]) hX (by decide) rfl dJx4a65c_add_7a177_26 ?_
  refine r_alenO (v := (nI n)) hX he rfl dJx4a65c_add_7a177_28 ?_
  refine r_icmp_ne (tgt := 38) hX dJx4a65c_add_7a177_29 rfl (fun c => False.elim (c rfl)) (fun _ => ?_)
  refine r_aload_n hX rfl 2 rfl dJx4a65c_add_7a177_32 ?_
  refine r_callV (As := []) (rest := []) hX cs_Jx4a65c_129 (by decide) (fun l => c_Jx4a65c_grow_d5877 l G (va_up h a (.inr (0, [.int (m + 1), .ref e, .int (nI n)]))) top a e n (m + 1) f hbt hL.mod (fun i h1 y h2 => (hel i h1 y h2).up ((hel i h1 y h2).ne hL.1)) hn hroom) ha rfl rfl rfl (Nat.le_of_ble_eq_true rfl) dJx4a65c_add_7a177_33 (fun r1 h1 top1 hp1 => ?_)
  obtain ⟨rfl, rfl, g, hg1, hg2, rfl⟩ := hp1
  have hlt := z_gr_lt hn
  have hat : a ≠ top := by have := ha.2.1; omega
  have hnew : z_at G (va_up (va_up h a (.inr (0, [.int (m + 1), .ref e, .int (nI n)]))) top (z_refs G (z_gr n) g)) (top + 1) top (z_refs G (z_gr n) g) := z_at.fresh hbt
  have hnew2 := hnew.ne (a2 := a) (e2 := .inr (0, [.int (m + 1), .ref top, .int (nI n)])) (Ne.symm hat)
  have ha2 : z_at G (va_up (va_up (va_up h a (.inr (0, [.int (m + 1), .ref e, .int (nI n)]))) top (z_refs G (z_gr n) g)) a (.inr (0, [.int (m + 1), .ref top, .int (nI n)]))) (top + 1) a (.inr (0, [.int (m + 1), .ref top, .int (nI n)])) := z_at.self (ha.new (e2 := z_refs G (z_gr n) g))
  have hst : ∀ y, z_ob G h top y → z_ob G (va_up (va_up (va_up h a (.inr (0, [.int (m + 1), .ref e, .int (nI n)]))) top (z_refs G (z_gr n) g)) a (.inr (0, [.int (m + 1), .ref top, .int (nI n)]))) (top + 1) y := fun y hy => (z_ob.new (hy.up (hy.ne hL.1))).up (hy.ne hL.1)
  refine r_astore (lv' := [(4, .ref top), (3, .int (nI n)), (0, .ref a), (1, .int (nI i)), (2, .ref x)]) hX (by decide) rfl dJx4a65c_add_7a177_36 ?_
  refine r_lv [2, 3, 4, 1, 0] (lv2 := [(0, .ref a), (1, .int (nI i)), (2, .ref x), (3, .int (nI n)), (4, .ref top)]) rfl ?_
  exact f_ins_tail a x top n (z_gr n) i (m + 1) g ha2 hnew2 hi hlt.1 hlt.2 (hst x hob) (fun i h1 y h2 => hst y (hel i h1 y (by rw [← hg1 i h1]; exact h2))) (hp g hg1 hg2) hX hq

set_option maxRecDepth 20000 in
set_option maxHeartbeats 4000000 in
theorem c_ins_gr0 (l : Launch) (G : zG) (h : zH) (top : Nat) (a x n i : Nat) (m : Int32) (f : Nat → Option Nat) (Post : Option Value → zH → Nat → Prop) (hbt : z_b G ≤ top) (hi : i ≤ n) (hL : z_AL G h top a m (z_tE G) n n f) (h0 : n = 0) (hel : ∀ i, i < n → ∀ y, f i = some y → z_ob G h top y) (hn : n ≤ 150) (hob : z_ob G h top x) (hroom : top + 1 ≤ z_b G + 320) (hp : ∀ g : Nat → Option Nat, (∀ i, i < n → g i = f i) → (∀ i, n ≤ i → g i = none) → Post none (va_up (va_up (va_up (va_up (va_up h a (.inr (0, [.int (m + 1), .ref (z_tE G), .int (nI n)]))) top (z_refs G (z_gr n) g)) a (.inr (0, [.int (m + 1), .ref top, .int (nI n)]))) top (z_refs G (z_gr n) (va_up (va_cpy g g i (i + 1) (n - i)) i (some x)))) a (.inr (0, [.int (m + 1), .ref top, .int (nI (n + 1))]))) (top + 1)) : z_Ct l yJx4a65c_add_7a177 cJx4a65c_add_7a177 5 none 6 G [.ref a, .int (nI i), .ref x] h top (Post) := by
  refine z_of (own := RJx4a65c) (nm := "add") (by decide) rfl rfl (by decide) (Nat.le_of_ble_eq_true rfl) (fun X hX hq => ?_)
  replace hX : z_ok X cJx4a65c_add_7a177 5 RJx4a65c none "add" 6 G := hX
  show z_Z X h top 0 [(0, .ref a), (1, .int (nI i)), (2, .ref x)] []
  have ha := hL.1
  have hc225 := hL.2.2.1
  refine r_aload_n hX rfl 0 rfl dJx4a65c_add_7a177_0 ?_
  refine r_iload_n hX rfl 1 rfl dJx4a65c_add_7a177_1 ?_
  refine r_callVR (As := [.int (nI i)]) (rest := []) (rv := none) (st1 := []) hX cs_Jx4a65c_135 (by decide) (fun l => c_Jx4a65c_rangeCheckForAdd_d00df l G h top a (z_tE G) i n m hi (by omega) hL.1) ha rfl rfl rfl rfl (Nat.le_of_ble_eq_true rfl) dJx4a65c_add_7a177_2 ?_
  refine r_aload_n hX rfl 0 rfl dJx4a65c_add_7a177_5 ?_
  refine r_dup hX rfl dJx4a65c_add_7a177_6 ?_
  refine r_getf hX fl_Jx4a65c_63 ha rfl dJx4a65c_add_7a177_7 ?_
  refine r_iconst (v := 1) hX (by decide) dJx4a65c_add_7a177_10 ?_
  refine r_iadd hX dJx4a65c_add_7a177_11 ?_
  refine r_put (fs2 := [.int (m + 1), .ref (z_tE G), .int (nI n)]) hX fp_Jx4a65c_63 ha rfl rfl (Nat.le_of_ble_eq_true rfl) rfl dJx4a65c_add_7a177_12 ?_
  replace ha : z_at G (va_up h a (.inr (0, [.int (m + 1), .ref (z_tE G), .int (nI n)]))) top a (.inr (0, [.int (m + 1), .ref (z_tE G), .int (nI n)])) := z_at.self ha
  refine r_aload_n hX rfl 0 rfl dJx4a65c_add_7a177_15 ?_
  refine r_getf hX fl_Jx4a65c_48 ha rfl dJx4a65c_add_7a177_16 ?_
  refine r_dup hX rfl dJx4a65c_add_7a177_19 ?_
  refine r_istore_n (lv' := [(3, .int (nI n)), (0, .ref a), (1, .int (nI i)), (2, .ref x)]) hX rfl (by decide) rfl dJx4a65c_add_7a177_20 ?_
  refine r_aload_n hX rfl 1 rfl dJx4a65c_add_7a177_21 ?_
  refine r_getf hX fl_Jx4a65c_9 ha rfl dJx4a65c_add_7a177_22 ?_
  refine r_dup hX rfl dJx4a65c_add_7a177_25 ?_
  refine r_astore (lv' := [(4, .ref (z_tE G)), (3, .int (nI n)), (0, .ref a), (1, .int (nI i)), (2, .ref x)]) hX (by decide) rfl dJx4a65c_add_7a177_26 ?_
  refine r_alenE hX dJx4a65c_add_7a177_28 ?_
  refine r_icmp_ne (tgt := 38) hX dJx4a65c_add_7a177_29 rfl (fun c => False.elim (c (by rw [h0]; exact nI_0))) (fun _ => ?_)
  refine r_aload_n hX rfl 2 rfl dJx4a65c_add_7a177_32 ?_
  refine r_callV (As := []) (rest := []) hX cs_Jx4a65c_129 (by decide) (fun l => c_Jx4a65c_grow_d5877 l G (va_up h a (.inr (0, [.int (m + 1), .ref (z_tE G), .int (nI n)]))) top a (z_tE G) n (m + 1) f hbt hL.mod (fun i h1 y h2 => (hel i h1 y h2).up ((hel i h1 y h2).ne hL.1)) hn hroom) ha rfl rfl rfl (Nat.le_of_ble_eq_true rfl) dJx4a65c_add_7a177_33 (fun r1 h1 top1 hp1 => ?_)
  obtain ⟨rfl, rfl, g, hg1, hg2, rfl⟩ := hp1
  have hlt := z_gr_lt hn
  have hat : a ≠ top := by have := ha.2.1; omega
  have hnew : z_at G (va_up (va_up h a (.inr (0, [.int (m + 1), .ref (z_tE G), .int (nI n)]))) top (z_refs G (z_gr n) g)) (top + 1) top (z_refs G (z_gr n) g) := z_at.fresh hbt
  have hnew2 := hnew.ne (a2 := a) (e2 := .inr (0, [.int (m + 1), .ref top, .int (nI n)])) (Ne.symm hat)
  have ha2 : z_at G (va_up (va_up (va_up h a (.inr (0, [.int (m + 1), .ref (z_tE G), .int (nI n)]))) top (z_refs G (z_gr n) g)) a (.inr (0, [.int (m + 1), .ref top, .int (nI n)]))) (top + 1) a (.inr (0, [.int (m + 1), .ref top, .int (nI n)])) := z_at.self (ha.new (e2 := z_refs G (z_gr n) g))
  have hst : ∀ y, z_ob G h top y → z_ob G (va_up (va_up (va_up h a (.inr (0, [.int (m + 1), .ref (z_tE G), .int (nI n)]))) top (z_refs G (z_gr n) g)) a (.inr (0, [.int (m + 1), .ref top, .int (nI n)]))) (top + 1) y := fun y hy => (z_ob.new (hy.up (hy.ne hL.1))).up (hy.ne hL.1)
  refine r_astore (lv' := [(4, .ref top), (3, .int (nI n)), (0, .ref a), (1, .int (nI i)), (2, .ref x)]) hX (by decide) rfl dJx4a65c_add_7a177_36 ?_
  refine r_lv [2, 3, 4, 1, 0] (lv2 := [(0, .ref a), (1, .int (nI i)), (2, .ref x), (3, .int (nI n)), (4, .ref top)]) rfl ?_
  exact f_ins_tail a x top n (z_gr n) i (m + 1) g ha2 hnew2 hi hlt.1 hlt.2 (hst x hob) (fun i h1 y h2 => hst y (hel i h1 y (by rw [← hg1 i h1]; exact h2))) (hp g hg1 hg2) hX hq

/-- add(int, E), any list -/
theorem c_ins (l : Launch) (G : zG) (h : zH) (top a x e n cap i : Nat) (m : Int32) (f : Nat → Option Nat) (hbt : z_b G ≤ top) (hi : i ≤ n) (hL : z_AL G h top a m e n cap f) (hel : ∀ i, i < n → ∀ y, f i = some y → z_ob G h top y) (hn : n ≤ 150) (hob : z_ob G h top x) (hroom : n = cap → top + 1 ≤ z_b G + 320) : z_Ct l yJx4a65c_add_7a177 cJx4a65c_add_7a177 5 none 6 G [.ref a, .int (nI i), .ref x] h top (z_PAdd G h top a e n cap f i x none) := by
  rcases Nat.lt_or_ge n cap with hlt | hge
  · rcases hL.2.2.2.2 with h5 | ⟨h5, he⟩
    · omega
    · exact c_ins_no l G h top a x e n cap i m f _ hbt hi hL he hel hn hob hlt (z_pins_no hL hlt hi)
  · obtain rfl : n = cap := by have := hL.2.1; omega
    rcases hL.2.2.2.2 with ⟨h5, h6⟩ | ⟨h5, he⟩
    · subst h6
      exact c_ins_gr0 l G h top a x n i m f _ hbt hi hL h5 hel hn hob (hroom rfl) (fun g hg1 hg2 => z_pins_gr hL hbt hn hi hg1 hg2)
    · exact c_ins_gr l G h top a x e n i m f _ hbt hi hL he hel hn hob (hroom rfl) (fun g hg1 hg2 => z_pins_gr hL hbt hn hi hg1 hg2)
end
section
/-! the state of a hall -/
/-- address, from, to, length, owner -/
abbrev zSeg : Type := Nat × Int32 × Int32 × Int32 × Int32
/-- address, (class, emission, account), (balance, exemptions, taken, fines) -/
abbrev zVeh : Type := Nat × (Int32 × Int32 × Int32) × (Int32 × Int32 × Int32 × Int32)
/-- address, owner, rate, step, peak, first day -/
abbrev zTar : Type := Nat × Int32 × Int32 × Int32 × Int32 × Int32
/-- address, (the vehicle's address, the segment's), minute, source, erased -/
abbrev zSgt : Type := Nat × (Nat × Nat) × Int32 × Int32 × Int32
/-- address, the segment's address, minute, sightings, doubtful, reason, due -/
abbrev zPas : Type := Nat × Nat × Int32 × Int32 × Int32 × Int32 × Int32
/-- (shuts, now, cap, listed, alarms, catches, erased), (coins, caps, paid, hall, taken, given back), (segments, vehicles, tariffs, sightings) -/
abbrev zS : Type := (Int32 × Int32 × Int32 × Int32 × Int32 × Int32 × Int32) × ((Nat → Int32) × (Nat → Int32) × (Nat → Int32) × Int32 × Int32 × Int32) × (List zSeg × List zVeh × List zTar × List zSgt)
abbrev s_shuts (s : zS) : Int32 := s.1.1
abbrev s_now (s : zS) : Int32 := s.1.2.1
abbrev s_cap (s : zS) : Int32 := s.1.2.2.1
abbrev s_listed (s : zS) : Int32 := s.1.2.2.2.1
abbrev s_alarms (s : zS) : Int32 := s.1.2.2.2.2.1
abbrev s_catches (s : zS) : Int32 := s.1.2.2.2.2.2.1
abbrev s_erased (s : zS) : Int32 := s.1.2.2.2.2.2.2
abbrev s_coins (s : zS) : Nat → Int32 := s.2.1.1
abbrev s_caps (s : zS) : Nat → Int32 := s.2.1.2.1
abbrev s_paid (s : zS) : Nat → Int32 := s.2.1.2.2.1
abbrev s_hall (s : zS) : Int32 := s.2.1.2.2.2.1
abbrev s_taken (s : zS) : Int32 := s.2.1.2.2.2.2.1
abbrev s_gb (s : zS) : Int32 := s.2.1.2.2.2.2.2
abbrev s_segs (s : zS) : List zSeg := s.2.2.1
abbrev s_vehs (s : zS) : List zVeh := s.2.2.2.1
abbrev s_tars (s : zS) : List zTar := s.2.2.2.2.1
abbrev s_sgts (s : zS) : List zSgt := s.2.2.2.2.2
/-- reach, (pool used, certain), pool, (picked, joined, rows: addresses), the lists' (modCount, array, places) -/
abbrev zB : Type := (Nat → Int32) × (Int32 × Int32) × List zPas × (List Nat × List Nat × List Nat) × (Nat → Int32 × Nat × Nat)
abbrev b_rch (b : zB) : Nat → Int32 := b.1
abbrev b_pu (b : zB) : Int32 := b.2.1.1
abbrev b_ct (b : zB) : Int32 := b.2.1.2
abbrev b_pool (b : zB) : List zPas := b.2.2.1
abbrev b_pk (b : zB) : List Nat := b.2.2.2.1.1
abbrev b_jn (b : zB) : List Nat := b.2.2.2.1.2.1
abbrev b_rw (b : zB) : List Nat := b.2.2.2.1.2.2
abbrev b_ls (b : zB) : Nat → Int32 × Nat × Nat := b.2.2.2.2
def z_els (s : zS) (b : zB) : Nat → List Nat
  | 0 => (s_segs s).map (fun x => x.1)
  | 1 => (s_vehs s).map (fun x => x.1)
  | 2 => (s_sgts s).map (fun x => x.1)
  | 3 => (s_tars s).map (fun x => x.1)
  | 4 => b_pk b
  | 5 => b_jn b
  | 6 => b_rw b
  | _ => (b_pool b).map (fun x => x.1)
def z_la (b : Nat) : Nat → Nat
  | 0 => b + 1
  | 1 => b + 2
  | 2 => b + 3
  | 3 => b + 5
  | 4 => b + 12
  | 5 => b + 13
  | 6 => b + 14
  | _ => b + 15
abbrev z_segC (i : Nat) (x : zSeg) : va_E := .inr (4, [.int (nI i), .int x.2.1, .int x.2.2.1, .int x.2.2.2.1, .int x.2.2.2.2, .ref (x.1 + 1), .ref (x.1 + 2), .int 0])
abbrev z_vehC (i : Nat) (x : zVeh) : va_E := .inr (8, [.int (nI i), .int x.2.1.1, .int x.2.1.2.1, .int x.2.1.2.2, .int x.2.2.1, .int x.2.2.2.1, .int x.2.2.2.2.1, .int x.2.2.2.2.2])
abbrev z_tarC (x : zTar) : va_E := .inr (6, [.int x.2.1, .int x.2.2.1, .int x.2.2.2.1, .int x.2.2.2.2.1, .int x.2.2.2.2.2])
abbrev z_sgtC (x : zSgt) : va_E := .inr (5, [.ref x.2.1.1, .ref x.2.1.2, .int x.2.2.1, .int x.2.2.2.1, .int x.2.2.2.2])
abbrev z_pasC (x : zPas) : va_E := .inr (3, [.ref x.2.1, .int x.2.2.1, .int x.2.2.2.1, .int x.2.2.2.2.1, .int x.2.2.2.2.2.1, .int x.2.2.2.2.2.2])
abbrev z_hallC (b : Nat) (s : zS) : va_E := .inr (9, [.ref (b + 1), .ref (b + 2), .ref (b + 3), .ref (b + 4), .ref (b + 7), .ref (b + 11), .ref (b + 16), .int (s_shuts s), .int (s_now s), .int (s_cap s), .int (s_listed s), .int (s_alarms s), .int (s_catches s), .int (s_erased s)])
abbrev z_tfsC (b : Nat) : va_E := .inr (7, [.ref (b + 5), .ref (b + 6), .int 0])
abbrev z_lgC (b : Nat) (s : zS) : va_E := .inr (2, [.ref (b + 8), .ref (b + 9), .ref (b + 10), .int (s_hall s), .int (s_taken s), .int (s_gb s)])
abbrev z_bkC (b : Nat) (be : zB) : va_E := .inr (1, [.ref (b + 12), .ref (b + 13), .ref (b + 14), .ref (b + 15), .int (b_pu be), .int (b_ct be)])
/-- what stands where: kind, place -> address and content -/
def z_ct (G : zG) (s : zS) (be : zB) : Nat → Nat → Option (Nat × va_E)
  | 0, 0 => some (z_b G, z_hallC (z_b G) s)
  | 0, 1 => some (z_b G + 4, z_tfsC (z_b G))
  | 0, 2 => some (z_b G + 7, z_lgC (z_b G) s)
  | 0, 3 => some (z_b G + 11, z_bkC (z_b G) be)
  | 0, 4 => some (z_b G + 8, .inl (z_aI G, 4, .inl (s_coins s)))
  | 0, 5 => some (z_b G + 9, .inl (z_aI G, 41, .inl (s_caps s)))
  | 0, 6 => some (z_b G + 10, .inl (z_aI G, 1312, .inl (s_paid s)))
  | 0, 7 => some (z_b G + 16, .inl (z_aI G, 8, .inl (b_rch be)))
  | 0, 8 => some (z_b G + 6, .inl (z_aZ G, 51, .inl (fun _ => 0)))
  | 1, j => if j < 8 then some (z_la (z_b G) j, .inr (0, [.int (b_ls be j).1, .ref (b_ls be j).2.1, .int (nI (z_els s be j).length)])) else none
  | 2, j => if j < 8 ∧ 0 < (b_ls be j).2.2 then some ((b_ls be j).2.1, z_refs G (b_ls be j).2.2 (fun i => (z_els s be j)[i]?)) else none
  | 3, i => ((s_segs s)[i]?).map (fun x => (x.1, z_segC i x))
  | 4, i => ((s_vehs s)[i]?).map (fun x => (x.1, z_vehC i x))
  | 5, i => ((s_tars s)[i]?).map (fun x => (x.1, z_tarC x))
  | 6, i => ((s_sgts s)[i]?).map (fun x => (x.1, z_sgtC x))
  | 7, i => ((b_pool be)[i]?).map (fun x => (x.1, z_pasC x))
  | _, _ => none
theorem z_ct1 (G : zG) (s : zS) (be : zB) (j : Nat) : z_ct G s be 1 j = if j < 8 then some (z_la (z_b G) j, .inr (0, [.int (b_ls be j).1, .ref (b_ls be j).2.1, .int (nI (z_els s be j).length)])) else none := rfl
theorem z_ct2 (G : zG) (s : zS) (be : zB) (j : Nat) : z_ct G s be 2 j = if j < 8 ∧ 0 < (b_ls be j).2.2 then some ((b_ls be j).2.1, z_refs G (b_ls be j).2.2 (fun i => (z_els s be j)[i]?)) else none := rfl
theorem z_ct3 (G : zG) (s : zS) (be : zB) (i : Nat) : z_ct G s be 3 i = ((s_segs s)[i]?).map (fun x => (x.1, z_segC i x)) := rfl
theorem z_ct4 (G : zG) (s : zS) (be : zB) (i : Nat) : z_ct G s be 4 i = ((s_vehs s)[i]?).map (fun x => (x.1, z_vehC i x)) := rfl
theorem z_ct5 (G : zG) (s : zS) (be : zB) (i : Nat) : z_ct G s be 5 i = ((s_tars s)[i]?).map (fun x => (x.1, z_tarC x)) := rfl
theorem z_ct6 (G : zG) (s : zS) (be : zB) (i : Nat) : z_ct G s be 6 i = ((s_sgts s)[i]?).map (fun x => (x.1, z_sgtC x)) := rfl
theorem z_ct7 (G : zG) (s : zS) (be : zB) (i : Nat) : z_ct G s be 7 i = ((b_pool be)[i]?).map (fun x => (x.1, z_pasC x)) := rfl
theorem z_ct8 (G : zG) (s : zS) (be : zB) (k i : Nat) (h : 8 ≤ k) : z_ct G s be k i = none := by
  match k, h with
  | k + 8, _ => rfl
abbrev zCT : Type := Nat → Nat → Option (Nat × va_E)
/-- the heap holds it, each at an address of its own -/
def z_Rp (G : zG) (ct : zCT) (h : zH) (top : Nat) : Prop := (∀ k i a e, ct k i = some (a, e) → z_at G h top a e) ∧ ∀ k i k' i' a e e', ct k i = some (a, e) → ct k' i' = some (a, e') → k = k' ∧ i = i'
theorem z_Rp.gen {G : zG} {ct ct2 : zCT} {h h2 : zH} {top top2 : Nat} (H : z_Rp G ct h top) (P : Nat → Nat → Prop) (ht : top ≤ top2)
    (h1 : ∀ k i, ¬ P k i → ct2 k i = ct k i) (h2at : ∀ k i a e, P k i → ct2 k i = some (a, e) → z_at G h2 top2 a e)
    (h3 : ∀ k i a e, P k i → ct2 k i = some (a, e) → ∀ k' i' e', ¬ P k' i' → ct k' i' = some (a, e') → False)
    (h4 : ∀ k i k' i' a e e', P k i → P k' i' → ct2 k i = some (a, e) → ct2 k' i' = some (a, e') → k = k' ∧ i = i')
    (h5 : ∀ k i a e, ¬ P k i → ct k i = some (a, e) → h2 a = h a) : z_Rp G ct2 h2 top2 := by
  refine ⟨fun k i a e hk => ?_, fun k i k' i' a e e' hk hk' => ?_⟩
  · by_cases p : P k i
    · exact h2at k i a e p hk
    · rw [h1 k i p] at hk
      obtain ⟨g1, g2, g3⟩ := H.1 k i a e hk
      exact ⟨g1, by omega, by rw [h5 k i a e p hk, g3]⟩
  · by_cases p : P k i <;> by_cases p' : P k' i'
    · exact h4 k i k' i' a e e' p p' hk hk'
    · rw [h1 k' i' p'] at hk'
      exact (h3 k i a e p hk k' i' e' p' hk').elim
    · rw [h1 k i p] at hk
      exact (h3 k' i' a e' p' hk' k i e p hk).elim
    · rw [h1 k i p] at hk
      rw [h1 k' i' p'] at hk'
      exact H.2 k i k' i' a e e' hk hk'
/-- one content changes -/
theorem z_Rp.set {G : zG} {ct ct2 : zCT} {h : zH} {top a : Nat} {e e0 : va_E} (H : z_Rp G ct h top) (k i : Nat) (hk : ct k i = some (a, e0)) (hk2 : ct2 k i = some (a, e)) (hc : ∀ k' i', ¬ (k' = k ∧ i' = i) → ct2 k' i' = ct k' i') : z_Rp G ct2 (va_up h a e) top := by
  refine H.gen (fun k' i' => k' = k ∧ i' = i) (Nat.le_refl _) hc (fun k' i' a' e' p hp => ?_) (fun k' i' a' e' p hp k2 i2 e2 p2 hp2 => ?_) (fun k' i' k2 i2 a' e' e2 p p2 hp hp2 => ⟨by rw [p.1, p2.1], by rw [p.2, p2.2]⟩) (fun k' i' a' e' p hp => ?_)
  · obtain ⟨rfl, rfl⟩ := p
    rw [hk2] at hp
    cases hp
    exact z_at.self (H.1 _ _ _ _ hk)
  · obtain ⟨rfl, rfl⟩ := p
    rw [hk2] at hp
    cases hp
    exact p2 (H.2 _ _ _ _ _ _ _ hp2 hk)
  · have : a' ≠ a := fun q => by
      subst q
      exact p (H.2 _ _ _ _ _ _ _ hp hk)
    simp [va_up, this]

/-- list conditions: what the contents say beside the cells -/
def z_okL (G : zG) (s : zS) (be : zB) : Prop := ∀ j, j < 8 → (z_els s be j).length ≤ (b_ls be j).2.2 ∧ (b_ls be j).2.2 ≤ 225 ∧ ((b_ls be j).2.2 = 0 → (b_ls be j).2.1 = z_tE G)
theorem z_Rp.list {G : zG} {s : zS} {be : zB} {h : zH} {top : Nat} (H : z_Rp G (z_ct G s be) h top) (hL : z_okL G s be) (j : Nat) (hj : j < 8) : z_AL G h top (z_la (z_b G) j) (b_ls be j).1 (b_ls be j).2.1 (z_els s be j).length (b_ls be j).2.2 (fun i => (z_els s be j)[i]?) := by
  obtain ⟨g1, g2, g3⟩ := hL j hj
  refine ⟨H.1 1 j _ _ (by rw [z_ct1, if_pos hj]), g1, g2, fun i hi => List.getElem?_eq_none hi, ?_⟩
  rcases Nat.eq_zero_or_pos (b_ls be j).2.2 with q | q
  · exact Or.inl ⟨q, g3 q⟩
  · exact Or.inr ⟨q, H.1 2 j _ _ (by rw [z_ct2, if_pos ⟨hj, q⟩])⟩
/-- a list changes, and with it perhaps one object more comes to stand -/
theorem z_Rp.lst {G : zG} {s s2 : zS} {be be2 : zB} {h h2 : zH} {top top2 : Nat} (H : z_Rp G (z_ct G s be) h top) (hL : z_okL G s be) (j : Nat) (hj : j < 8) (P : Nat → Nat → Prop) (hP : ∀ k i, P k i → 3 ≤ k)
    (ht : top ≤ top2) (hl : z_AL G h2 top2 (z_la (z_b G) j) (b_ls be2 j).1 (b_ls be2 j).2.1 (z_els s2 be2 j).length (b_ls be2 j).2.2 (fun i => (z_els s2 be2 j)[i]?))
    (he : (b_ls be2 j).2.1 = (b_ls be j).2.1 ∨ top ≤ (b_ls be2 j).2.1) (htE : ¬ z_b G ≤ z_tE G)
    (hf : ∀ q, q < top → q ≠ z_la (z_b G) j → q ≠ (b_ls be j).2.1 → h2 q = h q)
    (h1 : ∀ k i, ¬ P k i → ¬ (k = 1 ∧ i = j) → ¬ (k = 2 ∧ i = j) → z_ct G s2 be2 k i = z_ct G s be k i)
    (hn : ∀ k i a e, P k i → z_ct G s2 be2 k i = some (a, e) → z_at G h2 top2 a e ∧ (∀ k' i' e', z_ct G s be k' i' = some (a, e') → False) ∧ a ≠ (b_ls be2 j).2.1)
    (hn2 : ∀ k i k' i' a e e', P k i → P k' i' → z_ct G s2 be2 k i = some (a, e) → z_ct G s2 be2 k' i' = some (a, e') → k = k' ∧ i = i') : z_Rp G (z_ct G s2 be2) h2 top2 := by
  have c1 : ∀ (s : zS) (be : zB), z_ct G s be 1 j = some (z_la (z_b G) j, .inr (0, [.int (b_ls be j).1, .ref (b_ls be j).2.1, .int (nI (z_els s be j).length)])) := fun s be => by rw [z_ct1, if_pos hj]
  have c2 : ∀ (s : zS) (be : zB) a e, z_ct G s be 2 j = some (a, e) → a = (b_ls be j).2.1 ∧ 0 < (b_ls be j).2.2 ∧ e = z_refs G (b_ls be j).2.2 (fun i => (z_els s be j)[i]?) := fun s be a e q => by
    rw [z_ct2] at q
    by_cases z : j < 8 ∧ 0 < (b_ls be j).2.2
    · rw [if_pos z] at q
      cases q
      exact ⟨rfl, z.2, rfl⟩
    · rw [if_neg z] at q
      cases q
  have hla := (hl.1)
  have hla0 := H.1 _ _ _ _ (c1 s be)
  have hne : ∀ e, z_at G h2 top2 (b_ls be2 j).2.1 e → (b_ls be j).2.2 = 0 → top ≤ (b_ls be2 j).2.1 := fun e q z => by
    rcases he with w | w
    · have := q.1
      rw [w, (hL j hj).2.2 z] at this
      exact absurd this htE
    · exact w
  have old : ∀ k i e, z_ct G s be k i = some ((b_ls be2 j).2.1, e) → 0 < (b_ls be2 j).2.2 → (k = 2 ∧ i = j) := fun k i e q hpos => by
    have hq := H.1 _ _ _ _ q
    rcases hl.2.2.2.2 with ⟨z, _⟩ | ⟨_, z⟩
    · omega
    · rcases Nat.eq_zero_or_pos (b_ls be j).2.2 with w | w
      · have := hne _ z w
        have := hq.2.1
        omega
      · rcases he with v | v
        · rw [v] at q
          exact H.2 _ _ _ _ _ _ _ q (show z_ct G s be 2 j = some ((b_ls be j).2.1, _) by rw [z_ct2, if_pos ⟨hj, w⟩])
        · have := hq.2.1
          omega
  refine H.gen (fun k i => P k i ∨ (k = 1 ∧ i = j) ∨ (k = 2 ∧ i = j)) ht (fun k i p => h1 k i (fun z => p (Or.inl z)) (fun z => p (Or.inr (Or.inl z))) (fun z => p (Or.inr (Or.inr z)))) (fun k i a e p q => ?_) (fun k i a e p q k' i' e' p' q' => ?_) (fun k i k' i' a e e' p p' q q' => ?_) (fun k i a e p q => ?_)
  · rcases p with p | ⟨rfl, rfl⟩ | ⟨rfl, rfl⟩
    · exact (hn k i a e p q).1
    · rw [c1] at q
      cases q
      exact hla
    · obtain ⟨rfl, z1, rfl⟩ := c2 _ _ _ _ q
      rcases hl.2.2.2.2 with ⟨z, _⟩ | ⟨_, z⟩
      · omega
      · exact z
  · rcases p with p | ⟨rfl, rfl⟩ | ⟨rfl, rfl⟩
    · exact (hn k i a e p q).2.1 k' i' e' q'
    · rw [c1] at q
      cases q
      exact p' (Or.inr (Or.inl (H.2 _ _ _ _ _ _ _ q' (c1 s be))))
    · obtain ⟨rfl, z1, rfl⟩ := c2 _ _ _ _ q
      exact p' (Or.inr (Or.inr (old _ _ _ q' z1)))
  · have la2 : ∀ e, z_ct G s2 be2 2 j = some (z_la (z_b G) j, e) → False := fun e q => by
      obtain ⟨g1, g2, g3⟩ := c2 _ _ _ _ q
      rcases hl.2.2.2.2 with ⟨z, _⟩ | ⟨_, z⟩
      · omega
      · rw [← g1] at z
        have := hl.1.2.2.symm.trans z.2.2
        cases this
    rcases p with p | ⟨rfl, rfl⟩ | ⟨rfl, rfl⟩ <;> rcases p' with p' | ⟨rfl, rfl⟩ | ⟨rfl, rfl⟩
    · exact hn2 k i k' i' a e e' p p' q q'
    · rw [c1] at q'
      cases q'
      exact ((hn _ _ _ _ p q).2.1 _ _ _ (c1 s be)).elim
    · obtain ⟨rfl, z1, rfl⟩ := c2 _ _ _ _ q'
      exact ((hn _ _ _ _ p q).2.2 rfl).elim
    · rw [c1] at q
      cases q
      exact ((hn _ _ _ _ p' q').2.1 _ _ _ (c1 s be)).elim
    · exact ⟨rfl, rfl⟩
    · rw [c1] at q
      cases q
      exact (la2 _ q').elim
    · obtain ⟨rfl, z1, rfl⟩ := c2 _ _ _ _ q
      exact ((hn _ _ _ _ p' q').2.2 rfl).elim
    · rw [c1] at q'
      cases q'
      exact (la2 _ q).elim
    · exact ⟨rfl, rfl⟩
  · have hq := H.1 _ _ _ _ q
    refine hf a hq.2.1 (fun z => ?_) (fun z => ?_)
    · subst z
      exact p (Or.inr (Or.inl (H.2 _ _ _ _ _ _ _ q (c1 s be))))
    · subst z
      rcases Nat.eq_zero_or_pos (b_ls be j).2.2 with w | w
      · have := hq.1
        rw [(hL j hj).2.2 w] at this
        exact htE this
      · exact p (Or.inr (Or.inr (H.2 _ _ _ _ _ _ _ q (show z_ct G s be 2 j = some ((b_ls be j).2.1, _) by rw [z_ct2, if_pos ⟨hj, w⟩]))))
end
section
/-! leaf methods -/
def zm_blocked (acc bal : Int32) : Bool := (acc == 0 && decide (bal < 0)) || (acc == 1 && decide (bal < -500))
def zm_hour (minute : Int32) : Int32 := minute / 60 - minute / 60 / 24 * 24
def zm_peak (minute : Int32) : Bool := (!decide (zm_hour minute < 7) && !decide (9 < zm_hour minute)) || (!decide (zm_hour minute < 16) && !decide (18 < zm_hour minute))
/-- the TARIFF in force: the last told of the first k -/
def zm_inF (tars : List zTar) (owner day : Int32) : Nat → Option zTar
  | 0 => none
  | k + 1 => match tars[k]? with
    | none => none
    | some t => if t.2.1 = owner ∧ t.2.2.2.2.2 ≤ day then some t else zm_inF tars owner day k
theorem zm_inF_s {tars : List zTar} {owner day : Int32} {k : Nat} {t : zTar} (h : tars[k]? = some t) : zm_inF tars owner day (k + 1) = if t.2.1 = owner ∧ t.2.2.2.2.2 ≤ day then some t else zm_inF tars owner day k := by
  show (match tars[k]? with
    | none => none
    | some t => if t.2.1 = owner ∧ t.2.2.2.2.2 ≤ day then some t else zm_inF tars owner day k) = _
  rw [h]
def zm_inForce (tars : List zTar) (owner day : Int32) : Option zTar := zm_inF tars owner day tars.length
def zm_price1 (len rate step peak rank em minute : Int32) : Int32 :=
  let p := len * (rate + step * rank) * (10 + em) / 10
  if zm_peak minute then p + p * peak / 100 else p
def zm_price (tars : List zTar) (owner len rank em minute : Int32) : Int32 := match zm_inForce tars owner (minute / 1440) with
  | none => 0
  | some t => zm_price1 len t.2.2.1 t.2.2.2.1 t.2.2.2.2.1 rank em minute
def zm_toll (tars : List zTar) (x : zSeg) (v : zVeh) (minute : Int32) : Int32 := if zf_hasBit v.2.2.2.1 x.2.2.2.2 then 0 else zm_price tars x.2.2.2.2 x.2.2.2.1 v.2.1.1 v.2.1.2.1 minute
theorem z_get {G : zG} {h : zH} {top a x e n cap i : Nat} {m : Int32} {f : Nat → Option Nat} (hA : z_AL G h top a m e n cap f) (hi : i < n) (hf : f i = some x) (l : Launch) : z_Ct l yJx4a65c_get_915e3 cJx4a65c_get_915e3 2 (some (.object "java/lang/Object")) 3 G [.ref a, .int (nI i)] h top (z_R (some (.ref x)) h top) := by
  obtain ⟨h1, h2, h3, h4, h5⟩ := hA
  rcases h5 with h5 | ⟨h5, he⟩
  · omega
  · exact c_Jx4a65c_get_915e3 l G h top a e cap x m (nI n) (nI i) f h1 he (nI_pos (by omega)) (nI_lt hi (by omega)) (vp_in_nI (by omega) (by omega)) (by rw [nI_clamp (by omega), hf]; rfl)
theorem z_size {G : zG} {h : zH} {top a e n cap : Nat} {m : Int32} {f : Nat → Option Nat} (hA : z_AL G h top a m e n cap f) (l : Launch) : z_Ct l yJx4a65c_size_8abf5 cJx4a65c_size_8abf5 1 (some .int) 1 G [.ref a] h top (z_R (some (.int (nI n))) h top) := c_Jx4a65c_size_8abf5 l G h top a e m (nI n) hA.1

set_option maxRecDepth 20000 in
set_option maxHeartbeats 4000000 in
theorem c_X3_isShut (l : Launch) (G : zG) (h : zH) (top : Nat) (x : zSeg) (i : Nat) (hx : z_at G h top x.1 (z_segC i x)) (minute : Int32) : z_Ct l yX3_isShut cX3_isShut 3 (some .boolean) 1 G [.ref x.1, .int minute] h top (z_R (some (.int 0)) h top) := by
  refine z_of (own := RX3) (nm := "isShut") (by decide) rfl rfl (by decide) (Nat.le_of_ble_eq_true rfl) (fun X hX hq => ?_)
  replace hX : z_ok X cX3_isShut 3 RX3 (some .boolean) "isShut" 1 G := hX
  show z_Z X h top 0 [(0, .ref x.1), (1, .int minute)] []
  refine r_iconst (v := 0) hX (by decide) dX3_isShut_0 ?_
  refine r_istore_n (lv' := [(2, .int 0), (0, .ref x.1), (1, .int minute)]) hX rfl (by decide) rfl dX3_isShut_1 ?_
  refine r_iload_n hX rfl 0 rfl dX3_isShut_2 ?_
  refine r_aload_n hX rfl 1 rfl dX3_isShut_3 ?_
  refine r_getf hX fl_X3_34 hx rfl dX3_isShut_4 ?_
  refine r_icmp_ge (tgt := 56) hX dX3_isShut_7 rfl (fun _ => ?_) (fun c => False.elim (absurd c (by decide)))
  refine r_iconst (v := 0) hX (by decide) dX3_isShut_56 ?_
  exact r_zret hX hq (by decide) ⟨rfl, rfl, rfl⟩ dX3_isShut_57

set_option maxRecDepth 20000 in
set_option maxHeartbeats 4000000 in
theorem c_X7_isBlocked (l : Launch) (G : zG) (h : zH) (top : Nat) (v : zVeh) (iv : Nat) (hv : z_at G h top v.1 (z_vehC iv v)) : z_Ct l yX7_isBlocked cX7_isBlocked 1 (some .boolean) 1 G [.ref v.1] h top (z_R (some (.int (zf_b (zm_blocked v.2.1.2.2 v.2.2.1)))) h top) := by
  refine z_of (own := RX7) (nm := "isBlocked") (by decide) rfl rfl (by decide) (Nat.le_of_ble_eq_true rfl) (fun X hX hq => ?_)
  replace hX : z_ok X cX7_isBlocked 1 RX7 (some .boolean) "isBlocked" 1 G := hX
  show z_Z X h top 0 [(0, .ref v.1)] []
  refine r_aload_n hX rfl 0 rfl dX7_isBlocked_0 ?_
  refine r_getf hX fl_X7_21 hv rfl dX7_isBlocked_1 ?_
  refine r_if_ne (tgt := 14) hX dX7_isBlocked_4 rfl (fun c4 => ?_) (fun c4 => ?_)
  · skip
    refine r_aload_n hX rfl 0 rfl dX7_isBlocked_14 ?_
    refine r_getf hX fl_X7_21 hv rfl dX7_isBlocked_15 ?_
    refine r_iconst (v := 1) hX (by decide) dX7_isBlocked_18 ?_
    refine r_icmp_ne (tgt := 36) hX dX7_isBlocked_19 rfl (fun c19 => ?_) (fun c19 => ?_)
    · skip
      refine r_iconst (v := 0) hX (by decide) dX7_isBlocked_36 ?_
      exact r_zret hX hq (by decide) ⟨by simp [zf_b, zm_blocked, c4, c19] <;> first | decide | simp_all, rfl, rfl⟩ dX7_isBlocked_37
    · skip
      refine r_aload_n hX rfl 0 rfl dX7_isBlocked_22 ?_
      refine r_getf hX fl_X7_24 hv rfl dX7_isBlocked_23 ?_
      refine r_sipush (v := (-500)) hX (by decide) dX7_isBlocked_26 ?_
      refine r_icmp_ge (tgt := 36) hX dX7_isBlocked_29 rfl (fun c29 => ?_) (fun c29 => ?_)
      · skip
        refine r_iconst (v := 0) hX (by decide) dX7_isBlocked_36 ?_
        exact r_zret hX hq (by decide) ⟨by simp [zf_b, zm_blocked, c4, c19, c29] <;> first | decide | simp_all, rfl, rfl⟩ dX7_isBlocked_37
      · skip
        refine r_iconst (v := 1) hX (by decide) dX7_isBlocked_32 ?_
        refine r_goto (tgt := 37) hX rfl dX7_isBlocked_33 ?_
        exact r_zret hX hq (by decide) ⟨by simp [zf_b, zm_blocked, c4, c19, c29] <;> first | decide | simp_all, rfl, rfl⟩ dX7_isBlocked_37
  · skip
    refine r_aload_n hX rfl 0 rfl dX7_isBlocked_7 ?_
    refine r_getf hX fl_X7_24 hv rfl dX7_isBlocked_8 ?_
    refine r_if_lt (tgt := 32) hX dX7_isBlocked_11 rfl (fun c11 => ?_) (fun c11 => ?_)
    · skip
      refine r_iconst (v := 1) hX (by decide) dX7_isBlocked_32 ?_
      refine r_goto (tgt := 37) hX rfl dX7_isBlocked_33 ?_
      exact r_zret hX hq (by decide) ⟨by simp [zf_b, zm_blocked, c4, c11] <;> first | decide | simp_all, rfl, rfl⟩ dX7_isBlocked_37
    · skip
      refine r_aload_n hX rfl 0 rfl dX7_isBlocked_14 ?_
      refine r_getf hX fl_X7_21 hv rfl dX7_isBlocked_15 ?_
      refine r_iconst (v := 1) hX (by decide) dX7_isBlocked_18 ?_
      refine r_icmp_ne (tgt := 36) hX dX7_isBlocked_19 rfl (fun c19 => ?_) (fun c19 => ?_)
      · skip
        refine r_iconst (v := 0) hX (by decide) dX7_isBlocked_36 ?_
        exact r_zret hX hq (by decide) ⟨by simp [zf_b, zm_blocked, c4, c11, c19] <;> first | decide | simp_all, rfl, rfl⟩ dX7_isBlocked_37
      · skip
        refine r_aload_n hX rfl 0 rfl dX7_isBlocked_22 ?_
        refine r_getf hX fl_X7_24 hv rfl dX7_isBlocked_23 ?_
        refine r_sipush (v := (-500)) hX (by decide) dX7_isBlocked_26 ?_
        refine r_icmp_ge (tgt := 36) hX dX7_isBlocked_29 rfl (fun c29 => ?_) (fun c29 => ?_)
        · skip
          refine r_iconst (v := 0) hX (by decide) dX7_isBlocked_36 ?_
          exact r_zret hX hq (by decide) ⟨by simp [zf_b, zm_blocked, c4, c11, c19, c29] <;> first | decide | simp_all, rfl, rfl⟩ dX7_isBlocked_37
        · skip
          refine r_iconst (v := 1) hX (by decide) dX7_isBlocked_32 ?_
          refine r_goto (tgt := 37) hX rfl dX7_isBlocked_33 ?_
          exact r_zret hX hq (by decide) ⟨by simp [zf_b, zm_blocked, c4, c11, c19, c29] <;> first | decide | simp_all, rfl, rfl⟩ dX7_isBlocked_37

set_option maxRecDepth 20000 in
set_option maxHeartbeats 4000000 in
theorem c_X7_isExempt (l : Launch) (G : zG) (h : zH) (top : Nat) (v : zVeh) (iv : Nat) (hv : z_at G h top v.1 (z_vehC iv v)) (owner : Int32) : z_Ct l yX7_isExempt cX7_isExempt 2 (some .boolean) 2 G [.ref v.1, .int owner] h top (z_R (some (.int (zf_b (zf_hasBit v.2.2.2.1 owner)))) h top) := by
  refine z_of (own := RX7) (nm := "isExempt") (by decide) rfl rfl (by decide) (Nat.le_of_ble_eq_true rfl) (fun X hX hq => ?_)
  replace hX : z_ok X cX7_isExempt 2 RX7 (some .boolean) "isExempt" 2 G := hX
  show z_Z X h top 0 [(0, .ref v.1), (1, .int owner)] []
  refine r_aload_n hX rfl 0 rfl dX7_isExempt_0 ?_
  refine r_getf hX fl_X7_27 hv rfl dX7_isExempt_1 ?_
  refine r_iload_n hX rfl 1 rfl dX7_isExempt_4 ?_
  refine r_callSNR (As := [.int v.2.2.2.1, .int owner]) (rest := []) (rv := some (.int (zf_b (zf_hasBit v.2.2.2.1 owner)))) (st1 := [.int (zf_b (zf_hasBit v.2.2.2.1 owner))]) hX cs_X7_30 (by decide) (fun l => c_X8_hasBit l G h top v.2.2.2.1 owner) rfl rfl rfl (Nat.le_of_ble_eq_true rfl) dX7_isExempt_5 ?_
  exact r_zret hX hq (by first | assumption | exact zf_b01 _) ⟨rfl, rfl, rfl⟩ dX7_isExempt_8

set_option maxRecDepth 20000 in
set_option maxHeartbeats 4000000 in
theorem c_X6_isPeakHour (l : Launch) (G : zG) (h : zH) (top : Nat) (minute : Int32) : z_Ct l yX6_isPeakHour cX6_isPeakHour 2 (some .boolean) 1 G [.int minute] h top (z_R (some (.int (zf_b (zm_peak minute)))) h top) := by
  refine z_of (own := RX6) (nm := "isPeakHour") (by decide) rfl rfl (by decide) (Nat.le_of_ble_eq_true rfl) (fun X hX hq => ?_)
  replace hX : z_ok X cX6_isPeakHour 2 RX6 (some .boolean) "isPeakHour" 1 G := hX
  show z_Z X h top 0 [(0, .int minute)] []
  refine r_iload_n hX rfl 0 rfl dX6_isPeakHour_0 ?_
  refine r_bipush (v := 60) hX (by decide) dX6_isPeakHour_1 ?_
  refine r_idiv hX (by decide) dX6_isPeakHour_3 ?_
  refine r_bipush (v := 24) hX (by decide) dX6_isPeakHour_4 ?_
  refine r_irem hX (by decide) dX6_isPeakHour_6 ?_
  obtain ⟨hr, ehr⟩ : ∃ z, z = zm_hour minute := ⟨_, rfl⟩
  rw [show minute / 60 - minute / 60 / 24 * 24 = hr from ehr.symm]
  refine r_istore_n (lv' := [(1, .int hr), (0, .int minute)]) hX rfl (by decide) rfl dX6_isPeakHour_7 ?_
  refine r_iload_n hX rfl 0 rfl dX6_isPeakHour_8 ?_
  refine r_bipush (v := 7) hX (by decide) dX6_isPeakHour_9 ?_
  refine r_icmp_lt (tgt := 20) hX dX6_isPeakHour_11 rfl (fun c11 => ?_) (fun c11 => ?_)
  · skip
    refine r_iload_n hX rfl 0 rfl dX6_isPeakHour_20 ?_
    refine r_bipush (v := 16) hX (by decide) dX6_isPeakHour_21 ?_
    refine r_icmp_lt (tgt := 36) hX dX6_isPeakHour_23 rfl (fun c23 => ?_) (fun c23 => ?_)
    · skip
      refine r_iconst (v := 0) hX (by decide) dX6_isPeakHour_36 ?_
      exact r_zret hX hq (by decide) ⟨by simp [zf_b, zm_peak, ← ehr, c11, c23], rfl, rfl⟩ dX6_isPeakHour_37
    · skip
      refine r_iload_n hX rfl 0 rfl dX6_isPeakHour_26 ?_
      refine r_bipush (v := 18) hX (by decide) dX6_isPeakHour_27 ?_
      refine r_icmp_gt (tgt := 36) hX dX6_isPeakHour_29 rfl (fun c29 => ?_) (fun c29 => ?_)
      · skip
        refine r_iconst (v := 0) hX (by decide) dX6_isPeakHour_36 ?_
        exact r_zret hX hq (by decide) ⟨by simp [zf_b, zm_peak, ← ehr, c11, c23, c29], rfl, rfl⟩ dX6_isPeakHour_37
      · skip
        refine r_iconst (v := 1) hX (by decide) dX6_isPeakHour_32 ?_
        refine r_goto (tgt := 37) hX rfl dX6_isPeakHour_33 ?_
        exact r_zret hX hq (by decide) ⟨by simp [zf_b, zm_peak, ← ehr, c11, c23, c29], rfl, rfl⟩ dX6_isPeakHour_37
  · skip
    refine r_iload_n hX rfl 0 rfl dX6_isPeakHour_14 ?_
    refine r_bipush (v := 9) hX (by decide) dX6_isPeakHour_15 ?_
    refine r_icmp_le (tgt := 32) hX dX6_isPeakHour_17 rfl (fun c17 => ?_) (fun c17 => ?_)
    · skip
      refine r_iconst (v := 1) hX (by decide) dX6_isPeakHour_32 ?_
      refine r_goto (tgt := 37) hX rfl dX6_isPeakHour_33 ?_
      exact r_zret hX hq (by decide) ⟨by simp [zf_b, zm_peak, ← ehr, c11, c17], rfl, rfl⟩ dX6_isPeakHour_37
    · skip
      refine r_iload_n hX rfl 0 rfl dX6_isPeakHour_20 ?_
      refine r_bipush (v := 16) hX (by decide) dX6_isPeakHour_21 ?_
      refine r_icmp_lt (tgt := 36) hX dX6_isPeakHour_23 rfl (fun c23 => ?_) (fun c23 => ?_)
      · skip
        refine r_iconst (v := 0) hX (by decide) dX6_isPeakHour_36 ?_
        exact r_zret hX hq (by decide) ⟨by simp [zf_b, zm_peak, ← ehr, c11, c17, c23], rfl, rfl⟩ dX6_isPeakHour_37
      · skip
        refine r_iload_n hX rfl 0 rfl dX6_isPeakHour_26 ?_
        refine r_bipush (v := 18) hX (by decide) dX6_isPeakHour_27 ?_
        refine r_icmp_gt (tgt := 36) hX dX6_isPeakHour_29 rfl (fun c29 => ?_) (fun c29 => ?_)
        · skip
          refine r_iconst (v := 0) hX (by decide) dX6_isPeakHour_36 ?_
          exact r_zret hX hq (by decide) ⟨by simp [zf_b, zm_peak, ← ehr, c11, c17, c23, c29], rfl, rfl⟩ dX6_isPeakHour_37
        · skip
          refine r_iconst (v := 1) hX (by decide) dX6_isPeakHour_32 ?_
          refine r_goto (tgt := 37) hX rfl dX6_isPeakHour_33 ?_
          exact r_zret hX hq (by decide) ⟨by simp [zf_b, zm_peak, ← ehr, c11, c17, c23, c29], rfl, rfl⟩ dX6_isPeakHour_37

set_option maxRecDepth 20000 in
set_option maxHeartbeats 4000000 in
theorem c_X6_isHoliday (l : Launch) (G : zG) (h : zH) (top : Nat) (t0 lst hol : Nat) (day : Int32) (ht : z_at G h top t0 (.inr (7, [.ref lst, .ref hol, .int 0]))) (hh : z_at G h top hol (.inl (z_aZ G, 51, .inl (fun _ => 0)))) : z_Ct l yX6_isHoliday cX6_isHoliday 2 (some .boolean) 1 G [.ref t0, .int day] h top (z_R (some (.int 0)) h top) := by
  refine z_of (own := RX6) (nm := "isHoliday") (by decide) rfl rfl (by decide) (Nat.le_of_ble_eq_true rfl) (fun X hX hq => ?_)
  replace hX : z_ok X cX6_isHoliday 2 RX6 (some .boolean) "isHoliday" 1 G := hX
  show z_Z X h top 0 [(0, .ref t0), (1, .int day)] []
  refine r_iload_n hX rfl 1 rfl dX6_isHoliday_0 ?_
  refine r_if_lt (tgt := 26) hX dX6_isHoliday_1 rfl (fun c1 => ?_) (fun c1 => ?_)
  · skip
    refine r_iconst (v := 0) hX (by decide) dX6_isHoliday_26 ?_
    exact r_zret hX hq (by decide) ⟨rfl, rfl, rfl⟩ dX6_isHoliday_27
  · skip
    refine r_iload_n hX rfl 1 rfl dX6_isHoliday_4 ?_
    refine r_aload_n hX rfl 0 rfl dX6_isHoliday_5 ?_
    refine r_getf hX fl_X6_18 ht rfl dX6_isHoliday_6 ?_
    refine r_alenZ (v := 51) hX hh rfl dX6_isHoliday_9 ?_
    refine r_icmp_ge (tgt := 26) hX dX6_isHoliday_10 rfl (fun c10 => ?_) (fun c10 => ?_)
    · skip
      refine r_iconst (v := 0) hX (by decide) dX6_isHoliday_26 ?_
      exact r_zret hX hq (by decide) ⟨rfl, rfl, rfl⟩ dX6_isHoliday_27
    · skip
      have hin : vp_in day 51 := by
        intro z
        rcases z with z | z
        · simp only [Int32.lt_iff_toInt_lt, Int32.le_iff_toInt_le] at z c1
          omega
        · have e51 : (51 : Int32).toInt = 51 := by decide
          have e0 : (0 : Int32).toInt = 0 := by decide
          simp only [Int32.lt_iff_toInt_lt, Int32.le_iff_toInt_le, e51, e0] at c1 c10
          have : day.toNatClampNeg = day.toInt.toNat := rfl
          omega
      refine r_aload_n hX rfl 0 rfl dX6_isHoliday_13 ?_
      refine r_getf hX fl_X6_18 ht rfl dX6_isHoliday_14 ?_
      refine r_iload_n hX rfl 1 rfl dX6_isHoliday_17 ?_
      refine r_zald (v := 0) hX hh hin rfl dX6_isHoliday_18 ?_
      refine r_if_eq (tgt := 26) hX dX6_isHoliday_19 rfl (fun _ => ?_) (fun c => False.elim (absurd c (by decide)))
      refine r_iconst (v := 0) hX (by decide) dX6_isHoliday_26 ?_
      exact r_zret hX hq (by decide) ⟨rfl, rfl, rfl⟩ dX6_isHoliday_27

set_option maxRecDepth 20000 in
set_option maxHeartbeats 4000000 in
theorem f_inF_step {X : zX} {G : zG} {h : zH} {top : Nat} {Post : Option Value → zH → Nat → Prop} (t0 lst hol : Nat) (tars : List zTar) (m : Int32) (e cap : Nat) (ht : z_at G h top t0 (.inr (7, [.ref lst, .ref hol, .int 0]))) (hA : z_AL G h top lst m e tars.length cap (fun i : Nat => (tars.map (fun x => x.1))[i]?)) (htar : ∀ (i : Nat) (t : zTar), tars[i]? = some t → z_at G h top t.1 (z_tarC t)) (k : Nat) (owner day : Int32) (r : Option zTar) (hk : k < tars.length) (hp2 : zm_inF tars owner day (k + 1) = r) (hp : ∀ r2 : Option zTar, r2 = r → Post (some (va_rf (r2.map (fun t => t.1)))) h top) (ih : zm_inF tars owner day k = r → z_Z X h top 10 [(3, .int (nI k + (-1))), (0, .ref t0), (1, .int owner), (2, .int day)] []) (hX : z_ok X cX6_inForce 5 RX6 (some (.object "GantryHall$Tariff")) "inForce" 4 G) (hq : z_mq X (Post)) : z_Z X h top 10 [(3, .int (nI k)), (0, .ref t0), (1, .int owner), (2, .int day)] [] := by
  refine r_iload_n hX rfl 0 rfl dX6_inForce_10 ?_
  refine r_if_lt (tgt := 54) hX dX6_inForce_11 rfl (fun c => False.elim (absurd c (nI_pos (show k < 2 ^ 31 by have := hA.2.1; have := hA.2.2.1; omega)))) (fun _ => ?_)
  obtain ⟨t, ht2⟩ : ∃ t, tars[k]? = some t := ⟨tars[k], List.getElem?_eq_getElem hk⟩
  have htt := htar k t ht2
  refine r_aload_n hX rfl 1 rfl dX6_inForce_14 ?_
  refine r_getf hX fl_X6_12 ht rfl dX6_inForce_15 ?_
  refine r_iload_n hX rfl 0 rfl dX6_inForce_18 ?_
  refine r_callVR (As := [.int (nI k)]) (rest := []) (rv := some (.ref t.1)) (st1 := [.ref t.1]) hX cs_X6_34 (by decide) (fun l => z_get hA hk (by show (tars.map (fun x => x.1))[k]? = _; rw [List.getElem?_map, ht2]; rfl) l) hA.1 rfl rfl rfl rfl (Nat.le_of_ble_eq_true rfl) dX6_inForce_19 ?_
  refine r_cast (ci := 6) hX rfl htt cl_X6_38 dX6_inForce_22 ?_
  refine r_astore (lv' := [(4, .ref t.1), (3, .int (nI k)), (0, .ref t0), (1, .int owner), (2, .int day)]) hX (by decide) rfl dX6_inForce_25 ?_
  refine r_aload hX 0 rfl dX6_inForce_27 ?_
  refine r_getf hX fl_X6_40 htt rfl dX6_inForce_29 ?_
  refine r_iload_n hX rfl 3 rfl dX6_inForce_32 ?_
  refine r_icmp_ne (tgt := 48) hX dX6_inForce_33 rfl (fun c33 => ?_) (fun c33 => ?_)
  · skip
    refine r_iinc (q := 1) (lv' := [(3, .int ((nI k) + (-1))), (4, .ref t.1), (0, .ref t0), (1, .int owner), (2, .int day)]) hX rfl (congrArg (HAdd.hAdd (nI k)) (show Int32.ofInt (-1) = (-1 : Int32) by decide)) (by decide) rfl dX6_inForce_48 ?_
    refine r_goto (tgt := 10) hX rfl dX6_inForce_51 ?_
    refine r_lv [0, 2, 3, 4] (lv2 := [(3, .int (nI k + (-1))), (0, .ref t0), (1, .int owner), (2, .int day)]) rfl ?_
    exact ih ((if_neg (by intro z; first | exact c33 z.1 | exact absurd z.2 (Int32.not_le.mpr c42))).symm.trans ((zm_inF_s ht2).symm.trans hp2))
  · skip
    refine r_aload hX 0 rfl dX6_inForce_36 ?_
    refine r_getf hX fl_X6_43 htt rfl dX6_inForce_38 ?_
    refine r_iload_n hX rfl 4 rfl dX6_inForce_41 ?_
    refine r_icmp_gt (tgt := 48) hX dX6_inForce_42 rfl (fun c42 => ?_) (fun c42 => ?_)
    · skip
      refine r_iinc (q := 1) (lv' := [(3, .int ((nI k) + (-1))), (4, .ref t.1), (0, .ref t0), (1, .int owner), (2, .int day)]) hX rfl (congrArg (HAdd.hAdd (nI k)) (show Int32.ofInt (-1) = (-1 : Int32) by decide)) (by decide) rfl dX6_inForce_48 ?_
      refine r_goto (tgt := 10) hX rfl dX6_inForce_51 ?_
      refine r_lv [0, 2, 3, 4] (lv2 := [(3, .int (nI k + (-1))), (0, .ref t0), (1, .int owner), (2, .int day)]) rfl ?_
      exact ih ((if_neg (by intro z; first | exact c33 z.1 | exact absurd z.2 (Int32.not_le.mpr c42))).symm.trans ((zm_inF_s ht2).symm.trans hp2))
    · skip
      refine r_aload hX 0 rfl dX6_inForce_45 ?_
      exact r_aret hX rfl (Or.inl ⟨_, rfl⟩) hq (Or.inr ⟨_, rfl⟩) (hp (some t) (by rw [← hp2, zm_inF_s ht2, if_pos ⟨c33, Int32.not_lt.mp c42⟩])) dX6_inForce_47

set_option maxRecDepth 20000 in
set_option maxHeartbeats 4000000 in
theorem f_inF_end {X : zX} {G : zG} {h : zH} {top : Nat} {Post : Option Value → zH → Nat → Prop} (t0 : Nat) (owner day : Int32) (r : Option zTar) (hp2 : none = r) (hp : ∀ r2 : Option zTar, r2 = r → Post (some (va_rf (r2.map (fun t => t.1)))) h top) (hX : z_ok X cX6_inForce 5 RX6 (some (.object "GantryHall$Tariff")) "inForce" 4 G) (hq : z_mq X (Post)) : z_Z X h top 10 [(3, .int (-1)), (0, .ref t0), (1, .int owner), (2, .int day)] [] := by
  refine r_iload_n hX rfl 0 rfl dX6_inForce_10 ?_
  refine r_if_lt (tgt := 54) hX dX6_inForce_11 rfl (fun _ => ?_) (fun c => False.elim (absurd c (by decide)))
  refine r_null hX dX6_inForce_54 ?_
  exact r_aret hX rfl (Or.inl ⟨_, rfl⟩) hq (Or.inl rfl) (hp none hp2) dX6_inForce_55

theorem f_inF_loop {X : zX} {G : zG} {h : zH} {top : Nat} {Post : Option Value → zH → Nat → Prop} (t0 lst hol : Nat) (tars : List zTar) (m : Int32) (e cap : Nat) (ht : z_at G h top t0 (.inr (7, [.ref lst, .ref hol, .int 0]))) (hA : z_AL G h top lst m e tars.length cap (fun i : Nat => (tars.map (fun x => x.1))[i]?)) (htar : ∀ (i : Nat) (t : zTar), tars[i]? = some t → z_at G h top t.1 (z_tarC t)) (owner day : Int32) (r : Option zTar) (hp : ∀ r2 : Option zTar, r2 = r → Post (some (va_rf (r2.map (fun t => t.1)))) h top) (hX : z_ok X cX6_inForce 5 RX6 (some (.object "GantryHall$Tariff")) "inForce" 4 G) (hq : z_mq X Post) : ∀ k : Nat, k ≤ tars.length → zm_inF tars owner day k = r → z_Z X h top 10 [(3, .int (nI k + (-1))), (0, .ref t0), (1, .int owner), (2, .int day)] [] := by
  intro k
  induction k with
  | zero =>
    intro hk hp2
    rw [show nI 0 + (-1) = (-1 : Int32) by decide]
    exact f_inF_end t0 owner day r hp2 hp hX hq
  | succ k ih =>
    intro hk hp2
    rw [pk_m1]
    exact f_inF_step t0 lst hol tars m e cap ht hA htar k owner day r (by omega) hp2 hp (ih (by omega)) hX hq
set_option maxRecDepth 20000 in
set_option maxHeartbeats 4000000 in
theorem c_X6_inForce (l : Launch) (G : zG) (h : zH) (top : Nat) (t0 lst hol : Nat) (tars : List zTar) (m : Int32) (e cap : Nat) (ht : z_at G h top t0 (.inr (7, [.ref lst, .ref hol, .int 0]))) (hA : z_AL G h top lst m e tars.length cap (fun i : Nat => (tars.map (fun x => x.1))[i]?)) (htar : ∀ (i : Nat) (t : zTar), tars[i]? = some t → z_at G h top t.1 (z_tarC t)) (owner day : Int32) : z_Ct l yX6_inForce cX6_inForce 5 (some (.object "GantryHall$Tariff")) 4 G [.ref t0, .int owner, .int day] h top (z_R (some (va_rf ((zm_inForce tars owner day).map (fun t => t.1)))) h top) := by
  refine z_of (own := RX6) (nm := "inForce") (by decide) rfl rfl (by decide) (Nat.le_of_ble_eq_true rfl) (fun X hX hq => ?_)
  replace hX : z_ok X cX6_inForce 5 RX6 (some (.object "GantryHall$Tariff")) "inForce" 4 G := hX
  show z_Z X h top 0 [(0, .ref t0), (1, .int owner), (2, .int day)] []
  refine r_aload_n hX rfl 0 rfl dX6_inForce_0 ?_
  refine r_getf hX fl_X6_12 ht rfl dX6_inForce_1 ?_
  refine r_callVR (As := []) (rest := []) (rv := some (.int (nI tars.length))) (st1 := [.int (nI tars.length)]) hX cs_X6_22 (by decide) (fun l => z_size hA l) hA.1 rfl rfl rfl rfl (Nat.le_of_ble_eq_true rfl) dX6_inForce_4 ?_
  refine r_iconst (v := 1) hX (by decide) dX6_inForce_7 ?_
  refine r_isub hX dX6_inForce_8 ?_
  refine r_istore_n (lv' := [(3, .int ((nI tars.length) - 1)), (0, .ref t0), (1, .int owner), (2, .int day)]) hX rfl (by decide) rfl dX6_inForce_9 ?_
  refine r_lv [0, 1, 2, 3] (lv2 := [(3, .int (nI tars.length + (-1))), (0, .ref t0), (1, .int owner), (2, .int day)]) (by rw [Int32.sub_eq_add_neg]; rfl) ?_
  exact f_inF_loop t0 lst hol tars m e cap ht hA htar owner day (zm_inForce tars owner day) (fun r2 e => ⟨by rw [e], rfl, rfl⟩) hX hq tars.length (Nat.le_refl _) rfl

theorem c_inF_none (l : Launch) (G : zG) (h : zH) (top : Nat) (t0 lst hol : Nat) (tars : List zTar) (m : Int32) (e cap : Nat) (ht : z_at G h top t0 (.inr (7, [.ref lst, .ref hol, .int 0]))) (hA : z_AL G h top lst m e tars.length cap (fun i : Nat => (tars.map (fun x => x.1))[i]?)) (htar : ∀ (i : Nat) (t : zTar), tars[i]? = some t → z_at G h top t.1 (z_tarC t)) (owner day : Int32) (hq : zm_inForce tars owner day = none) : z_Ct l yX6_inForce cX6_inForce 5 (some (.object "GantryHall$Tariff")) 4 G [.ref t0, .int owner, .int day] h top (z_R (some .null) h top) := by
  have q := c_X6_inForce l G h top t0 lst hol tars m e cap ht hA htar owner day
  rw [hq] at q
  exact q
theorem c_inF_some (l : Launch) (G : zG) (h : zH) (top : Nat) (t0 lst hol : Nat) (tars : List zTar) (m : Int32) (e cap : Nat) (ht : z_at G h top t0 (.inr (7, [.ref lst, .ref hol, .int 0]))) (hA : z_AL G h top lst m e tars.length cap (fun i : Nat => (tars.map (fun x => x.1))[i]?)) (htar : ∀ (i : Nat) (t : zTar), tars[i]? = some t → z_at G h top t.1 (z_tarC t)) (owner day : Int32) (t : zTar) (hq : zm_inForce tars owner day = some t) : z_Ct l yX6_inForce cX6_inForce 5 (some (.object "GantryHall$Tariff")) 4 G [.ref t0, .int owner, .int day] h top (z_R (some (.ref t.1)) h top) := by
  have q := c_X6_inForce l G h top t0 lst hol tars m e cap ht hA htar owner day
  rw [hq] at q
  exact q
theorem zm_inF_mem {G : zG} {h : zH} {top : Nat} {tars : List zTar} (htar : ∀ (i : Nat) (t : zTar), tars[i]? = some t → z_at G h top t.1 (z_tarC t)) {owner day : Int32} {t : zTar} (hq : zm_inForce tars owner day = some t) : z_at G h top t.1 (z_tarC t) := by
  have key : ∀ k, zm_inF tars owner day k = some t → ∃ i : Nat, tars[i]? = some t := by
    intro k
    induction k with
    | zero => intro q; cases q
    | succ k ih =>
      intro q
      simp only [zm_inF] at q
      split at q
      · cases q
      · rename_i u hu
        split at q
        · cases q; exact ⟨k, hu⟩
        · exact ih q
  obtain ⟨i, hi⟩ := key _ hq
  exact htar i t hi
set_option maxRecDepth 20000 in
set_option maxHeartbeats 4000000 in
theorem c_price_0 (l : Launch) (G : zG) (h : zH) (top : Nat) (t0 lst hol : Nat) (tars : List zTar) (m : Int32) (e cap : Nat) (ht : z_at G h top t0 (.inr (7, [.ref lst, .ref hol, .int 0]))) (hA : z_AL G h top lst m e tars.length cap (fun i : Nat => (tars.map (fun x => x.1))[i]?)) (htar : ∀ (i : Nat) (t : zTar), tars[i]? = some t → z_at G h top t.1 (z_tarC t)) (hh : z_at G h top hol (.inl (z_aZ G, 51, .inl (fun _ => 0)))) (x : zSeg) (i : Nat) (hx : z_at G h top x.1 (z_segC i x)) (rank em minute : Int32) (hno : zm_inForce tars x.2.2.2.2 (minute / 1440) = none) : z_Ct l yX6_price cX6_price 9 (some .int) 5 G [.ref t0, .ref x.1, .int rank, .int em, .int minute] h top (z_R (some (.int 0)) h top) := by
  refine z_of (own := RX6) (nm := "price") (by decide) rfl rfl (by decide) (Nat.le_of_ble_eq_true rfl) (fun X hX hq => ?_)
  replace hX : z_ok X cX6_price 9 RX6 (some .int) "price" 5 G := hX
  show z_Z X h top 0 [(0, .ref t0), (1, .ref x.1), (2, .int rank), (3, .int em), (4, .int minute)] []
  refine r_iload hX 4 rfl dX6_price_0 ?_
  refine r_sipush (v := 1440) hX (by decide) dX6_price_2 ?_
  refine r_idiv hX (by decide) dX6_price_5 ?_
  refine r_istore (lv' := [(5, .int (minute / 1440)), (0, .ref t0), (1, .ref x.1), (2, .int rank), (3, .int em), (4, .int minute)]) hX (by decide) rfl dX6_price_6 ?_
  refine r_aload_n hX rfl 1 rfl dX6_price_8 ?_
  refine r_aload_n hX rfl 2 rfl dX6_price_9 ?_
  refine r_getf hX fl_X6_46 hx rfl dX6_price_10 ?_
  refine r_iload hX 0 rfl dX6_price_13 ?_
  refine r_callVR (As := [.int x.2.2.2.2, .int (minute / 1440)]) (rest := []) (rv := some (.null)) (st1 := [.null]) hX cs_X6_49 (by decide) (fun l => c_inF_none l G h top t0 lst hol tars m e cap ht hA htar x.2.2.2.2 (minute / 1440) hno) ht rfl rfl rfl rfl (Nat.le_of_ble_eq_true rfl) dX6_price_15 ?_
  refine r_astoreN (lv' := [(6, .null), (5, .int (minute / 1440)), (0, .ref t0), (1, .ref x.1), (2, .int rank), (3, .int em), (4, .int minute)]) hX (by decide) rfl dX6_price_18 ?_
  refine r_aloadN hX 0 rfl dX6_price_20 ?_
  refine r_ifnonnullN hX dX6_price_22 ?_
  refine r_iconst (v := 0) hX (by decide) dX6_price_25 ?_
  exact r_iret hX hq ⟨rfl, rfl, rfl⟩ dX6_price_26

set_option maxRecDepth 20000 in
set_option maxHeartbeats 4000000 in
theorem c_price_1 (l : Launch) (G : zG) (h : zH) (top : Nat) (t0 lst hol : Nat) (tars : List zTar) (m : Int32) (e cap : Nat) (ht : z_at G h top t0 (.inr (7, [.ref lst, .ref hol, .int 0]))) (hA : z_AL G h top lst m e tars.length cap (fun i : Nat => (tars.map (fun x => x.1))[i]?)) (htar : ∀ (i : Nat) (t : zTar), tars[i]? = some t → z_at G h top t.1 (z_tarC t)) (hh : z_at G h top hol (.inl (z_aZ G, 51, .inl (fun _ => 0)))) (x : zSeg) (i : Nat) (hx : z_at G h top x.1 (z_segC i x)) (rank em minute : Int32) (t : zTar) (hso : zm_inForce tars x.2.2.2.2 (minute / 1440) = some t) (htt : z_at G h top t.1 (z_tarC t)) : z_Ct l yX6_price cX6_price 9 (some .int) 5 G [.ref t0, .ref x.1, .int rank, .int em, .int minute] h top (z_R (some (.int (zm_price1 x.2.2.2.1 t.2.2.1 t.2.2.2.1 t.2.2.2.2.1 rank em minute))) h top) := by
  refine z_of (own := RX6) (nm := "price") (by decide) rfl rfl (by decide) (Nat.le_of_ble_eq_true rfl) (fun X hX hq => ?_)
  replace hX : z_ok X cX6_price 9 RX6 (some .int) "price" 5 G := hX
  show z_Z X h top 0 [(0, .ref t0), (1, .ref x.1), (2, .int rank), (3, .int em), (4, .int minute)] []
  refine r_iload hX 4 rfl dX6_price_0 ?_
  refine r_sipush (v := 1440) hX (by decide) dX6_price_2 ?_
  refine r_idiv hX (by decide) dX6_price_5 ?_
  refine r_istore (lv' := [(5, .int (minute / 1440)), (0, .ref t0), (1, .ref x.1), (2, .int rank), (3, .int em), (4, .int minute)]) hX (by decide) rfl dX6_price_6 ?_
  refine r_aload_n hX rfl 1 rfl dX6_price_8 ?_
  refine r_aload_n hX rfl 2 rfl dX6_price_9 ?_
  refine r_getf hX fl_X6_46 hx rfl dX6_price_10 ?_
  refine r_iload hX 0 rfl dX6_price_13 ?_
  refine r_callVR (As := [.int x.2.2.2.2, .int (minute / 1440)]) (rest := []) (rv := some (.ref t.1)) (st1 := [.ref t.1]) hX cs_X6_49 (by decide) (fun l => c_inF_some l G h top t0 lst hol tars m e cap ht hA htar x.2.2.2.2 (minute / 1440) t hso) ht rfl rfl rfl rfl (Nat.le_of_ble_eq_true rfl) dX6_price_15 ?_
  refine r_astore (lv' := [(6, .ref t.1), (5, .int (minute / 1440)), (0, .ref t0), (1, .ref x.1), (2, .int rank), (3, .int em), (4, .int minute)]) hX (by decide) rfl dX6_price_18 ?_
  refine r_aload hX 0 rfl dX6_price_20 ?_
  refine r_ifnonnull (tgt := 27) hX rfl dX6_price_22 ?_
  refine r_aload_n hX rfl 3 rfl dX6_price_27 ?_
  refine r_getf hX fl_X6_53 hx rfl dX6_price_28 ?_
  refine r_aload hX 0 rfl dX6_price_31 ?_
  refine r_getf hX fl_X6_56 htt rfl dX6_price_33 ?_
  refine r_aload hX 0 rfl dX6_price_36 ?_
  refine r_getf hX fl_X6_59 htt rfl dX6_price_38 ?_
  refine r_iload_n hX rfl 4 rfl dX6_price_41 ?_
  refine r_imul hX dX6_price_42 ?_
  refine r_iadd hX dX6_price_43 ?_
  refine r_imul hX dX6_price_44 ?_
  refine r_istore (lv' := [(7, .int (x.2.2.2.1 * (t.2.2.1 + (t.2.2.2.1 * rank)))), (6, .ref t.1), (5, .int (minute / 1440)), (0, .ref t0), (1, .ref x.1), (2, .int rank), (3, .int em), (4, .int minute)]) hX (by decide) rfl dX6_price_45 ?_
  refine r_iload hX 0 rfl dX6_price_47 ?_
  refine r_bipush (v := 10) hX (by decide) dX6_price_49 ?_
  refine r_iload_n hX rfl 6 rfl dX6_price_51 ?_
  refine r_iadd hX dX6_price_52 ?_
  refine r_imul hX dX6_price_53 ?_
  refine r_bipush (v := 10) hX (by decide) dX6_price_54 ?_
  refine r_idiv hX (by decide) dX6_price_56 ?_
  refine r_istore (lv' := [(8, .int (((x.2.2.2.1 * (t.2.2.1 + (t.2.2.2.1 * rank))) * (10 + em)) / 10)), (7, .int (x.2.2.2.1 * (t.2.2.1 + (t.2.2.2.1 * rank)))), (6, .ref t.1), (5, .int (minute / 1440)), (0, .ref t0), (1, .ref x.1), (2, .int rank), (3, .int em), (4, .int minute)]) hX (by decide) rfl dX6_price_57 ?_
  refine r_iload hX 8 rfl dX6_price_59 ?_
  refine r_callSR (As := [.int minute]) (rest := []) (rv := some (.int (zf_b (zm_peak minute)))) (st1 := [.int (zf_b (zm_peak minute))]) hX cs_X6_62 (by decide) (fun l => c_X6_isPeakHour l G h top minute) rfl rfl rfl (Nat.le_of_ble_eq_true rfl) dX6_price_61 ?_
  refine r_if_eq (tgt := 92) hX dX6_price_64 rfl (fun c64 => ?_) (fun c64 => ?_)
  · skip
    refine r_iload hX 0 rfl dX6_price_92 ?_
    exact r_iret hX hq ⟨by simp [zm_price1, show zm_peak minute = false from by revert c64; cases zm_peak minute <;> simp [zf_b]], rfl, rfl⟩ dX6_price_94
  · skip
    refine r_aload_n hX rfl 4 rfl dX6_price_67 ?_
    refine r_iload hX 3 rfl dX6_price_68 ?_
    refine r_callVR (As := [.int (minute / 1440)]) (rest := []) (rv := some (.int 0)) (st1 := [.int 0]) hX cs_X6_66 (by decide) (fun l => c_X6_isHoliday l G h top t0 lst hol (minute / 1440) ht hh) ht rfl rfl rfl rfl (Nat.le_of_ble_eq_true rfl) dX6_price_70 ?_
    refine r_if_ne (tgt := 92) hX dX6_price_73 rfl (fun c => False.elim (absurd c (by decide))) (fun _ => ?_)
    refine r_iload hX 0 rfl dX6_price_76 ?_
    refine r_iload hX 0 rfl dX6_price_78 ?_
    refine r_aload hX 2 rfl dX6_price_80 ?_
    refine r_getf hX fl_X6_69 htt rfl dX6_price_82 ?_
    refine r_imul hX dX6_price_85 ?_
    refine r_bipush (v := 100) hX (by decide) dX6_price_86 ?_
    refine r_idiv hX (by decide) dX6_price_88 ?_
    refine r_iadd hX dX6_price_89 ?_
    refine r_istore (lv' := [(8, .int ((((x.2.2.2.1 * (t.2.2.1 + (t.2.2.2.1 * rank))) * (10 + em)) / 10) + (((((x.2.2.2.1 * (t.2.2.1 + (t.2.2.2.1 * rank))) * (10 + em)) / 10) * t.2.2.2.2.1) / 100))), (7, .int (x.2.2.2.1 * (t.2.2.1 + (t.2.2.2.1 * rank)))), (6, .ref t.1), (5, .int (minute / 1440)), (0, .ref t0), (1, .ref x.1), (2, .int rank), (3, .int em), (4, .int minute)]) hX (by decide) rfl dX6_price_90 ?_
    refine r_iload hX 0 rfl dX6_price_92 ?_
    exact r_iret hX hq ⟨by simp [zm_price1, show zm_peak minute = true from by revert c64; cases zm_peak minute <;> simp [zf_b]], rfl, rfl⟩ dX6_price_94

theorem c_price (l : Launch) (G : zG) (h : zH) (top : Nat) (t0 lst hol : Nat) (tars : List zTar) (m : Int32) (e cap : Nat) (ht : z_at G h top t0 (.inr (7, [.ref lst, .ref hol, .int 0]))) (hA : z_AL G h top lst m e tars.length cap (fun i : Nat => (tars.map (fun x => x.1))[i]?)) (htar : ∀ (i : Nat) (t : zTar), tars[i]? = some t → z_at G h top t.1 (z_tarC t)) (hh : z_at G h top hol (.inl (z_aZ G, 51, .inl (fun _ => 0)))) (x : zSeg) (i : Nat) (hx : z_at G h top x.1 (z_segC i x)) (rank em minute : Int32) : z_Ct l yX6_price cX6_price 9 (some .int) 5 G [.ref t0, .ref x.1, .int rank, .int em, .int minute] h top (z_R (some (.int (zm_price tars x.2.2.2.2 x.2.2.2.1 rank em minute))) h top) := by
  unfold zm_price
  cases q : zm_inForce tars x.2.2.2.2 (minute / 1440) with
  | none => exact c_price_0 l G h top t0 lst hol tars m e cap ht hA htar hh x i hx rank em minute q
  | some t => exact c_price_1 l G h top t0 lst hol tars m e cap ht hA htar hh x i hx rank em minute t q (zm_inF_mem htar q)
def zm_isOf (y : zSgt) (va : Nat) (day : Int32) : Bool := decide (y.2.1.1 = va) && (decide (y.2.2.1 / 1440 = day) && decide (y.2.2.2.2 = 0))
def zm_ahead (m1 : Int32) (n1 : Nat) (m2 : Int32) (n2 : Nat) : Bool := decide (m1 < m2) || (decide (m1 = m2) && decide (nI n1 < nI n2))
set_option maxRecDepth 20000 in
set_option maxHeartbeats 4000000 in
theorem c_X4_isOf (l : Launch) (G : zG) (h : zH) (top : Nat) (y : zSgt) (va : Nat) (day : Int32) (hy : z_at G h top y.1 (z_sgtC y)) : z_Ct l yX4_isOf cX4_isOf 3 (some .boolean) 1 G [.ref y.1, .ref va, .int day] h top (z_R (some (.int (zf_b (zm_isOf y va day)))) h top) := by
  refine z_of (own := RX4) (nm := "isOf") (by decide) rfl rfl (by decide) (Nat.le_of_ble_eq_true rfl) (fun X hX hq => ?_)
  replace hX : z_ok X cX4_isOf 3 RX4 (some .boolean) "isOf" 1 G := hX
  show z_Z X h top 0 [(0, .ref y.1), (1, .ref va), (2, .int day)] []
  refine r_aload_n hX rfl 0 rfl dX4_isOf_0 ?_
  refine r_getf hX fl_X4_9 hy rfl dX4_isOf_1 ?_
  refine r_aload_n hX rfl 1 rfl dX4_isOf_4 ?_
  refine r_acmp_ne (tgt := 31) hX dX4_isOf_5 rfl (fun c5 => ?_) (fun c5 => ?_)
  · skip
    refine r_iconst (v := 0) hX (by decide) dX4_isOf_31 ?_
    exact r_zret hX hq (by decide) ⟨by simp [zf_b, zm_isOf, c5] <;> first | decide | simp_all, rfl, rfl⟩ dX4_isOf_32
  · skip
    refine r_aload_n hX rfl 0 rfl dX4_isOf_8 ?_
    refine r_getf hX fl_X4_19 hy rfl dX4_isOf_9 ?_
    refine r_sipush (v := 1440) hX (by decide) dX4_isOf_12 ?_
    refine r_idiv hX (by decide) dX4_isOf_15 ?_
    refine r_iload_n hX rfl 2 rfl dX4_isOf_16 ?_
    refine r_icmp_ne (tgt := 31) hX dX4_isOf_17 rfl (fun c17 => ?_) (fun c17 => ?_)
    · skip
      refine r_iconst (v := 0) hX (by decide) dX4_isOf_31 ?_
      exact r_zret hX hq (by decide) ⟨by simp [zf_b, zm_isOf, c5, c17] <;> first | decide | simp_all, rfl, rfl⟩ dX4_isOf_32
    · skip
      refine r_aload_n hX rfl 0 rfl dX4_isOf_20 ?_
      refine r_getf hX fl_X4_26 hy rfl dX4_isOf_21 ?_
      refine r_if_ne (tgt := 31) hX dX4_isOf_24 rfl (fun c24 => ?_) (fun c24 => ?_)
      · skip
        refine r_iconst (v := 0) hX (by decide) dX4_isOf_31 ?_
        exact r_zret hX hq (by decide) ⟨by simp [zf_b, zm_isOf, c5, c17, c24] <;> first | decide | simp_all, rfl, rfl⟩ dX4_isOf_32
      · skip
        refine r_iconst (v := 1) hX (by decide) dX4_isOf_27 ?_
        refine r_goto (tgt := 32) hX rfl dX4_isOf_28 ?_
        exact r_zret hX hq (by decide) ⟨by simp [zf_b, zm_isOf, c5, c17, c24] <;> first | decide | simp_all, rfl, rfl⟩ dX4_isOf_32

set_option maxRecDepth 20000 in
set_option maxHeartbeats 4000000 in
theorem c_X4_isAheadOf (l : Launch) (G : zG) (h : zH) (top : Nat) (y z : zSgt) (x1 x2 : zSeg) (i1 i2 : Nat) (hy : z_at G h top y.1 (z_sgtC y)) (hz : z_at G h top z.1 (z_sgtC z)) (e1 : y.2.1.2 = x1.1) (e2 : z.2.1.2 = x2.1) (hx1 : z_at G h top x1.1 (z_segC i1 x1)) (hx2 : z_at G h top x2.1 (z_segC i2 x2)) : z_Ct l yX4_isAheadOf cX4_isAheadOf 2 (some .boolean) 1 G [.ref y.1, .ref z.1] h top (z_R (some (.int (zf_b (zm_ahead y.2.2.1 i1 z.2.2.1 i2)))) h top) := by
  refine z_of (own := RX4) (nm := "isAheadOf") (by decide) rfl rfl (by decide) (Nat.le_of_ble_eq_true rfl) (fun X hX hq => ?_)
  replace hX : z_ok X cX4_isAheadOf 2 RX4 (some .boolean) "isAheadOf" 1 G := hX
  show z_Z X h top 0 [(0, .ref y.1), (1, .ref z.1)] []
  rw [← e1] at hx1
  rw [← e2] at hx2
  refine r_aload_n hX rfl 0 rfl dX4_isAheadOf_0 ?_
  refine r_getf hX fl_X4_19 hy rfl dX4_isAheadOf_1 ?_
  refine r_aload_n hX rfl 1 rfl dX4_isAheadOf_4 ?_
  refine r_getf hX fl_X4_19 hz rfl dX4_isAheadOf_5 ?_
  refine r_icmp_lt (tgt := 39) hX dX4_isAheadOf_8 rfl (fun c8 => ?_) (fun c8 => ?_)
  · skip
    refine r_iconst (v := 1) hX (by decide) dX4_isAheadOf_39 ?_
    refine r_goto (tgt := 44) hX rfl dX4_isAheadOf_40 ?_
    exact r_zret hX hq (by decide) ⟨by simp [zf_b, zm_ahead, c8], rfl, rfl⟩ dX4_isAheadOf_44
  · skip
    refine r_aload_n hX rfl 0 rfl dX4_isAheadOf_11 ?_
    refine r_getf hX fl_X4_19 hy rfl dX4_isAheadOf_12 ?_
    refine r_aload_n hX rfl 1 rfl dX4_isAheadOf_15 ?_
    refine r_getf hX fl_X4_19 hz rfl dX4_isAheadOf_16 ?_
    refine r_icmp_ne (tgt := 43) hX dX4_isAheadOf_19 rfl (fun c19 => ?_) (fun c19 => ?_)
    · skip
      refine r_iconst (v := 0) hX (by decide) dX4_isAheadOf_43 ?_
      exact r_zret hX hq (by decide) ⟨by simp [zf_b, zm_ahead, c8, c19], rfl, rfl⟩ dX4_isAheadOf_44
    · skip
      refine r_aload_n hX rfl 0 rfl dX4_isAheadOf_22 ?_
      refine r_getf hX fl_X4_15 hy rfl dX4_isAheadOf_23 ?_
      refine r_getf hX fl_X4_30 hx1 rfl dX4_isAheadOf_26 ?_
      refine r_aload_n hX rfl 1 rfl dX4_isAheadOf_29 ?_
      refine r_getf hX fl_X4_15 hz rfl dX4_isAheadOf_30 ?_
      refine r_getf hX fl_X4_30 hx2 rfl dX4_isAheadOf_33 ?_
      refine r_icmp_ge (tgt := 43) hX dX4_isAheadOf_36 rfl (fun c36 => ?_) (fun c36 => ?_)
      · skip
        refine r_iconst (v := 0) hX (by decide) dX4_isAheadOf_43 ?_
        exact r_zret hX hq (by decide) ⟨by simp only [zf_b, zm_ahead, c8, c19, decide_true, decide_false, Bool.true_and, Bool.false_or]; first | simp [c36] | simp [Int32.not_le.mp c36] | simp [Int32.not_lt.mpr c36], rfl, rfl⟩ dX4_isAheadOf_44
      · skip
        refine r_iconst (v := 1) hX (by decide) dX4_isAheadOf_39 ?_
        refine r_goto (tgt := 44) hX rfl dX4_isAheadOf_40 ?_
        exact r_zret hX hq (by decide) ⟨by simp only [zf_b, zm_ahead, c8, c19, decide_true, decide_false, Bool.true_and, Bool.false_or]; first | simp [c36] | simp [Int32.not_le.mp c36] | simp [Int32.not_lt.mpr c36], rfl, rfl⟩ dX4_isAheadOf_44
end
section
/-! the whole state: cells, lists, room, references that stand -/
def z_caps : List Nat := [0, 10, 15, 22, 33, 49, 73, 109, 163]
def z_gi (c : Nat) : Nat := z_caps.findIdx (fun x => x == c)
def z_gsum (be : zB) : Nat := z_gi (b_ls be 0).2.2 + z_gi (b_ls be 1).2.2 + z_gi (b_ls be 2).2.2 + z_gi (b_ls be 3).2.2 + z_gi (b_ls be 4).2.2 + z_gi (b_ls be 5).2.2 + z_gi (b_ls be 6).2.2 + z_gi (b_ls be 7).2.2
def z_acc (G : zG) (s : zS) (be : zB) (top : Nat) : Prop := (∀ j, j < 8 → (b_ls be j).2.2 ∈ z_caps) ∧ top ≤ z_b G + 17 + 3 * (s_segs s).length + (s_vehs s).length + (s_tars s).length + (s_sgts s).length + (b_pool be).length + z_gsum be ∧
  (s_segs s).length ≤ 8 ∧ (s_vehs s).length ≤ 3 ∧ (s_tars s).length ≤ 5 ∧ (s_sgts s).length ≤ 60 ∧ (b_pool be).length ≤ 120
/-- the segment at that address -/
def z_isSeg (s : zS) (a : Nat) : Prop := ∃ (i : Nat) (x : zSeg), (s_segs s)[i]? = some x ∧ x.1 = a
def z_isVeh (s : zS) (a : Nat) : Prop := ∃ (i : Nat) (v : zVeh), (s_vehs s)[i]? = some v ∧ v.1 = a
def z_val (s : zS) (be : zB) : Prop := (∀ y ∈ s_sgts s, z_isVeh s y.2.1.1 ∧ z_isSeg s y.2.1.2) ∧ ∀ p ∈ b_pool be, z_isSeg s p.2.1
def z_St (G : zG) (s : zS) (be : zB) (h : zH) (top : Nat) : Prop := z_Rp G (z_ct G s be) h top ∧ z_okL G s be ∧ z_acc G s be top ∧ z_val s be ∧ ¬ z_b G ≤ z_tE G
theorem z_gi_le (c : Nat) (h : c ∈ z_caps) : z_gi c ≤ 8 := by
  have : ∀ c ∈ z_caps, z_gi c ≤ 8 := by decide
  exact this c h
theorem z_gr_caps {c : Nat} (h : c ∈ z_caps) (h2 : c ≤ 120) : z_gr c ∈ z_caps ∧ z_gi (z_gr c) = z_gi c + 1 := by
  have : ∀ c ∈ z_caps, c ≤ 120 → z_gr c ∈ z_caps ∧ z_gi (z_gr c) = z_gi c + 1 := by decide
  exact this c h h2
theorem z_acc.room {G : zG} {s : zS} {be : zB} {top : Nat} (h : z_acc G s be top) : top + 20 ≤ z_b G + 320 := by
  obtain ⟨h1, h2, h3, h4, h5, h6, h7⟩ := h
  have a0 := z_gi_le _ (h1 0 (by decide))
  have a1 := z_gi_le _ (h1 1 (by decide))
  have a2 := z_gi_le _ (h1 2 (by decide))
  have a3 := z_gi_le _ (h1 3 (by decide))
  have a4 := z_gi_le _ (h1 4 (by decide))
  have a5 := z_gi_le _ (h1 5 (by decide))
  have a6 := z_gi_le _ (h1 6 (by decide))
  have a7 := z_gi_le _ (h1 7 (by decide))
  unfold z_gsum at h2
  omega
section FX
variable {G : zG} {s : zS} {be : zB} {h : zH} {top : Nat}
theorem z_St.hall (H : z_St G s be h top) : z_at G h top (z_b G) (z_hallC (z_b G) s) := H.1.1 0 0 _ _ rfl
theorem z_St.tfs (H : z_St G s be h top) : z_at G h top (z_b G + 4) (z_tfsC (z_b G)) := H.1.1 0 1 _ _ rfl
theorem z_St.lg (H : z_St G s be h top) : z_at G h top (z_b G + 7) (z_lgC (z_b G) s) := H.1.1 0 2 _ _ rfl
theorem z_St.bk (H : z_St G s be h top) : z_at G h top (z_b G + 11) (z_bkC (z_b G) be) := H.1.1 0 3 _ _ rfl
theorem z_St.coins (H : z_St G s be h top) : z_at G h top (z_b G + 8) (.inl (z_aI G, 4, .inl (s_coins s))) := H.1.1 0 4 _ _ rfl
theorem z_St.caps (H : z_St G s be h top) : z_at G h top (z_b G + 9) (.inl (z_aI G, 41, .inl (s_caps s))) := H.1.1 0 5 _ _ rfl
theorem z_St.paid (H : z_St G s be h top) : z_at G h top (z_b G + 10) (.inl (z_aI G, 1312, .inl (s_paid s))) := H.1.1 0 6 _ _ rfl
theorem z_St.rch (H : z_St G s be h top) : z_at G h top (z_b G + 16) (.inl (z_aI G, 8, .inl (b_rch be))) := H.1.1 0 7 _ _ rfl
theorem z_St.hol (H : z_St G s be h top) : z_at G h top (z_b G + 6) (.inl (z_aZ G, 51, .inl (fun _ => 0))) := H.1.1 0 8 _ _ rfl
theorem z_St.seg (H : z_St G s be h top) {i : Nat} {x : zSeg} (hx : (s_segs s)[i]? = some x) : z_at G h top x.1 (z_segC i x) := H.1.1 3 i _ _ (by rw [z_ct3, hx]; rfl)
theorem z_St.veh (H : z_St G s be h top) {i : Nat} {x : zVeh} (hx : (s_vehs s)[i]? = some x) : z_at G h top x.1 (z_vehC i x) := H.1.1 4 i _ _ (by rw [z_ct4, hx]; rfl)
theorem z_St.tar (H : z_St G s be h top) {i : Nat} {x : zTar} (hx : (s_tars s)[i]? = some x) : z_at G h top x.1 (z_tarC x) := H.1.1 5 i _ _ (by rw [z_ct5, hx]; rfl)
theorem z_St.sgt (H : z_St G s be h top) {i : Nat} {x : zSgt} (hx : (s_sgts s)[i]? = some x) : z_at G h top x.1 (z_sgtC x) := H.1.1 6 i _ _ (by rw [z_ct6, hx]; rfl)
theorem z_St.pas (H : z_St G s be h top) {i : Nat} {x : zPas} (hx : (b_pool be)[i]? = some x) : z_at G h top x.1 (z_pasC x) := H.1.1 7 i _ _ (by rw [z_ct7, hx]; rfl)
theorem z_St.ls (H : z_St G s be h top) (j : Nat) (hj : j < 8) : z_AL G h top (z_la (z_b G) j) (b_ls be j).1 (b_ls be j).2.1 (z_els s be j).length (b_ls be j).2.2 (fun i : Nat => (z_els s be j)[i]?) := H.1.list H.2.1 j hj
theorem z_St.l0 (H : z_St G s be h top) : z_AL G h top (z_b G + 1) (b_ls be 0).1 (b_ls be 0).2.1 (s_segs s).length (b_ls be 0).2.2 (fun i : Nat => ((s_segs s).map (fun x => x.1))[i]?) := by have q := H.ls 0 (by decide); rw [show (z_els s be 0).length = (s_segs s).length from List.length_map _] at q; exact q
theorem z_St.l1 (H : z_St G s be h top) : z_AL G h top (z_b G + 2) (b_ls be 1).1 (b_ls be 1).2.1 (s_vehs s).length (b_ls be 1).2.2 (fun i : Nat => ((s_vehs s).map (fun x => x.1))[i]?) := by have q := H.ls 1 (by decide); rw [show (z_els s be 1).length = (s_vehs s).length from List.length_map _] at q; exact q
theorem z_St.l2 (H : z_St G s be h top) : z_AL G h top (z_b G + 3) (b_ls be 2).1 (b_ls be 2).2.1 (s_sgts s).length (b_ls be 2).2.2 (fun i : Nat => ((s_sgts s).map (fun x => x.1))[i]?) := by have q := H.ls 2 (by decide); rw [show (z_els s be 2).length = (s_sgts s).length from List.length_map _] at q; exact q
theorem z_St.l3 (H : z_St G s be h top) : z_AL G h top (z_b G + 5) (b_ls be 3).1 (b_ls be 3).2.1 (s_tars s).length (b_ls be 3).2.2 (fun i : Nat => ((s_tars s).map (fun x => x.1))[i]?) := by have q := H.ls 3 (by decide); rw [show (z_els s be 3).length = (s_tars s).length from List.length_map _] at q; exact q
theorem z_St.l4 (H : z_St G s be h top) : z_AL G h top (z_b G + 12) (b_ls be 4).1 (b_ls be 4).2.1 (b_pk be).length (b_ls be 4).2.2 (fun i : Nat => (b_pk be)[i]?) := H.ls 4 (by decide)
theorem z_St.l5 (H : z_St G s be h top) : z_AL G h top (z_b G + 13) (b_ls be 5).1 (b_ls be 5).2.1 (b_jn be).length (b_ls be 5).2.2 (fun i : Nat => (b_jn be)[i]?) := H.ls 5 (by decide)
theorem z_St.l6 (H : z_St G s be h top) : z_AL G h top (z_b G + 14) (b_ls be 6).1 (b_ls be 6).2.1 (b_rw be).length (b_ls be 6).2.2 (fun i : Nat => (b_rw be)[i]?) := H.ls 6 (by decide)
theorem z_St.l7 (H : z_St G s be h top) : z_AL G h top (z_b G + 15) (b_ls be 7).1 (b_ls be 7).2.1 (b_pool be).length (b_ls be 7).2.2 (fun i : Nat => ((b_pool be).map (fun x => x.1))[i]?) := by have q := H.ls 7 (by decide); rw [show (z_els s be 7).length = (b_pool be).length from List.length_map _] at q; exact q
theorem z_mapget {α : Type} {l : List (Nat × α)} {i : Nat} {x : Nat × α} (hx : l[i]? = some x) : (l.map (fun x => x.1))[i]? = some x.1 := by rw [List.getElem?_map, hx]; rfl
theorem z_ob_of {ci : Nat} {a : Nat} {fs : List Value} {r : vw_C} (h1 : z_at G h top a (.inr (ci, fs))) (h2 : vwCl[ci]? = some r) (h3 : Cond.castable r.1 "java/lang/Object" ∈ zNW) : z_ob G h top a := ⟨ci, fs, r, h1, h2, h3⟩
theorem z_St.ob_pas (H : z_St G s be h top) {i : Nat} {x : zPas} (hx : (b_pool be)[i]? = some x) : z_ob G h top x.1 := z_ob_of (H.pas hx) rfl kw_ob3
theorem z_St.ob_sgt (H : z_St G s be h top) {i : Nat} {x : zSgt} (hx : (s_sgts s)[i]? = some x) : z_ob G h top x.1 := z_ob_of (H.sgt hx) rfl kw_ob5
theorem z_St.ob_seg (H : z_St G s be h top) {i : Nat} {x : zSeg} (hx : (s_segs s)[i]? = some x) : z_ob G h top x.1 := z_ob_of (H.seg hx) rfl kw_ob4
theorem z_St.ob_veh (H : z_St G s be h top) {i : Nat} {x : zVeh} (hx : (s_vehs s)[i]? = some x) : z_ob G h top x.1 := z_ob_of (H.veh hx) rfl kw_ob8
theorem z_St.ob_tar (H : z_St G s be h top) {i : Nat} {x : zTar} (hx : (s_tars s)[i]? = some x) : z_ob G h top x.1 := z_ob_of (H.tar hx) rfl kw_ob6
end FX
end
section
/-! changes of the state -/
section CH
variable {G : zG} {s : zS} {be : zB} {h : zH} {top : Nat}
/-- the contents behind an add, as a list -/
theorem z_padd_els {a e cap i x : Nat} {els els2 : List Nat} {rv r : Option Value} {h2 : zH} {top2 : Nat} (hp : z_PAdd G h top a e els.length cap (fun q : Nat => els[q]?) i x rv r h2 top2) (hi : i ≤ els.length) (h2e : els2 = els.insertIdx i x) : r = rv ∧ ∃ (m' : Int32) (e' cap' : Nat), z_AL G h2 top2 a m' e' els2.length cap' (fun q : Nat => els2[q]?) ∧ (∀ q, q < top → q ≠ a → q ≠ e → h2 q = h q) ∧ ((els.length < cap ∧ e' = e ∧ cap' = cap ∧ top2 = top) ∨ (els.length = cap ∧ e' = top ∧ cap' = z_gr cap ∧ top2 = top + 1)) := by
  obtain ⟨h1, m', e', cap', f', g1, g2, g3, g4, g5, g6⟩ := hp
  have hlen : els2.length = els.length + 1 := by rw [h2e, List.length_insertIdx_of_le_length hi]
  have hf : f' = fun q : Nat => els2[q]? := by
    funext q
    rw [h2e, List.getElem?_insertIdx]
    rcases Nat.lt_trichotomy q i with w | w | w
    · rw [if_pos w, g2 q w]
    · rw [w, if_neg (Nat.lt_irrefl _), if_pos rfl, if_pos hi, g3]
    · rw [if_neg (by omega), if_neg (by omega)]
      rcases Nat.lt_or_ge q (els.length + 1) with v | v
      · have := g4 (q - 1) (by omega) (by omega)
        rw [show q - 1 + 1 = q by omega] at this
        exact this
      · rw [g1.2.2.2.1 q v, List.getElem?_eq_none (by omega)]
  refine ⟨h1, m', e', cap', by rw [hlen, ← hf]; exact g1, g5, ?_⟩
  rcases g6 with w | ⟨w1, w2, w3, w4⟩
  · exact Or.inl w
  · exact Or.inr ⟨w1, w2, by rw [w3, w1], w4⟩
theorem z_gsum_upd {be2 : zB} {j : Nat} (hj : j < 8) (hls : ∀ k, k ≠ j → b_ls be2 k = b_ls be k) : z_gsum be2 + z_gi (b_ls be j).2.2 = z_gsum be + z_gi (b_ls be2 j).2.2 := by
  unfold z_gsum
  rcases (show j = 0 ∨ j = 1 ∨ j = 2 ∨ j = 3 ∨ j = 4 ∨ j = 5 ∨ j = 6 ∨ j = 7 by omega) with rfl | rfl | rfl | rfl | rfl | rfl | rfl | rfl
  all_goals
    first
    | (rw [hls 1 (by decide), hls 2 (by decide), hls 3 (by decide), hls 4 (by decide), hls 5 (by decide), hls 6 (by decide), hls 7 (by decide)]; omega)
    | (rw [hls 0 (by decide), hls 2 (by decide), hls 3 (by decide), hls 4 (by decide), hls 5 (by decide), hls 6 (by decide), hls 7 (by decide)]; omega)
    | (rw [hls 0 (by decide), hls 1 (by decide), hls 3 (by decide), hls 4 (by decide), hls 5 (by decide), hls 6 (by decide), hls 7 (by decide)]; omega)
    | (rw [hls 0 (by decide), hls 1 (by decide), hls 2 (by decide), hls 4 (by decide), hls 5 (by decide), hls 6 (by decide), hls 7 (by decide)]; omega)
    | (rw [hls 0 (by decide), hls 1 (by decide), hls 2 (by decide), hls 3 (by decide), hls 5 (by decide), hls 6 (by decide), hls 7 (by decide)]; omega)
    | (rw [hls 0 (by decide), hls 1 (by decide), hls 2 (by decide), hls 3 (by decide), hls 4 (by decide), hls 6 (by decide), hls 7 (by decide)]; omega)
    | (rw [hls 0 (by decide), hls 1 (by decide), hls 2 (by decide), hls 3 (by decide), hls 4 (by decide), hls 5 (by decide), hls 7 (by decide)]; omega)
    | (rw [hls 0 (by decide), hls 1 (by decide), hls 2 (by decide), hls 3 (by decide), hls 4 (by decide), hls 5 (by decide), hls 6 (by decide)]; omega)
/-- a list has changed in one of the two ways, and with it the objects of P have come -/
theorem z_St.chg {s2 : zS} {be2 : zB} {h2 : zH} {top2 : Nat} (t1 : Nat) (ht1 : top ≤ t1) (H : z_St G s be h top) (j : Nat) (hj : j < 8) (P : Nat → Nat → Prop) (hP : ∀ k i, P k i → 3 ≤ k)
    (hl : z_AL G h2 top2 (z_la (z_b G) j) (b_ls be2 j).1 (b_ls be2 j).2.1 (z_els s2 be2 j).length (b_ls be2 j).2.2 (fun i : Nat => (z_els s2 be2 j)[i]?))
    (hf : ∀ q, q < top → q ≠ z_la (z_b G) j → q ≠ (b_ls be j).2.1 → h2 q = h q)
    (hc : ((b_ls be2 j).2.1 = (b_ls be j).2.1 ∧ (b_ls be2 j).2.2 = (b_ls be j).2.2 ∧ top2 = t1) ∨ ((b_ls be j).2.2 ≤ 120 ∧ (b_ls be2 j).2.1 = t1 ∧ (b_ls be2 j).2.2 = z_gr (b_ls be j).2.2 ∧ top2 = t1 + 1))
    (hls : ∀ k, k ≠ j → b_ls be2 k = b_ls be k) (hels : ∀ k, k ≠ j → k < 8 → z_els s2 be2 k = z_els s be k)
    (h1 : ∀ k i, ¬ P k i → ¬ (k = 1 ∧ i = j) → ¬ (k = 2 ∧ i = j) → z_ct G s2 be2 k i = z_ct G s be k i)
    (hn : ∀ k i a e, P k i → z_ct G s2 be2 k i = some (a, e) → z_at G h2 top2 a e ∧ (∀ k' i' e', z_ct G s be k' i' = some (a, e') → False) ∧ a ≠ (b_ls be2 j).2.1)
    (hn2 : ∀ k i k' i' a e e', P k i → P k' i' → z_ct G s2 be2 k i = some (a, e) → z_ct G s2 be2 k' i' = some (a, e') → k = k' ∧ i = i')
    (hacc : t1 ≤ z_b G + 17 + 3 * (s_segs s2).length + (s_vehs s2).length + (s_tars s2).length + (s_sgts s2).length + (b_pool be2).length + z_gsum be) (hbd : (s_segs s2).length ≤ 8 ∧ (s_vehs s2).length ≤ 3 ∧ (s_tars s2).length ≤ 5 ∧ (s_sgts s2).length ≤ 60 ∧ (b_pool be2).length ≤ 120)
    (hv : z_val s2 be2) : z_St G s2 be2 h2 top2 := by
  obtain ⟨R, hL, hA, hV, htE⟩ := H
  have hgs := z_gsum_upd (be := be) (be2 := be2) hj hls
  refine ⟨R.lst hL j hj P hP (by omega) hl (hc.elim (fun w => Or.inl w.1) (fun w => Or.inr (by rw [w.2.1]; exact ht1))) htE hf h1 hn hn2, fun k hk => ?_, ⟨fun k hk => ?_, ?_, hbd⟩, hv, htE⟩
  · by_cases q : k = j
    · subst q
      refine ⟨hl.2.1, hl.2.2.1, fun z => ?_⟩
      rcases hl.2.2.2.2 with w | w
      · exact w.2
      · omega
    · rw [hls k q, hels k q hk]
      exact hL k hk
  · by_cases q : k = j
    · subst q
      rcases hc with w | w
      · rw [w.2.1]; exact hA.1 k hj
      · rw [w.2.2.1]; exact (z_gr_caps (hA.1 k hj) w.1).1
    · rw [hls k q]; exact hA.1 k hk
  · rcases hc with w | w
    · rw [w.2.1] at hgs
      omega
    · rw [w.2.2.1, (z_gr_caps (hA.1 j hj) w.1).2] at hgs
      omega
/-- the book's own three lists -/
def z_setL (be : zB) (j : Nat) (els : List Nat) (l : Int32 × Nat × Nat) : zB := (be.1, be.2.1, be.2.2.1, (if j = 4 then els else b_pk be, if j = 5 then els else b_jn be, if j = 6 then els else b_rw be), va_up (b_ls be) j l)
theorem z_setL_els (j : Nat) (hj : j = 4 ∨ j = 5 ∨ j = 6) (els : List Nat) (l : Int32 × Nat × Nat) : z_els s (z_setL be j els l) j = els ∧ (∀ k, k ≠ j → k < 8 → z_els s (z_setL be j els l) k = z_els s be k) ∧ b_ls (z_setL be j els l) j = l ∧ (∀ k, k ≠ j → b_ls (z_setL be j els l) k = b_ls be k) ∧ ∀ k i, ¬ (k = 1 ∧ i = j) → ¬ (k = 2 ∧ i = j) → z_ct G s (z_setL be j els l) k i = z_ct G s be k i := by
  have hk : ∀ k, k ≠ j → k < 8 → z_els s (z_setL be j els l) k = z_els s be k := by
    intro k hk hk8
    rcases (show k = 0 ∨ k = 1 ∨ k = 2 ∨ k = 3 ∨ k = 4 ∨ k = 5 ∨ k = 6 ∨ k = 7 by omega) with rfl | rfl | rfl | rfl | rfl | rfl | rfl | rfl <;> first | rfl | (show (if _ then _ else _) = _; rw [if_neg (fun z => hk z.symm)]; rfl)
  have hl : ∀ k, k ≠ j → b_ls (z_setL be j els l) k = b_ls be k := fun k hk => by
    show va_up (b_ls be) j l k = _
    simp [va_up, hk]
  refine ⟨by rcases hj with rfl | rfl | rfl <;> rfl, hk, by show va_up (b_ls be) j l j = l; simp [va_up], hl, fun k i h1 h2 => ?_⟩
  match k with
  | 0 =>
    match i with
    | 0 => rfl
    | 1 => rfl
    | 2 => rfl
    | 3 => rfl
    | 4 => rfl
    | 5 => rfl
    | 6 => rfl
    | 7 => rfl
    | 8 => rfl
    | i + 9 => rfl
  | 1 =>
    rw [z_ct1, z_ct1]
    by_cases q : i < 8
    · rw [if_pos q, if_pos q, hl i (fun z => h1 ⟨rfl, z⟩), hk i (fun z => h1 ⟨rfl, z⟩) q]
    · rw [if_neg q, if_neg q]
  | 2 =>
    rw [z_ct2, z_ct2, hl i (fun z => h2 ⟨rfl, z⟩)]
    by_cases q : i < 8 ∧ 0 < (b_ls be i).2.2
    · rw [if_pos q, if_pos q, hk i (fun z => h2 ⟨rfl, z⟩) q.1]
    · rw [if_neg q, if_neg q]
  | 3 => rfl
  | 4 => rfl
  | 5 => rfl
  | 6 => rfl
  | 7 => rfl
  | k + 8 => rw [z_ct8 _ _ _ _ _ (by omega), z_ct8 _ _ _ _ _ (by omega)]
theorem z_St.addB (H : z_St G s be h top) (j : Nat) (hj : j = 4 ∨ j = 5 ∨ j = 6) {i x : Nat} {rv r : Option Value} {h2 : zH} {top2 : Nat} (hp : z_PAdd G h top (z_la (z_b G) j) (b_ls be j).2.1 (z_els s be j).length (b_ls be j).2.2 (fun q : Nat => (z_els s be j)[q]?) i x rv r h2 top2) (hi : i ≤ (z_els s be j).length) (hlen : (z_els s be j).length ≤ 120) : r = rv ∧ ∃ l, z_St G s (z_setL be j ((z_els s be j).insertIdx i x) l) h2 top2 := by
  obtain ⟨h1, m', e', cap', g1, g2, g3⟩ := z_padd_els hp hi rfl
  have hj8 : j < 8 := by omega
  obtain ⟨q1, q2, q3, q4, q5⟩ := z_setL_els (G := G) (s := s) (be := be) j hj ((z_els s be j).insertIdx i x) (m', e', cap')
  refine ⟨h1, (m', e', cap'), z_St.chg top (Nat.le_refl _) H j hj8 (fun _ _ => False) (fun _ _ z => z.elim) (by rw [q1, q3]; exact g1) g2 ?_ q4 q2 (fun k i _ => q5 k i) (fun _ _ _ _ z => z.elim) (fun _ _ _ _ _ _ _ z => z.elim) H.2.2.1.2.1 H.2.2.1.2.2 H.2.2.2.1⟩
  rw [q3]
  rcases g3 with w | w
  · exact Or.inl ⟨w.2.1, w.2.2.1, w.2.2.2⟩
  · exact Or.inr ⟨by omega, w.2.1, w.2.2.1, w.2.2.2⟩
theorem z_St.clrB (H : z_St G s be h top) (j : Nat) (hj : j = 4 ∨ j = 5 ∨ j = 6) {m' : Int32} {f' : Nat → Option Nat} {h2 : zH} (hA : z_AL G h2 top (z_la (z_b G) j) m' (b_ls be j).2.1 0 (b_ls be j).2.2 f') (hf : ∀ q, q ≠ z_la (z_b G) j → q ≠ (b_ls be j).2.1 → h2 q = h q) : ∃ l, z_St G s (z_setL be j [] l) h2 top := by
  have hj8 : j < 8 := by omega
  obtain ⟨q1, q2, q3, q4, q5⟩ := z_setL_els (G := G) (s := s) (be := be) j hj [] (m', (b_ls be j).2.1, (b_ls be j).2.2)
  have hf' : f' = fun i : Nat => ([] : List Nat)[i]? := by
    funext i
    rw [hA.2.2.2.1 i (Nat.zero_le _)]
    rfl
  rw [hf'] at hA
  refine ⟨(m', (b_ls be j).2.1, (b_ls be j).2.2), z_St.chg top (Nat.le_refl _) H j hj8 (fun _ _ => False) (fun _ _ z => z.elim) (by rw [q1, q3]; exact hA) (fun q _ => hf q) (Or.inl (by rw [q3]; exact ⟨rfl, rfl, rfl⟩)) q4 q2 (fun k i _ => q5 k i) (fun _ _ _ _ z => z.elim) (fun _ _ _ _ _ _ _ z => z.elim) H.2.2.1.2.1 H.2.2.1.2.2 H.2.2.2.1⟩
theorem z_map_set {α : Type} {l : List (Nat × α)} {i : Nat} {x y : Nat × α} (hx : l[i]? = some x) (h : y.1 = x.1) : (l.set i y).map (fun z => z.1) = l.map (fun z => z.1) := by
  apply List.ext_getElem?
  intro k
  rw [List.getElem?_map, List.getElem?_map]
  by_cases q : k = i
  · subst q
    rw [List.getElem?_set_self (List.getElem?_eq_some_iff.mp hx).1, hx]
    simp [h]
  · rw [List.getElem?_set_ne (fun z => q z.symm)]
theorem z_ct_ls {s2 : zS} {be2 : zB} (hels : ∀ j, j < 8 → z_els s2 be2 j = z_els s be j) (hls : b_ls be2 = b_ls be) (k : Nat) (hk : k = 1 ∨ k = 2) (i : Nat) : z_ct G s2 be2 k i = z_ct G s be k i := by
  rcases hk with rfl | rfl
  · rw [z_ct1, z_ct1, hls]
    by_cases q : i < 8
    · rw [if_pos q, if_pos q, hels i q]
    · rw [if_neg q, if_neg q]
  · rw [z_ct2, z_ct2, hls]
    by_cases q : i < 8 ∧ 0 < (b_ls be i).2.2
    · rw [if_pos q, if_pos q, hels i q.1]
    · rw [if_neg q, if_neg q]
/-- one object's content changes -/
theorem z_St.obj {s2 : zS} {be2 : zB} (H : z_St G s be h top) (k i : Nat) {a : Nat} {e e0 : va_E} (hk : z_ct G s be k i = some (a, e0)) (hk2 : z_ct G s2 be2 k i = some (a, e)) (hc : ∀ k' i', ¬ (k' = k ∧ i' = i) → z_ct G s2 be2 k' i' = z_ct G s be k' i') (hels : ∀ j, j < 8 → z_els s2 be2 j = z_els s be j) (hls : b_ls be2 = b_ls be) (hv : z_val s2 be2) : z_St G s2 be2 (va_up h a e) top := by
  obtain ⟨R, hL, hA, hV, htE⟩ := H
  have n0 : (s_segs s2).length = (s_segs s).length := by have q := congrArg List.length (hels 0 (by decide)); simpa [z_els] using q
  have n1 : (s_vehs s2).length = (s_vehs s).length := by have q := congrArg List.length (hels 1 (by decide)); simpa [z_els] using q
  have n2 : (s_sgts s2).length = (s_sgts s).length := by have q := congrArg List.length (hels 2 (by decide)); simpa [z_els] using q
  have n3 : (s_tars s2).length = (s_tars s).length := by have q := congrArg List.length (hels 3 (by decide)); simpa [z_els] using q
  have n7 : (b_pool be2).length = (b_pool be).length := by have q := congrArg List.length (hels 7 (by decide)); simpa [z_els] using q
  refine ⟨R.set k i hk hk2 hc, fun j hj => ?_, ?_, hv, htE⟩
  · rw [hels j hj, hls]
    exact hL j hj
  · have gs : z_gsum be2 = z_gsum be := by unfold z_gsum; rw [hls]
    unfold z_acc at *
    rw [n0, n1, n2, n3, n7, gs, hls]
    exact hA
def z_setPool (be : zB) (pool : List zPas) : zB := (be.1, be.2.1, pool, be.2.2.2)
def z_setBk (be : zB) (pu ct : Int32) : zB := (be.1, (pu, ct), be.2.2)
def z_setRch (be : zB) (f : Nat → Int32) : zB := (f, be.2)
theorem z_St.setPas (H : z_St G s be h top) {i : Nat} {p p2 : zPas} (hp : (b_pool be)[i]? = some p) (ha : p2.1 = p.1) (hs : z_isSeg s p2.2.1) : z_St G s (z_setPool be ((b_pool be).set i p2)) (va_up h p.1 (z_pasC p2)) top := by
  have hi : i < (b_pool be).length := (List.getElem?_eq_some_iff.mp hp).1
  refine H.obj 7 i (e0 := z_pasC p) (by rw [z_ct7, hp]; rfl) ?_ (fun k' i' hne => ?_) (fun j hj => ?_) rfl ⟨H.2.2.2.1.1, fun q hq => ?_⟩
  · rw [z_ct7]
    show (((b_pool be).set i p2)[i]?).map _ = _
    rw [List.getElem?_set_self hi]
    simp [ha]
  · match k' with
    | 0 => match i' with
      | 0 => rfl
      | 1 => rfl
      | 2 => rfl
      | 3 => rfl
      | 4 => rfl
      | 5 => rfl
      | 6 => rfl
      | 7 => rfl
      | 8 => rfl
      | i' + 9 => rfl
    | 1 =>
      rw [z_ct1, z_ct1]
      by_cases q : i' < 8
      · rw [if_pos q, if_pos q]
        have : (z_els s (z_setPool be ((b_pool be).set i p2)) i').length = (z_els s be i').length := by
          rcases (show i' = 0 ∨ i' = 1 ∨ i' = 2 ∨ i' = 3 ∨ i' = 4 ∨ i' = 5 ∨ i' = 6 ∨ i' = 7 by omega) with rfl | rfl | rfl | rfl | rfl | rfl | rfl | rfl <;> first | rfl | (show (((b_pool be).set i p2).map _).length = ((b_pool be).map _).length; simp)
        rw [this]
        rfl
      · rw [if_neg q, if_neg q]
    | 2 =>
      rw [z_ct2, z_ct2]
      by_cases q : i' < 8 ∧ 0 < (b_ls be i').2.2
      · rw [if_pos q, if_pos (show i' < 8 ∧ 0 < (b_ls (z_setPool be ((b_pool be).set i p2)) i').2.2 from q)]
        have : z_els s (z_setPool be ((b_pool be).set i p2)) i' = z_els s be i' := by
          have q1 := q.1
          rcases (show i' = 0 ∨ i' = 1 ∨ i' = 2 ∨ i' = 3 ∨ i' = 4 ∨ i' = 5 ∨ i' = 6 ∨ i' = 7 by omega) with rfl | rfl | rfl | rfl | rfl | rfl | rfl | rfl <;> first | rfl | exact z_map_set hp ha
        rw [this]
        rfl
      · rw [if_neg q, if_neg (show ¬ (i' < 8 ∧ 0 < (b_ls (z_setPool be ((b_pool be).set i p2)) i').2.2) from q)]
    | 3 => rfl
    | 4 => rfl
    | 5 => rfl
    | 6 => rfl
    | 7 =>
      rw [z_ct7, z_ct7]
      show (((b_pool be).set i p2)[i']?).map _ = _
      rw [List.getElem?_set_ne (fun z => hne ⟨rfl, z.symm⟩)]
    | k + 8 => rw [z_ct8 _ _ _ _ _ (by omega), z_ct8 _ _ _ _ _ (by omega)]
  · rcases (show j = 0 ∨ j = 1 ∨ j = 2 ∨ j = 3 ∨ j = 4 ∨ j = 5 ∨ j = 6 ∨ j = 7 by omega) with rfl | rfl | rfl | rfl | rfl | rfl | rfl | rfl <;> first | rfl | exact z_map_set hp ha
  · rcases List.mem_or_eq_of_mem_set hq with w | w
    · exact H.2.2.2.1.2 q w
    · rw [w]; exact hs
theorem z_St.setBk (H : z_St G s be h top) (pu ct : Int32) : z_St G s (z_setBk be pu ct) (va_up h (z_b G + 11) (z_bkC (z_b G) (z_setBk be pu ct))) top := by
  refine H.obj 0 3 (e0 := z_bkC (z_b G) be) rfl rfl (fun k' i' hne => ?_) (fun j hj => ?_) rfl H.2.2.2.1
  · match k' with
    | 0 => match i' with
      | 0 => rfl
      | 1 => rfl
      | 2 => rfl
      | 3 => exact absurd ⟨rfl, rfl⟩ hne
      | 4 => rfl
      | 5 => rfl
      | 6 => rfl
      | 7 => rfl
      | 8 => rfl
      | i' + 9 => rfl
    | 1 => exact z_ct_ls (fun j hj => by rcases (show j = 0 ∨ j = 1 ∨ j = 2 ∨ j = 3 ∨ j = 4 ∨ j = 5 ∨ j = 6 ∨ j = 7 by omega) with rfl | rfl | rfl | rfl | rfl | rfl | rfl | rfl <;> rfl) rfl 1 (Or.inl rfl) i'
    | 2 => exact z_ct_ls (fun j hj => by rcases (show j = 0 ∨ j = 1 ∨ j = 2 ∨ j = 3 ∨ j = 4 ∨ j = 5 ∨ j = 6 ∨ j = 7 by omega) with rfl | rfl | rfl | rfl | rfl | rfl | rfl | rfl <;> rfl) rfl 2 (Or.inr rfl) i'
    | 3 => rfl
    | 4 => rfl
    | 5 => rfl
    | 6 => rfl
    | 7 => rfl
    | k + 8 => rw [z_ct8 _ _ _ _ _ (by omega), z_ct8 _ _ _ _ _ (by omega)]
  · rcases (show j = 0 ∨ j = 1 ∨ j = 2 ∨ j = 3 ∨ j = 4 ∨ j = 5 ∨ j = 6 ∨ j = 7 by omega) with rfl | rfl | rfl | rfl | rfl | rfl | rfl | rfl <;> rfl
/-- an object more, at the end of its list -/
theorem z_St.addO {s2 : zS} (F : Int32 × Nat × Nat → zB) (t1 : Nat) (H : z_St G s be h top) (j k0 n x : Nat) (hj : j < 8) (hk0 : 3 ≤ k0) {e0 : va_E} {h1 h2 : zH} {top2 : Nat} {rv r : Option Value} (hx : top ≤ x) (hat : z_at G h1 t1 x e0) (hne : ∀ u, e0 ≠ .inl u) (hcl : ∀ fs, e0 ≠ .inr (0, fs)) (hfr : ∀ q, q < top → h1 q = h q)
    (hp : z_PAdd G h1 t1 (z_la (z_b G) j) (b_ls be j).2.1 (z_els s be j).length (b_ls be j).2.2 (fun q : Nat => (z_els s be j)[q]?) (z_els s be j).length x rv r h2 top2) (hlen : (z_els s be j).length ≤ 120)
    (hF : ∀ l, b_ls (F l) j = l ∧ (∀ k, k ≠ j → b_ls (F l) k = b_ls be k) ∧ z_els s2 (F l) j = z_els s be j ++ [x] ∧ (∀ k, k ≠ j → k < 8 → z_els s2 (F l) k = z_els s be k) ∧ z_ct G s2 (F l) k0 n = some (x, e0) ∧ (∀ k i, ¬ (k = k0 ∧ i = n) → ¬ (k = 1 ∧ i = j) → ¬ (k = 2 ∧ i = j) → z_ct G s2 (F l) k i = z_ct G s be k i) ∧ z_val s2 (F l) ∧ t1 ≤ z_b G + 17 + 3 * (s_segs s2).length + (s_vehs s2).length + (s_tars s2).length + (s_sgts s2).length + (b_pool (F l)).length + z_gsum be ∧ ((s_segs s2).length ≤ 8 ∧ (s_vehs s2).length ≤ 3 ∧ (s_tars s2).length ≤ 5 ∧ (s_sgts s2).length ≤ 60 ∧ (b_pool (F l)).length ≤ 120)) : r = rv ∧ ∃ l, z_St G s2 (F l) h2 top2 := by
  obtain ⟨hr, m', e', cap', g1, g2, g3⟩ := z_padd_els hp (Nat.le_refl _) rfl
  rw [List.insertIdx_length_self] at g1
  obtain ⟨q1, q2, q3, q4, q5, q6, q7, q8, q9⟩ := hF (m', e', cap')
  have hxt : x < t1 := hat.2.1
  have la8 : z_la (z_b G) j < top := (H.ls j hj).1.2.1
  have hab : top ≤ t1 := by omega
  have hx2 : x ≠ (b_ls be j).2.1 := by
    rcases (H.ls j hj).2.2.2.2 with w | w
    · intro z
      have e1 : x = z_tE G := z.trans w.2
      have := hat.1
      rw [e1] at this
      exact H.2.2.2.2 this
    · have := w.2.2.1
      omega
  refine ⟨hr, (m', e', cap'), z_St.chg t1 hab H j hj (fun k i => k = k0 ∧ i = n) (fun k i z => by rw [z.1]; exact hk0) (by rw [q3, q1]; exact g1) (fun q w1 w2 w3 => by rw [g2 q (by omega) w2 w3]; exact hfr q w1) ?_ q2 q4 q6 (fun k i a e z w => ?_) (fun k i k' i' a e e' z z' _ _ => ⟨z.1.trans z'.1.symm, z.2.trans z'.2.symm⟩) q8 q9 q7⟩
  · rw [q1]
    rcases g3 with w | w
    · exact Or.inl ⟨w.2.1, w.2.2.1, w.2.2.2⟩
    · exact Or.inr ⟨by omega, w.2.1, w.2.2.1, w.2.2.2⟩
  · obtain ⟨rfl, rfl⟩ := z
    rw [q5] at w
    cases w
    refine ⟨⟨hat.1, ?_, ?_⟩, fun k' i' e' w => ?_, ?_⟩
    · rcases g3 with v | v <;> omega
    · rw [g2 x hxt (by omega) hx2]
      exact hat.2.2
    · have := (H.1.1 _ _ _ _ w).2.1
      omega
    · rw [q1]
      rcases g3 with v | v
      · rw [show (m', e', cap').2.1 = (b_ls be j).2.1 from v.2.1]
        exact hx2
      · rw [show (m', e', cap').2.1 = t1 from v.2.1]
        omega
end CH
end
section
/-! passages: begun, joined -/
set_option maxRecDepth 20000 in
set_option maxHeartbeats 4000000 in
theorem c_X2_init (l : Launch) (G : zG) (h : zH) (top : Nat) (a sg : Nat) (mi : Int32) (ha : z_at G h top a (.inr (3, [.null, .int 0, .int 0, .int 0, .int 0, .int 0]))) : z_Ct l yX2_init cX2_init 3 none 1 G [.ref a, .ref sg, .int mi] h top (z_R none (va_up h a (.inr (3, [.ref sg, .int mi, .int 0, .int 0, .int 0, .int 0]))) top) := by
  refine z_of (own := RX2) (nm := "<init>") (by decide) rfl rfl (by decide) (Nat.le_of_ble_eq_true rfl) (fun X hX hq => ?_)
  replace hX : z_ok X cX2_init 3 RX2 none "<init>" 1 G := hX
  show z_Z X h top 0 [(0, .ref a), (1, .ref sg), (2, .int mi)] []
  refine r_aload_n hX rfl 0 rfl dX2_init_0 ?_
  refine r_objInit hX oi_X2_3 kw_oi1 kw_oi2 (by decide) dX2_init_1 ?_
  refine r_aload_n hX rfl 0 rfl dX2_init_4 ?_
  refine r_aload_n hX rfl 1 rfl dX2_init_5 ?_
  refine r_put (fs2 := [.ref sg, .int 0, .int 0, .int 0, .int 0, .int 0]) hX fp_X2_9 ha rfl rfl (Nat.le_of_ble_eq_true rfl) rfl dX2_init_6 ?_
  replace ha : z_at G (va_up h a (.inr (3, [.ref sg, .int 0, .int 0, .int 0, .int 0, .int 0]))) top a (.inr (3, [.ref sg, .int 0, .int 0, .int 0, .int 0, .int 0])) := z_at.self ha
  refine r_aload_n hX rfl 0 rfl dX2_init_9 ?_
  refine r_iload_n hX rfl 2 rfl dX2_init_10 ?_
  refine r_putU (fs2 := [.ref sg, .int mi, .int 0, .int 0, .int 0, .int 0]) hX fp_X2_15 ha rfl rfl (Nat.le_of_ble_eq_true rfl) rfl dX2_init_11 ?_
  replace ha : z_at G (va_up h a (.inr (3, [.ref sg, .int mi, .int 0, .int 0, .int 0, .int 0]))) top a (.inr (3, [.ref sg, .int mi, .int 0, .int 0, .int 0, .int 0])) := z_at.uu ha
  exact r_vret hX hq ⟨rfl, rfl, rfl⟩ dX2_init_14

set_option maxRecDepth 20000 in
set_option maxHeartbeats 4000000 in
theorem c_X2_restart (l : Launch) (G : zG) (h : zH) (top : Nat) (a sg : Nat) (mi : Int32) (v : Nat) (mi0 n0 d0 r0 u0 : Int32) (ha : z_at G h top a (.inr (3, [.ref v, .int mi0, .int n0, .int d0, .int r0, .int u0]))) : z_Ct l yX2_restart cX2_restart 3 none 1 G [.ref a, .ref sg, .int mi] h top (z_R none (va_up h a (.inr (3, [.ref sg, .int mi, .int 0, .int 0, .int 0, .int 0]))) top) := by
  refine z_of (own := RX2) (nm := "restart") (by decide) rfl rfl (by decide) (Nat.le_of_ble_eq_true rfl) (fun X hX hq => ?_)
  replace hX : z_ok X cX2_restart 3 RX2 none "restart" 1 G := hX
  show z_Z X h top 0 [(0, .ref a), (1, .ref sg), (2, .int mi)] []
  refine r_aload_n hX rfl 0 rfl dX2_restart_0 ?_
  refine r_aload_n hX rfl 1 rfl dX2_restart_1 ?_
  refine r_put (fs2 := [.ref sg, .int mi0, .int n0, .int d0, .int r0, .int u0]) hX fp_X2_9 ha rfl rfl (Nat.le_of_ble_eq_true rfl) rfl dX2_restart_2 ?_
  replace ha : z_at G (va_up h a (.inr (3, [.ref sg, .int mi0, .int n0, .int d0, .int r0, .int u0]))) top a (.inr (3, [.ref sg, .int mi0, .int n0, .int d0, .int r0, .int u0])) := z_at.self ha
  refine r_aload_n hX rfl 0 rfl dX2_restart_5 ?_
  refine r_iload_n hX rfl 2 rfl dX2_restart_6 ?_
  refine r_putU (fs2 := [.ref sg, .int mi, .int n0, .int d0, .int r0, .int u0]) hX fp_X2_15 ha rfl rfl (Nat.le_of_ble_eq_true rfl) rfl dX2_restart_7 ?_
  replace ha : z_at G (va_up h a (.inr (3, [.ref sg, .int mi, .int n0, .int d0, .int r0, .int u0]))) top a (.inr (3, [.ref sg, .int mi, .int n0, .int d0, .int r0, .int u0])) := z_at.uu ha
  refine r_aload_n hX rfl 0 rfl dX2_restart_10 ?_
  refine r_iconst (v := 0) hX (by decide) dX2_restart_11 ?_
  refine r_putU (fs2 := [.ref sg, .int mi, .int 0, .int d0, .int r0, .int u0]) hX fp_X2_19 ha rfl rfl (Nat.le_of_ble_eq_true rfl) rfl dX2_restart_12 ?_
  replace ha : z_at G (va_up h a (.inr (3, [.ref sg, .int mi, .int 0, .int d0, .int r0, .int u0]))) top a (.inr (3, [.ref sg, .int mi, .int 0, .int d0, .int r0, .int u0])) := z_at.uu ha
  refine r_aload_n hX rfl 0 rfl dX2_restart_15 ?_
  refine r_iconst (v := 0) hX (by decide) dX2_restart_16 ?_
  refine r_putU (fs2 := [.ref sg, .int mi, .int 0, .int 0, .int r0, .int u0]) hX fp_X2_22 ha rfl rfl (Nat.le_of_ble_eq_true rfl) rfl dX2_restart_17 ?_
  replace ha : z_at G (va_up h a (.inr (3, [.ref sg, .int mi, .int 0, .int 0, .int r0, .int u0]))) top a (.inr (3, [.ref sg, .int mi, .int 0, .int 0, .int r0, .int u0])) := z_at.uu ha
  refine r_aload_n hX rfl 0 rfl dX2_restart_20 ?_
  refine r_iconst (v := 0) hX (by decide) dX2_restart_21 ?_
  refine r_putU (fs2 := [.ref sg, .int mi, .int 0, .int 0, .int 0, .int u0]) hX fp_X2_26 ha rfl rfl (Nat.le_of_ble_eq_true rfl) rfl dX2_restart_22 ?_
  replace ha : z_at G (va_up h a (.inr (3, [.ref sg, .int mi, .int 0, .int 0, .int 0, .int u0]))) top a (.inr (3, [.ref sg, .int mi, .int 0, .int 0, .int 0, .int u0])) := z_at.uu ha
  refine r_aload_n hX rfl 0 rfl dX2_restart_25 ?_
  refine r_iconst (v := 0) hX (by decide) dX2_restart_26 ?_
  refine r_putU (fs2 := [.ref sg, .int mi, .int 0, .int 0, .int 0, .int 0]) hX fp_X2_29 ha rfl rfl (Nat.le_of_ble_eq_true rfl) rfl dX2_restart_27 ?_
  replace ha : z_at G (va_up h a (.inr (3, [.ref sg, .int mi, .int 0, .int 0, .int 0, .int 0]))) top a (.inr (3, [.ref sg, .int mi, .int 0, .int 0, .int 0, .int 0])) := z_at.uu ha
  exact r_vret hX hq ⟨rfl, rfl, rfl⟩ dX2_restart_30

def zm_doubt (n src : Int32) : Int32 := zf_b (decide (n = 1) && decide (src = 2))
set_option maxRecDepth 20000 in
set_option maxHeartbeats 4000000 in
theorem c_X2_join (l : Launch) (G : zG) (h : zH) (top : Nat) (a : Nat) (y : zSgt) (v : Nat) (mi0 n0 d0 r0 u0 : Int32) (ha : z_at G h top a (.inr (3, [.ref v, .int mi0, .int n0, .int d0, .int r0, .int u0]))) (hy : z_at G h top y.1 (z_sgtC y)) : z_Ct l yX2_join cX2_join 2 none 1 G [.ref a, .ref y.1] h top (z_R none (va_up h a (.inr (3, [.ref v, .int mi0, .int (n0 + 1), .int (zm_doubt (n0 + 1) y.2.2.2.1), .int r0, .int u0]))) top) := by
  refine z_of (own := RX2) (nm := "join") (by decide) rfl rfl (by decide) (Nat.le_of_ble_eq_true rfl) (fun X hX hq => ?_)
  replace hX : z_ok X cX2_join 2 RX2 none "join" 1 G := hX
  show z_Z X h top 0 [(0, .ref a), (1, .ref y.1)] []
  refine r_aload_n hX rfl 0 rfl dX2_join_0 ?_
  refine r_dup hX rfl dX2_join_1 ?_
  refine r_getf hX fl_X2_19 ha rfl dX2_join_2 ?_
  refine r_iconst (v := 1) hX (by decide) dX2_join_5 ?_
  refine r_iadd hX dX2_join_6 ?_
  refine r_put (fs2 := [.ref v, .int mi0, .int (n0 + 1), .int d0, .int r0, .int u0]) hX fp_X2_19 ha rfl rfl (Nat.le_of_ble_eq_true rfl) rfl dX2_join_7 ?_
  replace hy := hy.up (e3 := (.inr (3, [.ref v, .int mi0, .int (n0 + 1), .int d0, .int r0, .int u0]))) ha (by intro z; cases z)
  replace ha : z_at G (va_up h a (.inr (3, [.ref v, .int mi0, .int (n0 + 1), .int d0, .int r0, .int u0]))) top a (.inr (3, [.ref v, .int mi0, .int (n0 + 1), .int d0, .int r0, .int u0])) := z_at.self ha
  refine r_aload_n hX rfl 0 rfl dX2_join_10 ?_
  refine r_aload_n hX rfl 0 rfl dX2_join_11 ?_
  refine r_getf hX fl_X2_19 ha rfl dX2_join_12 ?_
  refine r_iconst (v := 1) hX (by decide) dX2_join_15 ?_
  refine r_icmp_ne (tgt := 31) hX dX2_join_16 rfl (fun c16 => ?_) (fun c16 => ?_)
  · skip
    refine r_iconst (v := 0) hX (by decide) dX2_join_31 ?_
    refine r_putU (fs2 := [.ref v, .int mi0, .int (n0 + 1), .int 0, .int r0, .int u0]) hX fp_X2_22 ha rfl rfl (Nat.le_of_ble_eq_true rfl) rfl dX2_join_32 ?_
    replace ha : z_at G (va_up h a (.inr (3, [.ref v, .int mi0, .int (n0 + 1), .int 0, .int r0, .int u0]))) top a (.inr (3, [.ref v, .int mi0, .int (n0 + 1), .int 0, .int r0, .int u0])) := z_at.uu ha
    exact r_vret hX hq ⟨rfl, by simp [zm_doubt, zf_b, c16], rfl⟩ dX2_join_35
  · skip
    refine r_aload_n hX rfl 1 rfl dX2_join_19 ?_
    refine r_getf hX fl_X2_32 hy rfl dX2_join_20 ?_
    refine r_iconst (v := 2) hX (by decide) dX2_join_23 ?_
    refine r_icmp_ne (tgt := 31) hX dX2_join_24 rfl (fun c24 => ?_) (fun c24 => ?_)
    · skip
      refine r_iconst (v := 0) hX (by decide) dX2_join_31 ?_
      refine r_putU (fs2 := [.ref v, .int mi0, .int (n0 + 1), .int 0, .int r0, .int u0]) hX fp_X2_22 ha rfl rfl (Nat.le_of_ble_eq_true rfl) rfl dX2_join_32 ?_
      replace ha : z_at G (va_up h a (.inr (3, [.ref v, .int mi0, .int (n0 + 1), .int 0, .int r0, .int u0]))) top a (.inr (3, [.ref v, .int mi0, .int (n0 + 1), .int 0, .int r0, .int u0])) := z_at.uu ha
      exact r_vret hX hq ⟨rfl, by simp [zm_doubt, zf_b, c16, c24], rfl⟩ dX2_join_35
    · skip
      refine r_iconst (v := 1) hX (by decide) dX2_join_27 ?_
      refine r_goto (tgt := 32) hX rfl dX2_join_28 ?_
      refine r_putU (fs2 := [.ref v, .int mi0, .int (n0 + 1), .int 1, .int r0, .int u0]) hX fp_X2_22 ha rfl rfl (Nat.le_of_ble_eq_true rfl) rfl dX2_join_32 ?_
      replace ha : z_at G (va_up h a (.inr (3, [.ref v, .int mi0, .int (n0 + 1), .int 1, .int r0, .int u0]))) top a (.inr (3, [.ref v, .int mi0, .int (n0 + 1), .int 1, .int r0, .int u0])) := z_at.uu ha
      exact r_vret hX hq ⟨rfl, by simp [zm_doubt, zf_b, c16, c24], rfl⟩ dX2_join_35

/-- behind begin -/
def z_PBegin (G : zG) (s : zS) (be : zB) (pu sg : Nat) (mi : Int32) : Option Value → zH → Nat → Prop := fun r h' top' => ∃ (be2 : zB) (a : Nat), z_St G s be2 h' top' ∧ r = some (.ref a) ∧ b_pu be2 = nI (pu + 1) ∧ (b_pool be2)[pu]? = some (a, sg, mi, 0, 0, 0, 0) ∧ (∀ i, i < pu → (b_pool be2)[i]? = (b_pool be)[i]?) ∧ b_rch be2 = b_rch be ∧ b_ct be2 = b_ct be ∧ b_pk be2 = b_pk be ∧ b_jn be2 = b_jn be ∧ b_rw be2 = b_rw be
def z_addPool (be : zB) (p : zPas) (l : Int32 × Nat × Nat) : zB := (be.1, be.2.1, b_pool be ++ [p], be.2.2.2.1, va_up (b_ls be) 7 l)
theorem z_St.addPool {G : zG} {s : zS} {be : zB} {h : zH} {top : Nat} (H : z_St G s be h top) {p : zPas} (hp1 : p.1 = top) (hs : z_isSeg s p.2.1) (hlen : (b_pool be).length < 120) {h2 : zH} {top2 : Nat} {rv r : Option Value} (hp : z_PAdd G (va_up h top (z_pasC p)) (top + 1) (z_b G + 15) (b_ls be 7).2.1 (b_pool be).length (b_ls be 7).2.2 (fun q : Nat => ((b_pool be).map (fun x => x.1))[q]?) (b_pool be).length top rv r h2 top2) : r = rv ∧ ∃ l, z_St G s (z_addPool be p l) h2 top2 := by
  have e7 : (z_els s be 7).length = (b_pool be).length := List.length_map _
  refine z_St.addO (s2 := s) (z_addPool be p) (top + 1) H 7 7 (b_pool be).length top (by decide) (by decide) (e0 := z_pasC p) (h1 := va_up h top (z_pasC p)) (Nat.le_refl _) (z_at.fresh (Nat.le_trans H.hall.1 (Nat.le_of_lt H.hall.2.1))) (fun u z => by cases z) (fun fs z => by cases z) (fun q hq => by simp [va_up, show q ≠ top by omega]) (by rw [e7]; exact hp) (by omega) (fun l => ⟨by show va_up (b_ls be) 7 l 7 = l; simp [va_up], fun k hk => by show va_up (b_ls be) 7 l k = _; simp [va_up, hk], ?_, ?_, ?_, ?_, ?_, ?_, ?_⟩)
  · show (b_pool be ++ [p]).map _ = (b_pool be).map _ ++ _
    rw [List.map_append, ← hp1]
    rfl
  · intro k hk hk8
    rcases (show k = 0 ∨ k = 1 ∨ k = 2 ∨ k = 3 ∨ k = 4 ∨ k = 5 ∨ k = 6 by omega) with rfl | rfl | rfl | rfl | rfl | rfl | rfl <;> rfl
  · rw [z_ct7]
    show ((b_pool be ++ [p])[(b_pool be).length]?).map _ = _
    rw [List.getElem?_append_right (Nat.le_refl _), Nat.sub_self]
    simp [hp1]
  · intro k i h1 h2 h3
    match k with
    | 0 => match i with
      | 0 => rfl
      | 1 => rfl
      | 2 => rfl
      | 3 => rfl
      | 4 => rfl
      | 5 => rfl
      | 6 => rfl
      | 7 => rfl
      | 8 => rfl
      | i + 9 => rfl
    | 1 =>
      rw [z_ct1, z_ct1]
      by_cases q : i < 8
      · have hi : i ≠ 7 := fun z => h2 ⟨rfl, z⟩
        have e1 : b_ls (z_addPool be p l) i = b_ls be i := by show va_up (b_ls be) 7 l i = _; simp [va_up, hi]
        have e2 : z_els s (z_addPool be p l) i = z_els s be i := by
          rcases (show i = 0 ∨ i = 1 ∨ i = 2 ∨ i = 3 ∨ i = 4 ∨ i = 5 ∨ i = 6 by omega) with rfl | rfl | rfl | rfl | rfl | rfl | rfl <;> rfl
        rw [if_pos q, if_pos q, e1, e2]
      · rw [if_neg q, if_neg q]
    | 2 =>
      have hi : i ≠ 7 := fun z => h3 ⟨rfl, z⟩
      have e1 : b_ls (z_addPool be p l) i = b_ls be i := by show va_up (b_ls be) 7 l i = _; simp [va_up, hi]
      rw [z_ct2, z_ct2, e1]
      by_cases q : i < 8 ∧ 0 < (b_ls be i).2.2
      · have e2 : z_els s (z_addPool be p l) i = z_els s be i := by
          have q1 := q.1
          rcases (show i = 0 ∨ i = 1 ∨ i = 2 ∨ i = 3 ∨ i = 4 ∨ i = 5 ∨ i = 6 by omega) with rfl | rfl | rfl | rfl | rfl | rfl | rfl <;> rfl
        rw [if_pos q, if_pos q, e2]
      · rw [if_neg q, if_neg q]
    | 3 => rfl
    | 4 => rfl
    | 5 => rfl
    | 6 => rfl
    | 7 =>
      rw [z_ct7, z_ct7]
      show ((b_pool be ++ [p])[i]?).map _ = _
      rcases Nat.lt_or_ge i (b_pool be).length with q | q
      · rw [List.getElem?_append_left q]
      · rw [List.getElem?_append_right q, List.getElem?_eq_none (l := b_pool be) q, List.getElem?_eq_none (by have : i ≠ (b_pool be).length := fun z => h1 ⟨rfl, z⟩; simp; omega)]
    | k + 8 => rw [z_ct8 _ _ _ _ _ (by omega), z_ct8 _ _ _ _ _ (by omega)]
  · refine ⟨H.2.2.2.1.1, fun q hq => ?_⟩
    rcases List.mem_append.mp hq with w | w
    · exact H.2.2.2.1.2 q w
    · rw [List.mem_singleton.mp w]; exact hs
  · have := H.2.2.1.2.1
    show top + 1 ≤ _ + (b_pool be ++ [p]).length + _
    rw [List.length_append, List.length_singleton]
    omega
  · have := H.2.2.1.2.2
    refine ⟨this.1, this.2.1, this.2.2.1, this.2.2.2.1, ?_⟩
    show (b_pool be ++ [p]).length ≤ 120
    rw [List.length_append, List.length_singleton]
    omega

set_option maxRecDepth 20000 in
set_option maxHeartbeats 4000000 in
theorem f_begin_tail {X : zX} {G : zG} {h : zH} {top : Nat} {Post : Option Value → zH → Nat → Prop} (s : zS) (be : zB) (pu sg : Nat) (mi : Int32) (p : zPas) (H : z_St G s be h top) (hpu : b_pu be = nI pu) (hp0 : (b_pool be)[pu]? = some p) (hsg : z_isSeg s sg) (hpo : z_St G s (z_setBk (z_setPool be ((b_pool be).set pu (p.1, sg, mi, 0, 0, 0, 0))) (nI pu + 1) (b_ct be)) (va_up (va_up h p.1 (.inr (3, [.ref sg, .int mi, .int 0, .int 0, .int 0, .int 0]))) (z_b G + 11) (.inr (1, [.ref (z_b G + 12), .ref (z_b G + 13), .ref (z_b G + 14), .ref (z_b G + 15), .int (nI pu + 1), .int (b_ct be)]))) top → Post (some (.ref p.1)) (va_up (va_up h p.1 (.inr (3, [.ref sg, .int mi, .int 0, .int 0, .int 0, .int 0]))) (z_b G + 11) (.inr (1, [.ref (z_b G + 12), .ref (z_b G + 13), .ref (z_b G + 14), .ref (z_b G + 15), .int (nI pu + 1), .int (b_ct be)]))) top) (hX : z_ok X cX0_begin 4 RX0 (some (.object "GantryHall$Passage")) "begin" 8 G) (hq : z_mq X (Post)) : z_Z X h top 44 [(0, .ref (z_b G + 11)), (1, .ref sg), (2, .int mi)] [] := by
  have hlt : pu < (b_pool be).length := (List.getElem?_eq_some_iff.mp hp0).1
  have hpas := H.pas hp0
  have hbk : z_at G h top (z_b G + 11) (.inr (1, [.ref (z_b G + 12), .ref (z_b G + 13), .ref (z_b G + 14), .ref (z_b G + 15), .int (nI pu), .int (b_ct be)])) := by
    have q : z_at G h top (z_b G + 11) (z_bkC (z_b G) be) := H.bk
    unfold z_bkC at q
    rw [hpu] at q
    exact q
  refine r_aload_n hX rfl 0 rfl dX0_begin_44 ?_
  refine r_getf hX fl_X0_24 hbk rfl dX0_begin_45 ?_
  refine r_aload_n hX rfl 0 rfl dX0_begin_48 ?_
  refine r_getf hX fl_X0_31 hbk rfl dX0_begin_49 ?_
  refine r_callVR (As := [.int (nI pu)]) (rest := []) (rv := some (.ref p.1)) (st1 := [.ref p.1]) hX cs_X0_55 (by decide) (fun l => z_get H.l7 hlt (z_mapget hp0) l) H.l7.1 rfl rfl rfl rfl (Nat.le_of_ble_eq_true rfl) dX0_begin_52 ?_
  refine r_cast (ci := 3) hX rfl hpas cl_X0_89 dX0_begin_55 ?_
  refine r_astore_n (lv' := [(3, .ref p.1), (0, .ref (z_b G + 11)), (1, .ref sg), (2, .int mi)]) hX rfl (by decide) rfl dX0_begin_58 ?_
  refine r_aload_n hX rfl 0 rfl dX0_begin_59 ?_
  refine r_aload_n hX rfl 2 rfl dX0_begin_60 ?_
  refine r_iload_n hX rfl 3 rfl dX0_begin_61 ?_
  refine r_callVR (As := [.ref sg, .int mi]) (rest := []) (rv := none) (st1 := []) hX cs_X0_106 (by decide) (fun l => c_X2_restart l G h top p.1 sg mi p.2.1 p.2.2.1 p.2.2.2.1 p.2.2.2.2.1 p.2.2.2.2.2.1 p.2.2.2.2.2.2 hpas) hpas rfl rfl rfl rfl (Nat.le_of_ble_eq_true rfl) dX0_begin_62 ?_
  have H2 := H.setPas (p2 := (p.1, sg, mi, 0, 0, 0, 0)) hp0 rfl hsg
  replace hbk : z_at G (va_up h p.1 (.inr (3, [.ref sg, .int mi, .int 0, .int 0, .int 0, .int 0]))) top (z_b G + 11) (.inr (1, [.ref (z_b G + 12), .ref (z_b G + 13), .ref (z_b G + 14), .ref (z_b G + 15), .int (nI pu), .int (b_ct be)])) := hbk.up hpas (by intro z; cases z)
  refine r_aload_n hX rfl 1 rfl dX0_begin_65 ?_
  refine r_dup hX rfl dX0_begin_66 ?_
  refine r_getf hX fl_X0_31 hbk rfl dX0_begin_67 ?_
  refine r_iconst (v := 1) hX (by decide) dX0_begin_70 ?_
  refine r_iadd hX dX0_begin_71 ?_
  refine r_put (fs2 := [.ref (z_b G + 12), .ref (z_b G + 13), .ref (z_b G + 14), .ref (z_b G + 15), .int ((nI pu) + 1), .int (b_ct be)]) hX fp_X0_31 hbk rfl rfl (Nat.le_of_ble_eq_true rfl) rfl dX0_begin_72 ?_
  replace hbk : z_at G (va_up (va_up h p.1 (.inr (3, [.ref sg, .int mi, .int 0, .int 0, .int 0, .int 0]))) (z_b G + 11) (.inr (1, [.ref (z_b G + 12), .ref (z_b G + 13), .ref (z_b G + 14), .ref (z_b G + 15), .int ((nI pu) + 1), .int (b_ct be)]))) top (z_b G + 11) (.inr (1, [.ref (z_b G + 12), .ref (z_b G + 13), .ref (z_b G + 14), .ref (z_b G + 15), .int ((nI pu) + 1), .int (b_ct be)])) := z_at.self hbk
  refine r_aload_n hX rfl 0 rfl dX0_begin_75 ?_
  exact r_aret hX rfl (Or.inl ⟨_, rfl⟩) hq (Or.inr ⟨_, rfl⟩) (hpo (H2.setBk (nI pu + 1) (b_ct be))) dX0_begin_76

set_option maxRecDepth 20000 in
set_option maxHeartbeats 4000000 in
theorem c_begin_A (l : Launch) (G : zG) (h : zH) (top : Nat) (s : zS) (be : zB) (pu sg : Nat) (mi : Int32) (H : z_St G s be h top) (hpu : b_pu be = nI pu) (hsg : z_isSeg s sg) (p : zPas) (hp0 : (b_pool be)[pu]? = some p) : z_Ct l yX0_begin cX0_begin 4 (some (.object "GantryHall$Passage")) 8 G [.ref (z_b G + 11), .ref sg, .int mi] h top (z_PBegin G s be pu sg mi) := by
  refine z_of (own := RX0) (nm := "begin") (by decide) rfl rfl (by decide) (Nat.le_of_ble_eq_true rfl) (fun X hX hq => ?_)
  replace hX : z_ok X cX0_begin 4 RX0 (some (.object "GantryHall$Passage")) "begin" 8 G := hX
  show z_Z X h top 0 [(0, .ref (z_b G + 11)), (1, .ref sg), (2, .int mi)] []
  have hlt : pu < (b_pool be).length := (List.getElem?_eq_some_iff.mp hp0).1
  have hb120 := H.2.2.1.2.2.2.2.2.2
  have hbk : z_at G h top (z_b G + 11) (.inr (1, [.ref (z_b G + 12), .ref (z_b G + 13), .ref (z_b G + 14), .ref (z_b G + 15), .int (nI pu), .int (b_ct be)])) := by
    have q : z_at G h top (z_b G + 11) (z_bkC (z_b G) be) := H.bk
    unfold z_bkC at q
    rw [hpu] at q
    exact q
  refine r_aload_n hX rfl 0 rfl dX0_begin_0 ?_
  refine r_getf hX fl_X0_31 hbk rfl dX0_begin_1 ?_
  refine r_aload_n hX rfl 0 rfl dX0_begin_4 ?_
  refine r_getf hX fl_X0_24 hbk rfl dX0_begin_5 ?_
  refine r_callVR (As := []) (rest := [.int (nI pu)]) (rv := some (.int (nI (b_pool be).length))) (st1 := [.int (nI (b_pool be).length), .int (nI pu)]) hX cs_X0_27 (by decide) (fun l => z_size H.l7 l) H.l7.1 rfl rfl rfl rfl (Nat.le_of_ble_eq_true rfl) dX0_begin_8 ?_
  refine r_icmp_lt (tgt := 44) hX dX0_begin_11 rfl (fun _ => ?_) (fun c => False.elim (absurd (nI_lt hlt (by omega)) c))
  exact f_begin_tail s be pu sg mi p H hpu hp0 hsg (fun H9 => ⟨_, p.1, H9, rfl, nI_1 pu, by show ((b_pool be).set pu _)[pu]? = _; rw [List.getElem?_set_self hlt], fun i hi => by show ((b_pool be).set pu _)[i]? = _; rw [List.getElem?_set_ne (by omega)], rfl, rfl, rfl, rfl, rfl⟩) hX hq

theorem z_AL.new {G : zG} {h : zH} {top a : Nat} {m : Int32} {e n cap : Nat} {f : Nat → Option Nat} {v : va_E} (hL : z_AL G h top a m e n cap f) : z_AL G (va_up h top v) (top + 1) a m e n cap f := by
  obtain ⟨h1, h2, h3, h4, h5⟩ := hL
  refine ⟨h1.new, h2, h3, h4, ?_⟩
  rcases h5 with h5 | ⟨h5, he⟩
  · exact Or.inl h5
  · exact Or.inr ⟨h5, he.new⟩
set_option maxRecDepth 20000 in
set_option maxHeartbeats 4000000 in
theorem c_begin_B (l : Launch) (G : zG) (h : zH) (top : Nat) (s : zS) (be : zB) (pu sg : Nat) (mi : Int32) (H : z_St G s be h top) (hpu : b_pu be = nI pu) (hsg : z_isSeg s sg) (heq : (b_pool be).length = pu) (h120 : pu < 120) : z_Ct l yX0_begin cX0_begin 4 (some (.object "GantryHall$Passage")) 8 G [.ref (z_b G + 11), .ref sg, .int mi] h top (z_PBegin G s be pu sg mi) := by
  refine z_of (own := RX0) (nm := "begin") (by decide) rfl rfl (by decide) (Nat.le_of_ble_eq_true rfl) (fun X hX hq => ?_)
  replace hX : z_ok X cX0_begin 4 RX0 (some (.object "GantryHall$Passage")) "begin" 8 G := hX
  show z_Z X h top 0 [(0, .ref (z_b G + 11)), (1, .ref sg), (2, .int mi)] []
  have hbt : z_b G ≤ top := Nat.le_trans H.hall.1 (Nat.le_of_lt H.hall.2.1)
  have hl7 := H.l7.1
  have hbk : z_at G h top (z_b G + 11) (.inr (1, [.ref (z_b G + 12), .ref (z_b G + 13), .ref (z_b G + 14), .ref (z_b G + 15), .int (nI pu), .int (b_ct be)])) := by
    have q : z_at G h top (z_b G + 11) (z_bkC (z_b G) be) := H.bk
    unfold z_bkC at q
    rw [hpu] at q
    exact q
  refine r_aload_n hX rfl 0 rfl dX0_begin_0 ?_
  refine r_getf hX fl_X0_31 hbk rfl dX0_begin_1 ?_
  refine r_aload_n hX rfl 0 rfl dX0_begin_4 ?_
  refine r_getf hX fl_X0_24 hbk rfl dX0_begin_5 ?_
  refine r_callVR (As := []) (rest := [.int (nI pu)]) (rv := some (.int (nI (b_pool be).length))) (st1 := [.int (nI (b_pool be).length), .int (nI pu)]) hX cs_X0_27 (by decide) (fun l => z_size H.l7 l) hl7 rfl rfl rfl rfl (Nat.le_of_ble_eq_true rfl) dX0_begin_8 ?_
  refine r_icmp_lt (tgt := 44) hX dX0_begin_11 rfl (fun c => False.elim (absurd c (nI_nlt (Nat.le_of_eq heq) (by omega)))) (fun _ => ?_)
  refine r_aload_n hX rfl 0 rfl dX0_begin_14 ?_
  refine r_getf hX fl_X0_24 hbk rfl dX0_begin_15 ?_
  refine r_new hX nw_X0_89 (by have := H.2.2.1.room; omega) dX0_begin_18 ?_
  replace hbk := hbk.new (e2 := (.inr (3, [.null, .int 0, .int 0, .int 0, .int 0, .int 0])))
  replace hl7 := hl7.new (e2 := (.inr (3, [.null, .int 0, .int 0, .int 0, .int 0, .int 0])))
  have hN18 : z_at G (va_up h top (.inr (3, [.null, .int 0, .int 0, .int 0, .int 0, .int 0]))) (top + 1) top (.inr (3, [.null, .int 0, .int 0, .int 0, .int 0, .int 0])) := z_at.fresh hbt
  refine r_dup hX rfl dX0_begin_21 ?_
  refine r_aload_n hX rfl 1 rfl dX0_begin_22 ?_
  refine r_iload_n hX rfl 2 rfl dX0_begin_23 ?_
  refine r_callIR (As := [.ref sg, .int mi]) (rest := [.ref top, .ref (z_b G + 15)]) (rv := none) (st1 := [.ref top, .ref (z_b G + 15)]) hX cs_X0_103 (by decide) (fun l => c_X2_init l G (va_up h top (.inr (3, [.null, .int 0, .int 0, .int 0, .int 0, .int 0]))) (top + 1) top sg mi hN18) rfl rfl rfl (Nat.le_of_ble_eq_true rfl) dX0_begin_24 ?_
  rw [bx_uu]
  have hA15 : z_AL G (va_up h top (.inr (3, [.ref sg, .int mi, .int 0, .int 0, .int 0, .int 0]))) (top + 1) (z_b G + 15) (b_ls be 7).1 (b_ls be 7).2.1 (b_pool be).length (b_ls be 7).2.2 (fun i : Nat => ((b_pool be).map (fun x => x.1))[i]?) := z_AL.new H.l7
  refine r_callV (As := [.ref top]) (rest := []) hX cs_X0_95 (by decide) (fun l => c_add1 l G (va_up h top (.inr (3, [.ref sg, .int mi, .int 0, .int 0, .int 0, .int 0]))) (top + 1) (z_b G + 15) top (b_ls be 7).2.1 (b_pool be).length (b_ls be 7).2.2 (b_ls be 7).1 (fun i : Nat => ((b_pool be).map (fun x => x.1))[i]?) (by omega) hA15 (fun i hi y hy => by obtain ⟨q, hq2⟩ : ∃ q, (b_pool be)[i]? = some q := ⟨_, List.getElem?_eq_getElem hi⟩; rw [z_mapget hq2] at hy; cases hy; exact (H.ob_pas hq2).new) (by omega) (z_ob_of (z_at.fresh hbt) rfl kw_ob3) (fun _ => by have := H.2.2.1.room; omega)) hA15.1 rfl rfl rfl (Nat.le_of_ble_eq_true rfl) dX0_begin_27 (fun r1 h1 top1 hp1 => ?_)
  obtain ⟨rfl, l7, H2⟩ := H.addPool (p := (top, sg, mi, 0, 0, 0, 0)) rfl hsg (by omega) hp1
  have hbk2 : z_at G h1 top1 (z_b G + 11) (.inr (1, [.ref (z_b G + 12), .ref (z_b G + 13), .ref (z_b G + 14), .ref (z_b G + 15), .int (nI pu), .int (b_ct be)])) := by
    have q : z_at G h1 top1 (z_b G + 11) (.inr (1, [.ref (z_b G + 12), .ref (z_b G + 13), .ref (z_b G + 14), .ref (z_b G + 15), .int (b_pu be), .int (b_ct be)])) := H2.bk
    rw [hpu] at q
    exact q
  have hA7 := H2.l7
  rw [show (b_pool (z_addPool be (top, sg, mi, 0, 0, 0, 0) l7)).length = pu + 1 by show (b_pool be ++ [_]).length = _; rw [List.length_append, List.length_singleton, heq]] at hA7
  have hA71 := hA7.1
  refine r_pop hX rfl dX0_begin_30 ?_
  refine r_aload_n hX rfl 0 rfl dX0_begin_31 ?_
  refine r_aload_n hX rfl 0 rfl dX0_begin_32 ?_
  refine r_getf hX fl_X0_24 hbk2 rfl dX0_begin_33 ?_
  refine r_callVR (As := []) (rest := [.ref (z_b G + 11)]) (rv := some (.int (nI (pu + 1)))) (st1 := [.int (nI (pu + 1)), .ref (z_b G + 11)]) hX cs_X0_27 (by decide) (fun l => z_size hA7 l) hA71 rfl rfl rfl rfl (Nat.le_of_ble_eq_true rfl) dX0_begin_36 ?_
  refine r_iconst (v := 1) hX (by decide) dX0_begin_39 ?_
  refine r_isub hX dX0_begin_40 ?_
  rw [show nI (pu + 1) - 1 = nI pu from nI_pred pu]
  refine r_put (fs2 := [.ref (z_b G + 12), .ref (z_b G + 13), .ref (z_b G + 14), .ref (z_b G + 15), .int (nI pu), .int (b_ct be)]) hX fp_X0_31 hbk2 rfl rfl (Nat.le_of_ble_eq_true rfl) rfl dX0_begin_41 ?_
  replace hA71 := hA71.up (e3 := (.inr (1, [.ref (z_b G + 12), .ref (z_b G + 13), .ref (z_b G + 14), .ref (z_b G + 15), .int (nI pu), .int (b_ct be)]))) hbk2 (by intro z; cases z)
  replace hbk2 : z_at G (va_up h1 (z_b G + 11) (.inr (1, [.ref (z_b G + 12), .ref (z_b G + 13), .ref (z_b G + 14), .ref (z_b G + 15), .int (nI pu), .int (b_ct be)]))) top1 (z_b G + 11) (.inr (1, [.ref (z_b G + 12), .ref (z_b G + 13), .ref (z_b G + 14), .ref (z_b G + 15), .int (nI pu), .int (b_ct be)])) := z_at.self hbk2
  have H3 := H2.setBk (nI pu) (b_ct be)
  have hg : (b_pool (z_setBk (z_addPool be (top, sg, mi, 0, 0, 0, 0) l7) (nI pu) (b_ct be)))[pu]? = some (top, sg, mi, 0, 0, 0, 0) := by
    show (b_pool be ++ [_])[pu]? = _
    rw [← heq, List.getElem?_append_right (Nat.le_refl _), Nat.sub_self]
    rfl
  have hsz : (b_pool be ++ [((top, sg, mi, 0, 0, 0, 0) : zPas)]).length = pu + 1 := by rw [List.length_append, List.length_singleton, heq]
  refine f_begin_tail s (z_setBk (z_addPool be (top, sg, mi, 0, 0, 0, 0) l7) (nI pu) (b_ct be)) pu sg mi (top, sg, mi, 0, 0, 0, 0) H3 rfl hg hsg (fun H9 => ⟨_, top, H9, rfl, nI_1 pu, ?_, fun i hi => ?_, rfl, rfl, rfl, rfl, rfl⟩) hX hq
  · show ((b_pool be ++ [_]).set pu _)[pu]? = _
    rw [List.getElem?_set_self (by rw [hsz]; omega)]
  · show ((b_pool be ++ [_]).set pu _)[i]? = _
    rw [List.getElem?_set_ne (by omega), List.getElem?_append_left (by omega)]

theorem c_begin (l : Launch) (G : zG) (h : zH) (top : Nat) (s : zS) (be : zB) (pu sg : Nat) (mi : Int32) (H : z_St G s be h top) (hpu : b_pu be = nI pu) (hsg : z_isSeg s sg) (hle : pu ≤ (b_pool be).length) (h120 : pu < 120) : z_Ct l yX0_begin cX0_begin 4 (some (.object "GantryHall$Passage")) 8 G [.ref (z_b G + 11), .ref sg, .int mi] h top (z_PBegin G s be pu sg mi) := by
  rcases Nat.lt_or_ge pu (b_pool be).length with q | q
  · exact c_begin_A l G h top s be pu sg mi H hpu hsg _ (List.getElem?_eq_getElem q)
  · exact c_begin_B l G h top s be pu sg mi H hpu hsg (by omega) h120
end
section
/-! picking -/
def zm_num (segs : List zSeg) (a : Nat) : Nat := segs.findIdx (fun x => x.1 == a)
theorem zm_num_at {s : zS} {a : Nat} (h : z_isSeg s a) : ∃ x : zSeg, (s_segs s)[zm_num (s_segs s) a]? = some x ∧ x.1 = a := by
  obtain ⟨i, x, h1, h2⟩ := h
  have hm : x ∈ s_segs s := List.mem_of_getElem? h1
  have hl : zm_num (s_segs s) a < (s_segs s).length := List.findIdx_lt_length_of_exists ⟨x, hm, by simp [h2]⟩
  have hp : ((((s_segs s)[zm_num (s_segs s) a]'hl).1 == a) : Bool) = true := List.findIdx_getElem (w := hl)
  exact ⟨_, List.getElem?_eq_getElem hl, beq_iff_eq.mp hp⟩
def zm_ah (segs : List zSeg) (y z : zSgt) : Bool := zm_ahead y.2.2.1 (zm_num segs y.2.1.2) z.2.2.1 (zm_num segs z.2.1.2)
def zm_place (segs : List zSeg) (y : zSgt) (l : List zSgt) : Nat := l.findIdx (fun z => zm_ah segs y z)
def zm_pickStep (segs : List zSeg) (va : Nat) (day : Int32) (acc : List zSgt) (y : zSgt) : List zSgt := if zm_isOf y va day then acc.insertIdx (zm_place segs y acc) y else acc
def zm_pick (segs : List zSeg) (sgts : List zSgt) (va : Nat) (day : Int32) : List zSgt := sgts.foldl (zm_pickStep segs va day) []
theorem zf_b1 {c : Bool} (h : c = true) : zf_b c = 1 := by rw [h]; rfl
theorem zf_b_ne {c : Bool} (h : ¬ zf_b c = 0) : c = true := by cases c; exact absurd rfl h; rfl
theorem zf_b_e {c : Bool} (h : zf_b c = 0) : c = false := by cases c; rfl; exact absurd h (by decide)
theorem zm_place_at {segs : List zSeg} {y : zSgt} {l : List zSgt} {i : Nat} {z : zSgt} (hz : l[i]? = some z) (ha : zm_ah segs y z = true) (hn : ∀ (j : Nat) (z : zSgt), j < i → l[j]? = some z → zm_ah segs y z = false) : zm_place segs y l = i := by
  obtain ⟨hl, he⟩ := List.getElem?_eq_some_iff.mp hz
  unfold zm_place
  rw [List.findIdx_eq hl]
  exact ⟨by rw [he]; exact ha, fun j hj => hn j _ hj (List.getElem?_eq_getElem (by omega))⟩
theorem zm_place_end {segs : List zSeg} {y : zSgt} {l : List zSgt} (hn : ∀ (j : Nat) (z : zSgt), j < l.length → l[j]? = some z → zm_ah segs y z = false) : zm_place segs y l = l.length := by
  unfold zm_place
  rw [List.findIdx_eq_length]
  intro z hz
  obtain ⟨j, hj⟩ := List.getElem?_of_mem hz
  exact hn j z (List.getElem?_eq_some_iff.mp hj).1 hj
theorem zm_place_le (segs : List zSeg) (y : zSgt) (l : List zSgt) : zm_place segs y l ≤ l.length := List.findIdx_le_length
set_option maxRecDepth 20000 in
set_option maxHeartbeats 4000000 in
theorem f_place_step {X : zX} {G : zG} {h : zH} {top : Nat} {Post : Option Value → zH → Nat → Prop} (s : zS) (be : zB) (H : z_St G s be h top) (y : zSgt) (hy : y ∈ s_sgts s) (pk : List zSgt) (hpk : b_pk be = pk.map (fun x => x.1)) (hm : ∀ z ∈ pk, z ∈ s_sgts s) (hp : ∀ {v : Int32}, nI (zm_place (s_segs s) y pk) = v → Post (some (.int v)) h top) (k i : Nat)  (hk : pk.length - i < k + 1) (hi : i ≤ pk.length) (hinv : ∀ (j : Nat) (z : zSgt), j < i → pk[j]? = some z → zm_ah (s_segs s) y z = false) (ih : ∀ (i : Nat) , pk.length - i < k → i ≤ pk.length → (∀ (j : Nat) (z : zSgt), j < i → pk[j]? = some z → zm_ah (s_segs s) y z = false) → z_Z X h top 2 [(2, .int (nI i)), (0, .ref (z_b G + 11)), (1, .ref y.1)] []) (hX : z_ok X cX0_placeOf 3 RX0 (some .int) "placeOf" 4 G) (hq : z_mq X (Post)) : z_Z X h top 2 [(2, .int (nI i)), (0, .ref (z_b G + 11)), (1, .ref y.1)] [] := by
  have hbk := H.bk
  have hl4 := H.l4
  have elen : (b_pk be).length = pk.length := by rw [hpk, List.length_map]
  rw [elen, hpk] at hl4
  have hl41 := hl4.1
  obtain ⟨iy, hiy⟩ := List.getElem?_of_mem hy
  have hys := H.sgt hiy
  refine r_iload_n hX rfl 0 rfl dX0_placeOf_2 ?_
  refine r_aload_n hX rfl 1 rfl dX0_placeOf_3 ?_
  refine r_getf hX fl_X0_12 hbk rfl dX0_placeOf_4 ?_
  refine r_callVR (As := []) (rest := [.int (nI i)]) (rv := some (.int (nI pk.length))) (st1 := [.int (nI pk.length), .int (nI i)]) hX cs_X0_27 (by decide) (fun l => z_size hl4 l) hl41 rfl rfl rfl rfl (Nat.le_of_ble_eq_true rfl) dX0_placeOf_7 ?_
  refine r_icmp_ge (tgt := 39) hX dX0_placeOf_10 rfl (fun c10 => ?_) (fun c10 => ?_)
  · skip
    refine r_aload_n hX rfl 1 rfl dX0_placeOf_39 ?_
    refine r_getf hX fl_X0_12 hbk rfl dX0_placeOf_40 ?_
    refine r_callVR (As := []) (rest := []) (rv := some (.int (nI pk.length))) (st1 := [.int (nI pk.length)]) hX cs_X0_27 (by decide) (fun l => z_size hl4 l) hl41 rfl rfl rfl rfl (Nat.le_of_ble_eq_true rfl) dX0_placeOf_43 ?_
    exact r_iret hX hq (hp (by rw [zm_place_end (fun j u hj hu => hinv j u (Nat.lt_of_lt_of_le hj ((nI_leI (by have := hl4.2.1; have := hl4.2.2.1; omega) (by have := hl4.2.1; have := hl4.2.2.1; omega)).mp c10)) hu)])) dX0_placeOf_46
  · skip
    have hlt : i < pk.length := by
      rcases Nat.lt_or_ge i pk.length with q | q
      · exact q
      · exact absurd (nI_le q (by have := hl4.2.1; have := hl4.2.2.1; omega)) c10
    obtain ⟨z, hz⟩ : ∃ z, pk[i]? = some z := ⟨_, List.getElem?_eq_getElem hlt⟩
    have hzm := hm z (List.mem_of_getElem? hz)
    obtain ⟨iz, hiz⟩ := List.getElem?_of_mem hzm
    have hzs := H.sgt hiz
    obtain ⟨x1, hx1, hx1b⟩ := zm_num_at (H.2.2.2.1.1 y hy).2
    obtain ⟨x2, hx2, hx2b⟩ := zm_num_at (H.2.2.2.1.1 z hzm).2
    refine r_aload_n hX rfl 2 rfl dX0_placeOf_13 ?_
    refine r_aload_n hX rfl 1 rfl dX0_placeOf_14 ?_
    refine r_getf hX fl_X0_12 hbk rfl dX0_placeOf_15 ?_
    refine r_iload_n hX rfl 0 rfl dX0_placeOf_18 ?_
    refine r_callVR (As := [.int (nI i)]) (rest := [.ref y.1]) (rv := some (.ref z.1)) (st1 := [.ref z.1, .ref y.1]) hX cs_X0_55 (by decide) (fun l => z_get hl4 hlt (z_mapget hz) l) hl41 rfl rfl rfl rfl (Nat.le_of_ble_eq_true rfl) dX0_placeOf_19 ?_
    refine r_cast (ci := 5) hX rfl hzs cl_X0_59 dX0_placeOf_22 ?_
    refine r_callVR (As := [.ref z.1]) (rest := []) (rv := some (.int (zf_b (zm_ah (s_segs s) y z)))) (st1 := [.int (zf_b (zm_ah (s_segs s) y z))]) hX cs_X0_73 (by decide) (fun l => c_X4_isAheadOf l G h top y z x1 x2 (zm_num (s_segs s) y.2.1.2) (zm_num (s_segs s) z.2.1.2) hys hzs hx1b.symm hx2b.symm (H.seg hx1) (H.seg hx2)) hys rfl rfl rfl rfl (Nat.le_of_ble_eq_true rfl) dX0_placeOf_25 ?_
    refine r_if_eq (tgt := 33) hX dX0_placeOf_28 rfl (fun c28 => ?_) (fun c28 => ?_)
    · skip
      refine r_iinc (q := 0) (lv' := [(2, .int ((nI i) + 1)), (0, .ref (z_b G + 11)), (1, .ref y.1)]) hX rfl rfl (by decide) rfl dX0_placeOf_33 ?_
      refine r_goto (tgt := 2) hX rfl dX0_placeOf_36 ?_
      refine r_lv [0, 1, 2] (lv2 := [(2, .int (nI i + 1)), (0, .ref (z_b G + 11)), (1, .ref y.1)]) rfl ?_
      rw [nI_1]
      exact ih (i + 1) (by omega) (by omega) (fun j u hj hu => by
        rcases Nat.lt_or_ge j i with q | q
        · exact hinv j u q hu
        · obtain rfl : j = i := by omega
          rw [hz] at hu
          cases hu
          exact zf_b_e c28)
    · skip
      refine r_iload_n hX rfl 0 rfl dX0_placeOf_31 ?_
      exact r_iret hX hq (hp (by rw [zm_place_at hz (zf_b_ne c28) hinv])) dX0_placeOf_32

theorem f_place {X : zX} {G : zG} {h : zH} {top : Nat} {Post : Option Value → zH → Nat → Prop} (s : zS) (be : zB) (H : z_St G s be h top) (y : zSgt) (hy : y ∈ s_sgts s) (pk : List zSgt) (hpk : b_pk be = pk.map (fun x => x.1)) (hm : ∀ z ∈ pk, z ∈ s_sgts s) (hp : ∀ {v : Int32}, nI (zm_place (s_segs s) y pk) = v → Post (some (.int v)) h top) (hX : z_ok X cX0_placeOf 3 RX0 (some .int) "placeOf" 4 G) (hq : z_mq X Post) : ∀ (k i : Nat) , pk.length - i < k → i ≤ pk.length → (∀ (j : Nat) (z : zSgt), j < i → pk[j]? = some z → zm_ah (s_segs s) y z = false) → z_Z X h top 2 [(2, .int (nI i)), (0, .ref (z_b G + 11)), (1, .ref y.1)] [] := by
  intro k
  induction k with
  | zero => intros; omega
  | succ k ih => intro i  hk hi hinv; exact f_place_step s be H y hy pk hpk hm hp k i  hk hi hinv ih hX hq
set_option maxRecDepth 20000 in
set_option maxHeartbeats 4000000 in
theorem c_X0_placeOf (l : Launch) (G : zG) (h : zH) (top : Nat) (s : zS) (be : zB) (H : z_St G s be h top) (y : zSgt) (hy : y ∈ s_sgts s) (pk : List zSgt) (hpk : b_pk be = pk.map (fun x => x.1)) (hm : ∀ z ∈ pk, z ∈ s_sgts s) : z_Ct l yX0_placeOf cX0_placeOf 3 (some .int) 4 G [.ref (z_b G + 11), .ref y.1] h top (z_R (some (.int (nI (zm_place (s_segs s) y pk)))) h top) := by
  refine z_of (own := RX0) (nm := "placeOf") (by decide) rfl rfl (by decide) (Nat.le_of_ble_eq_true rfl) (fun X hX hq => ?_)
  replace hX : z_ok X cX0_placeOf 3 RX0 (some .int) "placeOf" 4 G := hX
  show z_Z X h top 0 [(0, .ref (z_b G + 11)), (1, .ref y.1)] []
  refine r_iconst (v := 0) hX (by decide) dX0_placeOf_0 ?_
  refine r_istore_n (lv' := [(2, .int 0), (0, .ref (z_b G + 11)), (1, .ref y.1)]) hX rfl (by decide) rfl dX0_placeOf_1 ?_
  rw [← nI_0]
  refine r_lv [0, 1, 2] (lv2 := [(2, .int (nI 0)), (0, .ref (z_b G + 11)), (1, .ref y.1)]) rfl ?_
  exact f_place s be H y hy pk hpk hm (fun e => ⟨by rw [← e], rfl, rfl⟩) hX hq (pk.length + 1) 0 (by omega) (by omega) (fun j z hj => by omega)

theorem z_setL_setL (be : zB) (j : Nat) (e1 e2 : List Nat) (l1 l2 : Int32 × Nat × Nat) (hj : j = 4 ∨ j = 5 ∨ j = 6) : z_setL (z_setL be j e1 l1) j e2 l2 = z_setL be j e2 l2 := by
  unfold z_setL
  have hu : va_up (b_ls (be.1, be.2.1, be.2.2.1, (if j = 4 then e1 else b_pk be, if j = 5 then e1 else b_jn be, if j = 6 then e1 else b_rw be), va_up (b_ls be) j l1)) j l2 = va_up (b_ls be) j l2 := by
    show va_up (va_up (b_ls be) j l1) j l2 = _
    funext k
    by_cases q : k = j <;> simp [va_up, q]
  rw [hu]
  rcases hj with rfl | rfl | rfl <;> rfl
theorem zm_step_mem {segs : List zSeg} {va : Nat} {day : Int32} {acc : List zSgt} {y z : zSgt} (h : z ∈ zm_pickStep segs va day acc y) : z = y ∨ z ∈ acc := by
  unfold zm_pickStep at h
  split at h
  · exact (List.mem_insertIdx (zm_place_le _ _ _)).mp h
  · exact Or.inr h
theorem zm_step_len (segs : List zSeg) (va : Nat) (day : Int32) (acc : List zSgt) (y : zSgt) : (zm_pickStep segs va day acc y).length ≤ acc.length + 1 := by
  unfold zm_pickStep
  split
  · rw [List.length_insertIdx_of_le_length (zm_place_le _ _ _)]
    exact Nat.le_refl _
  · exact Nat.le_succ _
theorem zm_take {α β : Type} (f : β → α → β) (b : β) (l : List α) {i : Nat} {y : α} (h : l[i]? = some y) : (l.take (i + 1)).foldl f b = f ((l.take i).foldl f b) y := by
  rw [List.take_add_one, h, List.foldl_append]
  rfl
theorem z_map_insertIdx {α : Type} (f : α → Nat) (l : List α) (i : Nat) (y : α) : (l.insertIdx i y).map f = (l.map f).insertIdx i (f y) := by
  apply List.ext_getElem?
  intro k
  rw [List.getElem?_map, List.getElem?_insertIdx, List.getElem?_insertIdx, List.length_map, List.getElem?_map, List.getElem?_map]
  repeat' split
  all_goals simp_all
set_option maxRecDepth 20000 in
set_option maxHeartbeats 4000000 in
theorem f_pick_step {X : zX} {G : zG} {h : zH} {top : Nat} {Post : Option Value → zH → Nat → Prop} (s : zS) (be0 : zB) (va : Nat) (day : Int32) (hp : ∀ (h : zH) (top : Nat) (be : zB), z_St G s be h top → b_pk be = (zm_pick (s_segs s) (s_sgts s) va day).map (fun x => x.1) → (∃ els l, be = z_setL be0 4 els l) → Post none h top) (k i : Nat) (be : zB) (pk : List zSgt) (hk : (s_sgts s).length - i < k + 1) (hi : i ≤ (s_sgts s).length) (hinv : z_St G s be h top ∧ b_pk be = pk.map (fun x => x.1) ∧ pk = ((s_sgts s).take i).foldl (zm_pickStep (s_segs s) va day) [] ∧ (∀ z ∈ pk, z ∈ s_sgts s) ∧ pk.length ≤ i ∧ ∃ els l, be = z_setL be0 4 els l) (ih : ∀ (i : Nat) (h : zH) (top : Nat) (be : zB) (pk : List zSgt), (s_sgts s).length - i < k → i ≤ (s_sgts s).length → (z_St G s be h top ∧ b_pk be = pk.map (fun x => x.1) ∧ pk = ((s_sgts s).take i).foldl (zm_pickStep (s_segs s) va day) [] ∧ (∀ z ∈ pk, z ∈ s_sgts s) ∧ pk.length ≤ i ∧ ∃ els l, be = z_setL be0 4 els l) → z_Z X h top 10 [(4, .int (nI i)), (0, .ref (z_b G + 11)), (1, .ref (z_b G + 3)), (2, .ref va), (3, .int day)] []) (hX : z_ok X cX0_pick 6 RX0 none "pick" 7 G) (hq : z_mq X (Post)) : z_Z X h top 10 [(4, .int (nI i)), (0, .ref (z_b G + 11)), (1, .ref (z_b G + 3)), (2, .ref va), (3, .int day)] [] := by
  obtain ⟨H, hpk, hacc, hm, hlen, hset⟩ := hinv
  have hbk := H.bk
  have hl2 := H.l2
  have hl21 := hl2.1
  have hl4 := H.l4
  have hl41 := hl4.1
  refine r_iload hX 0 rfl dX0_pick_10 ?_
  refine r_aload_n hX rfl 2 rfl dX0_pick_12 ?_
  refine r_callVR (As := []) (rest := [.int (nI i)]) (rv := some (.int (nI (s_sgts s).length))) (st1 := [.int (nI (s_sgts s).length), .int (nI i)]) hX cs_X0_27 (by decide) (fun l => z_size hl2 l) hl21 rfl rfl rfl rfl (Nat.le_of_ble_eq_true rfl) dX0_pick_13 ?_
  refine r_icmp_ge (tgt := 61) hX dX0_pick_16 rfl (fun c16 => ?_) (fun c16 => ?_)
  · skip
    exact r_vret hX hq (hp h top be H (by rw [hpk, hacc, List.take_of_length_le ((nI_leI (by have := H.2.2.1.2.2.2.2.2.1; omega) (by have := H.2.2.1.2.2.2.2.2.1; omega)).mp c16)]; rfl) hset) dX0_pick_61
  · skip
    have hlt : i < (s_sgts s).length := by
      rcases Nat.lt_or_ge i (s_sgts s).length with q | q
      · exact q
      · exact absurd (nI_le q (by have := H.2.2.1.2.2.2.2.2.1; omega)) c16
    obtain ⟨y, hy⟩ : ∃ y, (s_sgts s)[i]? = some y := ⟨_, List.getElem?_eq_getElem hlt⟩
    have hys := H.sgt hy
    refine r_aload_n hX rfl 2 rfl dX0_pick_19 ?_
    refine r_iload hX 0 rfl dX0_pick_20 ?_
    refine r_callVR (As := [.int (nI i)]) (rest := []) (rv := some (.ref y.1)) (st1 := [.ref y.1]) hX cs_X0_55 (by decide) (fun l => z_get hl2 hlt (z_mapget hy) l) hl21 rfl rfl rfl rfl (Nat.le_of_ble_eq_true rfl) dX0_pick_22 ?_
    refine r_cast (ci := 5) hX rfl hys cl_X0_59 dX0_pick_25 ?_
    refine r_astore (lv' := [(5, .ref y.1), (4, .int (nI i)), (0, .ref (z_b G + 11)), (1, .ref (z_b G + 3)), (2, .ref va), (3, .int day)]) hX (by decide) rfl dX0_pick_28 ?_
    refine r_aload hX 0 rfl dX0_pick_30 ?_
    refine r_aload_n hX rfl 4 rfl dX0_pick_32 ?_
    refine r_iload_n hX rfl 5 rfl dX0_pick_33 ?_
    refine r_callVR (As := [.ref va, .int day]) (rest := []) (rv := some (.int (zf_b (zm_isOf y va day)))) (st1 := [.int (zf_b (zm_isOf y va day))]) hX cs_X0_61 (by decide) (fun l => c_X4_isOf l G h top y va day hys) hys rfl rfl rfl rfl (Nat.le_of_ble_eq_true rfl) dX0_pick_34 ?_
    refine r_if_eq (tgt := 55) hX dX0_pick_37 rfl (fun c37 => ?_) (fun c37 => ?_)
    · skip
      refine r_iinc (q := 1) (lv' := [(4, .int ((nI i) + 1)), (5, .ref y.1), (0, .ref (z_b G + 11)), (1, .ref (z_b G + 3)), (2, .ref va), (3, .int day)]) hX rfl rfl (by decide) rfl dX0_pick_55 ?_
      refine r_goto (tgt := 10) hX rfl dX0_pick_58 ?_
      refine r_lv [0, 2, 3, 4, 5] (lv2 := [(4, .int (nI i + 1)), (0, .ref (z_b G + 11)), (1, .ref (z_b G + 3)), (2, .ref va), (3, .int day)]) rfl ?_
      rw [nI_1]
      have hst : zm_pickStep (s_segs s) va day pk y = pk := if_neg (by rw [zf_b_e c37]; decide)
      exact ih (i + 1) h top be pk (by omega) (by omega) ⟨H, hpk, by rw [zm_take _ _ _ hy, ← hacc, hst], hm, by omega, hset⟩
    · skip
      refine r_aload_n hX rfl 2 rfl dX0_pick_40 ?_
      refine r_getf hX fl_X0_12 hbk rfl dX0_pick_41 ?_
      refine r_aload_n hX rfl 2 rfl dX0_pick_44 ?_
      refine r_aload hX 0 rfl dX0_pick_45 ?_
      refine r_callVR (As := [.ref y.1]) (rest := [.ref (z_b G + 12)]) (rv := some (.int (nI (zm_place (s_segs s) y pk)))) (st1 := [.int (nI (zm_place (s_segs s) y pk)), .ref (z_b G + 12)]) hX cs_X0_65 (by decide) (fun l => c_X0_placeOf l G h top s be H y (List.mem_of_getElem? hy) pk hpk hm) hbk rfl rfl rfl rfl (Nat.le_of_ble_eq_true rfl) dX0_pick_47 ?_
      refine r_aload hX 0 rfl dX0_pick_50 ?_
      refine r_callV (As := [.int (nI (zm_place (s_segs s) y pk)), .ref y.1]) (rest := []) hX cs_X0_69 (by decide) (fun l => c_ins l G h top (z_b G + 12) y.1 (b_ls be 4).2.1 (b_pk be).length (b_ls be 4).2.2 (zm_place (s_segs s) y pk) (b_ls be 4).1 (fun q : Nat => (b_pk be)[q]?) (Nat.le_trans H.hall.1 (Nat.le_of_lt H.hall.2.1)) (by rw [hpk, List.length_map]; exact zm_place_le _ _ _) hl4 (fun i hi u hu => by rw [hpk] at hu; obtain ⟨q, hq, rfl⟩ := List.mem_map.mp (List.mem_of_getElem? hu); obtain ⟨iq, hiq⟩ := List.getElem?_of_mem (hm q hq); exact H.ob_sgt hiq) (by rw [hpk, List.length_map]; have := H.2.2.1.2.2.2.2.2.1; omega) (H.ob_sgt hy) (fun _ => by have := H.2.2.1.room; omega)) hl41 rfl rfl rfl (Nat.le_of_ble_eq_true rfl) dX0_pick_52 (fun r1 h1 top1 hp1 => ?_)
      obtain ⟨rfl, l4, H2⟩ := H.addB 4 (Or.inl rfl) hp1 (show zm_place (s_segs s) y pk ≤ (b_pk be).length by rw [hpk, List.length_map]; exact zm_place_le _ _ _) (show (b_pk be).length ≤ 120 by rw [hpk, List.length_map]; have := H.2.2.1.2.2.2.2.2.1; omega)
      have hst : zm_pickStep (s_segs s) va day pk y = pk.insertIdx (zm_place (s_segs s) y pk) y := if_pos (zf_b_ne c37)
      refine r_iinc (q := 1) (lv' := [(4, .int ((nI i) + 1)), (5, .ref y.1), (0, .ref (z_b G + 11)), (1, .ref (z_b G + 3)), (2, .ref va), (3, .int day)]) hX rfl rfl (by decide) rfl dX0_pick_55 ?_
      refine r_goto (tgt := 10) hX rfl dX0_pick_58 ?_
      refine r_lv [0, 2, 3, 4, 5] (lv2 := [(4, .int (nI i + 1)), (0, .ref (z_b G + 11)), (1, .ref (z_b G + 3)), (2, .ref va), (3, .int day)]) rfl ?_
      rw [nI_1]
      obtain ⟨els0, l0, hset⟩ := hset
      refine ih (i + 1) h1 top1 _ (pk.insertIdx (zm_place (s_segs s) y pk) y) (by omega) (by omega) ⟨H2, ?_, by rw [zm_take _ _ _ hy, ← hacc, hst], fun z hz => ?_, ?_, ⟨_, l4, by rw [hset, z_setL_setL _ _ _ _ _ _ (Or.inl rfl)]⟩⟩
      · rw [z_map_insertIdx, ← hpk]
        rfl
      · rcases (List.mem_insertIdx (zm_place_le _ _ _)).mp hz with q | q
        · rw [q]; exact List.mem_of_getElem? hy
        · exact hm z q
      · rw [List.length_insertIdx_of_le_length (zm_place_le _ _ _)]; omega

theorem f_pick {X : zX} {G : zG}  {Post : Option Value → zH → Nat → Prop} (s : zS) (be0 : zB) (va : Nat) (day : Int32) (hp : ∀ (h : zH) (top : Nat) (be : zB), z_St G s be h top → b_pk be = (zm_pick (s_segs s) (s_sgts s) va day).map (fun x => x.1) → (∃ els l, be = z_setL be0 4 els l) → Post none h top) (hX : z_ok X cX0_pick 6 RX0 none "pick" 7 G) (hq : z_mq X Post) : ∀ (k i : Nat) (h : zH) (top : Nat) (be : zB) (pk : List zSgt), (s_sgts s).length - i < k → i ≤ (s_sgts s).length → (z_St G s be h top ∧ b_pk be = pk.map (fun x => x.1) ∧ pk = ((s_sgts s).take i).foldl (zm_pickStep (s_segs s) va day) [] ∧ (∀ z ∈ pk, z ∈ s_sgts s) ∧ pk.length ≤ i ∧ ∃ els l, be = z_setL be0 4 els l) → z_Z X h top 10 [(4, .int (nI i)), (0, .ref (z_b G + 11)), (1, .ref (z_b G + 3)), (2, .ref va), (3, .int day)] [] := by
  intro k
  induction k with
  | zero => intros; omega
  | succ k ih => intro i h top be pk hk hi hinv; exact f_pick_step s be0 va day hp k i be pk hk hi hinv ih hX hq
set_option maxRecDepth 20000 in
set_option maxHeartbeats 4000000 in
theorem c_X0_pick (l : Launch) (G : zG) (h : zH) (top : Nat) (s : zS) (be : zB) (va : Nat) (day : Int32) (H : z_St G s be h top) : z_Ct l yX0_pick cX0_pick 6 none 7 G [.ref (z_b G + 11), .ref (z_b G + 3), .ref va, .int day] h top (fun r h' top' => r = none ∧ ∃ be2, z_St G s be2 h' top' ∧ b_pk be2 = (zm_pick (s_segs s) (s_sgts s) va day).map (fun x => x.1) ∧ ∃ els l, be2 = z_setL be 4 els l) := by
  refine z_of (own := RX0) (nm := "pick") (by decide) rfl rfl (by decide) (Nat.le_of_ble_eq_true rfl) (fun X hX hq => ?_)
  replace hX : z_ok X cX0_pick 6 RX0 none "pick" 7 G := hX
  show z_Z X h top 0 [(0, .ref (z_b G + 11)), (1, .ref (z_b G + 3)), (2, .ref va), (3, .int day)] []
  have hbk := H.bk
  have hl41 := H.l4.1
  refine r_aload_n hX rfl 0 rfl dX0_pick_0 ?_
  refine r_getf hX fl_X0_12 hbk rfl dX0_pick_1 ?_
  refine r_callV (As := []) (rest := []) hX cs_X0_42 (by decide) (fun l => c_Jx4a65c_clear_da8c8 l G h top (z_b G + 12) (b_ls be 4).2.1 (b_pk be).length (b_ls be 4).2.2 (b_ls be 4).1 (fun q : Nat => (b_pk be)[q]?) H.l4 (by have := H.2.2.2.2; omega)) hl41 rfl rfl rfl (Nat.le_of_ble_eq_true rfl) dX0_pick_4 (fun r1 h1 top1 hp1 => ?_)
  obtain ⟨rfl, rfl, m4, f4, hA4, hf4⟩ := hp1
  obtain ⟨l4, H2⟩ := H.clrB 4 (Or.inl rfl) hA4 hf4
  refine r_iconst (v := 0) hX (by decide) dX0_pick_7 ?_
  refine r_istore (lv' := [(4, .int 0), (0, .ref (z_b G + 11)), (1, .ref (z_b G + 3)), (2, .ref va), (3, .int day)]) hX (by decide) rfl dX0_pick_8 ?_
  rw [← nI_0]
  refine r_lv [0, 1, 2, 3, 4] (lv2 := [(4, .int (nI 0)), (0, .ref (z_b G + 11)), (1, .ref (z_b G + 3)), (2, .ref va), (3, .int day)]) rfl ?_
  exact f_pick s be va day (fun h9 top9 be9 H9 e1 e2 => ⟨rfl, be9, H9, e1, e2⟩) hX hq ((s_sgts s).length + 1) 0 h1 top1 _ [] (by omega) (by omega) ⟨H2, rfl, rfl, (fun z hz => by cases hz), Nat.le_refl _, ⟨[], l4, rfl⟩⟩
end
section
/-! joining -/
/-- a passage: its segment's address, minute, sightings, doubtful -/
abbrev zQ : Type := Nat × Int32 × Int32 × Int32
def zm_q (p : zPas) : zQ := (p.2.1, p.2.2.1, p.2.2.2.1, p.2.2.2.2.1)
def zm_lastF (Q : List zQ) (sA : Nat) : Nat → Option Nat
  | 0 => none
  | k + 1 => match Q[k]? with
    | none => none
    | some q => if q.1 = sA then some k else zm_lastF Q sA k
def zm_last (Q : List zQ) (sA : Nat) : Option Nat := zm_lastF Q sA Q.length
theorem zm_lastF_s {Q : List zQ} {sA k : Nat} {q : zQ} (h : Q[k]? = some q) : zm_lastF Q sA (k + 1) = if q.1 = sA then some k else zm_lastF Q sA k := by
  show (match Q[k]? with
    | none => none
    | some q => if q.1 = sA then some k else zm_lastF Q sA k) = _
  rw [h]
theorem zm_last_lt {Q : List zQ} {sA k : Nat} (h : zm_last Q sA = some k) : ∃ q, Q[k]? = some q ∧ q.1 = sA := by
  have key : ∀ n, zm_lastF Q sA n = some k → ∃ q, Q[k]? = some q ∧ q.1 = sA := by
    intro n
    induction n with
    | zero => intro z; cases z
    | succ n ih =>
      intro z
      cases hq : Q[n]? with
      | none => simp only [zm_lastF, hq] at z; cases z
      | some q =>
        rw [zm_lastF_s hq] at z
        by_cases e : q.1 = sA
        · rw [if_pos e] at z; cases z; exact ⟨q, hq, e⟩
        · rw [if_neg e] at z; exact ih z
  exact key _ h
def zm_jn (q : zQ) (y : zSgt) : zQ := (q.1, q.2.1, q.2.2.1 + 1, zm_doubt (q.2.2.1 + 1) y.2.2.2.1)
def zm_joinStep (Q : List zQ) (y : zSgt) : List zQ := match zm_last Q y.2.1.2 with
  | none => (Q ++ [(y.2.1.2, y.2.2.1, 0, 0)]).set Q.length (zm_jn (y.2.1.2, y.2.2.1, 0, 0) y)
  | some k => match Q[k]? with
    | none => Q
    | some q => if 15 < y.2.2.1 - q.2.1 then (Q ++ [(y.2.1.2, y.2.2.1, 0, 0)]).set Q.length (zm_jn (y.2.1.2, y.2.2.1, 0, 0) y) else Q.set k (zm_jn q y)
def zm_join (pk : List zSgt) : List zQ := pk.foldl zm_joinStep []
theorem zm_joinStep_len (Q : List zQ) (y : zSgt) : (zm_joinStep Q y).length ≤ Q.length + 1 := by
  unfold zm_joinStep
  split
  · simp
  · split
    · omega
    · split <;> simp
/-- while joining: the pool's first passages are the joined ones, and say Q -/
def z_JI (G : zG) (s : zS) (be0 be : zB) (Q : List zQ) (h : zH) (top : Nat) : Prop := z_St G s be h top ∧ b_pu be = nI Q.length ∧ b_jn be = ((b_pool be).take Q.length).map (fun x => x.1) ∧ ((b_pool be).take Q.length).map zm_q = Q ∧ b_pk be = b_pk be0 ∧ b_rw be = b_rw be0 ∧ b_rch be = b_rch be0 ∧ b_ct be = b_ct be0
theorem z_JI.len {G : zG} {s : zS} {be0 be : zB} {Q : List zQ} {h : zH} {top : Nat} (J : z_JI G s be0 be Q h top) : Q.length ≤ (b_pool be).length := by
  have := congrArg List.length J.2.2.2.1
  rw [List.length_map, List.length_take] at this
  omega
theorem z_JI.at {G : zG} {s : zS} {be0 be : zB} {Q : List zQ} {h : zH} {top : Nat} (J : z_JI G s be0 be Q h top) {k : Nat} {q : zQ} (hq : Q[k]? = some q) : ∃ p : zPas, (b_pool be)[k]? = some p ∧ zm_q p = q ∧ (b_jn be)[k]? = some p.1 := by
  have hk : k < Q.length := (List.getElem?_eq_some_iff.mp hq).1
  have hk2 := Nat.lt_of_lt_of_le hk J.len
  have e := J.2.2.2.1
  rw [← e, List.getElem?_map, List.getElem?_take_of_lt hk, List.getElem?_eq_getElem hk2] at hq
  refine ⟨_, List.getElem?_eq_getElem hk2, Option.some.inj hq, ?_⟩
  rw [J.2.2.1, List.getElem?_map, List.getElem?_take_of_lt hk, List.getElem?_eq_getElem hk2]
  rfl
theorem z_JI.jlen {G : zG} {s : zS} {be0 be : zB} {Q : List zQ} {h : zH} {top : Nat} (J : z_JI G s be0 be Q h top) : (b_jn be).length = Q.length := by
  rw [J.2.2.1, List.length_map, List.length_take]
  have := J.len
  omega
set_option maxRecDepth 20000 in
set_option maxHeartbeats 4000000 in
theorem f_last_step {X : zX} {G : zG} {h : zH} {top : Nat} {Post : Option Value → zH → Nat → Prop} (s : zS) (be0 be : zB) (Q : List zQ) (J : z_JI G s be0 be Q h top) (sg : Nat) (k : Nat) (r : Option Nat) (hk : k < Q.length) (hr : zm_lastF Q sg (k + 1) = r) (hp : ∀ r2, r2 = r → Post (some (va_rf (r2.bind (fun k => ((b_pool be)[k]?).map (fun p => p.1))))) h top) (ih : zm_lastF Q sg k = r → z_Z X h top 10 [(2, .int (nI k + (-1))), (0, .ref (z_b G + 11)), (1, .ref sg)] []) (hX : z_ok X cX0_lastOn 4 RX0 (some (.object "GantryHall$Passage")) "lastOn" 4 G) (hq : z_mq X (Post)) : z_Z X h top 10 [(2, .int (nI k)), (0, .ref (z_b G + 11)), (1, .ref sg)] [] := by
  have H := J.1
  have hbk := H.bk
  have hl5 := H.l5
  rw [J.jlen] at hl5
  have hl51 := hl5.1
  refine r_iload_n hX rfl 0 rfl dX0_lastOn_10 ?_
  refine r_if_lt (tgt := 42) hX dX0_lastOn_11 rfl (fun c => False.elim (absurd c (nI_pos (show k < 2 ^ 31 by have := hl5.2.1; have := hl5.2.2.1; omega)))) (fun _ => ?_)
  obtain ⟨q, hqk⟩ : ∃ q, Q[k]? = some q := ⟨_, List.getElem?_eq_getElem hk⟩
  obtain ⟨p, hp1, hp2, hp3⟩ := J.at hqk
  have hps := H.pas hp1
  have hpq : p.2.1 = q.1 := by rw [← hp2]; rfl
  refine r_aload_n hX rfl 1 rfl dX0_lastOn_14 ?_
  refine r_getf hX fl_X0_18 hbk rfl dX0_lastOn_15 ?_
  refine r_iload_n hX rfl 0 rfl dX0_lastOn_18 ?_
  refine r_callVR (As := [.int (nI k)]) (rest := []) (rv := some (.ref p.1)) (st1 := [.ref p.1]) hX cs_X0_55 (by decide) (fun l => z_get hl5 hk hp3 l) hl51 rfl rfl rfl rfl (Nat.le_of_ble_eq_true rfl) dX0_lastOn_19 ?_
  refine r_cast (ci := 3) hX rfl hps cl_X0_89 dX0_lastOn_22 ?_
  refine r_astore_n (lv' := [(3, .ref p.1), (2, .int (nI k)), (0, .ref (z_b G + 11)), (1, .ref sg)]) hX rfl (by decide) rfl dX0_lastOn_25 ?_
  refine r_aload_n hX rfl 0 rfl dX0_lastOn_26 ?_
  refine r_getf hX fl_X0_102 hps rfl dX0_lastOn_27 ?_
  refine r_aload_n hX rfl 3 rfl dX0_lastOn_30 ?_
  refine r_acmp_ne (tgt := 36) hX dX0_lastOn_31 rfl (fun c31 => ?_) (fun c31 => ?_)
  · skip
    refine r_iinc (q := 1) (lv' := [(2, .int ((nI k) + (-1))), (3, .ref p.1), (0, .ref (z_b G + 11)), (1, .ref sg)]) hX rfl (congrArg (HAdd.hAdd (nI k)) (show Int32.ofInt (-1) = (-1 : Int32) by decide)) (by decide) rfl dX0_lastOn_36 ?_
    refine r_goto (tgt := 10) hX rfl dX0_lastOn_39 ?_
    refine r_lv [0, 2, 3] (lv2 := [(2, .int (nI k + (-1))), (0, .ref (z_b G + 11)), (1, .ref sg)]) rfl ?_
    exact ih ((if_neg (by rw [← hpq]; exact c31)).symm.trans ((zm_lastF_s hqk).symm.trans hr))
  · skip
    refine r_aload_n hX rfl 0 rfl dX0_lastOn_34 ?_
    exact r_aret hX rfl (Or.inl ⟨_, rfl⟩) hq (Or.inr ⟨_, rfl⟩) (by have q := hp (some k) (((zm_lastF_s hqk).trans (if_pos (hpq.symm.trans c31))).symm.trans hr); simp only [Option.bind_some, hp1, Option.map_some] at q; exact q) dX0_lastOn_35

set_option maxRecDepth 20000 in
set_option maxHeartbeats 4000000 in
theorem f_last_end {X : zX} {G : zG} {h : zH} {top : Nat} {Post : Option Value → zH → Nat → Prop} (be : zB) (sg : Nat) (r : Option Nat) (hr : none = r) (hp : ∀ r2, r2 = r → Post (some (va_rf (r2.bind (fun k => ((b_pool be)[k]?).map (fun p => p.1))))) h top) (hX : z_ok X cX0_lastOn 4 RX0 (some (.object "GantryHall$Passage")) "lastOn" 4 G) (hq : z_mq X (Post)) : z_Z X h top 10 [(2, .int (-1)), (0, .ref (z_b G + 11)), (1, .ref sg)] [] := by
  refine r_iload_n hX rfl 0 rfl dX0_lastOn_10 ?_
  refine r_if_lt (tgt := 42) hX dX0_lastOn_11 rfl (fun _ => ?_) (fun c => False.elim (absurd c (by decide)))
  refine r_null hX dX0_lastOn_42 ?_
  exact r_aret hX rfl (Or.inl ⟨_, rfl⟩) hq (Or.inl rfl) (hp none hr) dX0_lastOn_43

theorem f_last {X : zX} {G : zG} {h : zH} {top : Nat} {Post : Option Value → zH → Nat → Prop} (s : zS) (be0 be : zB) (Q : List zQ) (J : z_JI G s be0 be Q h top) (sg : Nat) (r : Option Nat) (hp : ∀ r2, r2 = r → Post (some (va_rf (r2.bind (fun k => ((b_pool be)[k]?).map (fun p => p.1))))) h top) (hX : z_ok X cX0_lastOn 4 RX0 (some (.object "GantryHall$Passage")) "lastOn" 4 G) (hq : z_mq X Post) : ∀ k : Nat, k ≤ Q.length → zm_lastF Q sg k = r → z_Z X h top 10 [(2, .int (nI k + (-1))), (0, .ref (z_b G + 11)), (1, .ref sg)] [] := by
  intro k
  induction k with
  | zero =>
    intro hk hp2
    rw [show nI 0 + (-1) = (-1 : Int32) by decide]
    exact f_last_end be sg r hp2 hp hX hq
  | succ k ih =>
    intro hk hp2
    rw [pk_m1]
    exact f_last_step s be0 be Q J sg k r (by omega) hp2 hp (ih (by omega)) hX hq
set_option maxRecDepth 20000 in
set_option maxHeartbeats 4000000 in
theorem c_X0_lastOn (l : Launch) (G : zG) (h : zH) (top : Nat) (s : zS) (be0 be : zB) (Q : List zQ) (J : z_JI G s be0 be Q h top) (sg : Nat) : z_Ct l yX0_lastOn cX0_lastOn 4 (some (.object "GantryHall$Passage")) 4 G [.ref (z_b G + 11), .ref sg] h top (z_R (some (va_rf ((zm_last Q sg).bind (fun k => ((b_pool be)[k]?).map (fun p => p.1))))) h top) := by
  refine z_of (own := RX0) (nm := "lastOn") (by decide) rfl rfl (by decide) (Nat.le_of_ble_eq_true rfl) (fun X hX hq => ?_)
  replace hX : z_ok X cX0_lastOn 4 RX0 (some (.object "GantryHall$Passage")) "lastOn" 4 G := hX
  show z_Z X h top 0 [(0, .ref (z_b G + 11)), (1, .ref sg)] []
  have H := J.1
  have hbk := H.bk
  have hl5 := H.l5
  rw [J.jlen] at hl5
  have hl51 := hl5.1
  refine r_aload_n hX rfl 0 rfl dX0_lastOn_0 ?_
  refine r_getf hX fl_X0_18 hbk rfl dX0_lastOn_1 ?_
  refine r_callVR (As := []) (rest := []) (rv := some (.int (nI Q.length))) (st1 := [.int (nI Q.length)]) hX cs_X0_27 (by decide) (fun l => z_size hl5 l) hl51 rfl rfl rfl rfl (Nat.le_of_ble_eq_true rfl) dX0_lastOn_4 ?_
  refine r_iconst (v := 1) hX (by decide) dX0_lastOn_7 ?_
  refine r_isub hX dX0_lastOn_8 ?_
  refine r_istore_n (lv' := [(2, .int ((nI Q.length) - 1)), (0, .ref (z_b G + 11)), (1, .ref sg)]) hX rfl (by decide) rfl dX0_lastOn_9 ?_
  refine r_lv [0, 1, 2] (lv2 := [(2, .int (nI Q.length + (-1))), (0, .ref (z_b G + 11)), (1, .ref sg)]) (by rw [Int32.sub_eq_add_neg]; rfl) ?_
  exact f_last s be0 be Q J sg (zm_last Q sg) (fun r2 e => ⟨by rw [e], rfl, rfl⟩) hX hq Q.length (Nat.le_refl _) rfl

theorem c_last_none (l : Launch) (G : zG) (h : zH) (top : Nat) (s : zS) (be0 be : zB) (Q : List zQ) (J : z_JI G s be0 be Q h top) (sg : Nat) (hl : zm_last Q sg = none) : z_Ct l yX0_lastOn cX0_lastOn 4 (some (.object "GantryHall$Passage")) 4 G [.ref (z_b G + 11), .ref sg] h top (z_R (some .null) h top) := by
  have q := c_X0_lastOn l G h top s be0 be Q J sg
  rw [hl] at q
  exact q
theorem c_last_some (l : Launch) (G : zG) (h : zH) (top : Nat) (s : zS) (be0 be : zB) (Q : List zQ) (J : z_JI G s be0 be Q h top) (sg : Nat) {k : Nat} {p : zPas} (hl : zm_last Q sg = some k) (hpk : (b_pool be)[k]? = some p) : z_Ct l yX0_lastOn cX0_lastOn 4 (some (.object "GantryHall$Passage")) 4 G [.ref (z_b G + 11), .ref sg] h top (z_R (some (.ref p.1)) h top) := by
  have q := c_X0_lastOn l G h top s be0 be Q J sg
  rw [hl, Option.bind_some, hpk] at q
  exact q
set_option maxRecDepth 20000 in
set_option maxHeartbeats 4000000 in
theorem f_jn81 {X : zX} {G : zG} {h : zH} {top : Nat} {Post : Option Value → zH → Nat → Prop} (s : zS) (be0 be : zB) (Q : List zQ) (i k : Nat) (q : zQ) (p : zPas) (y : zSgt) (J : z_JI G s be0 be Q h top) (hqk : Q[k]? = some q) (hp1 : (b_pool be)[k]? = some p) (hp2 : zm_q p = q) (hy : y ∈ s_sgts s) (ih : ∀ (h : zH) (top : Nat) (be : zB), z_JI G s be0 be (Q.set k (zm_jn q y)) h top → z_Z X h top 9 [(1, .int (nI (i + 1))), (0, .ref (z_b G + 11))] []) (hX : z_ok X cX0_joinPicked 4 RX0 none "joinPicked" 9 G) (hq : z_mq X (Post)) : z_Z X h top 81 [(3, .ref p.1), (2, .ref y.1), (1, .int (nI i)), (0, .ref (z_b G + 11))] [] := by
  have H := J.1
  have hps := H.pas hp1
  obtain ⟨iy, hiy⟩ := List.getElem?_of_mem hy
  have hys := H.sgt hiy
  refine r_aload_n hX rfl 0 rfl dX0_joinPicked_81 ?_
  refine r_aload_n hX rfl 1 rfl dX0_joinPicked_82 ?_
  refine r_callVR (As := [.ref y.1]) (rest := []) (rv := none) (st1 := []) hX cs_X0_98 (by decide) (fun l => c_X2_join l G h top p.1 y p.2.1 p.2.2.1 p.2.2.2.1 p.2.2.2.2.1 p.2.2.2.2.2.1 p.2.2.2.2.2.2 hps hys) hps rfl rfl rfl rfl (Nat.le_of_ble_eq_true rfl) dX0_joinPicked_83 ?_
  have H2 := H.setPas (p2 := (p.1, p.2.1, p.2.2.1, p.2.2.2.1 + 1, zm_doubt (p.2.2.2.1 + 1) y.2.2.2.1, p.2.2.2.2.2.1, p.2.2.2.2.2.2)) hp1 rfl (H.2.2.2.1.2 p (List.mem_of_getElem? hp1))
  refine r_iinc (q := 2) (lv' := [(1, .int ((nI i) + 1)), (3, .ref p.1), (2, .ref y.1), (0, .ref (z_b G + 11))]) hX rfl rfl (by decide) rfl dX0_joinPicked_86 ?_
  refine r_goto (tgt := 9) hX rfl dX0_joinPicked_89 ?_
  refine r_lv [0, 3] (lv2 := [(1, .int (nI i + 1)), (0, .ref (z_b G + 11))]) rfl ?_
  rw [nI_1]
  have hk : k < Q.length := (List.getElem?_eq_some_iff.mp hqk).1
  refine ih _ _ _ ⟨H2, ?_, ?_, ?_, J.2.2.2.2.1, J.2.2.2.2.2.1, J.2.2.2.2.2.2.1, J.2.2.2.2.2.2.2⟩
  · rw [List.length_set]; exact J.2.1
  · rw [List.length_set]
    show b_jn be = (((b_pool be).set k _).take Q.length).map _
    rw [J.2.2.1, List.take_set]
    refine Eq.symm (z_map_set (x := p) ?_ ?_)
    · rw [List.getElem?_take_of_lt hk]; exact hp1
    · rfl
  · rw [List.length_set]
    show (((b_pool be).set k _).take Q.length).map zm_q = _
    rw [List.take_set, List.map_set, J.2.2.2.1]
    congr 1
    rw [← hp2]
    rfl

set_option maxRecDepth 20000 in
set_option maxHeartbeats 4000000 in
theorem f_jn59 {X : zX} {G : zG} {h : zH} {top : Nat} {Post : Option Value → zH → Nat → Prop} (s : zS) (be0 be : zB) (Q : List zQ) (i : Nat) (y : zSgt) (J : z_JI G s be0 be Q h top) (hQ : Q.length < 60) (hy : y ∈ s_sgts s) (ih : ∀ (h : zH) (top : Nat) (be : zB), z_JI G s be0 be ((Q ++ [(y.2.1.2, y.2.2.1, 0, 0)]).set Q.length (zm_jn (y.2.1.2, y.2.2.1, 0, 0) y)) h top → z_Z X h top 9 [(1, .int (nI (i + 1))), (0, .ref (z_b G + 11))] []) (hX : z_ok X cX0_joinPicked 4 RX0 none "joinPicked" 9 G) (hq : z_mq X (Post)) : z_Z X h top 59 [(2, .ref y.1), (1, .int (nI i)), (0, .ref (z_b G + 11))] [] := by
  have H := J.1
  have hbk := H.bk
  obtain ⟨iy, hiy⟩ := List.getElem?_of_mem hy
  have hys := H.sgt hiy
  refine r_aload_n hX rfl 2 rfl dX0_joinPicked_59 ?_
  refine r_aload_n hX rfl 0 rfl dX0_joinPicked_60 ?_
  refine r_getf hX fl_X0_77 hys rfl dX0_joinPicked_61 ?_
  refine r_aload_n hX rfl 0 rfl dX0_joinPicked_64 ?_
  refine r_getf hX fl_X0_85 hys rfl dX0_joinPicked_65 ?_
  refine r_callV (As := [.ref y.2.1.2, .int y.2.2.1]) (rest := []) hX cs_X0_91 (by decide) (fun l => c_begin l G h top s be Q.length y.2.1.2 y.2.2.1 J.1 J.2.1 (J.1.2.2.2.1.1 y hy).2 J.len (by omega)) hbk rfl rfl rfl (Nat.le_of_ble_eq_true rfl) dX0_joinPicked_68 (fun r1 h1 top1 hp1 => ?_)
  obtain ⟨be2, a, H2, rfl, q1, q2, q3, q4, q5, q6, q7, q8⟩ := hp1
  have hbk2 := H2.bk
  have hl5 := H2.l5
  have hl51 := hl5.1
  refine r_astore_n (lv' := [(3, .ref a), (2, .ref y.1), (1, .int (nI i)), (0, .ref (z_b G + 11))]) hX rfl (by decide) rfl dX0_joinPicked_71 ?_
  have hjo : ∀ (i : Nat), i < (b_jn be).length → ∀ (u : Nat), (b_jn be)[i]? = some u → ∃ p9 : zPas, (b_pool be2)[i]? = some p9 ∧ p9.1 = u := by
    intro i hi u hu
    rw [J.jlen] at hi
    have e1 := List.getElem?_eq_getElem hi
    obtain ⟨p9, w1, w2, w3⟩ := J.at e1
    rw [hu] at w3
    cases w3
    exact ⟨p9, by rw [q3 i hi]; exact w1, rfl⟩
  refine r_aload_n hX rfl 3 rfl dX0_joinPicked_72 ?_
  refine r_getf hX fl_X0_18 hbk2 rfl dX0_joinPicked_73 ?_
  refine r_aload_n hX rfl 0 rfl dX0_joinPicked_76 ?_
  refine r_callV (As := [.ref a]) (rest := []) hX cs_X0_95 (by decide) (fun l => c_add1 l G h1 top1 (z_b G + 13) a (b_ls be2 5).2.1 (b_jn be2).length (b_ls be2 5).2.2 (b_ls be2 5).1 (fun q : Nat => (b_jn be2)[q]?) (Nat.le_trans H2.hall.1 (Nat.le_of_lt H2.hall.2.1)) hl5 (fun i hi u hu => by obtain ⟨p9, w1, w2⟩ := hjo i (by rw [q7] at hi; exact hi) u (by rw [q7] at hu; exact hu); rw [← w2]; exact H2.ob_pas w1) (by rw [q7, J.jlen]; omega) (H2.ob_pas q2) (fun _ => by have := H2.2.2.1.room; omega)) hl51 rfl rfl rfl (Nat.le_of_ble_eq_true rfl) dX0_joinPicked_77 (fun r2 h2 top2 hp2 => ?_)
  obtain ⟨rfl, l5, H3⟩ := H2.addB 5 (Or.inr (Or.inl rfl)) hp2 (Nat.le_refl _) (show (b_jn be2).length ≤ 120 by rw [q7, J.jlen]; omega)
  refine r_pop hX rfl dX0_joinPicked_80 ?_
  refine r_lv [0, 1, 2, 3] (lv2 := [(3, .ref a), (2, .ref y.1), (1, .int (nI i)), (0, .ref (z_b G + 11))]) rfl ?_
  have hQl : (Q ++ [(y.2.1.2, y.2.2.1, 0, 0)]).length = Q.length + 1 := by rw [List.length_append, List.length_singleton]
  have hlp : Q.length < (b_pool be2).length := (List.getElem?_eq_some_iff.mp q2).1
  have htk : (b_pool be2).take Q.length = (b_pool be).take Q.length := by
    apply List.ext_getElem?
    intro n
    rcases Nat.lt_or_ge n Q.length with v | v
    · rw [List.getElem?_take_of_lt v, List.getElem?_take_of_lt v, q3 n v]
    · rw [List.getElem?_eq_none (by rw [List.length_take]; omega), List.getElem?_eq_none (by rw [List.length_take]; omega)]
  have htk1 : (b_pool be2).take (Q.length + 1) = (b_pool be).take Q.length ++ [(a, y.2.1.2, y.2.2.1, 0, 0, 0, 0)] := by rw [List.take_add_one, q2, htk]; rfl
  refine f_jn81 s be0 _ (Q ++ [(y.2.1.2, y.2.2.1, 0, 0)]) i Q.length (y.2.1.2, y.2.2.1, 0, 0) (a, y.2.1.2, y.2.2.1, 0, 0, 0, 0) y ⟨H3, ?_, ?_, ?_, q6.trans J.2.2.2.2.1, q8.trans J.2.2.2.2.2.1, q4.trans J.2.2.2.2.2.2.1, q5.trans J.2.2.2.2.2.2.2⟩ (by rw [List.getElem?_append_right (Nat.le_refl _), Nat.sub_self]; rfl) q2 rfl hy ih hX hq
  · rw [hQl]; exact q1
  · rw [hQl]
    show (b_jn be2).insertIdx (b_jn be2).length a = ((b_pool be2).take (Q.length + 1)).map _
    rw [List.insertIdx_length_self, htk1, List.map_append, q7, J.2.2.1]
    rfl
  · rw [hQl]
    show ((b_pool be2).take (Q.length + 1)).map zm_q = _
    rw [htk1, List.map_append, J.2.2.2.1]
    rfl

theorem zm_js_none {Q : List zQ} {y : zSgt} (hl : zm_last Q y.2.1.2 = none) : zm_joinStep Q y = (Q ++ [(y.2.1.2, y.2.2.1, 0, 0)]).set Q.length (zm_jn (y.2.1.2, y.2.2.1, 0, 0) y) := by
  unfold zm_joinStep
  rw [hl]
theorem zm_js_new {Q : List zQ} {y : zSgt} {k : Nat} {q : zQ} (hl : zm_last Q y.2.1.2 = some k) (hq : Q[k]? = some q) (hm : 15 < y.2.2.1 - q.2.1) : zm_joinStep Q y = (Q ++ [(y.2.1.2, y.2.2.1, 0, 0)]).set Q.length (zm_jn (y.2.1.2, y.2.2.1, 0, 0) y) := by
  unfold zm_joinStep
  rw [hl]
  show (match Q[k]? with
    | none => Q
    | some q => if 15 < y.2.2.1 - q.2.1 then _ else _) = _
  rw [hq]
  exact if_pos hm
theorem zm_js_old {Q : List zQ} {y : zSgt} {k : Nat} {q : zQ} (hl : zm_last Q y.2.1.2 = some k) (hq : Q[k]? = some q) (hm : ¬ 15 < y.2.2.1 - q.2.1) : zm_joinStep Q y = Q.set k (zm_jn q y) := by
  unfold zm_joinStep
  rw [hl]
  show (match Q[k]? with
    | none => Q
    | some q => if 15 < y.2.2.1 - q.2.1 then _ else _) = _
  rw [hq]
  exact if_neg hm
set_option maxRecDepth 20000 in
set_option maxHeartbeats 4000000 in
theorem f_jnN {X : zX} {G : zG} {h : zH} {top : Nat} {Post : Option Value → zH → Nat → Prop} (s : zS) (be0 be : zB) (Q : List zQ) (pkl : List zSgt) (hpk0 : b_pk be0 = pkl.map (fun x => x.1)) (hpm : ∀ z ∈ pkl, z ∈ s_sgts s) (hpn : pkl.length ≤ 60) (i : Nat) (y : zSgt) (hyi : pkl[i]? = some y) (J : z_JI G s be0 be Q h top) (hQ : Q.length ≤ i) (hl : zm_last Q y.2.1.2 = none) (ih : ∀ (h : zH) (top : Nat) (be : zB), z_JI G s be0 be (zm_joinStep Q y) h top → z_Z X h top 9 [(1, .int (nI (i + 1))), (0, .ref (z_b G + 11))] []) (hX : z_ok X cX0_joinPicked 4 RX0 none "joinPicked" 9 G) (hq : z_mq X (Post)) : z_Z X h top 9 [(1, .int (nI i)), (0, .ref (z_b G + 11))] [] := by
  have H := J.1
  have hbk := H.bk
  have hl4 := H.l4
  have elen : (b_pk be).length = pkl.length := by rw [J.2.2.2.2.1, hpk0, List.length_map]
  rw [elen] at hl4
  have hl41 := hl4.1
  have hlt : i < pkl.length := (List.getElem?_eq_some_iff.mp hyi).1
  have hy := hpm y (List.mem_of_getElem? hyi)
  obtain ⟨iy, hiy⟩ := List.getElem?_of_mem hy
  have hys := H.sgt hiy
  have hgi : (b_pk be)[i]? = some y.1 := by rw [J.2.2.2.2.1, hpk0]; exact z_mapget hyi
  refine r_iload_n hX rfl 0 rfl dX0_joinPicked_9 ?_
  refine r_aload_n hX rfl 1 rfl dX0_joinPicked_10 ?_
  refine r_getf hX fl_X0_12 hbk rfl dX0_joinPicked_11 ?_
  refine r_callVR (As := []) (rest := [.int (nI i)]) (rv := some (.int (nI pkl.length))) (st1 := [.int (nI pkl.length), .int (nI i)]) hX cs_X0_27 (by decide) (fun l => z_size hl4 l) hl41 rfl rfl rfl rfl (Nat.le_of_ble_eq_true rfl) dX0_joinPicked_14 ?_
  refine r_icmp_ge (tgt := 92) hX dX0_joinPicked_17 rfl (fun c => False.elim (absurd c (nI_ge hlt (by omega)))) (fun _ => ?_)
  refine r_aload_n hX rfl 1 rfl dX0_joinPicked_20 ?_
  refine r_getf hX fl_X0_12 hbk rfl dX0_joinPicked_21 ?_
  refine r_iload_n hX rfl 0 rfl dX0_joinPicked_24 ?_
  refine r_callVR (As := [.int (nI i)]) (rest := []) (rv := some (.ref y.1)) (st1 := [.ref y.1]) hX cs_X0_55 (by decide) (fun l => z_get hl4 hlt hgi l) hl41 rfl rfl rfl rfl (Nat.le_of_ble_eq_true rfl) dX0_joinPicked_25 ?_
  refine r_cast (ci := 5) hX rfl hys cl_X0_59 dX0_joinPicked_28 ?_
  refine r_astore_n (lv' := [(2, .ref y.1), (1, .int (nI i)), (0, .ref (z_b G + 11))]) hX rfl (by decide) rfl dX0_joinPicked_31 ?_
  refine r_aload_n hX rfl 2 rfl dX0_joinPicked_32 ?_
  refine r_aload_n hX rfl 0 rfl dX0_joinPicked_33 ?_
  refine r_getf hX fl_X0_77 hys rfl dX0_joinPicked_34 ?_
  refine r_callVR (As := [.ref y.2.1.2]) (rest := []) (rv := some (.null)) (st1 := [.null]) hX cs_X0_81 (by decide) (fun l => c_last_none l G h top s be0 be Q J y.2.1.2 hl) hbk rfl rfl rfl rfl (Nat.le_of_ble_eq_true rfl) dX0_joinPicked_37 ?_
  refine r_astore_nN (lv' := [(3, .null), (2, .ref y.1), (1, .int (nI i)), (0, .ref (z_b G + 11))]) hX rfl (by decide) rfl dX0_joinPicked_40 ?_
  refine r_aload_nN hX rfl 0 rfl dX0_joinPicked_41 ?_
  refine r_ifnullN (tgt := 59) hX rfl dX0_joinPicked_42 ?_
  refine r_lv [1, 2, 3] (lv2 := [(2, .ref y.1), (1, .int (nI i)), (0, .ref (z_b G + 11))]) rfl ?_
  exact f_jn59 s be0 be Q i y J (by omega) hy (fun h9 t9 b9 J9 => ih h9 t9 b9 (by rw [zm_js_none hl]; exact J9)) hX hq

set_option maxRecDepth 20000 in
set_option maxHeartbeats 4000000 in
theorem f_jnS {X : zX} {G : zG} {h : zH} {top : Nat} {Post : Option Value → zH → Nat → Prop} (s : zS) (be0 be : zB) (Q : List zQ) (pkl : List zSgt) (hpk0 : b_pk be0 = pkl.map (fun x => x.1)) (hpm : ∀ z ∈ pkl, z ∈ s_sgts s) (hpn : pkl.length ≤ 60) (i : Nat) (y : zSgt) (hyi : pkl[i]? = some y) (J : z_JI G s be0 be Q h top) (hQ : Q.length ≤ i) (k : Nat) (hl : zm_last Q y.2.1.2 = some k) (ih : ∀ (h : zH) (top : Nat) (be : zB), z_JI G s be0 be (zm_joinStep Q y) h top → z_Z X h top 9 [(1, .int (nI (i + 1))), (0, .ref (z_b G + 11))] []) (hX : z_ok X cX0_joinPicked 4 RX0 none "joinPicked" 9 G) (hq : z_mq X (Post)) : z_Z X h top 9 [(1, .int (nI i)), (0, .ref (z_b G + 11))] [] := by
  have H := J.1
  have hbk := H.bk
  have hl4 := H.l4
  have elen : (b_pk be).length = pkl.length := by rw [J.2.2.2.2.1, hpk0, List.length_map]
  rw [elen] at hl4
  have hl41 := hl4.1
  have hlt : i < pkl.length := (List.getElem?_eq_some_iff.mp hyi).1
  have hy := hpm y (List.mem_of_getElem? hyi)
  obtain ⟨iy, hiy⟩ := List.getElem?_of_mem hy
  have hys := H.sgt hiy
  have hgi : (b_pk be)[i]? = some y.1 := by rw [J.2.2.2.2.1, hpk0]; exact z_mapget hyi
  obtain ⟨q, hqk, hqs⟩ := zm_last_lt hl
  obtain ⟨p, hp1, hp2, hp3⟩ := J.at hqk
  have hps := H.pas hp1
  have hpm2 : p.2.2.1 = q.2.1 := by rw [← hp2]; rfl
  refine r_iload_n hX rfl 0 rfl dX0_joinPicked_9 ?_
  refine r_aload_n hX rfl 1 rfl dX0_joinPicked_10 ?_
  refine r_getf hX fl_X0_12 hbk rfl dX0_joinPicked_11 ?_
  refine r_callVR (As := []) (rest := [.int (nI i)]) (rv := some (.int (nI pkl.length))) (st1 := [.int (nI pkl.length), .int (nI i)]) hX cs_X0_27 (by decide) (fun l => z_size hl4 l) hl41 rfl rfl rfl rfl (Nat.le_of_ble_eq_true rfl) dX0_joinPicked_14 ?_
  refine r_icmp_ge (tgt := 92) hX dX0_joinPicked_17 rfl (fun c => False.elim (absurd c (nI_ge hlt (by omega)))) (fun _ => ?_)
  refine r_aload_n hX rfl 1 rfl dX0_joinPicked_20 ?_
  refine r_getf hX fl_X0_12 hbk rfl dX0_joinPicked_21 ?_
  refine r_iload_n hX rfl 0 rfl dX0_joinPicked_24 ?_
  refine r_callVR (As := [.int (nI i)]) (rest := []) (rv := some (.ref y.1)) (st1 := [.ref y.1]) hX cs_X0_55 (by decide) (fun l => z_get hl4 hlt hgi l) hl41 rfl rfl rfl rfl (Nat.le_of_ble_eq_true rfl) dX0_joinPicked_25 ?_
  refine r_cast (ci := 5) hX rfl hys cl_X0_59 dX0_joinPicked_28 ?_
  refine r_astore_n (lv' := [(2, .ref y.1), (1, .int (nI i)), (0, .ref (z_b G + 11))]) hX rfl (by decide) rfl dX0_joinPicked_31 ?_
  refine r_aload_n hX rfl 2 rfl dX0_joinPicked_32 ?_
  refine r_aload_n hX rfl 0 rfl dX0_joinPicked_33 ?_
  refine r_getf hX fl_X0_77 hys rfl dX0_joinPicked_34 ?_
  refine r_callVR (As := [.ref y.2.1.2]) (rest := []) (rv := some (.ref p.1)) (st1 := [.ref p.1]) hX cs_X0_81 (by decide) (fun l => c_last_some l G h top s be0 be Q J y.2.1.2 hl hp1) hbk rfl rfl rfl rfl (Nat.le_of_ble_eq_true rfl) dX0_joinPicked_37 ?_
  refine r_astore_n (lv' := [(3, .ref p.1), (2, .ref y.1), (1, .int (nI i)), (0, .ref (z_b G + 11))]) hX rfl (by decide) rfl dX0_joinPicked_40 ?_
  refine r_aload_n hX rfl 0 rfl dX0_joinPicked_41 ?_
  refine r_ifnull hX dX0_joinPicked_42 ?_
  refine r_aload_n hX rfl 1 rfl dX0_joinPicked_45 ?_
  refine r_getf hX fl_X0_85 hys rfl dX0_joinPicked_46 ?_
  refine r_aload_n hX rfl 0 rfl dX0_joinPicked_49 ?_
  refine r_getf hX fl_X0_88 hps rfl dX0_joinPicked_50 ?_
  refine r_isub hX dX0_joinPicked_53 ?_
  refine r_bipush (v := 15) hX (by decide) dX0_joinPicked_54 ?_
  refine r_icmp_le (tgt := 81) hX dX0_joinPicked_56 rfl (fun c56 => ?_) (fun c56 => ?_)
  · skip
    refine r_lv [0, 1, 2, 3] (lv2 := [(3, .ref p.1), (2, .ref y.1), (1, .int (nI i)), (0, .ref (z_b G + 11))]) rfl ?_
    exact f_jn81 s be0 be Q i k q p y J hqk hp1 hp2 hy (fun h9 t9 b9 J9 => ih h9 t9 b9 (by rw [zm_js_old hl hqk (by rw [← hpm2]; exact Int32.not_lt.mpr c56)]; exact J9)) hX hq
  · skip
    refine r_lv [1, 2, 3] (lv2 := [(2, .ref y.1), (1, .int (nI i)), (0, .ref (z_b G + 11))]) rfl ?_
    exact f_jn59 s be0 be Q i y J (by omega) hy (fun h9 t9 b9 J9 => ih h9 t9 b9 (by rw [zm_js_new hl hqk (by rw [← hpm2]; exact Int32.not_le.mp c56)]; exact J9)) hX hq

set_option maxRecDepth 20000 in
set_option maxHeartbeats 4000000 in
theorem f_jnE {X : zX} {G : zG} {h : zH} {top : Nat} {Post : Option Value → zH → Nat → Prop} (s : zS) (be0 be : zB) (Q : List zQ) (pkl : List zSgt) (hpk0 : b_pk be0 = pkl.map (fun x => x.1)) (i : Nat) (J : z_JI G s be0 be Q h top) (hge : pkl.length ≤ i) (hi : i ≤ 60) (hp : Post none h top) (hX : z_ok X cX0_joinPicked 4 RX0 none "joinPicked" 9 G) (hq : z_mq X (Post)) : z_Z X h top 9 [(1, .int (nI i)), (0, .ref (z_b G + 11))] [] := by
  have H := J.1
  have hbk := H.bk
  have hl4 := H.l4
  have elen : (b_pk be).length = pkl.length := by rw [J.2.2.2.2.1, hpk0, List.length_map]
  rw [elen] at hl4
  have hl41 := hl4.1
  refine r_iload_n hX rfl 0 rfl dX0_joinPicked_9 ?_
  refine r_aload_n hX rfl 1 rfl dX0_joinPicked_10 ?_
  refine r_getf hX fl_X0_12 hbk rfl dX0_joinPicked_11 ?_
  refine r_callVR (As := []) (rest := [.int (nI i)]) (rv := some (.int (nI pkl.length))) (st1 := [.int (nI pkl.length), .int (nI i)]) hX cs_X0_27 (by decide) (fun l => z_size hl4 l) hl41 rfl rfl rfl rfl (Nat.le_of_ble_eq_true rfl) dX0_joinPicked_14 ?_
  refine r_icmp_ge (tgt := 92) hX dX0_joinPicked_17 rfl (fun _ => ?_) (fun c => False.elim (c (nI_le hge (by omega))))
  exact r_vret hX hq hp dX0_joinPicked_92

theorem f_jn {X : zX} {G : zG} {Post : Option Value → zH → Nat → Prop} (s : zS) (be0 : zB) (pkl : List zSgt) (hpk0 : b_pk be0 = pkl.map (fun x => x.1)) (hpm : ∀ z ∈ pkl, z ∈ s_sgts s) (hpn : pkl.length ≤ 60) (hX : z_ok X cX0_joinPicked 4 RX0 none "joinPicked" 9 G) (hq : z_mq X Post) (hp : ∀ (h : zH) (top : Nat) (be : zB), z_JI G s be0 be (zm_join pkl) h top → Post none h top) : ∀ (k i : Nat) (h : zH) (top : Nat) (be : zB) (Q : List zQ), pkl.length - i < k → i ≤ pkl.length → z_JI G s be0 be Q h top → Q = (pkl.take i).foldl zm_joinStep [] → Q.length ≤ i → z_Z X h top 9 [(1, .int (nI i)), (0, .ref (z_b G + 11))] [] := by
  intro k
  induction k with
  | zero => intros; omega
  | succ k ih =>
    intro i h top be Q hk hi J hQe hQl
    rcases Nat.lt_or_ge i pkl.length with hlt | hge
    · have hyi := List.getElem?_eq_getElem hlt
      have hnext : ∀ (h : zH) (top : Nat) (be : zB), z_JI G s be0 be (zm_joinStep Q pkl[i]) h top → z_Z X h top 9 [(1, .int (nI (i + 1))), (0, .ref (z_b G + 11))] [] := fun h9 t9 b9 J9 => ih (i + 1) h9 t9 b9 _ (by omega) (by omega) J9 (by rw [zm_take _ _ _ hyi, ← hQe]) (Nat.le_trans (zm_joinStep_len _ _) (by omega))
      cases hl : zm_last Q pkl[i].2.1.2 with
      | none => exact f_jnN s be0 be Q pkl hpk0 hpm hpn i _ hyi J hQl hl hnext hX hq
      | some m => exact f_jnS s be0 be Q pkl hpk0 hpm hpn i _ hyi J hQl m hl hnext hX hq
    · refine f_jnE s be0 be Q pkl hpk0 i J hge (by omega) (hp h top be ?_) hX hq
      rw [hQe, List.take_of_length_le hge] at J
      exact J
set_option maxRecDepth 20000 in
set_option maxHeartbeats 4000000 in
theorem c_X0_joinPicked (l : Launch) (G : zG) (h : zH) (top : Nat) (s : zS) (be : zB) (pkl : List zSgt) (H : z_St G s be h top) (hpu : b_pu be = nI 0) (hpk : b_pk be = pkl.map (fun x => x.1)) (hpm : ∀ z ∈ pkl, z ∈ s_sgts s) (hpn : pkl.length ≤ 60) : z_Ct l yX0_joinPicked cX0_joinPicked 4 none 9 G [.ref (z_b G + 11)] h top (fun r h' top' => r = none ∧ ∃ be2, z_JI G s be be2 (zm_join pkl) h' top') := by
  refine z_of (own := RX0) (nm := "joinPicked") (by decide) rfl rfl (by decide) (Nat.le_of_ble_eq_true rfl) (fun X hX hq => ?_)
  replace hX : z_ok X cX0_joinPicked 4 RX0 none "joinPicked" 9 G := hX
  show z_Z X h top 0 [(0, .ref (z_b G + 11))] []
  have hbk := H.bk
  have hl51 := H.l5.1
  refine r_aload_n hX rfl 0 rfl dX0_joinPicked_0 ?_
  refine r_getf hX fl_X0_18 hbk rfl dX0_joinPicked_1 ?_
  refine r_callV (As := []) (rest := []) hX cs_X0_42 (by decide) (fun l => c_Jx4a65c_clear_da8c8 l G h top (z_b G + 13) (b_ls be 5).2.1 (b_jn be).length (b_ls be 5).2.2 (b_ls be 5).1 (fun q : Nat => (b_jn be)[q]?) H.l5 (by have := H.2.2.2.2; omega)) hl51 rfl rfl rfl (Nat.le_of_ble_eq_true rfl) dX0_joinPicked_4 (fun r1 h1 top1 hp1 => ?_)
  obtain ⟨rfl, rfl, m5, f5, hA5, hf5⟩ := hp1
  obtain ⟨l5, H2⟩ := H.clrB 5 (Or.inr (Or.inl rfl)) hA5 hf5
  refine r_iconst (v := 0) hX (by decide) dX0_joinPicked_7 ?_
  refine r_istore_n (lv' := [(1, .int 0), (0, .ref (z_b G + 11))]) hX rfl (by decide) rfl dX0_joinPicked_8 ?_
  rw [← nI_0]
  refine r_lv [0, 1] (lv2 := [(1, .int (nI 0)), (0, .ref (z_b G + 11))]) rfl ?_
  exact f_jn s be pkl hpk hpm hpn hX hq (fun h9 t9 b9 J9 => ⟨rfl, b9, J9⟩) (pkl.length + 1) 0 h1 top1 _ [] (by omega) (by omega) ⟨H2, hpu, rfl, rfl, rfl, rfl, rfl, rfl⟩ rfl (Nat.le_refl _)
end
section
/-! what lies between -/
def zm_only : List zSeg → Int32 → Int32 → Option zSeg → Option zSeg
  | [], _, _, f => f
  | x :: xs, a, b, f => if x.2.1 = a ∧ x.2.2.1 = b then (match f with | some _ => none | none => zm_only xs a b (some x)) else zm_only xs a b f
def zm_sg (segs : List zSeg) (a : Nat) : zSeg := (segs[zm_num segs a]?).getD (0, 0, 0, 0, 0)
theorem zm_sg_at {s : zS} {a : Nat} (h : z_isSeg s a) : (s_segs s)[zm_num (s_segs s) a]? = some (zm_sg (s_segs s) a) ∧ (zm_sg (s_segs s) a).1 = a := by
  obtain ⟨x, h1, h2⟩ := zm_num_at h
  unfold zm_sg
  rw [h1]
  exact ⟨rfl, h2⟩
def zm_inf (segs : List zSeg) (a b : zQ) : Option zQ :=
  if (zm_sg segs a.1).2.2.1 = (zm_sg segs b.1).2.1 ∨ 180 < b.2.1 - a.2.1 then none
  else (zm_only segs (zm_sg segs a.1).2.2.1 (zm_sg segs b.1).2.1 none).map (fun x => (x.1, (a.2.1 + b.2.1) / 2, 0, 0))
theorem zm_only_hit {x : zSeg} {xs : List zSeg} {a b : Int32} {f : Option zSeg} (h : x.2.1 = a ∧ x.2.2.1 = b) : zm_only (x :: xs) a b f = (match f with | some _ => none | none => zm_only xs a b (some x)) := if_pos h
theorem zm_only_miss {x : zSeg} {xs : List zSeg} {a b : Int32} {f : Option zSeg} (h : ¬ (x.2.1 = a ∧ x.2.2.1 = b)) : zm_only (x :: xs) a b f = zm_only xs a b f := if_neg h
theorem zm_only_mem {a b : Int32} {x : zSeg} : ∀ (l : List zSeg) (f : Option zSeg), zm_only l a b f = some x → x ∈ l ∨ f = some x := by
  intro l
  induction l with
  | nil => intro f h; exact Or.inr h
  | cons y ys ih =>
    intro f h
    by_cases c : y.2.1 = a ∧ y.2.2.1 = b
    · rw [zm_only_hit c] at h
      cases f with
      | none =>
        rcases ih _ h with w | w
        · exact Or.inl (List.mem_cons_of_mem _ w)
        · cases w; exact Or.inl List.mem_cons_self
      | some g => cases h
    · rw [zm_only_miss c] at h
      rcases ih _ h with w | w
      · exact Or.inl (List.mem_cons_of_mem _ w)
      · exact Or.inr w
set_option maxRecDepth 20000 in
set_option maxHeartbeats 4000000 in
theorem f_oN {X : zX} {G : zG} {h : zH} {top : Nat} {Post : Option Value → zH → Nat → Prop} (s : zS) (be : zB) (H : z_St G s be h top) (fa tb : Int32) (i : Nat) (r : Option zSeg) (x : zSeg) (hx : (s_segs s)[i]? = some x) (hr : zm_only (x :: (s_segs s).drop (i + 1)) fa tb none = r) (hp : ∀ r2, r2 = r → Post (some (va_rf (r2.map (fun x => x.1)))) h top) (ih : ∀ fo2 : Option zSeg, zm_only ((s_segs s).drop (i + 1)) fa tb fo2 = r → z_Z X h top 5 [(4, .int (nI (i + 1))), (3, va_rf (fo2.map (fun x => x.1))), (0, .ref (z_b G + 1)), (1, .int fa), (2, .int tb)] []) (hX : z_ok X cX0_onlyBetween 6 RX0 (some (.object "GantryHall$Segment")) "onlyBetween" 4 G) (hq : z_mq X (Post)) : z_Z X h top 5 [(4, .int (nI i)), (3, .null), (0, .ref (z_b G + 1)), (1, .int fa), (2, .int tb)] [] := by
  have hl0 := H.l0
  have hl01 := hl0.1
  have hlt : i < (s_segs s).length := (List.getElem?_eq_some_iff.mp hx).1
  have hxs := H.seg hx
  refine r_iload hX 0 rfl dX0_onlyBetween_5 ?_
  refine r_aload_n hX rfl 2 rfl dX0_onlyBetween_7 ?_
  refine r_callVR (As := []) (rest := [.int (nI i)]) (rv := some (.int (nI (s_segs s).length))) (st1 := [.int (nI (s_segs s).length), .int (nI i)]) hX cs_X0_27 (by decide) (fun l => z_size hl0 l) hl01 rfl rfl rfl rfl (Nat.le_of_ble_eq_true rfl) dX0_onlyBetween_8 ?_
  refine r_icmp_ge (tgt := 58) hX dX0_onlyBetween_11 rfl (fun c => False.elim (absurd c (nI_ge hlt (by have := hl0.2.1; have := hl0.2.2.1; omega)))) (fun _ => ?_)
  refine r_aload_n hX rfl 2 rfl dX0_onlyBetween_14 ?_
  refine r_iload hX 0 rfl dX0_onlyBetween_15 ?_
  refine r_callVR (As := [.int (nI i)]) (rest := []) (rv := some (.ref x.1)) (st1 := [.ref x.1]) hX cs_X0_55 (by decide) (fun l => z_get hl0 hlt (z_mapget hx) l) hl01 rfl rfl rfl rfl (Nat.le_of_ble_eq_true rfl) dX0_onlyBetween_17 ?_
  refine r_cast (ci := 4) hX rfl hxs cl_X0_118 dX0_onlyBetween_20 ?_
  refine r_astore (lv' := [(5, .ref x.1), (4, .int (nI i)), (3, .null), (0, .ref (z_b G + 1)), (1, .int fa), (2, .int tb)]) hX (by decide) rfl dX0_onlyBetween_23 ?_
  refine r_aload hX 0 rfl dX0_onlyBetween_25 ?_
  refine r_getf hX fl_X0_122 hxs rfl dX0_onlyBetween_27 ?_
  refine r_iload_n hX rfl 4 rfl dX0_onlyBetween_30 ?_
  refine r_icmp_ne (tgt := 52) hX dX0_onlyBetween_31 rfl (fun c31 => ?_) (fun c31 => ?_)
  · skip
    refine r_iinc (q := 1) (lv' := [(4, .int ((nI i) + 1)), (5, .ref x.1), (3, .null), (0, .ref (z_b G + 1)), (1, .int fa), (2, .int tb)]) hX rfl rfl (by decide) rfl dX0_onlyBetween_52 ?_
    refine r_goto (tgt := 5) hX rfl dX0_onlyBetween_55 ?_
    refine r_lv [0, 2, 3, 4, 5] (lv2 := [(4, .int (nI i + 1)), (3, .null), (0, .ref (z_b G + 1)), (1, .int fa), (2, .int tb)]) rfl ?_
    rw [nI_1]
    exact ih none ((zm_only_miss (by intro z; first | exact c31 z.1 | exact c40 z.2)).symm.trans hr)
  · skip
    refine r_aload hX 0 rfl dX0_onlyBetween_34 ?_
    refine r_getf hX fl_X0_117 hxs rfl dX0_onlyBetween_36 ?_
    refine r_iload_n hX rfl 5 rfl dX0_onlyBetween_39 ?_
    refine r_icmp_ne (tgt := 52) hX dX0_onlyBetween_40 rfl (fun c40 => ?_) (fun c40 => ?_)
    · skip
      refine r_iinc (q := 1) (lv' := [(4, .int ((nI i) + 1)), (5, .ref x.1), (3, .null), (0, .ref (z_b G + 1)), (1, .int fa), (2, .int tb)]) hX rfl rfl (by decide) rfl dX0_onlyBetween_52 ?_
      refine r_goto (tgt := 5) hX rfl dX0_onlyBetween_55 ?_
      refine r_lv [0, 2, 3, 4, 5] (lv2 := [(4, .int (nI i + 1)), (3, .null), (0, .ref (z_b G + 1)), (1, .int fa), (2, .int tb)]) rfl ?_
      rw [nI_1]
      exact ih none ((zm_only_miss (by intro z; first | exact c31 z.1 | exact c40 z.2)).symm.trans hr)
    · skip
      refine r_aload_nN hX rfl 2 rfl dX0_onlyBetween_43 ?_
      refine r_ifnullN (tgt := 49) hX rfl dX0_onlyBetween_44 ?_
      refine r_aload hX 0 rfl dX0_onlyBetween_49 ?_
      refine r_astore_n (lv' := [(3, .ref x.1), (5, .ref x.1), (4, .int (nI i)), (0, .ref (z_b G + 1)), (1, .int fa), (2, .int tb)]) hX rfl (by decide) rfl dX0_onlyBetween_51 ?_
      refine r_iinc (q := 2) (lv' := [(4, .int ((nI i) + 1)), (3, .ref x.1), (5, .ref x.1), (0, .ref (z_b G + 1)), (1, .int fa), (2, .int tb)]) hX rfl rfl (by decide) rfl dX0_onlyBetween_52 ?_
      refine r_goto (tgt := 5) hX rfl dX0_onlyBetween_55 ?_
      refine r_lv [0, 1, 3, 4, 5] (lv2 := [(4, .int (nI i + 1)), (3, .ref x.1), (0, .ref (z_b G + 1)), (1, .int fa), (2, .int tb)]) rfl ?_
      rw [nI_1]
      exact ih (some x) ((zm_only_hit (f := none) ⟨c31, c40⟩).symm.trans hr)

set_option maxRecDepth 20000 in
set_option maxHeartbeats 4000000 in
theorem f_oS {X : zX} {G : zG} {h : zH} {top : Nat} {Post : Option Value → zH → Nat → Prop} (s : zS) (be : zB) (H : z_St G s be h top) (fa tb : Int32) (i : Nat) (r : Option zSeg) (f : zSeg) (x : zSeg) (hx : (s_segs s)[i]? = some x) (hr : zm_only (x :: (s_segs s).drop (i + 1)) fa tb (some f) = r) (hp : ∀ r2, r2 = r → Post (some (va_rf (r2.map (fun x => x.1)))) h top) (ih : ∀ fo2 : Option zSeg, zm_only ((s_segs s).drop (i + 1)) fa tb fo2 = r → z_Z X h top 5 [(4, .int (nI (i + 1))), (3, va_rf (fo2.map (fun x => x.1))), (0, .ref (z_b G + 1)), (1, .int fa), (2, .int tb)] []) (hX : z_ok X cX0_onlyBetween 6 RX0 (some (.object "GantryHall$Segment")) "onlyBetween" 4 G) (hq : z_mq X (Post)) : z_Z X h top 5 [(4, .int (nI i)), (3, .ref f.1), (0, .ref (z_b G + 1)), (1, .int fa), (2, .int tb)] [] := by
  have hl0 := H.l0
  have hl01 := hl0.1
  have hlt : i < (s_segs s).length := (List.getElem?_eq_some_iff.mp hx).1
  have hxs := H.seg hx
  refine r_iload hX 0 rfl dX0_onlyBetween_5 ?_
  refine r_aload_n hX rfl 2 rfl dX0_onlyBetween_7 ?_
  refine r_callVR (As := []) (rest := [.int (nI i)]) (rv := some (.int (nI (s_segs s).length))) (st1 := [.int (nI (s_segs s).length), .int (nI i)]) hX cs_X0_27 (by decide) (fun l => z_size hl0 l) hl01 rfl rfl rfl rfl (Nat.le_of_ble_eq_true rfl) dX0_onlyBetween_8 ?_
  refine r_icmp_ge (tgt := 58) hX dX0_onlyBetween_11 rfl (fun c => False.elim (absurd c (nI_ge hlt (by have := hl0.2.1; have := hl0.2.2.1; omega)))) (fun _ => ?_)
  refine r_aload_n hX rfl 2 rfl dX0_onlyBetween_14 ?_
  refine r_iload hX 0 rfl dX0_onlyBetween_15 ?_
  refine r_callVR (As := [.int (nI i)]) (rest := []) (rv := some (.ref x.1)) (st1 := [.ref x.1]) hX cs_X0_55 (by decide) (fun l => z_get hl0 hlt (z_mapget hx) l) hl01 rfl rfl rfl rfl (Nat.le_of_ble_eq_true rfl) dX0_onlyBetween_17 ?_
  refine r_cast (ci := 4) hX rfl hxs cl_X0_118 dX0_onlyBetween_20 ?_
  refine r_astore (lv' := [(5, .ref x.1), (4, .int (nI i)), (3, .ref f.1), (0, .ref (z_b G + 1)), (1, .int fa), (2, .int tb)]) hX (by decide) rfl dX0_onlyBetween_23 ?_
  refine r_aload hX 0 rfl dX0_onlyBetween_25 ?_
  refine r_getf hX fl_X0_122 hxs rfl dX0_onlyBetween_27 ?_
  refine r_iload_n hX rfl 4 rfl dX0_onlyBetween_30 ?_
  refine r_icmp_ne (tgt := 52) hX dX0_onlyBetween_31 rfl (fun c31 => ?_) (fun c31 => ?_)
  · skip
    refine r_iinc (q := 1) (lv' := [(4, .int ((nI i) + 1)), (5, .ref x.1), (3, .ref f.1), (0, .ref (z_b G + 1)), (1, .int fa), (2, .int tb)]) hX rfl rfl (by decide) rfl dX0_onlyBetween_52 ?_
    refine r_goto (tgt := 5) hX rfl dX0_onlyBetween_55 ?_
    refine r_lv [0, 2, 3, 4, 5] (lv2 := [(4, .int (nI i + 1)), (3, .ref f.1), (0, .ref (z_b G + 1)), (1, .int fa), (2, .int tb)]) rfl ?_
    rw [nI_1]
    exact ih (some f) ((zm_only_miss (by intro z; first | exact c31 z.1 | exact c40 z.2)).symm.trans hr)
  · skip
    refine r_aload hX 0 rfl dX0_onlyBetween_34 ?_
    refine r_getf hX fl_X0_117 hxs rfl dX0_onlyBetween_36 ?_
    refine r_iload_n hX rfl 5 rfl dX0_onlyBetween_39 ?_
    refine r_icmp_ne (tgt := 52) hX dX0_onlyBetween_40 rfl (fun c40 => ?_) (fun c40 => ?_)
    · skip
      refine r_iinc (q := 1) (lv' := [(4, .int ((nI i) + 1)), (5, .ref x.1), (3, .ref f.1), (0, .ref (z_b G + 1)), (1, .int fa), (2, .int tb)]) hX rfl rfl (by decide) rfl dX0_onlyBetween_52 ?_
      refine r_goto (tgt := 5) hX rfl dX0_onlyBetween_55 ?_
      refine r_lv [0, 2, 3, 4, 5] (lv2 := [(4, .int (nI i + 1)), (3, .ref f.1), (0, .ref (z_b G + 1)), (1, .int fa), (2, .int tb)]) rfl ?_
      rw [nI_1]
      exact ih (some f) ((zm_only_miss (by intro z; first | exact c31 z.1 | exact c40 z.2)).symm.trans hr)
    · skip
      refine r_aload_n hX rfl 2 rfl dX0_onlyBetween_43 ?_
      refine r_ifnull hX dX0_onlyBetween_44 ?_
      refine r_null hX dX0_onlyBetween_47 ?_
      exact r_aret hX rfl (Or.inl ⟨_, rfl⟩) hq (Or.inl rfl) (hp none ((zm_only_hit (f := some f) ⟨c31, c40⟩).symm.trans hr)) dX0_onlyBetween_48

set_option maxRecDepth 20000 in
set_option maxHeartbeats 4000000 in
theorem f_oNe {X : zX} {G : zG} {h : zH} {top : Nat} {Post : Option Value → zH → Nat → Prop} (s : zS) (be : zB) (H : z_St G s be h top) (fa tb : Int32) (i : Nat) (r : Option zSeg) (hge : (s_segs s).length ≤ i) (hi : i ≤ 1000) (hr : none = r) (hp : ∀ r2, r2 = r → Post (some (va_rf (r2.map (fun x => x.1)))) h top) (hX : z_ok X cX0_onlyBetween 6 RX0 (some (.object "GantryHall$Segment")) "onlyBetween" 4 G) (hq : z_mq X (Post)) : z_Z X h top 5 [(4, .int (nI i)), (3, .null), (0, .ref (z_b G + 1)), (1, .int fa), (2, .int tb)] [] := by
  have hl0 := H.l0
  have hl01 := hl0.1
  refine r_iload hX 0 rfl dX0_onlyBetween_5 ?_
  refine r_aload_n hX rfl 2 rfl dX0_onlyBetween_7 ?_
  refine r_callVR (As := []) (rest := [.int (nI i)]) (rv := some (.int (nI (s_segs s).length))) (st1 := [.int (nI (s_segs s).length), .int (nI i)]) hX cs_X0_27 (by decide) (fun l => z_size hl0 l) hl01 rfl rfl rfl rfl (Nat.le_of_ble_eq_true rfl) dX0_onlyBetween_8 ?_
  refine r_icmp_ge (tgt := 58) hX dX0_onlyBetween_11 rfl (fun _ => ?_) (fun c => False.elim (c (nI_le hge (by omega))))
  refine r_aload_nN hX rfl 1 rfl dX0_onlyBetween_58 ?_
  exact r_aret hX rfl (Or.inl ⟨_, rfl⟩) hq (Or.inl rfl) (hp none hr) dX0_onlyBetween_59

set_option maxRecDepth 20000 in
set_option maxHeartbeats 4000000 in
theorem f_oSe {X : zX} {G : zG} {h : zH} {top : Nat} {Post : Option Value → zH → Nat → Prop} (s : zS) (be : zB) (H : z_St G s be h top) (fa tb : Int32) (i : Nat) (r : Option zSeg) (f : zSeg) (hge : (s_segs s).length ≤ i) (hi : i ≤ 1000) (hr : some f = r) (hp : ∀ r2, r2 = r → Post (some (va_rf (r2.map (fun x => x.1)))) h top) (hX : z_ok X cX0_onlyBetween 6 RX0 (some (.object "GantryHall$Segment")) "onlyBetween" 4 G) (hq : z_mq X (Post)) : z_Z X h top 5 [(4, .int (nI i)), (3, .ref f.1), (0, .ref (z_b G + 1)), (1, .int fa), (2, .int tb)] [] := by
  have hl0 := H.l0
  have hl01 := hl0.1
  refine r_iload hX 0 rfl dX0_onlyBetween_5 ?_
  refine r_aload_n hX rfl 2 rfl dX0_onlyBetween_7 ?_
  refine r_callVR (As := []) (rest := [.int (nI i)]) (rv := some (.int (nI (s_segs s).length))) (st1 := [.int (nI (s_segs s).length), .int (nI i)]) hX cs_X0_27 (by decide) (fun l => z_size hl0 l) hl01 rfl rfl rfl rfl (Nat.le_of_ble_eq_true rfl) dX0_onlyBetween_8 ?_
  refine r_icmp_ge (tgt := 58) hX dX0_onlyBetween_11 rfl (fun _ => ?_) (fun c => False.elim (c (nI_le hge (by omega))))
  refine r_aload_n hX rfl 1 rfl dX0_onlyBetween_58 ?_
  exact r_aret hX rfl (Or.inl ⟨_, rfl⟩) hq (Or.inr ⟨_, rfl⟩) (hp (some f) hr) dX0_onlyBetween_59

theorem f_only {X : zX} {G : zG} {h : zH} {top : Nat} {Post : Option Value → zH → Nat → Prop} (s : zS) (be : zB) (H : z_St G s be h top) (fa tb : Int32) (r : Option zSeg) (hp : ∀ r2, r2 = r → Post (some (va_rf (r2.map (fun x => x.1)))) h top) (hX : z_ok X cX0_onlyBetween 6 RX0 (some (.object "GantryHall$Segment")) "onlyBetween" 4 G) (hq : z_mq X Post) : ∀ (k i : Nat) (fo : Option zSeg), (s_segs s).length - i < k → i ≤ (s_segs s).length → zm_only ((s_segs s).drop i) fa tb fo = r → z_Z X h top 5 [(4, .int (nI i)), (3, va_rf (fo.map (fun x => x.1))), (0, .ref (z_b G + 1)), (1, .int fa), (2, .int tb)] [] := by
  intro k
  induction k with
  | zero => intros; omega
  | succ k ih =>
    intro i fo hk hi hr
    have h8 := H.2.2.1.2.2.1
    rcases Nat.lt_or_ge i (s_segs s).length with hlt | hge
    · have hx := List.getElem?_eq_getElem hlt
      rw [List.drop_eq_getElem_cons hlt] at hr
      cases fo with
      | none => exact f_oN s be H fa tb i r _ hx hr hp (fun fo2 e => ih (i + 1) fo2 (by omega) (by omega) e) hX hq
      | some f => exact f_oS s be H fa tb i r f _ hx hr hp (fun fo2 e => ih (i + 1) fo2 (by omega) (by omega) e) hX hq
    · rw [List.drop_eq_nil_of_le hge] at hr
      cases fo with
      | none => exact f_oNe s be H fa tb i r hge (by omega) hr hp hX hq
      | some f => exact f_oSe s be H fa tb i r f hge (by omega) hr hp hX hq
set_option maxRecDepth 20000 in
set_option maxHeartbeats 4000000 in
theorem c_X0_onlyBetween (l : Launch) (G : zG) (h : zH) (top : Nat) (s : zS) (be : zB) (H : z_St G s be h top) (fa tb : Int32) : z_Ct l yX0_onlyBetween cX0_onlyBetween 6 (some (.object "GantryHall$Segment")) 4 G [.ref (z_b G + 1), .int fa, .int tb] h top (z_R (some (va_rf ((zm_only (s_segs s) fa tb none).map (fun x => x.1)))) h top) := by
  refine z_of (own := RX0) (nm := "onlyBetween") (by decide) rfl rfl (by decide) (Nat.le_of_ble_eq_true rfl) (fun X hX hq => ?_)
  replace hX : z_ok X cX0_onlyBetween 6 RX0 (some (.object "GantryHall$Segment")) "onlyBetween" 4 G := hX
  show z_Z X h top 0 [(0, .ref (z_b G + 1)), (1, .int fa), (2, .int tb)] []
  refine r_null hX dX0_onlyBetween_0 ?_
  refine r_astore_nN (lv' := [(3, .null), (0, .ref (z_b G + 1)), (1, .int fa), (2, .int tb)]) hX rfl (by decide) rfl dX0_onlyBetween_1 ?_
  refine r_iconst (v := 0) hX (by decide) dX0_onlyBetween_2 ?_
  refine r_istore (lv' := [(4, .int 0), (3, .null), (0, .ref (z_b G + 1)), (1, .int fa), (2, .int tb)]) hX (by decide) rfl dX0_onlyBetween_3 ?_
  rw [← nI_0]
  refine r_lv [0, 1, 2, 3, 4] (lv2 := [(4, .int (nI 0)), (3, .null), (0, .ref (z_b G + 1)), (1, .int fa), (2, .int tb)]) rfl ?_
  exact f_only s be H fa tb (zm_only (s_segs s) fa tb none) (fun r2 e => ⟨by rw [e], rfl, rfl⟩) hX hq ((s_segs s).length + 1) 0 none (by omega) (by omega) rfl

theorem c_only_none (l : Launch) (G : zG) (h : zH) (top : Nat) (s : zS) (be : zB) (H : z_St G s be h top) (fa tb : Int32) (hl : zm_only (s_segs s) fa tb none = none) : z_Ct l yX0_onlyBetween cX0_onlyBetween 6 (some (.object "GantryHall$Segment")) 4 G [.ref (z_b G + 1), .int fa, .int tb] h top (z_R (some .null) h top) := by
  have q := c_X0_onlyBetween l G h top s be H fa tb
  rw [hl] at q
  exact q
theorem c_only_some (l : Launch) (G : zG) (h : zH) (top : Nat) (s : zS) (be : zB) (H : z_St G s be h top) (fa tb : Int32) {x : zSeg} (hl : zm_only (s_segs s) fa tb none = some x) : z_Ct l yX0_onlyBetween cX0_onlyBetween 6 (some (.object "GantryHall$Segment")) 4 G [.ref (z_b G + 1), .int fa, .int tb] h top (z_R (some (.ref x.1)) h top) := by
  have q := c_X0_onlyBetween l G h top s be H fa tb
  rw [hl] at q
  exact q
/-- behind addInferred -/
def z_PInf (G : zG) (s : zS) (be : zB) (pu : Nat) (o : Option zQ) : Option Value → zH → Nat → Prop := fun r h' top' => r = none ∧ ∃ be2, z_St G s be2 h' top' ∧ match o with
  | none => be2 = be
  | some q => b_pu be2 = nI (pu + 1) ∧ (∃ a, (b_pool be2)[pu]? = some (a, q.1, q.2.1, 0, 0, 0, 0) ∧ b_rw be2 = b_rw be ++ [a]) ∧ (∀ i, i < pu → (b_pool be2)[i]? = (b_pool be)[i]?) ∧ b_rch be2 = b_rch be ∧ b_ct be2 = b_ct be ∧ b_pk be2 = b_pk be ∧ b_jn be2 = b_jn be
set_option maxRecDepth 20000 in
set_option maxHeartbeats 4000000 in
theorem c_inf_0 (l : Launch) (G : zG) (h : zH) (top : Nat) (s : zS) (be : zB) (pu : Nat) (H : z_St G s be h top) (hpu : b_pu be = nI pu) (hle : pu ≤ (b_pool be).length) (h120 : pu < 120) (hrl : (b_rw be).length ≤ 119) (hro : ∀ (i u : Nat), (b_rw be)[i]? = some u → ∃ (k : Nat) (p : zPas), k < pu ∧ (b_pool be)[k]? = some p ∧ p.1 = u) (ka kb : Nat) (pa pb : zPas) (hpa : (b_pool be)[ka]? = some pa) (hpb : (b_pool be)[kb]? = some pb) (hc : (zm_sg (s_segs s) pa.2.1).2.2.1 = (zm_sg (s_segs s) pb.2.1).2.1 ∨ 180 < pb.2.2.1 - pa.2.2.1) : z_Ct l yX0_addInferred cX0_addInferred 7 none 9 G [.ref (z_b G + 11), .ref (z_b G + 1), .ref pa.1, .ref pb.1] h top (z_PInf G s be pu none) := by
  refine z_of (own := RX0) (nm := "addInferred") (by decide) rfl rfl (by decide) (Nat.le_of_ble_eq_true rfl) (fun X hX hq => ?_)
  replace hX : z_ok X cX0_addInferred 7 RX0 none "addInferred" 9 G := hX
  show z_Z X h top 0 [(0, .ref (z_b G + 11)), (1, .ref (z_b G + 1)), (2, .ref pa.1), (3, .ref pb.1)] []
  have hbk := H.bk
  have hl6 := H.l6
  have hl61 := hl6.1
  have hps := H.pas hpa
  have hqs := H.pas hpb
  obtain ⟨hxa, hxa2⟩ := zm_sg_at (H.2.2.2.1.2 pa (List.mem_of_getElem? hpa))
  obtain ⟨hxb, hxb2⟩ := zm_sg_at (H.2.2.2.1.2 pb (List.mem_of_getElem? hpb))
  have hsa := H.seg hxa
  have hsb := H.seg hxb
  rw [hxa2] at hsa
  rw [hxb2] at hsb
  refine r_aload_n hX rfl 2 rfl dX0_addInferred_0 ?_
  refine r_getf hX fl_X0_102 hps rfl dX0_addInferred_1 ?_
  refine r_getf hX fl_X0_117 hsa rfl dX0_addInferred_4 ?_
  refine r_istore (lv' := [(4, .int (zm_sg (s_segs s) pa.2.1).2.2.1), (0, .ref (z_b G + 11)), (1, .ref (z_b G + 1)), (2, .ref pa.1), (3, .ref pb.1)]) hX (by decide) rfl dX0_addInferred_7 ?_
  refine r_aload_n hX rfl 4 rfl dX0_addInferred_9 ?_
  refine r_getf hX fl_X0_102 hqs rfl dX0_addInferred_10 ?_
  refine r_getf hX fl_X0_122 hsb rfl dX0_addInferred_13 ?_
  refine r_istore (lv' := [(5, .int (zm_sg (s_segs s) pb.2.1).2.1), (4, .int (zm_sg (s_segs s) pa.2.1).2.2.1), (0, .ref (z_b G + 11)), (1, .ref (z_b G + 1)), (2, .ref pa.1), (3, .ref pb.1)]) hX (by decide) rfl dX0_addInferred_16 ?_
  refine r_iload hX 1 rfl dX0_addInferred_18 ?_
  refine r_iload hX 0 rfl dX0_addInferred_20 ?_
  refine r_icmp_eq (tgt := 40) hX dX0_addInferred_22 rfl (fun c22 => ?_) (fun c22 => ?_)
  · skip
    exact r_vret hX hq ⟨rfl, be, H, rfl⟩ dX0_addInferred_40
  · skip
    refine r_aload_n hX rfl 5 rfl dX0_addInferred_25 ?_
    refine r_getf hX fl_X0_88 hqs rfl dX0_addInferred_26 ?_
    refine r_aload_n hX rfl 4 rfl dX0_addInferred_29 ?_
    refine r_getf hX fl_X0_88 hps rfl dX0_addInferred_30 ?_
    refine r_isub hX dX0_addInferred_33 ?_
    refine r_sipush (v := 180) hX (by decide) dX0_addInferred_34 ?_
    refine r_icmp_le (tgt := 41) hX dX0_addInferred_37 rfl (fun c => False.elim (hc.elim (fun z => absurd z c22) (fun z => absurd c (Int32.not_le.mpr z)))) (fun _ => ?_)
    exact r_vret hX hq ⟨rfl, be, H, rfl⟩ dX0_addInferred_40

set_option maxRecDepth 20000 in
set_option maxHeartbeats 4000000 in
theorem c_inf_1 (l : Launch) (G : zG) (h : zH) (top : Nat) (s : zS) (be : zB) (pu : Nat) (H : z_St G s be h top) (hpu : b_pu be = nI pu) (hle : pu ≤ (b_pool be).length) (h120 : pu < 120) (hrl : (b_rw be).length ≤ 119) (hro : ∀ (i u : Nat), (b_rw be)[i]? = some u → ∃ (k : Nat) (p : zPas), k < pu ∧ (b_pool be)[k]? = some p ∧ p.1 = u) (ka kb : Nat) (pa pb : zPas) (hpa : (b_pool be)[ka]? = some pa) (hpb : (b_pool be)[kb]? = some pb) (hc : ¬ ((zm_sg (s_segs s) pa.2.1).2.2.1 = (zm_sg (s_segs s) pb.2.1).2.1 ∨ 180 < pb.2.2.1 - pa.2.2.1)) (hon : zm_only (s_segs s) (zm_sg (s_segs s) pa.2.1).2.2.1 (zm_sg (s_segs s) pb.2.1).2.1 none = none) : z_Ct l yX0_addInferred cX0_addInferred 7 none 9 G [.ref (z_b G + 11), .ref (z_b G + 1), .ref pa.1, .ref pb.1] h top (z_PInf G s be pu none) := by
  refine z_of (own := RX0) (nm := "addInferred") (by decide) rfl rfl (by decide) (Nat.le_of_ble_eq_true rfl) (fun X hX hq => ?_)
  replace hX : z_ok X cX0_addInferred 7 RX0 none "addInferred" 9 G := hX
  show z_Z X h top 0 [(0, .ref (z_b G + 11)), (1, .ref (z_b G + 1)), (2, .ref pa.1), (3, .ref pb.1)] []
  have hbk := H.bk
  have hl6 := H.l6
  have hl61 := hl6.1
  have hps := H.pas hpa
  have hqs := H.pas hpb
  obtain ⟨hxa, hxa2⟩ := zm_sg_at (H.2.2.2.1.2 pa (List.mem_of_getElem? hpa))
  obtain ⟨hxb, hxb2⟩ := zm_sg_at (H.2.2.2.1.2 pb (List.mem_of_getElem? hpb))
  have hsa := H.seg hxa
  have hsb := H.seg hxb
  rw [hxa2] at hsa
  rw [hxb2] at hsb
  refine r_aload_n hX rfl 2 rfl dX0_addInferred_0 ?_
  refine r_getf hX fl_X0_102 hps rfl dX0_addInferred_1 ?_
  refine r_getf hX fl_X0_117 hsa rfl dX0_addInferred_4 ?_
  refine r_istore (lv' := [(4, .int (zm_sg (s_segs s) pa.2.1).2.2.1), (0, .ref (z_b G + 11)), (1, .ref (z_b G + 1)), (2, .ref pa.1), (3, .ref pb.1)]) hX (by decide) rfl dX0_addInferred_7 ?_
  refine r_aload_n hX rfl 4 rfl dX0_addInferred_9 ?_
  refine r_getf hX fl_X0_102 hqs rfl dX0_addInferred_10 ?_
  refine r_getf hX fl_X0_122 hsb rfl dX0_addInferred_13 ?_
  refine r_istore (lv' := [(5, .int (zm_sg (s_segs s) pb.2.1).2.1), (4, .int (zm_sg (s_segs s) pa.2.1).2.2.1), (0, .ref (z_b G + 11)), (1, .ref (z_b G + 1)), (2, .ref pa.1), (3, .ref pb.1)]) hX (by decide) rfl dX0_addInferred_16 ?_
  refine r_iload hX 1 rfl dX0_addInferred_18 ?_
  refine r_iload hX 0 rfl dX0_addInferred_20 ?_
  refine r_icmp_eq (tgt := 40) hX dX0_addInferred_22 rfl (fun c => False.elim (hc (Or.inl c))) (fun _ => ?_)
  refine r_aload_n hX rfl 5 rfl dX0_addInferred_25 ?_
  refine r_getf hX fl_X0_88 hqs rfl dX0_addInferred_26 ?_
  refine r_aload_n hX rfl 4 rfl dX0_addInferred_29 ?_
  refine r_getf hX fl_X0_88 hps rfl dX0_addInferred_30 ?_
  refine r_isub hX dX0_addInferred_33 ?_
  refine r_sipush (v := 180) hX (by decide) dX0_addInferred_34 ?_
  refine r_icmp_le (tgt := 41) hX dX0_addInferred_37 rfl (fun _ => ?_) (fun c => False.elim (hc (Or.inr (Int32.not_le.mp c))))
  refine r_aload_n hX rfl 3 rfl dX0_addInferred_41 ?_
  refine r_iload hX 1 rfl dX0_addInferred_42 ?_
  refine r_iload hX 0 rfl dX0_addInferred_44 ?_
  refine r_callSR (As := [.ref (z_b G + 1), .int (zm_sg (s_segs s) pa.2.1).2.2.1, .int (zm_sg (s_segs s) pb.2.1).2.1]) (rest := []) (rv := some (.null)) (st1 := [.null]) hX cs_X0_125 (by decide) (fun l => c_only_none l G h top s be H (zm_sg (s_segs s) pa.2.1).2.2.1 (zm_sg (s_segs s) pb.2.1).2.1 hon) rfl rfl rfl (Nat.le_of_ble_eq_true rfl) dX0_addInferred_46 ?_
  refine r_astoreN (lv' := [(6, .null), (5, .int (zm_sg (s_segs s) pb.2.1).2.1), (4, .int (zm_sg (s_segs s) pa.2.1).2.2.1), (0, .ref (z_b G + 11)), (1, .ref (z_b G + 1)), (2, .ref pa.1), (3, .ref pb.1)]) hX (by decide) rfl dX0_addInferred_49 ?_
  refine r_aloadN hX 0 rfl dX0_addInferred_51 ?_
  refine r_ifnullN (tgt := 81) hX rfl dX0_addInferred_53 ?_
  exact r_vret hX hq ⟨rfl, be, H, rfl⟩ dX0_addInferred_81

set_option maxRecDepth 20000 in
set_option maxHeartbeats 4000000 in
theorem c_inf_2 (l : Launch) (G : zG) (h : zH) (top : Nat) (s : zS) (be : zB) (pu : Nat) (H : z_St G s be h top) (hpu : b_pu be = nI pu) (hle : pu ≤ (b_pool be).length) (h120 : pu < 120) (hrl : (b_rw be).length ≤ 119) (hro : ∀ (i u : Nat), (b_rw be)[i]? = some u → ∃ (k : Nat) (p : zPas), k < pu ∧ (b_pool be)[k]? = some p ∧ p.1 = u) (ka kb : Nat) (pa pb : zPas) (hpa : (b_pool be)[ka]? = some pa) (hpb : (b_pool be)[kb]? = some pb) (hc : ¬ ((zm_sg (s_segs s) pa.2.1).2.2.1 = (zm_sg (s_segs s) pb.2.1).2.1 ∨ 180 < pb.2.2.1 - pa.2.2.1)) (x : zSeg) (hon : zm_only (s_segs s) (zm_sg (s_segs s) pa.2.1).2.2.1 (zm_sg (s_segs s) pb.2.1).2.1 none = some x) (hxs : z_isSeg s x.1) : z_Ct l yX0_addInferred cX0_addInferred 7 none 9 G [.ref (z_b G + 11), .ref (z_b G + 1), .ref pa.1, .ref pb.1] h top (z_PInf G s be pu (some (x.1, (pa.2.2.1 + pb.2.2.1) / 2, 0, 0))) := by
  refine z_of (own := RX0) (nm := "addInferred") (by decide) rfl rfl (by decide) (Nat.le_of_ble_eq_true rfl) (fun X hX hq => ?_)
  replace hX : z_ok X cX0_addInferred 7 RX0 none "addInferred" 9 G := hX
  show z_Z X h top 0 [(0, .ref (z_b G + 11)), (1, .ref (z_b G + 1)), (2, .ref pa.1), (3, .ref pb.1)] []
  have hbk := H.bk
  have hl6 := H.l6
  have hl61 := hl6.1
  have hps := H.pas hpa
  have hqs := H.pas hpb
  obtain ⟨hxa, hxa2⟩ := zm_sg_at (H.2.2.2.1.2 pa (List.mem_of_getElem? hpa))
  obtain ⟨hxb, hxb2⟩ := zm_sg_at (H.2.2.2.1.2 pb (List.mem_of_getElem? hpb))
  have hsa := H.seg hxa
  have hsb := H.seg hxb
  rw [hxa2] at hsa
  rw [hxb2] at hsb
  refine r_aload_n hX rfl 2 rfl dX0_addInferred_0 ?_
  refine r_getf hX fl_X0_102 hps rfl dX0_addInferred_1 ?_
  refine r_getf hX fl_X0_117 hsa rfl dX0_addInferred_4 ?_
  refine r_istore (lv' := [(4, .int (zm_sg (s_segs s) pa.2.1).2.2.1), (0, .ref (z_b G + 11)), (1, .ref (z_b G + 1)), (2, .ref pa.1), (3, .ref pb.1)]) hX (by decide) rfl dX0_addInferred_7 ?_
  refine r_aload_n hX rfl 4 rfl dX0_addInferred_9 ?_
  refine r_getf hX fl_X0_102 hqs rfl dX0_addInferred_10 ?_
  refine r_getf hX fl_X0_122 hsb rfl dX0_addInferred_13 ?_
  refine r_istore (lv' := [(5, .int (zm_sg (s_segs s) pb.2.1).2.1), (4, .int (zm_sg (s_segs s) pa.2.1).2.2.1), (0, .ref (z_b G + 11)), (1, .ref (z_b G + 1)), (2, .ref pa.1), (3, .ref pb.1)]) hX (by decide) rfl dX0_addInferred_16 ?_
  refine r_iload hX 1 rfl dX0_addInferred_18 ?_
  refine r_iload hX 0 rfl dX0_addInferred_20 ?_
  refine r_icmp_eq (tgt := 40) hX dX0_addInferred_22 rfl (fun c => False.elim (hc (Or.inl c))) (fun _ => ?_)
  refine r_aload_n hX rfl 5 rfl dX0_addInferred_25 ?_
  refine r_getf hX fl_X0_88 hqs rfl dX0_addInferred_26 ?_
  refine r_aload_n hX rfl 4 rfl dX0_addInferred_29 ?_
  refine r_getf hX fl_X0_88 hps rfl dX0_addInferred_30 ?_
  refine r_isub hX dX0_addInferred_33 ?_
  refine r_sipush (v := 180) hX (by decide) dX0_addInferred_34 ?_
  refine r_icmp_le (tgt := 41) hX dX0_addInferred_37 rfl (fun _ => ?_) (fun c => False.elim (hc (Or.inr (Int32.not_le.mp c))))
  refine r_aload_n hX rfl 3 rfl dX0_addInferred_41 ?_
  refine r_iload hX 1 rfl dX0_addInferred_42 ?_
  refine r_iload hX 0 rfl dX0_addInferred_44 ?_
  refine r_callSR (As := [.ref (z_b G + 1), .int (zm_sg (s_segs s) pa.2.1).2.2.1, .int (zm_sg (s_segs s) pb.2.1).2.1]) (rest := []) (rv := some (.ref x.1)) (st1 := [.ref x.1]) hX cs_X0_125 (by decide) (fun l => c_only_some l G h top s be H (zm_sg (s_segs s) pa.2.1).2.2.1 (zm_sg (s_segs s) pb.2.1).2.1 hon) rfl rfl rfl (Nat.le_of_ble_eq_true rfl) dX0_addInferred_46 ?_
  refine r_astore (lv' := [(6, .ref x.1), (5, .int (zm_sg (s_segs s) pb.2.1).2.1), (4, .int (zm_sg (s_segs s) pa.2.1).2.2.1), (0, .ref (z_b G + 11)), (1, .ref (z_b G + 1)), (2, .ref pa.1), (3, .ref pb.1)]) hX (by decide) rfl dX0_addInferred_49 ?_
  refine r_aload hX 0 rfl dX0_addInferred_51 ?_
  refine r_ifnull hX dX0_addInferred_53 ?_
  refine r_aload_n hX rfl 3 rfl dX0_addInferred_56 ?_
  refine r_getf hX fl_X0_21 hbk rfl dX0_addInferred_57 ?_
  refine r_aload_n hX rfl 3 rfl dX0_addInferred_60 ?_
  refine r_aload hX 0 rfl dX0_addInferred_61 ?_
  refine r_aload_n hX rfl 5 rfl dX0_addInferred_63 ?_
  refine r_getf hX fl_X0_88 hps rfl dX0_addInferred_64 ?_
  refine r_aload_n hX rfl 6 rfl dX0_addInferred_67 ?_
  refine r_getf hX fl_X0_88 hqs rfl dX0_addInferred_68 ?_
  refine r_iadd hX dX0_addInferred_71 ?_
  refine r_iconst (v := 2) hX (by decide) dX0_addInferred_72 ?_
  refine r_idiv hX (by decide) dX0_addInferred_73 ?_
  refine r_callV (As := [.ref x.1, .int ((pa.2.2.1 + pb.2.2.1) / 2)]) (rest := [.ref (z_b G + 14)]) hX cs_X0_91 (by decide) (fun l => c_begin l G h top s be pu x.1 ((pa.2.2.1 + pb.2.2.1) / 2) H hpu hxs hle h120) hbk rfl rfl rfl (Nat.le_of_ble_eq_true rfl) dX0_addInferred_74 (fun r1 h1 top1 hp1 => ?_)
  obtain ⟨be2, a, H2, rfl, q1, q2, q3, q4, q5, q6, q7, q8⟩ := hp1
  have hbk2 := H2.bk
  have hl62 := H2.l6
  have hl63 := hl62.1
  refine r_callV (As := [.ref a]) (rest := []) hX cs_X0_95 (by decide) (fun l => c_add1 l G h1 top1 (z_b G + 14) a (b_ls be2 6).2.1 (b_rw be2).length (b_ls be2 6).2.2 (b_ls be2 6).1 (fun q : Nat => (b_rw be2)[q]?) (Nat.le_trans H2.hall.1 (Nat.le_of_lt H2.hall.2.1)) hl62 (fun i hi u hu => by rw [q8] at hu; obtain ⟨k9, p9, w1, w2, w3⟩ := hro i u hu; rw [← w3]; exact H2.ob_pas (by rw [q3 k9 w1]; exact w2)) (by rw [q8]; omega) (H2.ob_pas q2) (fun _ => by have := H2.2.2.1.room; omega)) hl63 rfl rfl rfl (Nat.le_of_ble_eq_true rfl) dX0_addInferred_77 (fun r2 h2 top2 hp2 => ?_)
  obtain ⟨rfl, l6, H3⟩ := H2.addB 6 (Or.inr (Or.inr rfl)) hp2 (Nat.le_refl _) (show (b_rw be2).length ≤ 120 by rw [q8]; omega)
  refine r_pop hX rfl dX0_addInferred_80 ?_
  exact r_vret hX hq ⟨rfl, _, H3, by exact q1, ⟨a, q2, by show (b_rw be2).insertIdx (b_rw be2).length a = _; rw [List.insertIdx_length_self, q8]⟩, q3, q4, q5, q6, q7⟩ dX0_addInferred_81

theorem c_inf (l : Launch) (G : zG) (h : zH) (top : Nat) (s : zS) (be : zB) (pu : Nat) (H : z_St G s be h top) (hpu : b_pu be = nI pu) (hle : pu ≤ (b_pool be).length) (h120 : pu < 120) (hrl : (b_rw be).length ≤ 119) (hro : ∀ (i u : Nat), (b_rw be)[i]? = some u → ∃ (k : Nat) (p : zPas), k < pu ∧ (b_pool be)[k]? = some p ∧ p.1 = u) (ka kb : Nat) (pa pb : zPas) (hpa : (b_pool be)[ka]? = some pa) (hpb : (b_pool be)[kb]? = some pb) : z_Ct l yX0_addInferred cX0_addInferred 7 none 9 G [.ref (z_b G + 11), .ref (z_b G + 1), .ref pa.1, .ref pb.1] h top (z_PInf G s be pu (zm_inf (s_segs s) (zm_q pa) (zm_q pb))) := by
  unfold zm_inf
  by_cases hc : (zm_sg (s_segs s) pa.2.1).2.2.1 = (zm_sg (s_segs s) pb.2.1).2.1 ∨ 180 < pb.2.2.1 - pa.2.2.1
  · rw [if_pos (show (zm_sg (s_segs s) (zm_q pa).1).2.2.1 = (zm_sg (s_segs s) (zm_q pb).1).2.1 ∨ 180 < (zm_q pb).2.1 - (zm_q pa).2.1 from hc)]
    exact c_inf_0 l G h top s be pu H hpu hle h120 hrl hro ka kb pa pb hpa hpb hc
  · rw [if_neg (show ¬ ((zm_sg (s_segs s) (zm_q pa).1).2.2.1 = (zm_sg (s_segs s) (zm_q pb).1).2.1 ∨ 180 < (zm_q pb).2.1 - (zm_q pa).2.1) from hc)]
    cases hon : zm_only (s_segs s) (zm_sg (s_segs s) pa.2.1).2.2.1 (zm_sg (s_segs s) pb.2.1).2.1 none with
    | none =>
      rw [show zm_only (s_segs s) (zm_sg (s_segs s) (zm_q pa).1).2.2.1 (zm_sg (s_segs s) (zm_q pb).1).2.1 none = none from hon]
      exact c_inf_1 l G h top s be pu H hpu hle h120 hrl hro ka kb pa pb hpa hpb hc hon
    | some x =>
      rw [show zm_only (s_segs s) (zm_sg (s_segs s) (zm_q pa).1).2.2.1 (zm_sg (s_segs s) (zm_q pb).1).2.1 none = some x from hon]
      refine c_inf_2 l G h top s be pu H hpu hle h120 hrl hro ka kb pa pb hpa hpb hc x hon ?_
      rcases zm_only_mem _ _ hon with w | w
      · obtain ⟨i, hi⟩ := List.getElem?_of_mem w
        exact ⟨i, x, hi, rfl⟩
      · cases w
end
section
/-! gathering -/
def zm_sureStep (segs : List zSeg) (acc : Option zQ × List zQ) (q : zQ) : Option zQ × List zQ :=
  if q.2.2.2 = 0 then (some q, acc.2 ++ (match acc.1 with | none => [] | some a => (zm_inf segs a q).toList) ++ [q]) else acc
def zm_sure (segs : List zSeg) (Q : List zQ) : Option zQ × List zQ := Q.foldl (zm_sureStep segs) (none, [])
def zm_dbt (Q : List zQ) : List zQ := Q.filter (fun q => !decide (q.2.2.2 = 0))
def zm_gath (segs : List zSeg) (Q : List zQ) : List zQ := (zm_sure segs Q).2 ++ zm_dbt Q
/-- the rows stand in the pool, each at a place of its own, and say what is wanted -/
def z_RW (be : zB) (pu : Nat) (rows : List zQ) (RI : List Nat) : Prop := RI.length = rows.length ∧ (b_rw be).length = rows.length ∧ RI.Nodup ∧ ∀ (n k : Nat), RI[n]? = some k → k < pu ∧ ∃ p : zPas, (b_pool be)[k]? = some p ∧ rows[n]? = some (zm_q p) ∧ (b_rw be)[n]? = some p.1
def z_GI (G : zG) (s : zS) (Q : List zQ) (be0 be : zB) (pu : Nat) (rows : List zQ) (RI : List Nat) (h : zH) (top : Nat) : Prop := z_St G s be h top ∧ (b_pu be = nI pu ∧ Q.length ≤ pu ∧ pu ≤ (b_pool be).length) ∧ (b_jn be = ((b_pool be).take Q.length).map (fun x => x.1) ∧ ((b_pool be).take Q.length).map zm_q = Q) ∧ z_RW be pu rows RI ∧ b_rch be = b_rch be0 ∧ b_ct be = b_ct be0
theorem z_GI.at {G : zG} {s : zS} {be0 be : zB} {Q : List zQ} {pu : Nat} {rows : List zQ} {RI : List Nat} {h : zH} {top : Nat} (J : z_GI G s Q be0 be pu rows RI h top) {k : Nat} {q : zQ} (hq : Q[k]? = some q) : ∃ p : zPas, (b_pool be)[k]? = some p ∧ zm_q p = q ∧ (b_jn be)[k]? = some p.1 := by
  have hk : k < Q.length := (List.getElem?_eq_some_iff.mp hq).1
  have hk2 : k < (b_pool be).length := by have := J.2.1.2.1; have := J.2.1.2.2; omega
  have e := J.2.2.1.2
  rw [← e, List.getElem?_map, List.getElem?_take_of_lt hk, List.getElem?_eq_getElem hk2] at hq
  refine ⟨_, List.getElem?_eq_getElem hk2, Option.some.inj hq, ?_⟩
  rw [J.2.2.1.1, List.getElem?_map, List.getElem?_take_of_lt hk, List.getElem?_eq_getElem hk2]
  rfl
theorem z_GI.jlen {G : zG} {s : zS} {be0 be : zB} {Q : List zQ} {pu : Nat} {rows : List zQ} {RI : List Nat} {h : zH} {top : Nat} (J : z_GI G s Q be0 be pu rows RI h top) : (b_jn be).length = Q.length := by
  rw [J.2.2.1.1, List.length_map, List.length_take]
  have := J.2.1.2.1; have := J.2.1.2.2
  omega
theorem z_RW.own {be : zB} {pu : Nat} {rows : List zQ} {RI : List Nat} (J : z_RW be pu rows RI) {n u : Nat} (hu : (b_rw be)[n]? = some u) : ∃ (k : Nat) (p : zPas), k < pu ∧ (b_pool be)[k]? = some p ∧ p.1 = u := by
  have hn : n < RI.length := by rw [J.1, ← J.2.1]; exact (List.getElem?_eq_some_iff.mp hu).1
  obtain ⟨h1, p, h2, h3, h4⟩ := J.2.2.2 n _ (List.getElem?_eq_getElem hn)
  rw [hu] at h4
  exact ⟨_, p, h1, h2, (Option.some.inj h4).symm⟩
theorem z_RW.push {be be2 : zB} {pu pu2 : Nat} {rows : List zQ} {RI : List Nat} (J : z_RW be pu rows RI) {k : Nat} {p : zPas} (hpu : pu ≤ pu2) (hk : k < pu2) (hp : (b_pool be2)[k]? = some p) (hn : k ∉ RI) (hpool : ∀ i, i < pu → (b_pool be2)[i]? = (b_pool be)[i]?) (hrw : b_rw be2 = b_rw be ++ [p.1]) : z_RW be2 pu2 (rows ++ [zm_q p]) (RI ++ [k]) := by
  obtain ⟨h1, h2, h3, h4⟩ := J
  refine ⟨by rw [List.length_append, List.length_append, h1]; rfl, by rw [hrw, List.length_append, List.length_append, h2]; rfl, ?_, fun n m hm => ?_⟩
  · rw [List.nodup_append]
    exact ⟨h3, List.nodup_cons.mpr ⟨List.not_mem_nil, List.nodup_nil⟩, fun a ha b hb => by rw [List.mem_singleton.mp hb]; intro z; rw [z] at ha; exact hn ha⟩
  · rw [hrw]
    rcases Nat.lt_or_ge n RI.length with q | q
    · rw [List.getElem?_append_left q] at hm
      obtain ⟨g1, p9, g2, g3, g4⟩ := h4 n m hm
      refine ⟨by omega, p9, by rw [hpool m g1]; exact g2, ?_, ?_⟩
      · rw [List.getElem?_append_left (by omega)]; exact g3
      · rw [List.getElem?_append_left (by omega)]; exact g4
    · rw [List.getElem?_append_right q] at hm
      have hn0 : n - RI.length = 0 := by
        have := (List.getElem?_eq_some_iff.mp hm).1
        simp only [List.length_singleton] at this
        omega
      rw [hn0] at hm
      cases hm
      refine ⟨hk, p, hp, ?_, ?_⟩
      · rw [List.getElem?_append_right (by omega), show n - rows.length = 0 by omega]; rfl
      · rw [List.getElem?_append_right (by omega), show n - (b_rw be).length = 0 by omega]; rfl
theorem z_GI.inf {G : zG} {s : zS} {be0 be : zB} {Q : List zQ} {pu : Nat} {rows : List zQ} {RI : List Nat} {h h2 : zH} {top top2 : Nat} {o : Option zQ} {r : Option Value} (J : z_GI G s Q be0 be pu rows RI h top) (ho : ∀ q, o = some q → q.2.2 = (0, 0)) (hp : z_PInf G s be pu o r h2 top2) : r = none ∧ ∃ (be2 : zB) (pu2 : Nat) (RI2 : List Nat), z_GI G s Q be0 be2 pu2 (rows ++ o.toList) RI2 h2 top2 ∧ pu2 ≤ pu + 1 ∧ (∀ k ∈ RI2, k ∈ RI ∨ Q.length ≤ k) ∧ (∀ i, i < pu → (b_pool be2)[i]? = (b_pool be)[i]?) := by
  obtain ⟨hr, be2, H2, hm⟩ := hp
  refine ⟨hr, ?_⟩
  cases o with
  | none =>
    dsimp only at hm
    subst hm
    exact ⟨be2, pu, RI, ⟨H2, J.2.1, J.2.2.1, by rw [show rows ++ (none : Option zQ).toList = rows from List.append_nil _]; exact J.2.2.2.1, J.2.2.2.2⟩, by omega, fun k hk => Or.inl hk, fun _ _ => rfl⟩
  | some q =>
    obtain ⟨q1, ⟨a, q2, q3⟩, q4, q5, q6, q7, q8⟩ := hm
    have hqd := ho q rfl
    have e1 : q = zm_q (a, q.1, q.2.1, 0, 0, 0, 0) := by
      obtain ⟨x1, x2, x3⟩ := q
      dsimp only at hqd
      subst hqd
      rfl
    have hlt : pu < (b_pool be2).length := (List.getElem?_eq_some_iff.mp q2).1
    have hnm : pu ∉ RI := fun z => by
      obtain ⟨n, hn⟩ := List.getElem?_of_mem z
      have := (J.2.2.2.1.2.2.2 n pu hn).1
      omega
    have htk : (b_pool be2).take Q.length = (b_pool be).take Q.length := by
      have := J.2.1.2.1
      apply List.ext_getElem?
      intro n
      rcases Nat.lt_or_ge n Q.length with v | v
      · rw [List.getElem?_take_of_lt v, List.getElem?_take_of_lt v, q4 n (by omega)]
      · rw [List.getElem?_eq_none (by rw [List.length_take]; omega), List.getElem?_eq_none (by rw [List.length_take]; omega)]
    refine ⟨be2, pu + 1, RI ++ [pu], ⟨H2, ⟨q1, by have := J.2.1.2.1; omega, by omega⟩, ⟨by rw [htk, q8]; exact J.2.2.1.1, by rw [htk]; exact J.2.2.1.2⟩, ?_, q5.trans J.2.2.2.2.1, q6.trans J.2.2.2.2.2⟩, Nat.le_refl _, fun k hk => ?_, q4⟩
    · have := J.2.2.2.1.push (be2 := be2) (k := pu) (p := (a, q.1, q.2.1, 0, 0, 0, 0)) (Nat.le_succ pu) (Nat.lt_succ_self pu) q2 hnm q4 q3
      rw [← e1] at this
      exact this
    · rcases List.mem_append.mp hk with w | w
      · exact Or.inl w
      · rw [List.mem_singleton.mp w]; exact Or.inr J.2.1.2.1
theorem z_GI.add {G : zG} {s : zS} {be0 be : zB} {Q : List zQ} {pu : Nat} {rows : List zQ} {RI : List Nat} {h h2 : zH} {top top2 : Nat} {r : Option Value} (J : z_GI G s Q be0 be pu rows RI h top) {k : Nat} {p : zPas} (hp : (b_pool be)[k]? = some p) (hk : k < pu) (hn : k ∉ RI) (hr : rows.length ≤ 120) (ha : z_PAdd G h top (z_b G + 14) (b_ls be 6).2.1 rows.length (b_ls be 6).2.2 (fun q : Nat => (b_rw be)[q]?) rows.length p.1 (some (.int 1)) r h2 top2) : r = some (.int 1) ∧ ∃ be2, z_GI G s Q be0 be2 pu (rows ++ [zm_q p]) (RI ++ [k]) h2 top2 ∧ b_pool be2 = b_pool be := by
  have hl := J.2.2.2.1.2.1
  rw [← hl] at ha hr
  obtain ⟨h1, l6, H3⟩ := J.1.addB 6 (Or.inr (Or.inr rfl)) ha (Nat.le_refl _) hr
  refine ⟨h1, _, ⟨H3, J.2.1, J.2.2.1, J.2.2.2.1.push (Nat.le_refl _) hk hp hn (fun _ _ => rfl) ?_, J.2.2.2.2⟩, rfl⟩
  show (b_rw be).insertIdx (b_rw be).length p.1 = _
  rw [List.insertIdx_length_self]
theorem zm_inf_2 {segs : List zSeg} {a b q : zQ} (h : zm_inf segs a b = some q) : q.2.2 = (0, 0) := by
  unfold zm_inf at h
  split at h
  · cases h
  · obtain ⟨x, _, rfl⟩ := Option.map_eq_some_iff.mp h
    rfl
theorem z_GI.add1 {G : zG} {s : zS} {be0 be : zB} {Q : List zQ} {pu : Nat} {rows : List zQ} {RI : List Nat} {h : zH} {top : Nat} (l : Launch) (J : z_GI G s Q be0 be pu rows RI h top) {k : Nat} {p : zPas} (hp : (b_pool be)[k]? = some p) (hr : rows.length ≤ 120) : z_Ct l yJx4a65c_add_9ea2d cJx4a65c_add_9ea2d 2 (some .boolean) 7 G [.ref (z_b G + 14), .ref p.1] h top (z_PAdd G h top (z_b G + 14) (b_ls be 6).2.1 rows.length (b_ls be 6).2.2 (fun q : Nat => (b_rw be)[q]?) rows.length p.1 (some (.int 1))) := c_add1 l G h top (z_b G + 14) p.1 (b_ls be 6).2.1 rows.length (b_ls be 6).2.2 (b_ls be 6).1 (fun q : Nat => (b_rw be)[q]?) (Nat.le_trans J.1.hall.1 (Nat.le_of_lt J.1.hall.2.1)) (by rw [← J.2.2.2.1.2.1]; exact J.1.l6) (fun i _ u hu => by obtain ⟨k9, p9, _, w2, w3⟩ := J.2.2.2.1.own hu; rw [← w3]; exact J.1.ob_pas w2) (by omega) (J.1.ob_pas hp) (fun _ => by have := J.1.2.2.1.room; omega)
set_option maxRecDepth 20000 in
set_option maxHeartbeats 4000000 in
theorem f_suN {X : zX} {G : zG} {h : zH} {top : Nat} {Post : Option Value → zH → Nat → Prop} (s : zS) (be0 be : zB) (Q : List zQ) (hQ : Q.length ≤ 60) (i pu : Nat) (rows : List zQ) (RI : List Nat) (p : zPas) (J : z_GI G s Q be0 be pu rows RI h top) (hpi : Q[i]? = some (zm_q p)) (hp1 : (b_pool be)[i]? = some p) (hpu : pu ≤ Q.length + i) (hrl : rows.length ≤ 2 * i) (hRI : (∀ k ∈ RI, Q.length ≤ k ∨ (k < i ∧ ∃ q : zQ, Q[k]? = some q ∧ q.2.2.2 = 0))) (ih : ∀ (h : zH) (top : Nat) (be : zB) (pu : Nat) (o : Option zPas) (rows2 : List zQ) (RI : List Nat), z_GI G s Q be0 be pu rows2 RI h top → (o.map zm_q, rows2) = zm_sureStep (s_segs s) (none, rows) (zm_q p) → (∀ p, o = some p → ∃ k, k < Q.length ∧ (b_pool be)[k]? = some p) → pu ≤ Q.length + (i + 1) → rows2.length ≤ 2 * (i + 1) → (∀ k ∈ RI, Q.length ≤ k ∨ (k < i + 1 ∧ ∃ q : zQ, Q[k]? = some q ∧ q.2.2.2 = 0)) → z_Z X h top 4 [(3, .int (nI (i + 1))), (2, va_rf (o.map (fun x => x.1))), (0, .ref (z_b G + 11)), (1, .ref (z_b G + 1))] []) (hX : z_ok X cX0_addSure 5 RX0 none "addSure" 10 G) (hq : z_mq X (Post)) : z_Z X h top 4 [(3, .int (nI i)), (2, .null), (0, .ref (z_b G + 11)), (1, .ref (z_b G + 1))] [] := by
  have H := J.1
  have hbk := H.bk
  have hl5 := H.l5
  rw [J.jlen] at hl5
  have hl51 := hl5.1
  have hl6 := H.l6
  have hl61 := hl6.1
  have hps := H.pas hp1
  have hlt : i < Q.length := (List.getElem?_eq_some_iff.mp hpi).1
  have hgi : (b_jn be)[i]? = some p.1 := by
    obtain ⟨p9, w1, w2, w3⟩ := J.at hpi
    rw [hp1] at w1
    cases w1
    exact w3
  have hni : i ∉ RI := fun z => by rcases hRI i z with w | w <;> omega
  refine r_iload_n hX rfl 0 rfl dX0_addSure_4 ?_
  refine r_aload_n hX rfl 2 rfl dX0_addSure_5 ?_
  refine r_getf hX fl_X0_18 hbk rfl dX0_addSure_6 ?_
  refine r_callVR (As := []) (rest := [.int (nI i)]) (rv := some (.int (nI Q.length))) (st1 := [.int (nI Q.length), .int (nI i)]) hX cs_X0_27 (by decide) (fun l => z_size hl5 l) hl51 rfl rfl rfl rfl (Nat.le_of_ble_eq_true rfl) dX0_addSure_9 ?_
  refine r_icmp_ge (tgt := 70) hX dX0_addSure_12 rfl (fun c => False.elim (absurd c (nI_ge hlt (by omega)))) (fun _ => ?_)
  refine r_aload_n hX rfl 2 rfl dX0_addSure_15 ?_
  refine r_getf hX fl_X0_18 hbk rfl dX0_addSure_16 ?_
  refine r_iload_n hX rfl 0 rfl dX0_addSure_19 ?_
  refine r_callVR (As := [.int (nI i)]) (rest := []) (rv := some (.ref p.1)) (st1 := [.ref p.1]) hX cs_X0_55 (by decide) (fun l => z_get hl5 hlt hgi l) hl51 rfl rfl rfl rfl (Nat.le_of_ble_eq_true rfl) dX0_addSure_20 ?_
  refine r_cast (ci := 3) hX rfl hps cl_X0_89 dX0_addSure_23 ?_
  refine r_astore (lv' := [(4, .ref p.1), (3, .int (nI i)), (2, .null), (0, .ref (z_b G + 11)), (1, .ref (z_b G + 1))]) hX (by decide) rfl dX0_addSure_26 ?_
  refine r_aload hX 0 rfl dX0_addSure_28 ?_
  refine r_getf hX fl_X0_109 hps rfl dX0_addSure_30 ?_
  refine r_if_eq (tgt := 39) hX dX0_addSure_33 rfl (fun c33 => ?_) (fun c33 => ?_)
  · skip
    refine r_aload_nN hX rfl 2 rfl dX0_addSure_39 ?_
    refine r_ifnullN (tgt := 51) hX rfl dX0_addSure_40 ?_
    refine r_aload_n hX rfl 3 rfl dX0_addSure_51 ?_
    refine r_getf hX fl_X0_21 hbk rfl dX0_addSure_52 ?_
    refine r_aload hX 0 rfl dX0_addSure_55 ?_
    refine r_callV (As := [.ref p.1]) (rest := []) hX cs_X0_95 (by decide) (fun l => J.add1 l hp1 (by omega)) hl61 rfl rfl rfl (Nat.le_of_ble_eq_true rfl) dX0_addSure_57 (fun r2 h2 top2 hp2x => ?_)
    obtain ⟨rfl, be3, J3, hpl3⟩ := J.add hp1 (by have := J.2.1.2.1; omega) hni (by omega) hp2x
    refine r_pop hX rfl dX0_addSure_60 ?_
    refine r_aload hX 0 rfl dX0_addSure_61 ?_
    refine r_astore_n (lv' := [(2, .ref p.1), (4, .ref p.1), (3, .int (nI i)), (0, .ref (z_b G + 11)), (1, .ref (z_b G + 1))]) hX rfl (by decide) rfl dX0_addSure_63 ?_
    refine r_iinc (q := 2) (lv' := [(3, .int ((nI i) + 1)), (2, .ref p.1), (4, .ref p.1), (0, .ref (z_b G + 11)), (1, .ref (z_b G + 1))]) hX rfl rfl (by decide) rfl dX0_addSure_64 ?_
    refine r_goto (tgt := 4) hX rfl dX0_addSure_67 ?_
    refine r_lv [0, 1, 3, 4] (lv2 := [(3, .int (nI i + 1)), (2, .ref p.1), (0, .ref (z_b G + 11)), (1, .ref (z_b G + 1))]) rfl ?_
    rw [nI_1]
    refine ih h2 top2 be3 pu (some p) _ _ J3 (by rw [zm_sureStep, if_pos (show (zm_q p).2.2.2 = 0 from c33)]; simp) (fun p9 e => by cases e; exact ⟨i, hlt, by rw [hpl3]; exact hp1⟩) (by omega) ?_ ?_
    · rw [List.length_append, List.length_singleton]
      omega
    · intro k hk
      rcases List.mem_append.mp hk with w | w
      · exact (hRI k w).imp id (fun w => ⟨by omega, w.2⟩)
      · rw [List.mem_singleton.mp w]; exact Or.inr ⟨by omega, _, hpi, c33⟩
  · skip
    refine r_goto (tgt := 64) hX rfl dX0_addSure_36 ?_
    refine r_iinc (q := 1) (lv' := [(3, .int ((nI i) + 1)), (4, .ref p.1), (2, .null), (0, .ref (z_b G + 11)), (1, .ref (z_b G + 1))]) hX rfl rfl (by decide) rfl dX0_addSure_64 ?_
    refine r_goto (tgt := 4) hX rfl dX0_addSure_67 ?_
    refine r_lv [0, 2, 3, 4] (lv2 := [(3, .int (nI i + 1)), (2, .null), (0, .ref (z_b G + 11)), (1, .ref (z_b G + 1))]) rfl ?_
    rw [nI_1]
    exact ih h top be pu none rows RI J (Eq.symm (if_neg c33)) (fun p9 e => by cases e) (by omega) (by omega) (fun k hk => (hRI k hk).imp id (fun w => ⟨by omega, w.2⟩))

set_option maxRecDepth 20000 in
set_option maxHeartbeats 4000000 in
theorem f_suS {X : zX} {G : zG} {h : zH} {top : Nat} {Post : Option Value → zH → Nat → Prop} (s : zS) (be0 be : zB) (Q : List zQ) (hQ : Q.length ≤ 60) (i pu : Nat) (rows : List zQ) (RI : List Nat) (p : zPas) (J : z_GI G s Q be0 be pu rows RI h top) (hpi : Q[i]? = some (zm_q p)) (hp1 : (b_pool be)[i]? = some p) (hpu : pu ≤ Q.length + i) (hrl : rows.length ≤ 2 * i) (hRI : (∀ k ∈ RI, Q.length ≤ k ∨ (k < i ∧ ∃ q : zQ, Q[k]? = some q ∧ q.2.2.2 = 0))) (pa : zPas) (ka : Nat) (hka : ka < Q.length) (hpa : (b_pool be)[ka]? = some pa) (ih : ∀ (h : zH) (top : Nat) (be : zB) (pu : Nat) (o : Option zPas) (rows2 : List zQ) (RI : List Nat), z_GI G s Q be0 be pu rows2 RI h top → (o.map zm_q, rows2) = zm_sureStep (s_segs s) (some (zm_q pa), rows) (zm_q p) → (∀ p, o = some p → ∃ k, k < Q.length ∧ (b_pool be)[k]? = some p) → pu ≤ Q.length + (i + 1) → rows2.length ≤ 2 * (i + 1) → (∀ k ∈ RI, Q.length ≤ k ∨ (k < i + 1 ∧ ∃ q : zQ, Q[k]? = some q ∧ q.2.2.2 = 0)) → z_Z X h top 4 [(3, .int (nI (i + 1))), (2, va_rf (o.map (fun x => x.1))), (0, .ref (z_b G + 11)), (1, .ref (z_b G + 1))] []) (hX : z_ok X cX0_addSure 5 RX0 none "addSure" 10 G) (hq : z_mq X (Post)) : z_Z X h top 4 [(3, .int (nI i)), (2, .ref pa.1), (0, .ref (z_b G + 11)), (1, .ref (z_b G + 1))] [] := by
  have H := J.1
  have hbk := H.bk
  have hl5 := H.l5
  rw [J.jlen] at hl5
  have hl51 := hl5.1
  have hl6 := H.l6
  have hl61 := hl6.1
  have hps := H.pas hp1
  have hlt : i < Q.length := (List.getElem?_eq_some_iff.mp hpi).1
  have hgi : (b_jn be)[i]? = some p.1 := by
    obtain ⟨p9, w1, w2, w3⟩ := J.at hpi
    rw [hp1] at w1
    cases w1
    exact w3
  have hni : i ∉ RI := fun z => by rcases hRI i z with w | w <;> omega
  have hpsa := H.pas hpa
  refine r_iload_n hX rfl 0 rfl dX0_addSure_4 ?_
  refine r_aload_n hX rfl 2 rfl dX0_addSure_5 ?_
  refine r_getf hX fl_X0_18 hbk rfl dX0_addSure_6 ?_
  refine r_callVR (As := []) (rest := [.int (nI i)]) (rv := some (.int (nI Q.length))) (st1 := [.int (nI Q.length), .int (nI i)]) hX cs_X0_27 (by decide) (fun l => z_size hl5 l) hl51 rfl rfl rfl rfl (Nat.le_of_ble_eq_true rfl) dX0_addSure_9 ?_
  refine r_icmp_ge (tgt := 70) hX dX0_addSure_12 rfl (fun c => False.elim (absurd c (nI_ge hlt (by omega)))) (fun _ => ?_)
  refine r_aload_n hX rfl 2 rfl dX0_addSure_15 ?_
  refine r_getf hX fl_X0_18 hbk rfl dX0_addSure_16 ?_
  refine r_iload_n hX rfl 0 rfl dX0_addSure_19 ?_
  refine r_callVR (As := [.int (nI i)]) (rest := []) (rv := some (.ref p.1)) (st1 := [.ref p.1]) hX cs_X0_55 (by decide) (fun l => z_get hl5 hlt hgi l) hl51 rfl rfl rfl rfl (Nat.le_of_ble_eq_true rfl) dX0_addSure_20 ?_
  refine r_cast (ci := 3) hX rfl hps cl_X0_89 dX0_addSure_23 ?_
  refine r_astore (lv' := [(4, .ref p.1), (3, .int (nI i)), (2, .ref pa.1), (0, .ref (z_b G + 11)), (1, .ref (z_b G + 1))]) hX (by decide) rfl dX0_addSure_26 ?_
  refine r_aload hX 0 rfl dX0_addSure_28 ?_
  refine r_getf hX fl_X0_109 hps rfl dX0_addSure_30 ?_
  refine r_if_eq (tgt := 39) hX dX0_addSure_33 rfl (fun c33 => ?_) (fun c33 => ?_)
  · skip
    refine r_aload_n hX rfl 2 rfl dX0_addSure_39 ?_
    refine r_ifnull hX dX0_addSure_40 ?_
    refine r_aload_n hX rfl 3 rfl dX0_addSure_43 ?_
    refine r_aload_n hX rfl 4 rfl dX0_addSure_44 ?_
    refine r_aload_n hX rfl 2 rfl dX0_addSure_45 ?_
    refine r_aload hX 0 rfl dX0_addSure_46 ?_
    refine r_callV (As := [.ref (z_b G + 1), .ref pa.1, .ref p.1]) (rest := []) hX cs_X0_113 (by decide) (fun l => c_inf l G h top s be pu H J.2.1.1 J.2.1.2.2 (by omega) (by rw [J.2.2.2.1.2.1]; omega) (fun n u hu => J.2.2.2.1.own hu) ka i pa p hpa hp1) hbk rfl rfl rfl (Nat.le_of_ble_eq_true rfl) dX0_addSure_48 (fun r1 h1 top1 hp1x => ?_)
    obtain ⟨rfl, be2, pu2, RI2, J2, hpu2, hRI2, hpl⟩ := J.inf (fun q hq => zm_inf_2 hq) hp1x
    have hp2 : (b_pool be2)[i]? = some p := by rw [hpl i (by have := J.2.1.2.1; omega)]; exact hp1
    have hbk2 := J2.1.bk
    have hps2 := J2.1.pas hp2
    have hl62 := J2.1.l6.1
    rw [J2.2.2.2.1.2.1] at hl62
    refine r_aload_n hX rfl 3 rfl dX0_addSure_51 ?_
    refine r_getf hX fl_X0_21 hbk2 rfl dX0_addSure_52 ?_
    refine r_aload hX 0 rfl dX0_addSure_55 ?_
    have hol : (rows ++ (zm_inf (s_segs s) (zm_q pa) (zm_q p)).toList).length ≤ 120 := by
      rw [List.length_append]
      have : (zm_inf (s_segs s) (zm_q pa) (zm_q p)).toList.length ≤ 1 := by cases zm_inf (s_segs s) (zm_q pa) (zm_q p) <;> simp
      omega
    refine r_callV (As := [.ref p.1]) (rest := []) hX cs_X0_95 (by decide) (fun l => J2.add1 l hp2 hol) hl62 rfl rfl rfl (Nat.le_of_ble_eq_true rfl) dX0_addSure_57 (fun r2 h2 top2 hp2x => ?_)
    obtain ⟨rfl, be3, J3, hpl3⟩ := J2.add hp2 (by have := J2.2.1.2.1; omega) (fun z => by rcases hRI2 i z with w | w <;> first | exact hni w | omega) hol hp2x
    refine r_pop hX rfl dX0_addSure_60 ?_
    refine r_aload hX 0 rfl dX0_addSure_61 ?_
    refine r_astore_n (lv' := [(2, .ref p.1), (4, .ref p.1), (3, .int (nI i)), (0, .ref (z_b G + 11)), (1, .ref (z_b G + 1))]) hX rfl (by decide) rfl dX0_addSure_63 ?_
    refine r_iinc (q := 2) (lv' := [(3, .int ((nI i) + 1)), (2, .ref p.1), (4, .ref p.1), (0, .ref (z_b G + 11)), (1, .ref (z_b G + 1))]) hX rfl rfl (by decide) rfl dX0_addSure_64 ?_
    refine r_goto (tgt := 4) hX rfl dX0_addSure_67 ?_
    refine r_lv [0, 1, 3, 4] (lv2 := [(3, .int (nI i + 1)), (2, .ref p.1), (0, .ref (z_b G + 11)), (1, .ref (z_b G + 1))]) rfl ?_
    rw [nI_1]
    refine ih h2 top2 be3 pu2 (some p) _ _ J3 (Eq.symm (if_pos c33)) (fun p9 e => by cases e; exact ⟨i, hlt, by rw [hpl3]; exact hp2⟩) (by omega) ?_ ?_
    · rw [List.length_append, List.length_append, List.length_singleton]
      have : (zm_inf (s_segs s) (zm_q pa) (zm_q p)).toList.length ≤ 1 := by cases zm_inf (s_segs s) (zm_q pa) (zm_q p) <;> simp
      omega
    · intro k hk
      rcases List.mem_append.mp hk with w | w
      · rcases hRI2 k w with v | v
        · exact (hRI k v).imp id (fun w => ⟨by omega, w.2⟩)
        · exact Or.inl v
      · rw [List.mem_singleton.mp w]; exact Or.inr ⟨by omega, _, hpi, c33⟩
  · skip
    refine r_goto (tgt := 64) hX rfl dX0_addSure_36 ?_
    refine r_iinc (q := 1) (lv' := [(3, .int ((nI i) + 1)), (4, .ref p.1), (2, .ref pa.1), (0, .ref (z_b G + 11)), (1, .ref (z_b G + 1))]) hX rfl rfl (by decide) rfl dX0_addSure_64 ?_
    refine r_goto (tgt := 4) hX rfl dX0_addSure_67 ?_
    refine r_lv [0, 2, 3, 4] (lv2 := [(3, .int (nI i + 1)), (2, .ref pa.1), (0, .ref (z_b G + 11)), (1, .ref (z_b G + 1))]) rfl ?_
    rw [nI_1]
    exact ih h top be pu (some pa) rows RI J (Eq.symm (if_neg c33)) (fun p9 e => by cases e; exact ⟨ka, hka, hpa⟩) (by omega) (by omega) (fun k hk => (hRI k hk).imp id (fun w => ⟨by omega, w.2⟩))

set_option maxRecDepth 20000 in
set_option maxHeartbeats 4000000 in
theorem f_suNe {X : zX} {G : zG} {h : zH} {top : Nat} {Post : Option Value → zH → Nat → Prop} (s : zS) (be0 be : zB) (Q : List zQ) (hQ : Q.length ≤ 60) (i pu : Nat) (rows : List zQ) (RI : List Nat) (J : z_GI G s Q be0 be pu rows RI h top) (hge : Q.length ≤ i) (hi : i ≤ 60) (hp : Post none h top) (hX : z_ok X cX0_addSure 5 RX0 none "addSure" 10 G) (hq : z_mq X (Post)) : z_Z X h top 4 [(3, .int (nI i)), (2, .null), (0, .ref (z_b G + 11)), (1, .ref (z_b G + 1))] [] := by
  have H := J.1
  have hbk := H.bk
  have hl5 := H.l5
  rw [J.jlen] at hl5
  have hl51 := hl5.1
  refine r_iload_n hX rfl 0 rfl dX0_addSure_4 ?_
  refine r_aload_n hX rfl 2 rfl dX0_addSure_5 ?_
  refine r_getf hX fl_X0_18 hbk rfl dX0_addSure_6 ?_
  refine r_callVR (As := []) (rest := [.int (nI i)]) (rv := some (.int (nI Q.length))) (st1 := [.int (nI Q.length), .int (nI i)]) hX cs_X0_27 (by decide) (fun l => z_size hl5 l) hl51 rfl rfl rfl rfl (Nat.le_of_ble_eq_true rfl) dX0_addSure_9 ?_
  refine r_icmp_ge (tgt := 70) hX dX0_addSure_12 rfl (fun _ => ?_) (fun c => False.elim (c (nI_le hge (by omega))))
  exact r_vret hX hq hp dX0_addSure_70

set_option maxRecDepth 20000 in
set_option maxHeartbeats 4000000 in
theorem f_suSe {X : zX} {G : zG} {h : zH} {top : Nat} {Post : Option Value → zH → Nat → Prop} (s : zS) (be0 be : zB) (Q : List zQ) (hQ : Q.length ≤ 60) (i pu : Nat) (rows : List zQ) (RI : List Nat) (J : z_GI G s Q be0 be pu rows RI h top) (hge : Q.length ≤ i) (hi : i ≤ 60) (a : Nat) (hp : Post none h top) (hX : z_ok X cX0_addSure 5 RX0 none "addSure" 10 G) (hq : z_mq X (Post)) : z_Z X h top 4 [(3, .int (nI i)), (2, .ref a), (0, .ref (z_b G + 11)), (1, .ref (z_b G + 1))] [] := by
  have H := J.1
  have hbk := H.bk
  have hl5 := H.l5
  rw [J.jlen] at hl5
  have hl51 := hl5.1
  refine r_iload_n hX rfl 0 rfl dX0_addSure_4 ?_
  refine r_aload_n hX rfl 2 rfl dX0_addSure_5 ?_
  refine r_getf hX fl_X0_18 hbk rfl dX0_addSure_6 ?_
  refine r_callVR (As := []) (rest := [.int (nI i)]) (rv := some (.int (nI Q.length))) (st1 := [.int (nI Q.length), .int (nI i)]) hX cs_X0_27 (by decide) (fun l => z_size hl5 l) hl51 rfl rfl rfl rfl (Nat.le_of_ble_eq_true rfl) dX0_addSure_9 ?_
  refine r_icmp_ge (tgt := 70) hX dX0_addSure_12 rfl (fun _ => ?_) (fun c => False.elim (c (nI_le hge (by omega))))
  exact r_vret hX hq hp dX0_addSure_70

theorem f_sure {X : zX} {G : zG} {Post : Option Value → zH → Nat → Prop} (s : zS) (be0 : zB) (Q : List zQ) (hQ : Q.length ≤ 60) (hX : z_ok X cX0_addSure 5 RX0 none "addSure" 10 G) (hq : z_mq X Post) (hp : ∀ (h : zH) (top : Nat) (be : zB) (pu : Nat) (RI : List Nat), z_GI G s Q be0 be pu (zm_sure (s_segs s) Q).2 RI h top → (∀ k ∈ RI, Q.length ≤ k ∨ ∃ q : zQ, Q[k]? = some q ∧ q.2.2.2 = 0) → (zm_sure (s_segs s) Q).2.length ≤ 120 → Post none h top) : ∀ (k i : Nat) (h : zH) (top : Nat) (be : zB) (pu : Nat) (o : Option zPas) (rows : List zQ) (RI : List Nat), Q.length - i < k → i ≤ Q.length → z_GI G s Q be0 be pu rows RI h top → (o.map zm_q, rows) = (Q.take i).foldl (zm_sureStep (s_segs s)) (none, []) → (∀ p, o = some p → ∃ k, k < Q.length ∧ (b_pool be)[k]? = some p) → pu ≤ Q.length + i → rows.length ≤ 2 * i → (∀ k ∈ RI, Q.length ≤ k ∨ (k < i ∧ ∃ q : zQ, Q[k]? = some q ∧ q.2.2.2 = 0)) → z_Z X h top 4 [(3, .int (nI i)), (2, va_rf (o.map (fun x => x.1))), (0, .ref (z_b G + 11)), (1, .ref (z_b G + 1))] [] := by
  intro k
  induction k with
  | zero => intros; omega
  | succ k ih =>
    intro i h top be pu o rows RI hk hi J hfo ho hpu hrl hRI
    rcases Nat.lt_or_ge i Q.length with hlt | hge
    · have hqi := List.getElem?_eq_getElem hlt
      obtain ⟨p, hp1, hp2, hp3⟩ := J.at hqi
      rw [← hp2] at hqi
      have hnx : ∀ (h : zH) (top : Nat) (be : zB) (pu : Nat) (o2 : Option zPas) (rows2 : List zQ) (RI : List Nat), z_GI G s Q be0 be pu rows2 RI h top → (o2.map zm_q, rows2) = zm_sureStep (s_segs s) (o.map zm_q, rows) (zm_q p) → (∀ p, o2 = some p → ∃ k, k < Q.length ∧ (b_pool be)[k]? = some p) → pu ≤ Q.length + (i + 1) → rows2.length ≤ 2 * (i + 1) → (∀ k ∈ RI, Q.length ≤ k ∨ (k < i + 1 ∧ ∃ q : zQ, Q[k]? = some q ∧ q.2.2.2 = 0)) → z_Z X h top 4 [(3, .int (nI (i + 1))), (2, va_rf (o2.map (fun x => x.1))), (0, .ref (z_b G + 11)), (1, .ref (z_b G + 1))] [] := fun h9 t9 b9 pu9 o9 r9 R9 J9 e9 w1 w2 w3 w4 => ih (i + 1) h9 t9 b9 pu9 o9 r9 R9 (by omega) (by omega) J9 (by rw [zm_take _ _ _ hqi, ← hfo]; exact e9) w1 w2 w3 w4
      cases o with
      | none => exact f_suN s be0 be Q hQ i pu rows RI p J hqi hp1 hpu hrl hRI hnx hX hq
      | some pa =>
        obtain ⟨ka, hka, hpa⟩ := ho pa rfl
        exact f_suS s be0 be Q hQ i pu rows RI p J hqi hp1 hpu hrl hRI pa ka hka hpa hnx hX hq
    · rw [List.take_of_length_le hge] at hfo
      have he : rows = (zm_sure (s_segs s) Q).2 := congrArg Prod.snd hfo
      rw [he] at J hrl
      have hpp := hp h top be pu RI J (fun k hk => (hRI k hk).imp id (fun w => w.2)) (by omega)
      cases o with
      | none => exact f_suNe s be0 be Q hQ i pu _ RI J hge (by omega) hpp hX hq
      | some pa => exact f_suSe s be0 be Q hQ i pu _ RI J hge (by omega) pa.1 hpp hX hq
set_option maxRecDepth 20000 in
set_option maxHeartbeats 4000000 in
theorem c_X0_addSure (l : Launch) (G : zG) (h : zH) (top : Nat) (s : zS) (be0 be : zB) (Q : List zQ) (hQ : Q.length ≤ 60) (pu : Nat) (J : z_GI G s Q be0 be pu [] [] h top) (hpu : pu ≤ Q.length + 0) : z_Ct l yX0_addSure cX0_addSure 5 none 10 G [.ref (z_b G + 11), .ref (z_b G + 1)] h top (fun r h' top' => r = none ∧ ∃ (be2 : zB) (pu : Nat) (RI : List Nat), z_GI G s Q be0 be2 pu (zm_sure (s_segs s) Q).2 RI h' top' ∧ (∀ k ∈ RI, Q.length ≤ k ∨ ∃ q : zQ, Q[k]? = some q ∧ q.2.2.2 = 0) ∧ (zm_sure (s_segs s) Q).2.length ≤ 120) := by
  refine z_of (own := RX0) (nm := "addSure") (by decide) rfl rfl (by decide) (Nat.le_of_ble_eq_true rfl) (fun X hX hq => ?_)
  replace hX : z_ok X cX0_addSure 5 RX0 none "addSure" 10 G := hX
  show z_Z X h top 0 [(0, .ref (z_b G + 11)), (1, .ref (z_b G + 1))] []
  refine r_null hX dX0_addSure_0 ?_
  refine r_astore_nN (lv' := [(2, .null), (0, .ref (z_b G + 11)), (1, .ref (z_b G + 1))]) hX rfl (by decide) rfl dX0_addSure_1 ?_
  refine r_iconst (v := 0) hX (by decide) dX0_addSure_2 ?_
  refine r_istore_n (lv' := [(3, .int 0), (2, .null), (0, .ref (z_b G + 11)), (1, .ref (z_b G + 1))]) hX rfl (by decide) rfl dX0_addSure_3 ?_
  rw [← nI_0]
  refine r_lv [0, 1, 2, 3] (lv2 := [(3, .int (nI 0)), (2, .null), (0, .ref (z_b G + 11)), (1, .ref (z_b G + 1))]) rfl ?_
  exact f_sure s be0 Q hQ hX hq (fun h9 t9 b9 pu9 R9 J9 w1 w2 => ⟨rfl, b9, pu9, R9, J9, w1, w2⟩) (Q.length + 1) 0 h top be pu none [] [] (by omega) (by omega) J rfl (fun p9 e => by cases e) hpu (by simp) (fun k hk => by cases hk)

theorem zm_pig : ∀ (n : Nat) (l : List Nat), l.Nodup → (∀ x ∈ l, x < n) → l.length ≤ n := by
  intro n
  induction n with
  | zero =>
    intro l _ h
    cases l with
    | nil => exact Nat.le_refl _
    | cons x xs => exact absurd (h x List.mem_cons_self) (Nat.not_lt_zero _)
  | succ n ih =>
    intro l hn h
    by_cases q : n ∈ l
    · have h1 := ih (l.erase n) (hn.erase n) (fun x hx => by
        have w := (List.Nodup.mem_erase_iff hn).mp hx
        have := h x w.2
        omega)
      rw [List.length_erase_of_mem q] at h1
      omega
    · exact Nat.le_succ_of_le (ih l hn (fun x hx => by
        have := h x hx
        have : x ≠ n := fun z => q (z ▸ hx)
        omega))
theorem z_RW.le {be : zB} {pu : Nat} {rows : List zQ} {RI : List Nat} (J : z_RW be pu rows RI) : rows.length ≤ pu := by
  rw [← J.1]
  refine zm_pig pu RI J.2.2.1 (fun x hx => ?_)
  obtain ⟨n, hn⟩ := List.getElem?_of_mem hx
  exact (J.2.2.2 n x hn).1
theorem zm_dbt_take {Q : List zQ} {i : Nat} {q : zQ} (h : Q[i]? = some q) : zm_dbt (Q.take (i + 1)) = zm_dbt (Q.take i) ++ (if q.2.2.2 = 0 then [] else [q]) := by
  unfold zm_dbt
  rw [List.take_add_one, h, List.filter_append]
  congr 1
  by_cases c : q.2.2.2 = 0 <;> simp [c]
set_option maxRecDepth 20000 in
set_option maxHeartbeats 4000000 in
theorem f_dbS {X : zX} {G : zG} {h : zH} {top : Nat} {Post : Option Value → zH → Nat → Prop} (s : zS) (be0 be : zB) (Q : List zQ) (hQ : Q.length ≤ 60) (base : List zQ) (pu i : Nat) (RI : List Nat) (p : zPas) (J : z_GI G s Q be0 be pu (base ++ zm_dbt (Q.take i)) RI h top) (hpi : Q[i]? = some (zm_q p)) (hp1 : (b_pool be)[i]? = some p) (hRI : (∀ k ∈ RI, Q.length ≤ k ∨ k < i ∨ ∃ q : zQ, Q[k]? = some q ∧ q.2.2.2 = 0)) (ih : ∀ (h : zH) (top : Nat) (be : zB) (RI : List Nat), z_GI G s Q be0 be pu (base ++ zm_dbt (Q.take (i + 1))) RI h top → (∀ k ∈ RI, Q.length ≤ k ∨ k < i + 1 ∨ ∃ q : zQ, Q[k]? = some q ∧ q.2.2.2 = 0) → z_Z X h top 2 [(1, .int (nI (i + 1))), (0, .ref (z_b G + 11))] []) (hX : z_ok X cX0_addDoubtful 3 RX0 none "addDoubtful" 8 G) (hq : z_mq X (Post)) : z_Z X h top 2 [(1, .int (nI i)), (0, .ref (z_b G + 11))] [] := by
  have H := J.1
  have hbk := H.bk
  have hl5 := H.l5
  rw [J.jlen] at hl5
  have hl51 := hl5.1
  have hl6 := H.l6
  have hl61 := hl6.1
  have hlt : i < Q.length := (List.getElem?_eq_some_iff.mp hpi).1
  have hps := H.pas hp1
  have hgi : (b_jn be)[i]? = some p.1 := by
    obtain ⟨p9, w1, w2, w3⟩ := J.at hpi
    rw [hp1] at w1
    cases w1
    exact w3
  have hr120 : (base ++ zm_dbt (Q.take i)).length ≤ 120 := by
    have := J.2.2.2.1.le
    have := J.2.1.2.2
    have := H.2.2.1.2.2.2.2.2.2
    omega
  refine r_iload_n hX rfl 0 rfl dX0_addDoubtful_2 ?_
  refine r_aload_n hX rfl 1 rfl dX0_addDoubtful_3 ?_
  refine r_getf hX fl_X0_18 hbk rfl dX0_addDoubtful_4 ?_
  refine r_callVR (As := []) (rest := [.int (nI i)]) (rv := some (.int (nI Q.length))) (st1 := [.int (nI Q.length), .int (nI i)]) hX cs_X0_27 (by decide) (fun l => z_size hl5 l) hl51 rfl rfl rfl rfl (Nat.le_of_ble_eq_true rfl) dX0_addDoubtful_7 ?_
  refine r_icmp_ge (tgt := 47) hX dX0_addDoubtful_10 rfl (fun c => False.elim (absurd c (nI_ge hlt (by omega)))) (fun _ => ?_)
  refine r_aload_n hX rfl 1 rfl dX0_addDoubtful_13 ?_
  refine r_getf hX fl_X0_18 hbk rfl dX0_addDoubtful_14 ?_
  refine r_iload_n hX rfl 0 rfl dX0_addDoubtful_17 ?_
  refine r_callVR (As := [.int (nI i)]) (rest := []) (rv := some (.ref p.1)) (st1 := [.ref p.1]) hX cs_X0_55 (by decide) (fun l => z_get hl5 hlt hgi l) hl51 rfl rfl rfl rfl (Nat.le_of_ble_eq_true rfl) dX0_addDoubtful_18 ?_
  refine r_cast (ci := 3) hX rfl hps cl_X0_89 dX0_addDoubtful_21 ?_
  refine r_astore_n (lv' := [(2, .ref p.1), (1, .int (nI i)), (0, .ref (z_b G + 11))]) hX rfl (by decide) rfl dX0_addDoubtful_24 ?_
  refine r_aload_n hX rfl 0 rfl dX0_addDoubtful_25 ?_
  refine r_getf hX fl_X0_109 hps rfl dX0_addDoubtful_26 ?_
  refine r_if_eq (tgt := 41) hX dX0_addDoubtful_29 rfl (fun c29 => ?_) (fun c29 => ?_)
  · skip
    refine r_iinc (q := 1) (lv' := [(1, .int ((nI i) + 1)), (2, .ref p.1), (0, .ref (z_b G + 11))]) hX rfl rfl (by decide) rfl dX0_addDoubtful_41 ?_
    refine r_goto (tgt := 2) hX rfl dX0_addDoubtful_44 ?_
    refine r_lv [0, 2] (lv2 := [(1, .int (nI i + 1)), (0, .ref (z_b G + 11))]) rfl ?_
    rw [nI_1]
    exact ih h top be RI (by rw [zm_dbt_take hpi, if_pos (show (zm_q p).2.2.2 = 0 from c29), List.append_nil]; exact J) (fun k hk => (hRI k hk).imp id (fun w => w.imp (fun x => by omega) id))
  · skip
    refine r_aload_n hX rfl 2 rfl dX0_addDoubtful_32 ?_
    refine r_getf hX fl_X0_21 hbk rfl dX0_addDoubtful_33 ?_
    refine r_aload_n hX rfl 0 rfl dX0_addDoubtful_36 ?_
    refine r_callV (As := [.ref p.1]) (rest := []) hX cs_X0_95 (by decide) (fun l => J.add1 l hp1 hr120) hl61 rfl rfl rfl (Nat.le_of_ble_eq_true rfl) dX0_addDoubtful_37 (fun r2 h2 top2 hp2x => ?_)
    obtain ⟨rfl, be3, J3, hpl3⟩ := J.add hp1 (by have := J.2.1.2.1; omega) (fun z => by
      rcases hRI i z with v | v | ⟨q9, v1, v2⟩
      · omega
      · omega
      · rw [hpi] at v1; cases v1; exact c29 v2) hr120 hp2x
    refine r_pop hX rfl dX0_addDoubtful_40 ?_
    refine r_iinc (q := 1) (lv' := [(1, .int ((nI i) + 1)), (2, .ref p.1), (0, .ref (z_b G + 11))]) hX rfl rfl (by decide) rfl dX0_addDoubtful_41 ?_
    refine r_goto (tgt := 2) hX rfl dX0_addDoubtful_44 ?_
    refine r_lv [0, 2] (lv2 := [(1, .int (nI i + 1)), (0, .ref (z_b G + 11))]) rfl ?_
    rw [nI_1]
    refine ih h2 top2 be3 _ (by rw [zm_dbt_take hpi, if_neg (show ¬ (zm_q p).2.2.2 = 0 from c29), ← List.append_assoc]; exact J3) (fun k hk => ?_)
    rcases List.mem_append.mp hk with v | v
    · exact (hRI k v).imp id (fun w => w.imp (fun x => by omega) id)
    · rw [List.mem_singleton.mp v]; exact Or.inr (Or.inl (Nat.lt_succ_self i))

set_option maxRecDepth 20000 in
set_option maxHeartbeats 4000000 in
theorem f_dbE {X : zX} {G : zG} {h : zH} {top : Nat} {Post : Option Value → zH → Nat → Prop} (s : zS) (be0 be : zB) (Q : List zQ) (hQ : Q.length ≤ 60) (i pu : Nat) (rows : List zQ) (RI : List Nat) (J : z_GI G s Q be0 be pu rows RI h top) (hge : Q.length ≤ i) (hi : i ≤ 60) (hp : Post none h top) (hX : z_ok X cX0_addDoubtful 3 RX0 none "addDoubtful" 8 G) (hq : z_mq X (Post)) : z_Z X h top 2 [(1, .int (nI i)), (0, .ref (z_b G + 11))] [] := by
  have H := J.1
  have hbk := H.bk
  have hl5 := H.l5
  rw [J.jlen] at hl5
  have hl51 := hl5.1
  refine r_iload_n hX rfl 0 rfl dX0_addDoubtful_2 ?_
  refine r_aload_n hX rfl 1 rfl dX0_addDoubtful_3 ?_
  refine r_getf hX fl_X0_18 hbk rfl dX0_addDoubtful_4 ?_
  refine r_callVR (As := []) (rest := [.int (nI i)]) (rv := some (.int (nI Q.length))) (st1 := [.int (nI Q.length), .int (nI i)]) hX cs_X0_27 (by decide) (fun l => z_size hl5 l) hl51 rfl rfl rfl rfl (Nat.le_of_ble_eq_true rfl) dX0_addDoubtful_7 ?_
  refine r_icmp_ge (tgt := 47) hX dX0_addDoubtful_10 rfl (fun _ => ?_) (fun c => False.elim (c (nI_le hge (by omega))))
  exact r_vret hX hq hp dX0_addDoubtful_47

theorem f_db {X : zX} {G : zG} {Post : Option Value → zH → Nat → Prop} (s : zS) (be0 : zB) (Q : List zQ) (hQ : Q.length ≤ 60) (base : List zQ) (pu : Nat) (hX : z_ok X cX0_addDoubtful 3 RX0 none "addDoubtful" 8 G) (hq : z_mq X Post) (hp : ∀ (h : zH) (top : Nat) (be : zB) (RI : List Nat), z_GI G s Q be0 be pu (base ++ zm_dbt Q) RI h top → Post none h top) : ∀ (k i : Nat) (h : zH) (top : Nat) (be : zB) (RI : List Nat), Q.length - i < k → i ≤ Q.length → z_GI G s Q be0 be pu (base ++ zm_dbt (Q.take i)) RI h top → (∀ k ∈ RI, Q.length ≤ k ∨ k < i ∨ ∃ q : zQ, Q[k]? = some q ∧ q.2.2.2 = 0) → z_Z X h top 2 [(1, .int (nI i)), (0, .ref (z_b G + 11))] [] := by
  intro k
  induction k with
  | zero => intros; omega
  | succ k ih =>
    intro i h top be RI hk hi J hRI
    rcases Nat.lt_or_ge i Q.length with hlt | hge
    · have hqi := List.getElem?_eq_getElem hlt
      obtain ⟨p, hp1, hp2, hp3⟩ := J.at hqi
      rw [← hp2] at hqi
      exact f_dbS s be0 be Q hQ base pu i RI p J hqi hp1 hRI (fun h9 t9 b9 R9 J9 w => ih (i + 1) h9 t9 b9 R9 (by omega) (by omega) J9 w) hX hq
    · refine f_dbE s be0 be Q hQ i pu _ RI J hge (by omega) (hp h top be RI ?_) hX hq
      rw [List.take_of_length_le hge] at J
      exact J
set_option maxRecDepth 20000 in
set_option maxHeartbeats 4000000 in
theorem c_X0_addDoubtful (l : Launch) (G : zG) (h : zH) (top : Nat) (s : zS) (be0 be : zB) (Q : List zQ) (hQ : Q.length ≤ 60) (base : List zQ) (pu : Nat) (RI : List Nat) (J : z_GI G s Q be0 be pu base RI h top) (hRI : ∀ k ∈ RI, Q.length ≤ k ∨ ∃ q : zQ, Q[k]? = some q ∧ q.2.2.2 = 0) : z_Ct l yX0_addDoubtful cX0_addDoubtful 3 none 8 G [.ref (z_b G + 11)] h top (fun r h' top' => r = none ∧ ∃ (be2 : zB) (RI : List Nat), z_GI G s Q be0 be2 pu (base ++ zm_dbt Q) RI h' top') := by
  refine z_of (own := RX0) (nm := "addDoubtful") (by decide) rfl rfl (by decide) (Nat.le_of_ble_eq_true rfl) (fun X hX hq => ?_)
  replace hX : z_ok X cX0_addDoubtful 3 RX0 none "addDoubtful" 8 G := hX
  show z_Z X h top 0 [(0, .ref (z_b G + 11))] []
  refine r_iconst (v := 0) hX (by decide) dX0_addDoubtful_0 ?_
  refine r_istore_n (lv' := [(1, .int 0), (0, .ref (z_b G + 11))]) hX rfl (by decide) rfl dX0_addDoubtful_1 ?_
  rw [← nI_0]
  refine r_lv [0, 1] (lv2 := [(1, .int (nI 0)), (0, .ref (z_b G + 11))]) rfl ?_
  exact f_db s be0 Q hQ base pu hX hq (fun h9 t9 b9 R9 J9 => ⟨rfl, b9, R9, J9⟩) (Q.length + 1) 0 h top be RI (by omega) (by omega) (by rw [show base ++ zm_dbt (Q.take 0) = base from List.append_nil _]; exact J) (fun k hk => (hRI k hk).imp id (fun w => Or.inr w))

theorem zm_join_len : ∀ (pk : List zSgt), (zm_join pk).length ≤ pk.length := by
  have key : ∀ (pk : List zSgt) (Q : List zQ), (pk.foldl zm_joinStep Q).length ≤ Q.length + pk.length := by
    intro pk
    induction pk with
    | nil => intro Q; exact Nat.le_refl _
    | cons y ys ih =>
      intro Q
      have h1 := ih (zm_joinStep Q y)
      have h2 := zm_joinStep_len Q y
      rw [List.foldl_cons, List.length_cons]
      omega
  intro pk
  have := key pk []
  rw [List.length_nil, Nat.zero_add] at this
  exact this
theorem zm_pick_len (segs : List zSeg) (sgts : List zSgt) (va : Nat) (day : Int32) : (zm_pick segs sgts va day).length ≤ sgts.length ∧ ∀ z ∈ zm_pick segs sgts va day, z ∈ sgts := by
  have key : ∀ (l acc : List zSgt), (l.foldl (zm_pickStep segs va day) acc).length ≤ acc.length + l.length ∧ ∀ z ∈ l.foldl (zm_pickStep segs va day) acc, z ∈ acc ∨ z ∈ l := by
    intro l
    induction l with
    | nil => intro acc; exact ⟨Nat.le_refl _, fun z hz => Or.inl hz⟩
    | cons y ys ih =>
      intro acc
      obtain ⟨h1, h2⟩ := ih (zm_pickStep segs va day acc y)
      have h3 := zm_step_len segs va day acc y
      rw [List.foldl_cons, List.length_cons]
      refine ⟨by omega, fun z hz => ?_⟩
      rcases h2 z hz with w | w
      · rcases zm_step_mem w with v | v
        · exact Or.inr (v ▸ List.mem_cons_self)
        · exact Or.inl v
      · exact Or.inr (List.mem_cons_of_mem _ w)
  obtain ⟨h1, h2⟩ := key sgts []
  refine ⟨by rw [List.length_nil, Nat.zero_add] at h1; exact h1, fun z hz => (h2 z hz).elim (fun w => by cases w) id⟩
/-- the passages of a vehicle on a day -/
def zm_Q (s : zS) (va : Nat) (day : Int32) : List zQ := zm_join (zm_pick (s_segs s) (s_sgts s) va day)
def zm_day (s : zS) (va : Nat) (day : Int32) : List zQ := zm_gath (s_segs s) (zm_Q s va day)
def zm_cert (s : zS) (va : Nat) (day : Int32) : Nat := (zm_sure (s_segs s) (zm_Q s va day)).2.length
/-- the book holds the rows -/
def z_DK (G : zG) (s : zS) (rch : Nat → Int32) (ct : Int32) (be : zB) (rows : List zQ) (RI : List Nat) (h : zH) (top : Nat) : Prop := z_St G s be h top ∧ (∃ pu, z_RW be pu rows RI) ∧ b_rch be = rch ∧ b_ct be = ct
def z_PGath (G : zG) (s : zS) (be : zB) (va : Nat) (day : Int32) : Option Value → zH → Nat → Prop := fun r h' top' => r = none ∧ ∃ (be2 : zB) (RI : List Nat), z_DK G s (b_rch be) (nI (zm_cert s va day)) be2 (zm_day s va day) RI h' top'
set_option maxRecDepth 20000 in
set_option maxHeartbeats 4000000 in
theorem c_X0_gather (l : Launch) (G : zG) (h : zH) (top : Nat) (s : zS) (be : zB) (va : Nat) (day : Int32) (H : z_St G s be h top) : z_Ct l yX0_gather cX0_gather 5 none 11 G [.ref (z_b G + 11), .ref (z_b G + 3), .ref (z_b G + 1), .ref va, .int day] h top (z_PGath G s be va day) := by
  refine z_of (own := RX0) (nm := "gather") (by decide) rfl rfl (by decide) (Nat.le_of_ble_eq_true rfl) (fun X hX hq => ?_)
  replace hX : z_ok X cX0_gather 5 RX0 none "gather" 11 G := hX
  show z_Z X h top 0 [(0, .ref (z_b G + 11)), (1, .ref (z_b G + 3)), (2, .ref (z_b G + 1)), (3, .ref va), (4, .int day)] []
  have hbk := H.bk
  refine r_aload_n hX rfl 0 rfl dX0_gather_0 ?_
  refine r_iconst (v := 0) hX (by decide) dX0_gather_1 ?_
  refine r_put (fs2 := [.ref (z_b G + 12), .ref (z_b G + 13), .ref (z_b G + 14), .ref (z_b G + 15), .int 0, .int (b_ct be)]) hX fp_X0_31 hbk rfl rfl (Nat.le_of_ble_eq_true rfl) rfl dX0_gather_2 ?_
  replace hbk : z_at G (va_up h (z_b G + 11) (.inr (1, [.ref (z_b G + 12), .ref (z_b G + 13), .ref (z_b G + 14), .ref (z_b G + 15), .int 0, .int (b_ct be)]))) top (z_b G + 11) (.inr (1, [.ref (z_b G + 12), .ref (z_b G + 13), .ref (z_b G + 14), .ref (z_b G + 15), .int 0, .int (b_ct be)])) := z_at.self hbk
  have H0 := H.setBk (nI 0) (b_ct be)
  refine r_aload_n hX rfl 0 rfl dX0_gather_5 ?_
  refine r_aload_n hX rfl 1 rfl dX0_gather_6 ?_
  refine r_aload_n hX rfl 3 rfl dX0_gather_7 ?_
  refine r_iload hX 4 rfl dX0_gather_8 ?_
  refine r_callV (As := [.ref (z_b G + 3), .ref va, .int day]) (rest := []) hX cs_X0_35 (by decide) (fun l => c_X0_pick l G (va_up h (z_b G + 11) (.inr (1, [.ref (z_b G + 12), .ref (z_b G + 13), .ref (z_b G + 14), .ref (z_b G + 15), .int 0, .int (b_ct be)]))) top s _ va day H0) hbk rfl rfl rfl (Nat.le_of_ble_eq_true rfl) dX0_gather_10 (fun r1 h1 top1 hp1 => ?_)
  obtain ⟨rfl, be1, H1, hpk1, els1, l1, hb1⟩ := hp1
  have hpu1 : b_pu be1 = nI 0 := by rw [hb1]; rfl
  have hbk1 := H1.bk
  obtain ⟨hpl, hpm⟩ := zm_pick_len (s_segs s) (s_sgts s) va day
  have hs60 := H1.2.2.1.2.2.2.2.2.1
  refine r_aload_n hX rfl 0 rfl dX0_gather_13 ?_
  refine r_callV (As := []) (rest := []) hX cs_X0_39 (by decide) (fun l => c_X0_joinPicked l G h1 top1 s be1 _ H1 hpu1 hpk1 hpm (by omega)) hbk1 rfl rfl rfl (Nat.le_of_ble_eq_true rfl) dX0_gather_14 (fun r2 h2 top2 hp2 => ?_)
  obtain ⟨rfl, be2, J2⟩ := hp2
  have hbk2 := J2.1.bk
  have hl62 := J2.1.l6
  have hl621 := hl62.1
  refine r_aload_n hX rfl 0 rfl dX0_gather_17 ?_
  refine r_getf hX fl_X0_21 hbk2 rfl dX0_gather_18 ?_
  refine r_callV (As := []) (rest := []) hX cs_X0_42 (by decide) (fun l => c_Jx4a65c_clear_da8c8 l G h2 top2 (z_b G + 14) (b_ls be2 6).2.1 (b_rw be2).length (b_ls be2 6).2.2 (b_ls be2 6).1 (fun q : Nat => (b_rw be2)[q]?) hl62 (by have := J2.1.2.2.2.2; omega)) hl621 rfl rfl rfl (Nat.le_of_ble_eq_true rfl) dX0_gather_21 (fun r3 h3 top3 hp3 => ?_)
  obtain ⟨rfl, rfl, m6, f6, hA6, hf6⟩ := hp3
  obtain ⟨l6, H3⟩ := J2.1.clrB 6 (Or.inr (Or.inr rfl)) hA6 hf6
  have hQ60 : (zm_Q s va day).length ≤ 60 := by have := zm_join_len (zm_pick (s_segs s) (s_sgts s) va day); show (zm_join _).length ≤ 60; omega
  have J3 : z_GI G s (zm_Q s va day) (z_setL be2 6 [] l6) (z_setL be2 6 [] l6) (zm_Q s va day).length [] [] h3 top3 := ⟨H3, ⟨J2.2.1, Nat.le_refl _, J2.len⟩, ⟨J2.2.2.1, J2.2.2.2.1⟩, ⟨rfl, rfl, List.nodup_nil, fun n k hk => by cases hk⟩, rfl, rfl⟩
  have hrch3 : b_rch (z_setL be2 6 [] l6) = b_rch be := J2.2.2.2.2.2.2.1.trans (by rw [hb1]; rfl)
  have hbk3 := J3.1.bk
  refine r_aload_n hX rfl 0 rfl dX0_gather_24 ?_
  refine r_aload_n hX rfl 2 rfl dX0_gather_25 ?_
  refine r_callV (As := [.ref (z_b G + 1)]) (rest := []) hX cs_X0_45 (by decide) (fun l => c_X0_addSure l G h3 top3 s _ _ (zm_Q s va day) hQ60 _ J3 (Nat.le_refl _)) hbk3 rfl rfl rfl (Nat.le_of_ble_eq_true rfl) dX0_gather_26 (fun r4 h4 top4 hp4 => ?_)
  obtain ⟨rfl, be4, pu4, RI4, J4, hRI4, hle4⟩ := hp4
  have hbk4 := J4.1.bk
  have hl64 := J4.1.l6
  rw [J4.2.2.2.1.2.1] at hl64
  have hl641 := hl64.1
  refine r_aload_n hX rfl 0 rfl dX0_gather_29 ?_
  refine r_aload_n hX rfl 0 rfl dX0_gather_30 ?_
  refine r_getf hX fl_X0_21 hbk4 rfl dX0_gather_31 ?_
  refine r_callVR (As := []) (rest := [.ref (z_b G + 11)]) (rv := some (.int (nI (zm_sure (s_segs s) (zm_Q s va day)).2.length))) (st1 := [.int (nI (zm_sure (s_segs s) (zm_Q s va day)).2.length), .ref (z_b G + 11)]) hX cs_X0_27 (by decide) (fun l => z_size hl64 l) hl641 rfl rfl rfl rfl (Nat.le_of_ble_eq_true rfl) dX0_gather_34 ?_
  refine r_put (fs2 := [.ref (z_b G + 12), .ref (z_b G + 13), .ref (z_b G + 14), .ref (z_b G + 15), .int (b_pu be4), .int (nI (zm_sure (s_segs s) (zm_Q s va day)).2.length)]) hX fp_X0_49 hbk4 rfl rfl (Nat.le_of_ble_eq_true rfl) rfl dX0_gather_37 ?_
  replace hl641 := hl641.up (e3 := (.inr (1, [.ref (z_b G + 12), .ref (z_b G + 13), .ref (z_b G + 14), .ref (z_b G + 15), .int (b_pu be4), .int (nI (zm_sure (s_segs s) (zm_Q s va day)).2.length)]))) hbk4 (by intro z; cases z)
  replace hbk4 : z_at G (va_up h4 (z_b G + 11) (.inr (1, [.ref (z_b G + 12), .ref (z_b G + 13), .ref (z_b G + 14), .ref (z_b G + 15), .int (b_pu be4), .int (nI (zm_sure (s_segs s) (zm_Q s va day)).2.length)]))) top4 (z_b G + 11) (.inr (1, [.ref (z_b G + 12), .ref (z_b G + 13), .ref (z_b G + 14), .ref (z_b G + 15), .int (b_pu be4), .int (nI (zm_sure (s_segs s) (zm_Q s va day)).2.length)])) := z_at.self hbk4
  refine r_aload_n hX rfl 0 rfl dX0_gather_40 ?_
  have H5 := J4.1.setBk (b_pu be4) (nI (zm_sure (s_segs s) (zm_Q s va day)).2.length)
  have J5 : z_GI G s (zm_Q s va day) (z_setBk be4 (b_pu be4) (nI (zm_sure (s_segs s) (zm_Q s va day)).2.length)) (z_setBk be4 (b_pu be4) (nI (zm_sure (s_segs s) (zm_Q s va day)).2.length)) pu4 (zm_sure (s_segs s) (zm_Q s va day)).2 RI4 _ _ := ⟨H5, J4.2.1, J4.2.2.1, J4.2.2.2.1, rfl, rfl⟩
  refine r_callV (As := []) (rest := []) hX cs_X0_52 (by decide) (fun l => c_X0_addDoubtful l G _ _ s _ _ (zm_Q s va day) hQ60 _ pu4 RI4 J5 hRI4) hbk4 rfl rfl rfl (Nat.le_of_ble_eq_true rfl) dX0_gather_41 (fun r6 h6 top6 hp6 => ?_)
  obtain ⟨rfl, be6, RI6, J6⟩ := hp6
  exact r_vret hX hq ⟨rfl, be6, RI6, J6.1, ⟨pu4, J6.2.2.2.1⟩, (J6.2.2.2.2.1.trans J4.2.2.2.2.1).trans hrch3, J6.2.2.2.2.2⟩ dX0_gather_44
end
section
/-! charging -/
def zm_reason (ex : Bool) (doubt price left : Int32) : Int32 := if doubt = 0 then (if ex = true then 2 else (if price ≤ left then 0 else 4)) else 1
def zm_due (reason price left : Int32) : Int32 := if reason = 0 then price else if reason = 4 then left else 0
def zm_qprice (s : zS) (v : zVeh) (rank : Int32) (q : zQ) : Int32 := zm_price (s_tars s) (zm_sg (s_segs s) q.1).2.2.2.2 (zm_sg (s_segs s) q.1).2.2.2.1 rank v.2.1.2.1 q.2.1
def zm_qreason (s : zS) (v : zVeh) (rank left : Int32) (q : zQ) : Int32 := zm_reason (zf_hasBit v.2.2.2.1 (zm_sg (s_segs s) q.1).2.2.2.2) q.2.2.2 (zm_qprice s v rank q) left
def zm_qdue (s : zS) (v : zVeh) (rank left : Int32) (q : zQ) : Int32 := zm_due (zm_qreason s v rank left q) (zm_qprice s v rank q) left
def zm_chStep (s : zS) (v : zVeh) (rank cap : Int32) (acc : Int32 × List (Int32 × Int32)) (q : zQ) : Int32 × List (Int32 × Int32) := (acc.1 + zm_qdue s v rank (cap - acc.1) q, acc.2 ++ [(zm_qreason s v rank (cap - acc.1) q, zm_qdue s v rank (cap - acc.1) q)])
def zm_charge (s : zS) (v : zVeh) (rank cap : Int32) (rows : List zQ) : Int32 × List (Int32 × Int32) := rows.foldl (zm_chStep s v rank cap) (0, [])
theorem zm_nd {l : List Nat} (h : l.Nodup) {i j x : Nat} (hi : l[i]? = some x) (hj : l[j]? = some x) : i = j := by
  obtain ⟨i1, i2⟩ := List.getElem?_eq_some_iff.mp hi
  obtain ⟨j1, j2⟩ := List.getElem?_eq_some_iff.mp hj
  have hp := List.pairwise_iff_getElem.mp h
  rcases Nat.lt_trichotomy i j with w | w | w
  · exact absurd (i2.trans j2.symm) (hp i j i1 j1 w)
  · exact w
  · exact absurd (j2.trans i2.symm) (hp j i j1 i1 w)
theorem z_Ct_as {l : Launch} {y : MethodName} {cc : ByteArray} {n : Nat} {r : Option FieldType} {d : Nat} {G : zG} {As As2 : List Value} {h : zH} {top : Nat} {P : Option Value → zH → Nat → Prop} (e : As = As2) (H : z_Ct l y cc n r d G As h top P) : z_Ct l y cc n r d G As2 h top P := e ▸ H
/-- reasons and dues stand in the rows -/
def z_CH (be : zB) (RI : List Nat) (vals : List (Int32 × Int32)) : Prop := ∀ (n k : Nat) (v : Int32 × Int32), RI[n]? = some k → vals[n]? = some v → ∃ p : zPas, (b_pool be)[k]? = some p ∧ p.2.2.2.2.2 = v
def z_DC (G : zG) (s : zS) (rch : Nat → Int32) (ct : Int32) (be : zB) (rows : List zQ) (RI : List Nat) (vals : List (Int32 × Int32)) (h : zH) (top : Nat) : Prop := z_DK G s rch ct be rows RI h top ∧ z_CH be RI vals
theorem z_DK.at {G : zG} {s : zS} {rch : Nat → Int32} {ct : Int32} {be : zB} {rows : List zQ} {RI : List Nat} {h : zH} {top : Nat} (J : z_DK G s rch ct be rows RI h top) {n : Nat} {q : zQ} (hq : rows[n]? = some q) : ∃ (k : Nat) (p : zPas), RI[n]? = some k ∧ (b_pool be)[k]? = some p ∧ zm_q p = q ∧ (b_rw be)[n]? = some p.1 := by
  obtain ⟨H, ⟨pu, h1, h2, h3, h4⟩, _⟩ := J
  have hn : n < RI.length := by rw [h1]; exact (List.getElem?_eq_some_iff.mp hq).1
  have e := List.getElem?_eq_getElem hn
  obtain ⟨_, p, g1, g2, g3⟩ := h4 n _ e
  rw [hq] at g2
  exact ⟨_, p, e, g1, (Option.some.inj g2).symm, g3⟩
theorem z_DK.len {G : zG} {s : zS} {rch : Nat → Int32} {ct : Int32} {be : zB} {rows : List zQ} {RI : List Nat} {h : zH} {top : Nat} (J : z_DK G s rch ct be rows RI h top) : (b_rw be).length = rows.length ∧ rows.length ≤ 225 := by
  obtain ⟨H, ⟨pu, h1, h2, h3, h4⟩, _⟩ := J
  have := H.l6.2.1
  have := H.l6.2.2.1
  exact ⟨h2, by omega⟩
/-- one row is charged -/
theorem z_DC.set {G : zG} {s : zS} {rch : Nat → Int32} {ct : Int32} {be : zB} {rows : List zQ} {RI : List Nat} {vals : List (Int32 × Int32)} {h : zH} {top : Nat} (J : z_DC G s rch ct be rows RI vals h top) {k : Nat} {p : zPas} (hk : RI[vals.length]? = some k) (hp : (b_pool be)[k]? = some p) (r d : Int32) : z_DC G s rch ct (z_setPool be ((b_pool be).set k (p.1, p.2.1, p.2.2.1, p.2.2.2.1, p.2.2.2.2.1, r, d))) rows RI (vals ++ [(r, d)]) (va_up h p.1 (.inr (3, [.ref p.2.1, .int p.2.2.1, .int p.2.2.2.1, .int p.2.2.2.2.1, .int r, .int d]))) top := by
  obtain ⟨⟨H, ⟨pu, h1, h2, h3, h4⟩, h5, h6⟩, hC⟩ := J
  have hkl : k < (b_pool be).length := (List.getElem?_eq_some_iff.mp hp).1
  refine ⟨⟨H.setPas (p2 := (p.1, p.2.1, p.2.2.1, p.2.2.2.1, p.2.2.2.2.1, r, d)) hp rfl (H.2.2.2.1.2 p (List.mem_of_getElem? hp)), ⟨pu, h1, h2, h3, fun n m hm => ?_⟩, h5, h6⟩, fun n m v hm hv => ?_⟩
  · obtain ⟨g1, p9, g2, g3, g4⟩ := h4 n m hm
    refine ⟨g1, ?_⟩
    by_cases e : k = m
    · subst e
      rw [hp] at g2
      cases g2
      exact ⟨_, List.getElem?_set_self hkl, g3, g4⟩
    · exact ⟨p9, by show ((b_pool be).set k _)[m]? = _; rw [List.getElem?_set_ne e]; exact g2, g3, g4⟩
  · rcases Nat.lt_or_ge n vals.length with w | w
    · rw [List.getElem?_append_left w] at hv
      obtain ⟨p9, g1, g2⟩ := hC n m v hm hv
      refine ⟨p9, ?_, g2⟩
      show ((b_pool be).set k _)[m]? = _
      rw [List.getElem?_set_ne ?_]
      · exact g1
      · intro e
        subst e
        have hn : n < RI.length := (List.getElem?_eq_some_iff.mp hm).1
        have := zm_nd h3 hm hk
        omega
    · rw [List.getElem?_append_right w] at hv
      have h0 : n - vals.length = 0 := by
        have := (List.getElem?_eq_some_iff.mp hv).1
        simp only [List.length_singleton] at this
        omega
      rw [h0] at hv
      cases hv
      have e : n = vals.length := by omega
      subst e
      rw [hk] at hm
      cases hm
      exact ⟨_, List.getElem?_set_self hkl, rfl⟩
set_option maxRecDepth 20000 in
set_option maxHeartbeats 4000000 in
theorem c_X0_dueFor (l : Launch) (G : zG) (h : zH) (top : Nat) (r price left : Int32) : z_Ct l yX0_dueFor cX0_dueFor 3 (some .int) 1 G [.int r, .int price, .int left] h top (z_R (some (.int (zm_due r price left))) h top) := by
  refine z_of (own := RX0) (nm := "dueFor") (by decide) rfl rfl (by decide) (Nat.le_of_ble_eq_true rfl) (fun X hX hq => ?_)
  replace hX : z_ok X cX0_dueFor 3 RX0 (some .int) "dueFor" 1 G := hX
  show z_Z X h top 0 [(0, .int r), (1, .int price), (2, .int left)] []
  refine r_iload_n hX rfl 0 rfl dX0_dueFor_0 ?_
  refine r_if_ne (tgt := 6) hX dX0_dueFor_1 rfl (fun c1 => ?_) (fun c1 => ?_)
  · skip
    refine r_iload_n hX rfl 0 rfl dX0_dueFor_6 ?_
    refine r_iconst (v := 4) hX (by decide) dX0_dueFor_7 ?_
    refine r_icmp_ne (tgt := 15) hX dX0_dueFor_8 rfl (fun c8 => ?_) (fun c8 => ?_)
    · skip
      refine r_iconst (v := 0) hX (by decide) dX0_dueFor_15 ?_
      exact r_iret hX hq ⟨by simp [zm_due, c1, c8], rfl, rfl⟩ dX0_dueFor_16
    · skip
      refine r_iload_n hX rfl 2 rfl dX0_dueFor_11 ?_
      refine r_goto (tgt := 16) hX rfl dX0_dueFor_12 ?_
      exact r_iret hX hq ⟨by simp [zm_due, c1, c8], rfl, rfl⟩ dX0_dueFor_16
  · skip
    refine r_iload_n hX rfl 1 rfl dX0_dueFor_4 ?_
    exact r_iret hX hq ⟨by rw [zm_due, if_pos (by first | exact c1 | exact Decidable.not_not.mp c1)], rfl, rfl⟩ dX0_dueFor_5

set_option maxRecDepth 20000 in
set_option maxHeartbeats 4000000 in
theorem c_X0_reasonOf (l : Launch) (G : zG) (h : zH) (top : Nat) (p : zPas) (hp : z_at G h top p.1 (z_pasC p)) (v : zVeh) (iv : Nat) (hv : z_at G h top v.1 (z_vehC iv v)) (x : zSeg) (ix : Nat) (hx : z_at G h top x.1 (z_segC ix x)) (e : x.1 = p.2.1) (price left : Int32) : z_Ct l yX0_reasonOf cX0_reasonOf 4 (some .int) 3 G [.ref p.1, .ref v.1, .int price, .int left] h top (z_R (some (.int (zm_reason (zf_hasBit v.2.2.2.1 x.2.2.2.2) p.2.2.2.2.1 price left))) h top) := by
  refine z_of (own := RX0) (nm := "reasonOf") (by decide) rfl rfl (by decide) (Nat.le_of_ble_eq_true rfl) (fun X hX hq => ?_)
  replace hX : z_ok X cX0_reasonOf 4 RX0 (some .int) "reasonOf" 3 G := hX
  show z_Z X h top 0 [(0, .ref p.1), (1, .ref v.1), (2, .int price), (3, .int left)] []
  have hx2 := hx
  rw [e] at hx2
  refine r_aload_n hX rfl 0 rfl dX0_reasonOf_0 ?_
  refine r_getf hX fl_X0_109 hp rfl dX0_reasonOf_1 ?_
  refine r_if_eq (tgt := 9) hX dX0_reasonOf_4 rfl (fun c4 => ?_) (fun c4 => ?_)
  · skip
    refine r_aload_n hX rfl 1 rfl dX0_reasonOf_9 ?_
    refine r_aload_n hX rfl 0 rfl dX0_reasonOf_10 ?_
    refine r_getf hX fl_X0_102 hp rfl dX0_reasonOf_11 ?_
    refine r_getf hX fl_X0_154 hx2 rfl dX0_reasonOf_14 ?_
    refine r_callVR (As := [.int x.2.2.2.2]) (rest := []) (rv := some (.int (zf_b (zf_hasBit v.2.2.2.1 x.2.2.2.2)))) (st1 := [.int (zf_b (zf_hasBit v.2.2.2.1 x.2.2.2.2))]) hX cs_X0_157 (by decide) (fun l => c_X7_isExempt l G h top v iv hv x.2.2.2.2) hv rfl rfl rfl rfl (Nat.le_of_ble_eq_true rfl) dX0_reasonOf_17 ?_
    refine r_if_eq (tgt := 25) hX dX0_reasonOf_20 rfl (fun c20 => ?_) (fun c20 => ?_)
    · skip
      refine r_aload_n hX rfl 0 rfl dX0_reasonOf_25 ?_
      refine r_getf hX fl_X0_102 hp rfl dX0_reasonOf_26 ?_
      refine r_aload_n hX rfl 0 rfl dX0_reasonOf_29 ?_
      refine r_getf hX fl_X0_88 hp rfl dX0_reasonOf_30 ?_
      refine r_callVR (As := [.int p.2.2.1]) (rest := []) (rv := some (.int 0)) (st1 := [.int 0]) hX cs_X0_161 (by decide) (fun l => z_Ct_as (by rw [e]) (c_X3_isShut l G h top x ix hx p.2.2.1)) hx2 rfl rfl rfl rfl (Nat.le_of_ble_eq_true rfl) dX0_reasonOf_33 ?_
      refine r_if_eq (tgt := 41) hX dX0_reasonOf_36 rfl (fun _ => ?_) (fun c => False.elim (absurd c (by decide)))
      refine r_iload_n hX rfl 2 rfl dX0_reasonOf_41 ?_
      refine r_iload_n hX rfl 3 rfl dX0_reasonOf_42 ?_
      refine r_icmp_le (tgt := 50) hX dX0_reasonOf_43 rfl (fun c43 => ?_) (fun c43 => ?_)
      · skip
        refine r_iconst (v := 0) hX (by decide) dX0_reasonOf_50 ?_
        exact r_iret hX hq ⟨by rw [zm_reason, if_pos c4, if_neg (by rw [zf_b_e c20]; decide), if_pos c43], rfl, rfl⟩ dX0_reasonOf_51
      · skip
        refine r_iconst (v := 4) hX (by decide) dX0_reasonOf_46 ?_
        refine r_goto (tgt := 51) hX rfl dX0_reasonOf_47 ?_
        exact r_iret hX hq ⟨by rw [zm_reason, if_pos c4, if_neg (by rw [zf_b_e c20]; decide), if_neg c43], rfl, rfl⟩ dX0_reasonOf_51
    · skip
      refine r_iconst (v := 2) hX (by decide) dX0_reasonOf_23 ?_
      exact r_iret hX hq ⟨by rw [zm_reason, if_pos c4, if_pos (zf_b_ne c20)], rfl, rfl⟩ dX0_reasonOf_24
  · skip
    refine r_iconst (v := 1) hX (by decide) dX0_reasonOf_7 ?_
    exact r_iret hX hq ⟨by rw [zm_reason, if_neg c4], rfl, rfl⟩ dX0_reasonOf_8

set_option maxRecDepth 20000 in
set_option maxHeartbeats 4000000 in
theorem c_X0_size (l : Launch) (G : zG) (h : zH) (top : Nat) (s : zS) (be : zB) (H : z_St G s be h top) : z_Ct l yX0_size cX0_size 1 (some .int) 2 G [.ref (z_b G + 11)] h top (z_R (some (.int (nI (b_rw be).length))) h top) := by
  refine z_of (own := RX0) (nm := "size") (by decide) rfl rfl (by decide) (Nat.le_of_ble_eq_true rfl) (fun X hX hq => ?_)
  replace hX : z_ok X cX0_size 1 RX0 (some .int) "size" 2 G := hX
  show z_Z X h top 0 [(0, .ref (z_b G + 11))] []
  have hbk := H.bk
  have hl6 := H.l6
  have hl61 := hl6.1
  refine r_aload_n hX rfl 0 rfl dX0_size_0 ?_
  refine r_getf hX fl_X0_21 hbk rfl dX0_size_1 ?_
  refine r_callVR (As := []) (rest := []) (rv := some (.int (nI (b_rw be).length))) (st1 := [.int (nI (b_rw be).length)]) hX cs_X0_27 (by decide) (fun l => z_size hl6 l) hl61 rfl rfl rfl rfl (Nat.le_of_ble_eq_true rfl) dX0_size_4 ?_
  exact r_iret hX hq ⟨rfl, rfl, rfl⟩ dX0_size_7

set_option maxRecDepth 20000 in
set_option maxHeartbeats 4000000 in
theorem f_chS {X : zX} {G : zG} {h : zH} {top : Nat} {Post : Option Value → zH → Nat → Prop} (s : zS) (rch : Nat → Int32) (ct : Int32) (v : zVeh) (iv : Nat) (hviv : (s_vehs s)[iv]? = some v) (rank cap : Int32) (rows : List zQ) (RI : List Nat) (be : zB) (i k : Nat) (vals : Int32 × List (Int32 × Int32)) (p : zPas) (J : z_DC G s rch ct be rows RI vals.2 h top) (hqi : rows[i]? = some (zm_q p)) (hRI : RI[i]? = some k) (hp1 : (b_pool be)[k]? = some p) (hrw : (b_rw be)[i]? = some p.1) (hvl : vals.2.length = i) (ih : ∀ (h : zH) (be : zB), z_DC G s rch ct be rows RI (vals.2 ++ [((zm_qreason s v rank (cap - vals.1) (zm_q p)), (zm_qdue s v rank (cap - vals.1) (zm_q p)))]) h top → z_Z X h top 6 [(6, .int (nI (i + 1))), (5, .int (vals.1 + (zm_qdue s v rank (cap - vals.1) (zm_q p)))), (0, .ref (z_b G + 11)), (1, .ref v.1), (2, .int rank), (3, .int cap), (4, .ref (z_b G + 4))] []) (hX : z_ok X cX0_charge 9 RX0 (some .int) "charge" 6 G) (hq : z_mq X (Post)) : z_Z X h top 6 [(6, .int (nI i)), (5, .int vals.1), (0, .ref (z_b G + 11)), (1, .ref v.1), (2, .int rank), (3, .int cap), (4, .ref (z_b G + 4))] [] := by
  have H := J.1.1
  have hbk := H.bk
  have hl6 := H.l6
  rw [J.1.len.1] at hl6
  have hl61 := hl6.1
  have htf := H.tfs
  have hv := H.veh hviv
  have h225 := J.1.len.2
  have hlt : i < rows.length := (List.getElem?_eq_some_iff.mp hqi).1
  have hps := H.pas hp1
  obtain ⟨hx1, hx2⟩ := zm_sg_at (H.2.2.2.1.2 p (List.mem_of_getElem? hp1))
  have hxs := H.seg hx1
  refine r_iload hX 0 rfl dX0_charge_6 ?_
  refine r_aload_n hX rfl 2 rfl dX0_charge_8 ?_
  refine r_getf hX fl_X0_21 hbk rfl dX0_charge_9 ?_
  refine r_callVR (As := []) (rest := [.int (nI i)]) (rv := some (.int (nI rows.length))) (st1 := [.int (nI rows.length), .int (nI i)]) hX cs_X0_27 (by decide) (fun l => z_size hl6 l) hl61 rfl rfl rfl rfl (Nat.le_of_ble_eq_true rfl) dX0_charge_12 ?_
  refine r_icmp_ge (tgt := 106) hX dX0_charge_15 rfl (fun c => False.elim (absurd c (nI_ge hlt (by omega)))) (fun _ => ?_)
  refine r_aload_n hX rfl 2 rfl dX0_charge_18 ?_
  refine r_getf hX fl_X0_21 hbk rfl dX0_charge_19 ?_
  refine r_iload hX 0 rfl dX0_charge_22 ?_
  refine r_callVR (As := [.int (nI i)]) (rest := []) (rv := some (.ref p.1)) (st1 := [.ref p.1]) hX cs_X0_55 (by decide) (fun l => z_get hl6 hlt hrw l) hl61 rfl rfl rfl rfl (Nat.le_of_ble_eq_true rfl) dX0_charge_24 ?_
  refine r_cast (ci := 3) hX rfl hps cl_X0_89 dX0_charge_27 ?_
  refine r_astore (lv' := [(7, .ref p.1), (6, .int (nI i)), (5, .int vals.1), (0, .ref (z_b G + 11)), (1, .ref v.1), (2, .int rank), (3, .int cap), (4, .ref (z_b G + 4))]) hX (by decide) rfl dX0_charge_30 ?_
  refine r_aload hX 7 rfl dX0_charge_32 ?_
  refine r_aload hX 0 rfl dX0_charge_34 ?_
  refine r_getf hX fl_X0_102 hps rfl dX0_charge_36 ?_
  refine r_iload_n hX rfl 5 rfl dX0_charge_39 ?_
  refine r_aload_n hX rfl 4 rfl dX0_charge_40 ?_
  refine r_getf hX fl_X0_129 hv rfl dX0_charge_41 ?_
  refine r_aload hX 0 rfl dX0_charge_44 ?_
  refine r_getf hX fl_X0_88 hps rfl dX0_charge_46 ?_
  refine r_callVR (As := [.ref p.2.1, .int rank, .int v.2.1.2.1, .int p.2.2.1]) (rest := []) (rv := some (.int (zm_qprice s v rank (zm_q p)))) (st1 := [.int (zm_qprice s v rank (zm_q p))]) hX cs_X0_134 (by decide) (fun l => z_Ct_as (by rw [hx2]) (c_price l G h top (z_b G + 4) (z_b G + 5) (z_b G + 6) (s_tars s) (b_ls be 3).1 (b_ls be 3).2.1 (b_ls be 3).2.2 H.tfs H.l3 (fun i t ht => H.tar ht) H.hol (zm_sg (s_segs s) p.2.1) _ hxs rank v.2.1.2.1 p.2.2.1)) htf rfl rfl rfl rfl (Nat.le_of_ble_eq_true rfl) dX0_charge_49 ?_
  refine r_istore (lv' := [(8, .int (zm_qprice s v rank (zm_q p))), (7, .ref p.1), (6, .int (nI i)), (5, .int vals.1), (0, .ref (z_b G + 11)), (1, .ref v.1), (2, .int rank), (3, .int cap), (4, .ref (z_b G + 4))]) hX (by decide) rfl dX0_charge_52 ?_
  refine r_aload hX 1 rfl dX0_charge_54 ?_
  refine r_aload hX 1 rfl dX0_charge_56 ?_
  refine r_aload_n hX rfl 5 rfl dX0_charge_58 ?_
  refine r_iload hX 0 rfl dX0_charge_59 ?_
  refine r_iload_n hX rfl 7 rfl dX0_charge_61 ?_
  refine r_iload hX 3 rfl dX0_charge_62 ?_
  refine r_isub hX dX0_charge_64 ?_
  refine r_callSR (As := [.ref p.1, .ref v.1, .int (zm_qprice s v rank (zm_q p)), .int (cap - vals.1)]) (rest := [.ref p.1]) (rv := some (.int (zm_qreason s v rank (cap - vals.1) (zm_q p)))) (st1 := [.int (zm_qreason s v rank (cap - vals.1) (zm_q p)), .ref p.1]) hX cs_X0_140 (by decide) (fun l => c_X0_reasonOf l G h top p hps v iv (H.veh hviv) (zm_sg (s_segs s) p.2.1) _ hxs hx2 (zm_qprice s v rank (zm_q p)) (cap - vals.1)) rfl rfl rfl (Nat.le_of_ble_eq_true rfl) dX0_charge_65 ?_
  refine r_put (fs2 := [.ref p.2.1, .int p.2.2.1, .int p.2.2.2.1, .int p.2.2.2.2.1, .int (zm_qreason s v rank (cap - vals.1) (zm_q p)), .int p.2.2.2.2.2.2]) hX fp_X0_144 hps rfl rfl (Nat.le_of_ble_eq_true rfl) rfl dX0_charge_68 ?_
  replace hbk := hbk.up (e3 := (.inr (3, [.ref p.2.1, .int p.2.2.1, .int p.2.2.2.1, .int p.2.2.2.2.1, .int (zm_qreason s v rank (cap - vals.1) (zm_q p)), .int p.2.2.2.2.2.2]))) hps (by intro z; cases z)
  replace hl61 := hl61.up (e3 := (.inr (3, [.ref p.2.1, .int p.2.2.1, .int p.2.2.2.1, .int p.2.2.2.2.1, .int (zm_qreason s v rank (cap - vals.1) (zm_q p)), .int p.2.2.2.2.2.2]))) hps (by intro z; cases z)
  replace htf := htf.up (e3 := (.inr (3, [.ref p.2.1, .int p.2.2.1, .int p.2.2.2.1, .int p.2.2.2.2.1, .int (zm_qreason s v rank (cap - vals.1) (zm_q p)), .int p.2.2.2.2.2.2]))) hps (by intro z; cases z)
  replace hv := hv.up (e3 := (.inr (3, [.ref p.2.1, .int p.2.2.1, .int p.2.2.2.1, .int p.2.2.2.2.1, .int (zm_qreason s v rank (cap - vals.1) (zm_q p)), .int p.2.2.2.2.2.2]))) hps (by intro z; cases z)
  replace hps : z_at G (va_up h p.1 (.inr (3, [.ref p.2.1, .int p.2.2.1, .int p.2.2.2.1, .int p.2.2.2.2.1, .int (zm_qreason s v rank (cap - vals.1) (zm_q p)), .int p.2.2.2.2.2.2]))) top p.1 (.inr (3, [.ref p.2.1, .int p.2.2.1, .int p.2.2.2.1, .int p.2.2.2.2.1, .int (zm_qreason s v rank (cap - vals.1) (zm_q p)), .int p.2.2.2.2.2.2])) := z_at.self hps
  refine r_aload hX 1 rfl dX0_charge_71 ?_
  refine r_aload hX 1 rfl dX0_charge_73 ?_
  refine r_getf hX fl_X0_144 hps rfl dX0_charge_75 ?_
  refine r_iload hX 0 rfl dX0_charge_78 ?_
  refine r_iload_n hX rfl 7 rfl dX0_charge_80 ?_
  refine r_iload hX 3 rfl dX0_charge_81 ?_
  refine r_isub hX dX0_charge_83 ?_
  refine r_callSR (As := [.int (zm_qreason s v rank (cap - vals.1) (zm_q p)), .int (zm_qprice s v rank (zm_q p)), .int (cap - vals.1)]) (rest := [.ref p.1]) (rv := some (.int (zm_qdue s v rank (cap - vals.1) (zm_q p)))) (st1 := [.int (zm_qdue s v rank (cap - vals.1) (zm_q p)), .ref p.1]) hX cs_X0_147 (by decide) (fun l => c_X0_dueFor l G (va_up h p.1 (.inr (3, [.ref p.2.1, .int p.2.2.1, .int p.2.2.2.1, .int p.2.2.2.2.1, .int (zm_qreason s v rank (cap - vals.1) (zm_q p)), .int p.2.2.2.2.2.2]))) top (zm_qreason s v rank (cap - vals.1) (zm_q p)) (zm_qprice s v rank (zm_q p)) (cap - vals.1)) rfl rfl rfl (Nat.le_of_ble_eq_true rfl) dX0_charge_84 ?_
  refine r_putU (fs2 := [.ref p.2.1, .int p.2.2.1, .int p.2.2.2.1, .int p.2.2.2.2.1, .int (zm_qreason s v rank (cap - vals.1) (zm_q p)), .int (zm_qdue s v rank (cap - vals.1) (zm_q p))]) hX fp_X0_151 hps rfl rfl (Nat.le_of_ble_eq_true rfl) rfl dX0_charge_87 ?_
  replace hps : z_at G (va_up h p.1 (.inr (3, [.ref p.2.1, .int p.2.2.1, .int p.2.2.2.1, .int p.2.2.2.2.1, .int (zm_qreason s v rank (cap - vals.1) (zm_q p)), .int (zm_qdue s v rank (cap - vals.1) (zm_q p))]))) top p.1 (.inr (3, [.ref p.2.1, .int p.2.2.1, .int p.2.2.2.1, .int p.2.2.2.2.1, .int (zm_qreason s v rank (cap - vals.1) (zm_q p)), .int (zm_qdue s v rank (cap - vals.1) (zm_q p))])) := z_at.uu hps
  refine r_iload hX 3 rfl dX0_charge_90 ?_
  refine r_aload hX 1 rfl dX0_charge_92 ?_
  refine r_getf hX fl_X0_151 hps rfl dX0_charge_94 ?_
  refine r_iadd hX dX0_charge_97 ?_
  refine r_istore (lv' := [(5, .int (vals.1 + (zm_qdue s v rank (cap - vals.1) (zm_q p)))), (8, .int (zm_qprice s v rank (zm_q p))), (7, .ref p.1), (6, .int (nI i)), (0, .ref (z_b G + 11)), (1, .ref v.1), (2, .int rank), (3, .int cap), (4, .ref (z_b G + 4))]) hX (by decide) rfl dX0_charge_98 ?_
  refine r_iinc (q := 3) (lv' := [(6, .int ((nI i) + 1)), (5, .int (vals.1 + (zm_qdue s v rank (cap - vals.1) (zm_q p)))), (8, .int (zm_qprice s v rank (zm_q p))), (7, .ref p.1), (0, .ref (z_b G + 11)), (1, .ref v.1), (2, .int rank), (3, .int cap), (4, .ref (z_b G + 4))]) hX rfl rfl (by decide) rfl dX0_charge_100 ?_
  refine r_goto (tgt := 6) hX rfl dX0_charge_103 ?_
  refine r_lv [0, 1, 4, 5, 6, 7, 8] (lv2 := [(6, .int (nI i + 1)), (5, .int (vals.1 + (zm_qdue s v rank (cap - vals.1) (zm_q p)))), (0, .ref (z_b G + 11)), (1, .ref v.1), (2, .int rank), (3, .int cap), (4, .ref (z_b G + 4))]) rfl ?_
  rw [nI_1]
  exact ih _ _ (J.set (by rw [hvl]; exact hRI) hp1 (zm_qreason s v rank (cap - vals.1) (zm_q p)) (zm_qdue s v rank (cap - vals.1) (zm_q p)))

set_option maxRecDepth 20000 in
set_option maxHeartbeats 4000000 in
theorem f_chE {X : zX} {G : zG} {h : zH} {top : Nat} {Post : Option Value → zH → Nat → Prop} (s : zS) (rch : Nat → Int32) (ct : Int32) (v : zVeh) (iv : Nat) (hviv : (s_vehs s)[iv]? = some v) (rank cap : Int32) (rows : List zQ) (RI : List Nat) (be : zB) (i : Nat) (vals : Int32 × List (Int32 × Int32)) (J : z_DC G s rch ct be rows RI vals.2 h top) (hge : rows.length ≤ i) (hi : i ≤ 225) (hp : Post (some (.int vals.1)) h top) (hX : z_ok X cX0_charge 9 RX0 (some .int) "charge" 6 G) (hq : z_mq X (Post)) : z_Z X h top 6 [(6, .int (nI i)), (5, .int vals.1), (0, .ref (z_b G + 11)), (1, .ref v.1), (2, .int rank), (3, .int cap), (4, .ref (z_b G + 4))] [] := by
  have H := J.1.1
  have hbk := H.bk
  have hl6 := H.l6
  rw [J.1.len.1] at hl6
  have hl61 := hl6.1
  have htf := H.tfs
  have hv := H.veh hviv
  have h225 := J.1.len.2
  refine r_iload hX 0 rfl dX0_charge_6 ?_
  refine r_aload_n hX rfl 2 rfl dX0_charge_8 ?_
  refine r_getf hX fl_X0_21 hbk rfl dX0_charge_9 ?_
  refine r_callVR (As := []) (rest := [.int (nI i)]) (rv := some (.int (nI rows.length))) (st1 := [.int (nI rows.length), .int (nI i)]) hX cs_X0_27 (by decide) (fun l => z_size hl6 l) hl61 rfl rfl rfl rfl (Nat.le_of_ble_eq_true rfl) dX0_charge_12 ?_
  refine r_icmp_ge (tgt := 106) hX dX0_charge_15 rfl (fun _ => ?_) (fun c => False.elim (c (nI_le hge (by omega))))
  refine r_iload hX 1 rfl dX0_charge_106 ?_
  exact r_iret hX hq hp dX0_charge_108

theorem f_charge {X : zX} {G : zG} {Post : Option Value → zH → Nat → Prop} (s : zS) (rch : Nat → Int32) (ct : Int32) (v : zVeh) (iv : Nat) (hviv : (s_vehs s)[iv]? = some v) (rank cap : Int32) (rows : List zQ) (RI : List Nat) (top : Nat) (hp : ∀ (h : zH) (be : zB), z_DC G s rch ct be rows RI (zm_charge s v rank cap rows).2 h top → Post (some (.int (zm_charge s v rank cap rows).1)) h top) (hX : z_ok X cX0_charge 9 RX0 (some .int) "charge" 6 G) (hq : z_mq X Post) : ∀ (k i : Nat) (h : zH) (be : zB) (vals : Int32 × List (Int32 × Int32)), rows.length - i < k → i ≤ rows.length → z_DC G s rch ct be rows RI vals.2 h top → vals = (rows.take i).foldl (zm_chStep s v rank cap) (0, []) → vals.2.length = i → z_Z X h top 6 [(6, .int (nI i)), (5, .int vals.1), (0, .ref (z_b G + 11)), (1, .ref v.1), (2, .int rank), (3, .int cap), (4, .ref (z_b G + 4))] [] := by
  intro k
  induction k with
  | zero => intros; omega
  | succ k ih =>
    intro i h be vals hk hi J hv hvl
    have h225 := J.1.len.2
    rcases Nat.lt_or_ge i rows.length with hlt | hge
    · have hqi := List.getElem?_eq_getElem hlt
      obtain ⟨k9, p, hRI, hp1, hp2, hrw⟩ := J.1.at hqi
      rw [← hp2] at hqi
      refine f_chS s rch ct v iv hviv rank cap rows RI be i k9 vals p J hqi hRI hp1 hrw hvl (fun h9 b9 J9 => ?_) hX hq
      exact ih (i + 1) h9 b9 (zm_chStep s v rank cap vals (zm_q p)) (by omega) (by omega) J9 (by rw [zm_take _ _ _ hqi, ← hv]) (by show (vals.2 ++ [_]).length = _; rw [List.length_append, hvl]; rfl)
    · rw [List.take_of_length_le hge] at hv
      refine f_chE s rch ct v iv hviv rank cap rows RI be i vals J hge (by omega) ?_ hX hq
      have := hp h be (by rw [hv] at J; exact J)
      rw [hv]
      exact this
set_option maxRecDepth 20000 in
set_option maxHeartbeats 4000000 in
theorem c_X0_charge (l : Launch) (G : zG) (h : zH) (top : Nat) (s : zS) (rch : Nat → Int32) (ct : Int32) (v : zVeh) (iv : Nat) (hviv : (s_vehs s)[iv]? = some v) (rank cap : Int32) (rows : List zQ) (RI : List Nat) (be : zB) (J : z_DK G s rch ct be rows RI h top) : z_Ct l yX0_charge cX0_charge 9 (some .int) 6 G [.ref (z_b G + 11), .ref v.1, .int rank, .int cap, .ref (z_b G + 4)] h top (fun r h' top' => r = some (.int (zm_charge s v rank cap rows).1) ∧ top' = top ∧ ∃ be2, z_DC G s rch ct be2 rows RI (zm_charge s v rank cap rows).2 h' top') := by
  refine z_of (own := RX0) (nm := "charge") (by decide) rfl rfl (by decide) (Nat.le_of_ble_eq_true rfl) (fun X hX hq => ?_)
  replace hX : z_ok X cX0_charge 9 RX0 (some .int) "charge" 6 G := hX
  show z_Z X h top 0 [(0, .ref (z_b G + 11)), (1, .ref v.1), (2, .int rank), (3, .int cap), (4, .ref (z_b G + 4))] []
  refine r_iconst (v := 0) hX (by decide) dX0_charge_0 ?_
  refine r_istore (lv' := [(5, .int 0), (0, .ref (z_b G + 11)), (1, .ref v.1), (2, .int rank), (3, .int cap), (4, .ref (z_b G + 4))]) hX (by decide) rfl dX0_charge_1 ?_
  refine r_iconst (v := 0) hX (by decide) dX0_charge_3 ?_
  refine r_istore (lv' := [(6, .int 0), (5, .int 0), (0, .ref (z_b G + 11)), (1, .ref v.1), (2, .int rank), (3, .int cap), (4, .ref (z_b G + 4))]) hX (by decide) rfl dX0_charge_4 ?_
  rw [← nI_0]
  refine r_lv [0, 1, 2, 3, 4, 5, 6] (lv2 := [(6, .int (nI 0)), (5, .int (nI 0)), (0, .ref (z_b G + 11)), (1, .ref v.1), (2, .int rank), (3, .int cap), (4, .ref (z_b G + 4))]) rfl ?_
  exact f_charge s rch ct v iv hviv rank cap rows RI top (fun h9 b9 J9 => ⟨rfl, rfl, b9, J9⟩) hX hq (rows.length + 1) 0 h be (nI 0, []) (by omega) (by omega) ⟨J, fun n k v _ e => by cases e⟩ (by rw [nI_0]; rfl) rfl
end
section
/-! asking the book -/
def zm_dueStep (s : zS) (owner : Int32) (acc : Int32) (y : zQ × (Int32 × Int32)) : Int32 := if (zm_sg (s_segs s) y.1.1).2.2.2.2 = owner then acc + y.2.2 else acc
def zm_dueTo (s : zS) (owner : Int32) (rows : List zQ) (vals : List (Int32 × Int32)) : Int32 := (rows.zip vals).foldl (zm_dueStep s owner) 0
theorem z_DC.at {G : zG} {s : zS} {rch : Nat → Int32} {ct : Int32} {be : zB} {rows : List zQ} {RI : List Nat} {vals : List (Int32 × Int32)} {h : zH} {top : Nat} (J : z_DC G s rch ct be rows RI vals h top) (hvl : vals.length = rows.length) {i : Nat} (hi : i < rows.length) : ∃ p : zPas, rows[i]? = some (zm_q p) ∧ vals[i]? = some p.2.2.2.2.2 ∧ (b_rw be)[i]? = some p.1 ∧ ∃ k : Nat, (b_pool be)[k]? = some p := by
  obtain ⟨k, p, h1, h2, h3, h4⟩ := J.1.at (List.getElem?_eq_getElem hi)
  obtain ⟨p9, g1, g2⟩ := J.2 i k _ h1 (List.getElem?_eq_getElem (by omega : i < vals.length))
  rw [h2] at g1
  cases g1
  exact ⟨p, by rw [h3]; exact List.getElem?_eq_getElem hi, by rw [g2]; exact List.getElem?_eq_getElem _, h4, k, h2⟩
set_option maxRecDepth 20000 in
set_option maxHeartbeats 4000000 in
theorem f_due_step {X : zX} {G : zG} {h : zH} {top : Nat} {Post : Option Value → zH → Nat → Prop} (s : zS) (rch : Nat → Int32) (ct : Int32) (be : zB) (rows : List zQ) (RI : List Nat) (vals : List (Int32 × Int32)) (J : z_DC G s rch ct be rows RI vals h top) (hvl : vals.length = rows.length) (owner : Int32) (hp : ∀ {v : Int32}, v = zm_dueTo s owner rows vals → Post (some (.int v)) h top) (k i : Nat) (acc : Int32) (hk : rows.length - i < k + 1) (hi : i ≤ rows.length) (hinv : acc = ((rows.zip vals).take i).foldl (zm_dueStep s owner) 0) (ih : ∀ (i : Nat) (acc : Int32), rows.length - i < k → i ≤ rows.length → (acc = ((rows.zip vals).take i).foldl (zm_dueStep s owner) 0) → z_Z X h top 4 [(3, .int (nI i)), (2, .int acc), (0, .ref (z_b G + 11)), (1, .int owner)] []) (hX : z_ok X cX0_dueTo 5 RX0 (some .int) "dueTo" 4 G) (hq : z_mq X (Post)) : z_Z X h top 4 [(3, .int (nI i)), (2, .int acc), (0, .ref (z_b G + 11)), (1, .int owner)] [] := by
  have H := J.1.1
  have hbk := H.bk
  have hl6 := H.l6
  rw [J.1.len.1] at hl6
  have hl61 := hl6.1
  have h225 := J.1.len.2
  refine r_iload_n hX rfl 0 rfl dX0_dueTo_4 ?_
  refine r_aload_n hX rfl 2 rfl dX0_dueTo_5 ?_
  refine r_getf hX fl_X0_21 hbk rfl dX0_dueTo_6 ?_
  refine r_callVR (As := []) (rest := [.int (nI i)]) (rv := some (.int (nI rows.length))) (st1 := [.int (nI rows.length), .int (nI i)]) hX cs_X0_27 (by decide) (fun l => z_size hl6 l) hl61 rfl rfl rfl rfl (Nat.le_of_ble_eq_true rfl) dX0_dueTo_9 ?_
  refine r_icmp_ge (tgt := 54) hX dX0_dueTo_12 rfl (fun c12 => ?_) (fun c12 => ?_)
  · skip
    refine r_iload_n hX rfl 1 rfl dX0_dueTo_54 ?_
    exact r_iret hX hq (hp (hinv.trans (by rw [List.take_of_length_le (by rw [List.length_zip, hvl, Nat.min_self]; exact (nI_leI (by omega) (by omega)).mp c12)]; rfl))) dX0_dueTo_55
  · skip
    have hlt : i < rows.length := by
      rcases Nat.lt_or_ge i rows.length with q | q
      · exact q
      · exact absurd (nI_le q (by omega)) c12
    obtain ⟨p, hqi, hvi, hrw, k9, hp1⟩ := J.at hvl hlt
    have hps := H.pas hp1
    obtain ⟨hx1, hx2⟩ := zm_sg_at (H.2.2.2.1.2 p (List.mem_of_getElem? hp1))
    have hxs := H.seg hx1
    rw [hx2] at hxs
    refine r_aload_n hX rfl 2 rfl dX0_dueTo_15 ?_
    refine r_getf hX fl_X0_21 hbk rfl dX0_dueTo_16 ?_
    refine r_iload_n hX rfl 0 rfl dX0_dueTo_19 ?_
    refine r_callVR (As := [.int (nI i)]) (rest := []) (rv := some (.ref p.1)) (st1 := [.ref p.1]) hX cs_X0_55 (by decide) (fun l => z_get hl6 hlt hrw l) hl61 rfl rfl rfl rfl (Nat.le_of_ble_eq_true rfl) dX0_dueTo_20 ?_
    refine r_cast (ci := 3) hX rfl hps cl_X0_89 dX0_dueTo_23 ?_
    refine r_astore (lv' := [(4, .ref p.1), (3, .int (nI i)), (2, .int acc), (0, .ref (z_b G + 11)), (1, .int owner)]) hX (by decide) rfl dX0_dueTo_26 ?_
    refine r_aload hX 0 rfl dX0_dueTo_28 ?_
    refine r_getf hX fl_X0_102 hps rfl dX0_dueTo_30 ?_
    refine r_getf hX fl_X0_154 hxs rfl dX0_dueTo_33 ?_
    refine r_iload_n hX rfl 4 rfl dX0_dueTo_36 ?_
    refine r_icmp_ne (tgt := 48) hX dX0_dueTo_37 rfl (fun c37 => ?_) (fun c37 => ?_)
    · skip
      refine r_iinc (q := 1) (lv' := [(3, .int ((nI i) + 1)), (4, .ref p.1), (2, .int acc), (0, .ref (z_b G + 11)), (1, .int owner)]) hX rfl rfl (by decide) rfl dX0_dueTo_48 ?_
      refine r_goto (tgt := 4) hX rfl dX0_dueTo_51 ?_
      refine r_lv [0, 2, 3, 4] (lv2 := [(3, .int (nI i + 1)), (2, .int acc), (0, .ref (z_b G + 11)), (1, .int owner)]) rfl ?_
      rw [nI_1]
      exact ih (i + 1) _ (by omega) (by omega) (by rw [zm_take _ _ _ ((List.getElem?_zip_eq_some (z := (zm_q p, p.2.2.2.2.2))).mpr ⟨hqi, hvi⟩), ← hinv]; exact (if_neg c37).symm)
    · skip
      refine r_iload_n hX rfl 2 rfl dX0_dueTo_40 ?_
      refine r_aload hX 0 rfl dX0_dueTo_41 ?_
      refine r_getf hX fl_X0_151 hps rfl dX0_dueTo_43 ?_
      refine r_iadd hX dX0_dueTo_46 ?_
      refine r_istore_n (lv' := [(2, .int (acc + p.2.2.2.2.2.2)), (4, .ref p.1), (3, .int (nI i)), (0, .ref (z_b G + 11)), (1, .int owner)]) hX rfl (by decide) rfl dX0_dueTo_47 ?_
      refine r_iinc (q := 2) (lv' := [(3, .int ((nI i) + 1)), (2, .int (acc + p.2.2.2.2.2.2)), (4, .ref p.1), (0, .ref (z_b G + 11)), (1, .int owner)]) hX rfl rfl (by decide) rfl dX0_dueTo_48 ?_
      refine r_goto (tgt := 4) hX rfl dX0_dueTo_51 ?_
      refine r_lv [0, 1, 3, 4] (lv2 := [(3, .int (nI i + 1)), (2, .int (acc + p.2.2.2.2.2.2)), (0, .ref (z_b G + 11)), (1, .int owner)]) rfl ?_
      rw [nI_1]
      exact ih (i + 1) _ (by omega) (by omega) (by rw [zm_take _ _ _ ((List.getElem?_zip_eq_some (z := (zm_q p, p.2.2.2.2.2))).mpr ⟨hqi, hvi⟩), ← hinv]; exact (if_pos c37).symm)

theorem f_due {X : zX} {G : zG} {h : zH} {top : Nat} {Post : Option Value → zH → Nat → Prop} (s : zS) (rch : Nat → Int32) (ct : Int32) (be : zB) (rows : List zQ) (RI : List Nat) (vals : List (Int32 × Int32)) (J : z_DC G s rch ct be rows RI vals h top) (hvl : vals.length = rows.length) (owner : Int32) (hp : ∀ {v : Int32}, v = zm_dueTo s owner rows vals → Post (some (.int v)) h top) (hX : z_ok X cX0_dueTo 5 RX0 (some .int) "dueTo" 4 G) (hq : z_mq X Post) : ∀ (k i : Nat) (acc : Int32), rows.length - i < k → i ≤ rows.length → (acc = ((rows.zip vals).take i).foldl (zm_dueStep s owner) 0) → z_Z X h top 4 [(3, .int (nI i)), (2, .int acc), (0, .ref (z_b G + 11)), (1, .int owner)] [] := by
  intro k
  induction k with
  | zero => intros; omega
  | succ k ih => intro i acc hk hi hinv; exact f_due_step s rch ct be rows RI vals J hvl owner hp k i acc hk hi hinv ih hX hq
set_option maxRecDepth 20000 in
set_option maxHeartbeats 4000000 in
theorem c_X0_dueTo (l : Launch) (G : zG) (h : zH) (top : Nat) (s : zS) (rch : Nat → Int32) (ct : Int32) (be : zB) (rows : List zQ) (RI : List Nat) (vals : List (Int32 × Int32)) (J : z_DC G s rch ct be rows RI vals h top) (hvl : vals.length = rows.length) (owner : Int32) : z_Ct l yX0_dueTo cX0_dueTo 5 (some .int) 4 G [.ref (z_b G + 11), .int owner] h top (z_R (some (.int (zm_dueTo s owner rows vals))) h top) := by
  refine z_of (own := RX0) (nm := "dueTo") (by decide) rfl rfl (by decide) (Nat.le_of_ble_eq_true rfl) (fun X hX hq => ?_)
  replace hX : z_ok X cX0_dueTo 5 RX0 (some .int) "dueTo" 4 G := hX
  show z_Z X h top 0 [(0, .ref (z_b G + 11)), (1, .int owner)] []
  refine r_iconst (v := 0) hX (by decide) dX0_dueTo_0 ?_
  refine r_istore_n (lv' := [(2, .int 0), (0, .ref (z_b G + 11)), (1, .int owner)]) hX rfl (by decide) rfl dX0_dueTo_1 ?_
  refine r_iconst (v := 0) hX (by decide) dX0_dueTo_2 ?_
  refine r_istore_n (lv' := [(3, .int 0), (2, .int 0), (0, .ref (z_b G + 11)), (1, .int owner)]) hX rfl (by decide) rfl dX0_dueTo_3 ?_
  rw [← nI_0]
  refine r_lv [0, 1, 2, 3] (lv2 := [(3, .int (nI 0)), (2, .int (nI 0)), (0, .ref (z_b G + 11)), (1, .int owner)]) rfl ?_
  exact f_due s rch ct be rows RI vals J hvl owner (fun e => ⟨by rw [e], rfl, rfl⟩) hX hq (rows.length + 1) 0 (nI 0) (by omega) (by omega) (by rw [nI_0]; rfl)

def zm_fact (s : zS) (q : zQ) (v : Int32 × Int32) (what : Int32) : Int32 := if what = 0 then nI (zm_num (s_segs s) q.1) else if what = 1 then q.2.1 else if what = 2 then q.2.2.1 else if what = 3 then v.1 else v.2
def zm_factAt (s : zS) (rows : List zQ) (vals : List (Int32 × Int32)) (k : Nat) (what : Int32) : Int32 := zm_fact s ((rows[k]?).getD (0, 0, 0, 0)) ((vals[k]?).getD (0, 0)) what
set_option maxRecDepth 20000 in
set_option maxHeartbeats 4000000 in
theorem c_fact_0 (l : Launch) (G : zG) (h : zH) (top : Nat) (s : zS) (rch : Nat → Int32) (ct : Int32) (be : zB) (rows : List zQ) (RI : List Nat) (vals : List (Int32 × Int32)) (J : z_DC G s rch ct be rows RI vals h top) (hvl : vals.length = rows.length) (i : Nat) (hlt : i < rows.length) : z_Ct l yX0_fact cX0_fact 4 (some .int) 4 G [.ref (z_b G + 11), .int (nI i), .int 0] h top (z_R (some (.int (zm_factAt s rows vals i 0))) h top) := by
  refine z_of (own := RX0) (nm := "fact") (by decide) rfl rfl (by decide) (Nat.le_of_ble_eq_true rfl) (fun X hX hq => ?_)
  replace hX : z_ok X cX0_fact 4 RX0 (some .int) "fact" 4 G := hX
  show z_Z X h top 0 [(0, .ref (z_b G + 11)), (1, .int (nI i)), (2, .int 0)] []
  have H := J.1.1
  have hbk := H.bk
  have hl6 := H.l6
  rw [J.1.len.1] at hl6
  have hl61 := hl6.1
  have h225 := J.1.len.2
  obtain ⟨p, hqi, hvi, hrw, k9, hp1⟩ := J.at hvl hlt
  have hps := H.pas hp1
  obtain ⟨hx1, hx2⟩ := zm_sg_at (H.2.2.2.1.2 p (List.mem_of_getElem? hp1))
  have hxs := H.seg hx1
  rw [hx2] at hxs
  refine r_iload_n hX rfl 1 rfl dX0_fact_0 ?_
  refine r_if_lt (tgt := 15) hX dX0_fact_1 rfl (fun c => False.elim (nI_pos (by omega) c)) (fun _ => ?_)
  refine r_iload_n hX rfl 1 rfl dX0_fact_4 ?_
  refine r_aload_n hX rfl 0 rfl dX0_fact_5 ?_
  refine r_getf hX fl_X0_21 hbk rfl dX0_fact_6 ?_
  refine r_callVR (As := []) (rest := [.int (nI i)]) (rv := some (.int (nI rows.length))) (st1 := [.int (nI rows.length), .int (nI i)]) hX cs_X0_27 (by decide) (fun l => z_size hl6 l) hl61 rfl rfl rfl rfl (Nat.le_of_ble_eq_true rfl) dX0_fact_9 ?_
  refine r_icmp_lt (tgt := 17) hX dX0_fact_12 rfl (fun _ => ?_) (fun c => False.elim (absurd (nI_lt hlt (by omega)) c))
  refine r_aload_n hX rfl 0 rfl dX0_fact_17 ?_
  refine r_getf hX fl_X0_21 hbk rfl dX0_fact_18 ?_
  refine r_iload_n hX rfl 1 rfl dX0_fact_21 ?_
  refine r_callVR (As := [.int (nI i)]) (rest := []) (rv := some (.ref p.1)) (st1 := [.ref p.1]) hX cs_X0_55 (by decide) (fun l => z_get hl6 hlt hrw l) hl61 rfl rfl rfl rfl (Nat.le_of_ble_eq_true rfl) dX0_fact_22 ?_
  refine r_cast (ci := 3) hX rfl hps cl_X0_89 dX0_fact_25 ?_
  refine r_astore_n (lv' := [(3, .ref p.1), (0, .ref (z_b G + 11)), (1, .int (nI i)), (2, .int 0)]) hX rfl (by decide) rfl dX0_fact_28 ?_
  refine r_iload_n hX rfl 3 rfl dX0_fact_29 ?_
  refine r_tableIn (off := 30) (tgt := 60) hX (by decide) (by decide) (by decide) rfl dX0_fact_30 ?_
  refine r_aload_n hX rfl 0 rfl dX0_fact_60 ?_
  refine r_getf hX fl_X0_102 hps rfl dX0_fact_61 ?_
  refine r_getf hX fl_X0_171 hxs rfl dX0_fact_64 ?_
  exact r_iret hX hq ⟨by simp [zm_factAt, zm_fact, zm_q, hqi, hvi], rfl, rfl⟩ dX0_fact_67

set_option maxRecDepth 20000 in
set_option maxHeartbeats 4000000 in
theorem c_fact_1 (l : Launch) (G : zG) (h : zH) (top : Nat) (s : zS) (rch : Nat → Int32) (ct : Int32) (be : zB) (rows : List zQ) (RI : List Nat) (vals : List (Int32 × Int32)) (J : z_DC G s rch ct be rows RI vals h top) (hvl : vals.length = rows.length) (i : Nat) (hlt : i < rows.length) : z_Ct l yX0_fact cX0_fact 4 (some .int) 4 G [.ref (z_b G + 11), .int (nI i), .int 1] h top (z_R (some (.int (zm_factAt s rows vals i 1))) h top) := by
  refine z_of (own := RX0) (nm := "fact") (by decide) rfl rfl (by decide) (Nat.le_of_ble_eq_true rfl) (fun X hX hq => ?_)
  replace hX : z_ok X cX0_fact 4 RX0 (some .int) "fact" 4 G := hX
  show z_Z X h top 0 [(0, .ref (z_b G + 11)), (1, .int (nI i)), (2, .int 1)] []
  have H := J.1.1
  have hbk := H.bk
  have hl6 := H.l6
  rw [J.1.len.1] at hl6
  have hl61 := hl6.1
  have h225 := J.1.len.2
  obtain ⟨p, hqi, hvi, hrw, k9, hp1⟩ := J.at hvl hlt
  have hps := H.pas hp1
  obtain ⟨hx1, hx2⟩ := zm_sg_at (H.2.2.2.1.2 p (List.mem_of_getElem? hp1))
  have hxs := H.seg hx1
  rw [hx2] at hxs
  refine r_iload_n hX rfl 1 rfl dX0_fact_0 ?_
  refine r_if_lt (tgt := 15) hX dX0_fact_1 rfl (fun c => False.elim (nI_pos (by omega) c)) (fun _ => ?_)
  refine r_iload_n hX rfl 1 rfl dX0_fact_4 ?_
  refine r_aload_n hX rfl 0 rfl dX0_fact_5 ?_
  refine r_getf hX fl_X0_21 hbk rfl dX0_fact_6 ?_
  refine r_callVR (As := []) (rest := [.int (nI i)]) (rv := some (.int (nI rows.length))) (st1 := [.int (nI rows.length), .int (nI i)]) hX cs_X0_27 (by decide) (fun l => z_size hl6 l) hl61 rfl rfl rfl rfl (Nat.le_of_ble_eq_true rfl) dX0_fact_9 ?_
  refine r_icmp_lt (tgt := 17) hX dX0_fact_12 rfl (fun _ => ?_) (fun c => False.elim (absurd (nI_lt hlt (by omega)) c))
  refine r_aload_n hX rfl 0 rfl dX0_fact_17 ?_
  refine r_getf hX fl_X0_21 hbk rfl dX0_fact_18 ?_
  refine r_iload_n hX rfl 1 rfl dX0_fact_21 ?_
  refine r_callVR (As := [.int (nI i)]) (rest := []) (rv := some (.ref p.1)) (st1 := [.ref p.1]) hX cs_X0_55 (by decide) (fun l => z_get hl6 hlt hrw l) hl61 rfl rfl rfl rfl (Nat.le_of_ble_eq_true rfl) dX0_fact_22 ?_
  refine r_cast (ci := 3) hX rfl hps cl_X0_89 dX0_fact_25 ?_
  refine r_astore_n (lv' := [(3, .ref p.1), (0, .ref (z_b G + 11)), (1, .int (nI i)), (2, .int 1)]) hX rfl (by decide) rfl dX0_fact_28 ?_
  refine r_iload_n hX rfl 3 rfl dX0_fact_29 ?_
  refine r_tableIn (off := 38) (tgt := 68) hX (by decide) (by decide) (by decide) rfl dX0_fact_30 ?_
  refine r_aload_n hX rfl 0 rfl dX0_fact_68 ?_
  refine r_getf hX fl_X0_88 hps rfl dX0_fact_69 ?_
  exact r_iret hX hq ⟨by simp [zm_factAt, zm_fact, zm_q, hqi, hvi], rfl, rfl⟩ dX0_fact_72

set_option maxRecDepth 20000 in
set_option maxHeartbeats 4000000 in
theorem c_fact_2 (l : Launch) (G : zG) (h : zH) (top : Nat) (s : zS) (rch : Nat → Int32) (ct : Int32) (be : zB) (rows : List zQ) (RI : List Nat) (vals : List (Int32 × Int32)) (J : z_DC G s rch ct be rows RI vals h top) (hvl : vals.length = rows.length) (i : Nat) (hlt : i < rows.length) : z_Ct l yX0_fact cX0_fact 4 (some .int) 4 G [.ref (z_b G + 11), .int (nI i), .int 2] h top (z_R (some (.int (zm_factAt s rows vals i 2))) h top) := by
  refine z_of (own := RX0) (nm := "fact") (by decide) rfl rfl (by decide) (Nat.le_of_ble_eq_true rfl) (fun X hX hq => ?_)
  replace hX : z_ok X cX0_fact 4 RX0 (some .int) "fact" 4 G := hX
  show z_Z X h top 0 [(0, .ref (z_b G + 11)), (1, .int (nI i)), (2, .int 2)] []
  have H := J.1.1
  have hbk := H.bk
  have hl6 := H.l6
  rw [J.1.len.1] at hl6
  have hl61 := hl6.1
  have h225 := J.1.len.2
  obtain ⟨p, hqi, hvi, hrw, k9, hp1⟩ := J.at hvl hlt
  have hps := H.pas hp1
  obtain ⟨hx1, hx2⟩ := zm_sg_at (H.2.2.2.1.2 p (List.mem_of_getElem? hp1))
  have hxs := H.seg hx1
  rw [hx2] at hxs
  refine r_iload_n hX rfl 1 rfl dX0_fact_0 ?_
  refine r_if_lt (tgt := 15) hX dX0_fact_1 rfl (fun c => False.elim (nI_pos (by omega) c)) (fun _ => ?_)
  refine r_iload_n hX rfl 1 rfl dX0_fact_4 ?_
  refine r_aload_n hX rfl 0 rfl dX0_fact_5 ?_
  refine r_getf hX fl_X0_21 hbk rfl dX0_fact_6 ?_
  refine r_callVR (As := []) (rest := [.int (nI i)]) (rv := some (.int (nI rows.length))) (st1 := [.int (nI rows.length), .int (nI i)]) hX cs_X0_27 (by decide) (fun l => z_size hl6 l) hl61 rfl rfl rfl rfl (Nat.le_of_ble_eq_true rfl) dX0_fact_9 ?_
  refine r_icmp_lt (tgt := 17) hX dX0_fact_12 rfl (fun _ => ?_) (fun c => False.elim (absurd (nI_lt hlt (by omega)) c))
  refine r_aload_n hX rfl 0 rfl dX0_fact_17 ?_
  refine r_getf hX fl_X0_21 hbk rfl dX0_fact_18 ?_
  refine r_iload_n hX rfl 1 rfl dX0_fact_21 ?_
  refine r_callVR (As := [.int (nI i)]) (rest := []) (rv := some (.ref p.1)) (st1 := [.ref p.1]) hX cs_X0_55 (by decide) (fun l => z_get hl6 hlt hrw l) hl61 rfl rfl rfl rfl (Nat.le_of_ble_eq_true rfl) dX0_fact_22 ?_
  refine r_cast (ci := 3) hX rfl hps cl_X0_89 dX0_fact_25 ?_
  refine r_astore_n (lv' := [(3, .ref p.1), (0, .ref (z_b G + 11)), (1, .int (nI i)), (2, .int 2)]) hX rfl (by decide) rfl dX0_fact_28 ?_
  refine r_iload_n hX rfl 3 rfl dX0_fact_29 ?_
  refine r_tableIn (off := 43) (tgt := 73) hX (by decide) (by decide) (by decide) rfl dX0_fact_30 ?_
  refine r_aload_n hX rfl 0 rfl dX0_fact_73 ?_
  refine r_getf hX fl_X0_164 hps rfl dX0_fact_74 ?_
  exact r_iret hX hq ⟨by simp [zm_factAt, zm_fact, zm_q, hqi, hvi], rfl, rfl⟩ dX0_fact_77

set_option maxRecDepth 20000 in
set_option maxHeartbeats 4000000 in
theorem c_fact_3 (l : Launch) (G : zG) (h : zH) (top : Nat) (s : zS) (rch : Nat → Int32) (ct : Int32) (be : zB) (rows : List zQ) (RI : List Nat) (vals : List (Int32 × Int32)) (J : z_DC G s rch ct be rows RI vals h top) (hvl : vals.length = rows.length) (i : Nat) (hlt : i < rows.length) : z_Ct l yX0_fact cX0_fact 4 (some .int) 4 G [.ref (z_b G + 11), .int (nI i), .int 3] h top (z_R (some (.int (zm_factAt s rows vals i 3))) h top) := by
  refine z_of (own := RX0) (nm := "fact") (by decide) rfl rfl (by decide) (Nat.le_of_ble_eq_true rfl) (fun X hX hq => ?_)
  replace hX : z_ok X cX0_fact 4 RX0 (some .int) "fact" 4 G := hX
  show z_Z X h top 0 [(0, .ref (z_b G + 11)), (1, .int (nI i)), (2, .int 3)] []
  have H := J.1.1
  have hbk := H.bk
  have hl6 := H.l6
  rw [J.1.len.1] at hl6
  have hl61 := hl6.1
  have h225 := J.1.len.2
  obtain ⟨p, hqi, hvi, hrw, k9, hp1⟩ := J.at hvl hlt
  have hps := H.pas hp1
  obtain ⟨hx1, hx2⟩ := zm_sg_at (H.2.2.2.1.2 p (List.mem_of_getElem? hp1))
  have hxs := H.seg hx1
  rw [hx2] at hxs
  refine r_iload_n hX rfl 1 rfl dX0_fact_0 ?_
  refine r_if_lt (tgt := 15) hX dX0_fact_1 rfl (fun c => False.elim (nI_pos (by omega) c)) (fun _ => ?_)
  refine r_iload_n hX rfl 1 rfl dX0_fact_4 ?_
  refine r_aload_n hX rfl 0 rfl dX0_fact_5 ?_
  refine r_getf hX fl_X0_21 hbk rfl dX0_fact_6 ?_
  refine r_callVR (As := []) (rest := [.int (nI i)]) (rv := some (.int (nI rows.length))) (st1 := [.int (nI rows.length), .int (nI i)]) hX cs_X0_27 (by decide) (fun l => z_size hl6 l) hl61 rfl rfl rfl rfl (Nat.le_of_ble_eq_true rfl) dX0_fact_9 ?_
  refine r_icmp_lt (tgt := 17) hX dX0_fact_12 rfl (fun _ => ?_) (fun c => False.elim (absurd (nI_lt hlt (by omega)) c))
  refine r_aload_n hX rfl 0 rfl dX0_fact_17 ?_
  refine r_getf hX fl_X0_21 hbk rfl dX0_fact_18 ?_
  refine r_iload_n hX rfl 1 rfl dX0_fact_21 ?_
  refine r_callVR (As := [.int (nI i)]) (rest := []) (rv := some (.ref p.1)) (st1 := [.ref p.1]) hX cs_X0_55 (by decide) (fun l => z_get hl6 hlt hrw l) hl61 rfl rfl rfl rfl (Nat.le_of_ble_eq_true rfl) dX0_fact_22 ?_
  refine r_cast (ci := 3) hX rfl hps cl_X0_89 dX0_fact_25 ?_
  refine r_astore_n (lv' := [(3, .ref p.1), (0, .ref (z_b G + 11)), (1, .int (nI i)), (2, .int 3)]) hX rfl (by decide) rfl dX0_fact_28 ?_
  refine r_iload_n hX rfl 3 rfl dX0_fact_29 ?_
  refine r_tableIn (off := 48) (tgt := 78) hX (by decide) (by decide) (by decide) rfl dX0_fact_30 ?_
  refine r_aload_n hX rfl 0 rfl dX0_fact_78 ?_
  refine r_getf hX fl_X0_144 hps rfl dX0_fact_79 ?_
  exact r_iret hX hq ⟨by simp [zm_factAt, zm_fact, zm_q, hqi, hvi], rfl, rfl⟩ dX0_fact_82

set_option maxRecDepth 20000 in
set_option maxHeartbeats 4000000 in
theorem c_fact_4 (l : Launch) (G : zG) (h : zH) (top : Nat) (s : zS) (rch : Nat → Int32) (ct : Int32) (be : zB) (rows : List zQ) (RI : List Nat) (vals : List (Int32 × Int32)) (J : z_DC G s rch ct be rows RI vals h top) (hvl : vals.length = rows.length) (i : Nat) (hlt : i < rows.length) : z_Ct l yX0_fact cX0_fact 4 (some .int) 4 G [.ref (z_b G + 11), .int (nI i), .int 4] h top (z_R (some (.int (zm_factAt s rows vals i 4))) h top) := by
  refine z_of (own := RX0) (nm := "fact") (by decide) rfl rfl (by decide) (Nat.le_of_ble_eq_true rfl) (fun X hX hq => ?_)
  replace hX : z_ok X cX0_fact 4 RX0 (some .int) "fact" 4 G := hX
  show z_Z X h top 0 [(0, .ref (z_b G + 11)), (1, .int (nI i)), (2, .int 4)] []
  have H := J.1.1
  have hbk := H.bk
  have hl6 := H.l6
  rw [J.1.len.1] at hl6
  have hl61 := hl6.1
  have h225 := J.1.len.2
  obtain ⟨p, hqi, hvi, hrw, k9, hp1⟩ := J.at hvl hlt
  have hps := H.pas hp1
  obtain ⟨hx1, hx2⟩ := zm_sg_at (H.2.2.2.1.2 p (List.mem_of_getElem? hp1))
  have hxs := H.seg hx1
  rw [hx2] at hxs
  refine r_iload_n hX rfl 1 rfl dX0_fact_0 ?_
  refine r_if_lt (tgt := 15) hX dX0_fact_1 rfl (fun c => False.elim (nI_pos (by omega) c)) (fun _ => ?_)
  refine r_iload_n hX rfl 1 rfl dX0_fact_4 ?_
  refine r_aload_n hX rfl 0 rfl dX0_fact_5 ?_
  refine r_getf hX fl_X0_21 hbk rfl dX0_fact_6 ?_
  refine r_callVR (As := []) (rest := [.int (nI i)]) (rv := some (.int (nI rows.length))) (st1 := [.int (nI rows.length), .int (nI i)]) hX cs_X0_27 (by decide) (fun l => z_size hl6 l) hl61 rfl rfl rfl rfl (Nat.le_of_ble_eq_true rfl) dX0_fact_9 ?_
  refine r_icmp_lt (tgt := 17) hX dX0_fact_12 rfl (fun _ => ?_) (fun c => False.elim (absurd (nI_lt hlt (by omega)) c))
  refine r_aload_n hX rfl 0 rfl dX0_fact_17 ?_
  refine r_getf hX fl_X0_21 hbk rfl dX0_fact_18 ?_
  refine r_iload_n hX rfl 1 rfl dX0_fact_21 ?_
  refine r_callVR (As := [.int (nI i)]) (rest := []) (rv := some (.ref p.1)) (st1 := [.ref p.1]) hX cs_X0_55 (by decide) (fun l => z_get hl6 hlt hrw l) hl61 rfl rfl rfl rfl (Nat.le_of_ble_eq_true rfl) dX0_fact_22 ?_
  refine r_cast (ci := 3) hX rfl hps cl_X0_89 dX0_fact_25 ?_
  refine r_astore_n (lv' := [(3, .ref p.1), (0, .ref (z_b G + 11)), (1, .int (nI i)), (2, .int 4)]) hX rfl (by decide) rfl dX0_fact_28 ?_
  refine r_iload_n hX rfl 3 rfl dX0_fact_29 ?_
  refine r_tableOut (tgt := 83) hX (by decide) rfl dX0_fact_30 ?_
  refine r_aload_n hX rfl 0 rfl dX0_fact_83 ?_
  refine r_getf hX fl_X0_151 hps rfl dX0_fact_84 ?_
  exact r_iret hX hq ⟨by simp [zm_factAt, zm_fact, zm_q, hqi, hvi], rfl, rfl⟩ dX0_fact_87

theorem zm_what5 {x : Int32} (h1 : 0 ≤ x) (h2 : x ≤ 4) : x = 0 ∨ x = 1 ∨ x = 2 ∨ x = 3 ∨ x = 4 := by
  have e0 : (0 : Int32).toInt = 0 := by decide
  have e1 : (1 : Int32).toInt = 1 := by decide
  have e2 : (2 : Int32).toInt = 2 := by decide
  have e3 : (3 : Int32).toInt = 3 := by decide
  have e4 : (4 : Int32).toInt = 4 := by decide
  rw [Int32.le_iff_toInt_le, e0] at h1
  rw [Int32.le_iff_toInt_le, e4] at h2
  rcases (show x.toInt = 0 ∨ x.toInt = 1 ∨ x.toInt = 2 ∨ x.toInt = 3 ∨ x.toInt = 4 by omega) with w | w | w | w | w
  · exact Or.inl (Int32.toInt_inj.mp (w.trans e0.symm))
  · exact Or.inr (Or.inl (Int32.toInt_inj.mp (w.trans e1.symm)))
  · exact Or.inr (Or.inr (Or.inl (Int32.toInt_inj.mp (w.trans e2.symm))))
  · exact Or.inr (Or.inr (Or.inr (Or.inl (Int32.toInt_inj.mp (w.trans e3.symm)))))
  · exact Or.inr (Or.inr (Or.inr (Or.inr (Int32.toInt_inj.mp (w.trans e4.symm)))))
theorem c_fact (l : Launch) (G : zG) (h : zH) (top : Nat) (s : zS) (rch : Nat → Int32) (ct : Int32) (be : zB) (rows : List zQ) (RI : List Nat) (vals : List (Int32 × Int32)) (J : z_DC G s rch ct be rows RI vals h top) (hvl : vals.length = rows.length) (i : Nat) (hlt : i < rows.length) (what : Int32) (h0 : 0 ≤ what) (h4 : what ≤ 4) : z_Ct l yX0_fact cX0_fact 4 (some .int) 4 G [.ref (z_b G + 11), .int (nI i), .int what] h top (z_R (some (.int (zm_factAt s rows vals i what))) h top) := by
  rcases zm_what5 h0 h4 with rfl | rfl | rfl | rfl | rfl
  · exact c_fact_0 l G h top s rch ct be rows RI vals J hvl i hlt
  · exact c_fact_1 l G h top s rch ct be rows RI vals J hvl i hlt
  · exact c_fact_2 l G h top s rch ct be rows RI vals J hvl i hlt
  · exact c_fact_3 l G h top s rch ct be rows RI vals J hvl i hlt
  · exact c_fact_4 l G h top s rch ct be rows RI vals J hvl i hlt
def zm_jnew (s : zS) (o : Option zQ) (q : zQ) : Bool := match o with
  | none => true
  | some a => !(decide ((zm_sg (s_segs s) a.1).2.2.1 = (zm_sg (s_segs s) q.1).2.1) && decide (q.2.1 - a.2.1 ≤ 120))
def zm_jrStep (s : zS) (acc : Option zQ × Int32) (q : zQ) : Option zQ × Int32 := (some q, if zm_jnew s acc.1 q = true then acc.2 + 1 else acc.2)
def zm_jcount (s : zS) (c : Nat) (rows : List zQ) : Int32 := ((rows.take c).foldl (zm_jrStep s) (none, 0)).2
def zm_bg (sg : Nat) (minute : Int32) (q : zQ) : Bool := decide (q.1 = sg) && (decide (0 < q.2.2.1) && zf_isIn (minute - q.2.1) 0 15)
def zm_begun (c : Nat) (rows : List zQ) (sg : Nat) (minute : Int32) : Bool := (rows.take c).any (zm_bg sg minute)
set_option maxRecDepth 20000 in
set_option maxHeartbeats 4000000 in
theorem f_jrN {X : zX} {G : zG} {h : zH} {top : Nat} {Post : Option Value → zH → Nat → Prop} (s : zS) (rch : Nat → Int32) (c0 : Nat) (be : zB) (rows : List zQ) (RI : List Nat) (J : z_DK G s rch (nI c0) be rows RI h top) (hcr : c0 ≤ rows.length) (i : Nat) (hic : i < c0) (cnt : Int32) (ih : ∀ (p : zPas) (cnt2 : Int32), rows[i]? = some (zm_q p) → (∃ k : Nat, (b_pool be)[k]? = some p) → cnt2 = (zm_jrStep s (none, cnt) (zm_q p)).2 → z_Z X h top 6 [(3, .int (nI (i + 1))), (2, .ref p.1), (1, .int cnt2), (0, .ref (z_b G + 11))] []) (hX : z_ok X cX0_journeyCount 5 RX0 (some .int) "journeyCount" 4 G) (hq : z_mq X (Post)) : z_Z X h top 6 [(3, .int (nI i)), (2, .null), (1, .int cnt), (0, .ref (z_b G + 11))] [] := by
  have H := J.1
  have hbk : z_at G h top (z_b G + 11) (.inr (1, [.ref (z_b G + 12), .ref (z_b G + 13), .ref (z_b G + 14), .ref (z_b G + 15), .int (b_pu be), .int (nI c0)])) := by
    have q := J.1.bk
    unfold z_bkC at q
    rw [J.2.2.2] at q
    exact q
  have hl6 := H.l6
  rw [J.len.1] at hl6
  have hl61 := hl6.1
  have h225 := J.len.2
  have hlt : i < rows.length := by omega
  obtain ⟨k9, p, hRI, hp1, hpq, hrw⟩ := J.at (List.getElem?_eq_getElem hlt)
  have hps := H.pas hp1
  obtain ⟨hx1, hx2⟩ := zm_sg_at (H.2.2.2.1.2 p (List.mem_of_getElem? hp1))
  have hxs := H.seg hx1
  rw [hx2] at hxs
  have hqi : rows[i]? = some (zm_q p) := by rw [hpq]; exact List.getElem?_eq_getElem hlt
  refine r_iload_n hX rfl 0 rfl dX0_journeyCount_6 ?_
  refine r_aload_n hX rfl 3 rfl dX0_journeyCount_7 ?_
  refine r_getf hX fl_X0_49 hbk rfl dX0_journeyCount_8 ?_
  refine r_icmp_ge (tgt := 87) hX dX0_journeyCount_11 rfl (fun c => False.elim (absurd c (nI_ge hic (by omega)))) (fun _ => ?_)
  refine r_iload_n hX rfl 0 rfl dX0_journeyCount_14 ?_
  refine r_aload_n hX rfl 3 rfl dX0_journeyCount_15 ?_
  refine r_getf hX fl_X0_21 hbk rfl dX0_journeyCount_16 ?_
  refine r_callVR (As := []) (rest := [.int (nI i)]) (rv := some (.int (nI rows.length))) (st1 := [.int (nI rows.length), .int (nI i)]) hX cs_X0_27 (by decide) (fun l => z_size hl6 l) hl61 rfl rfl rfl rfl (Nat.le_of_ble_eq_true rfl) dX0_journeyCount_19 ?_
  refine r_icmp_ge (tgt := 87) hX dX0_journeyCount_22 rfl (fun c => False.elim (absurd c (nI_ge (show i < rows.length by omega) (by omega)))) (fun _ => ?_)
  refine r_aload_n hX rfl 3 rfl dX0_journeyCount_25 ?_
  refine r_getf hX fl_X0_21 hbk rfl dX0_journeyCount_26 ?_
  refine r_iload_n hX rfl 0 rfl dX0_journeyCount_29 ?_
  refine r_callVR (As := [.int (nI i)]) (rest := []) (rv := some (.ref p.1)) (st1 := [.ref p.1]) hX cs_X0_55 (by decide) (fun l => z_get hl6 hlt hrw l) hl61 rfl rfl rfl rfl (Nat.le_of_ble_eq_true rfl) dX0_journeyCount_30 ?_
  refine r_cast (ci := 3) hX rfl hps cl_X0_89 dX0_journeyCount_33 ?_
  refine r_astore (lv' := [(4, .ref p.1), (3, .int (nI i)), (2, .null), (1, .int cnt), (0, .ref (z_b G + 11))]) hX (by decide) rfl dX0_journeyCount_36 ?_
  refine r_aload_nN hX rfl 2 rfl dX0_journeyCount_38 ?_
  refine r_ifnullN (tgt := 75) hX rfl dX0_journeyCount_39 ?_
  refine r_iinc (q := 3) (lv' := [(1, .int (cnt + 1)), (4, .ref p.1), (3, .int (nI i)), (2, .null), (0, .ref (z_b G + 11))]) hX rfl rfl (by decide) rfl dX0_journeyCount_75 ?_
  refine r_aload hX 1 rfl dX0_journeyCount_78 ?_
  refine r_astore_n (lv' := [(2, .ref p.1), (1, .int (cnt + 1)), (4, .ref p.1), (3, .int (nI i)), (0, .ref (z_b G + 11))]) hX rfl (by decide) rfl dX0_journeyCount_80 ?_
  refine r_iinc (q := 3) (lv' := [(3, .int ((nI i) + 1)), (2, .ref p.1), (1, .int (cnt + 1)), (4, .ref p.1), (0, .ref (z_b G + 11))]) hX rfl rfl (by decide) rfl dX0_journeyCount_81 ?_
  refine r_goto (tgt := 6) hX rfl dX0_journeyCount_84 ?_
  refine r_lv [0, 1, 2, 4] (lv2 := [(3, .int (nI i + 1)), (2, .ref p.1), (1, .int (cnt + 1)), (0, .ref (z_b G + 11))]) rfl ?_
  rw [nI_1]
  exact ih p _ hqi ⟨k9, hp1⟩ rfl

set_option maxRecDepth 20000 in
set_option maxHeartbeats 4000000 in
theorem f_jrS {X : zX} {G : zG} {h : zH} {top : Nat} {Post : Option Value → zH → Nat → Prop} (s : zS) (rch : Nat → Int32) (c0 : Nat) (be : zB) (rows : List zQ) (RI : List Nat) (J : z_DK G s rch (nI c0) be rows RI h top) (hcr : c0 ≤ rows.length) (i : Nat) (hic : i < c0) (cnt : Int32) (pa : zPas) (ka : Nat) (hpa : (b_pool be)[ka]? = some pa) (ih : ∀ (p : zPas) (cnt2 : Int32), rows[i]? = some (zm_q p) → (∃ k : Nat, (b_pool be)[k]? = some p) → cnt2 = (zm_jrStep s (some (zm_q pa), cnt) (zm_q p)).2 → z_Z X h top 6 [(3, .int (nI (i + 1))), (2, .ref p.1), (1, .int cnt2), (0, .ref (z_b G + 11))] []) (hX : z_ok X cX0_journeyCount 5 RX0 (some .int) "journeyCount" 4 G) (hq : z_mq X (Post)) : z_Z X h top 6 [(3, .int (nI i)), (2, .ref pa.1), (1, .int cnt), (0, .ref (z_b G + 11))] [] := by
  have H := J.1
  have hbk : z_at G h top (z_b G + 11) (.inr (1, [.ref (z_b G + 12), .ref (z_b G + 13), .ref (z_b G + 14), .ref (z_b G + 15), .int (b_pu be), .int (nI c0)])) := by
    have q := J.1.bk
    unfold z_bkC at q
    rw [J.2.2.2] at q
    exact q
  have hl6 := H.l6
  rw [J.len.1] at hl6
  have hl61 := hl6.1
  have h225 := J.len.2
  have hlt : i < rows.length := by omega
  obtain ⟨k9, p, hRI, hp1, hpq, hrw⟩ := J.at (List.getElem?_eq_getElem hlt)
  have hps := H.pas hp1
  obtain ⟨hx1, hx2⟩ := zm_sg_at (H.2.2.2.1.2 p (List.mem_of_getElem? hp1))
  have hxs := H.seg hx1
  rw [hx2] at hxs
  have hqi : rows[i]? = some (zm_q p) := by rw [hpq]; exact List.getElem?_eq_getElem hlt
  have hpsa := H.pas hpa
  obtain ⟨hy1, hy2⟩ := zm_sg_at (H.2.2.2.1.2 pa (List.mem_of_getElem? hpa))
  have hys := H.seg hy1
  rw [hy2] at hys
  refine r_iload_n hX rfl 0 rfl dX0_journeyCount_6 ?_
  refine r_aload_n hX rfl 3 rfl dX0_journeyCount_7 ?_
  refine r_getf hX fl_X0_49 hbk rfl dX0_journeyCount_8 ?_
  refine r_icmp_ge (tgt := 87) hX dX0_journeyCount_11 rfl (fun c => False.elim (absurd c (nI_ge hic (by omega)))) (fun _ => ?_)
  refine r_iload_n hX rfl 0 rfl dX0_journeyCount_14 ?_
  refine r_aload_n hX rfl 3 rfl dX0_journeyCount_15 ?_
  refine r_getf hX fl_X0_21 hbk rfl dX0_journeyCount_16 ?_
  refine r_callVR (As := []) (rest := [.int (nI i)]) (rv := some (.int (nI rows.length))) (st1 := [.int (nI rows.length), .int (nI i)]) hX cs_X0_27 (by decide) (fun l => z_size hl6 l) hl61 rfl rfl rfl rfl (Nat.le_of_ble_eq_true rfl) dX0_journeyCount_19 ?_
  refine r_icmp_ge (tgt := 87) hX dX0_journeyCount_22 rfl (fun c => False.elim (absurd c (nI_ge (show i < rows.length by omega) (by omega)))) (fun _ => ?_)
  refine r_aload_n hX rfl 3 rfl dX0_journeyCount_25 ?_
  refine r_getf hX fl_X0_21 hbk rfl dX0_journeyCount_26 ?_
  refine r_iload_n hX rfl 0 rfl dX0_journeyCount_29 ?_
  refine r_callVR (As := [.int (nI i)]) (rest := []) (rv := some (.ref p.1)) (st1 := [.ref p.1]) hX cs_X0_55 (by decide) (fun l => z_get hl6 hlt hrw l) hl61 rfl rfl rfl rfl (Nat.le_of_ble_eq_true rfl) dX0_journeyCount_30 ?_
  refine r_cast (ci := 3) hX rfl hps cl_X0_89 dX0_journeyCount_33 ?_
  refine r_astore (lv' := [(4, .ref p.1), (3, .int (nI i)), (2, .ref pa.1), (1, .int cnt), (0, .ref (z_b G + 11))]) hX (by decide) rfl dX0_journeyCount_36 ?_
  refine r_aload_n hX rfl 2 rfl dX0_journeyCount_38 ?_
  refine r_ifnull hX dX0_journeyCount_39 ?_
  refine r_aload_n hX rfl 2 rfl dX0_journeyCount_42 ?_
  refine r_getf hX fl_X0_102 hpsa rfl dX0_journeyCount_43 ?_
  refine r_getf hX fl_X0_117 hys rfl dX0_journeyCount_46 ?_
  refine r_aload hX 0 rfl dX0_journeyCount_49 ?_
  refine r_getf hX fl_X0_102 hps rfl dX0_journeyCount_51 ?_
  refine r_getf hX fl_X0_122 hxs rfl dX0_journeyCount_54 ?_
  refine r_icmp_ne (tgt := 75) hX dX0_journeyCount_57 rfl (fun c57 => ?_) (fun c57 => ?_)
  · skip
    refine r_iinc (q := 3) (lv' := [(1, .int (cnt + 1)), (4, .ref p.1), (3, .int (nI i)), (2, .ref pa.1), (0, .ref (z_b G + 11))]) hX rfl rfl (by decide) rfl dX0_journeyCount_75 ?_
    refine r_aload hX 1 rfl dX0_journeyCount_78 ?_
    refine r_astore_n (lv' := [(2, .ref p.1), (1, .int (cnt + 1)), (4, .ref p.1), (3, .int (nI i)), (0, .ref (z_b G + 11))]) hX rfl (by decide) rfl dX0_journeyCount_80 ?_
    refine r_iinc (q := 3) (lv' := [(3, .int ((nI i) + 1)), (2, .ref p.1), (1, .int (cnt + 1)), (4, .ref p.1), (0, .ref (z_b G + 11))]) hX rfl rfl (by decide) rfl dX0_journeyCount_81 ?_
    refine r_goto (tgt := 6) hX rfl dX0_journeyCount_84 ?_
    refine r_lv [0, 1, 2, 4] (lv2 := [(3, .int (nI i + 1)), (2, .ref p.1), (1, .int (cnt + 1)), (0, .ref (z_b G + 11))]) rfl ?_
    rw [nI_1]
    exact ih p _ hqi ⟨k9, hp1⟩ (Eq.symm (if_pos (by simp only [zm_jnew, Bool.not_eq_true', Bool.and_eq_false_iff, decide_eq_false_iff_not]; first | exact Or.inl c57 | exact Or.inr c72)))
  · skip
    refine r_aload hX 0 rfl dX0_journeyCount_60 ?_
    refine r_getf hX fl_X0_88 hps rfl dX0_journeyCount_62 ?_
    refine r_aload_n hX rfl 2 rfl dX0_journeyCount_65 ?_
    refine r_getf hX fl_X0_88 hpsa rfl dX0_journeyCount_66 ?_
    refine r_isub hX dX0_journeyCount_69 ?_
    refine r_bipush (v := 120) hX (by decide) dX0_journeyCount_70 ?_
    refine r_icmp_le (tgt := 78) hX dX0_journeyCount_72 rfl (fun c72 => ?_) (fun c72 => ?_)
    · skip
      refine r_aload hX 0 rfl dX0_journeyCount_78 ?_
      refine r_astore_n (lv' := [(2, .ref p.1), (4, .ref p.1), (3, .int (nI i)), (1, .int cnt), (0, .ref (z_b G + 11))]) hX rfl (by decide) rfl dX0_journeyCount_80 ?_
      refine r_iinc (q := 2) (lv' := [(3, .int ((nI i) + 1)), (2, .ref p.1), (4, .ref p.1), (1, .int cnt), (0, .ref (z_b G + 11))]) hX rfl rfl (by decide) rfl dX0_journeyCount_81 ?_
      refine r_goto (tgt := 6) hX rfl dX0_journeyCount_84 ?_
      refine r_lv [0, 1, 3, 4] (lv2 := [(3, .int (nI i + 1)), (2, .ref p.1), (1, .int cnt), (0, .ref (z_b G + 11))]) rfl ?_
      rw [nI_1]
      exact ih p _ hqi ⟨k9, hp1⟩ (Eq.symm (if_neg (by simp only [zm_jnew, Bool.not_eq_true', Bool.and_eq_false_iff, decide_eq_false_iff_not, not_or, Decidable.not_not]; exact ⟨by first | exact c57 | exact Decidable.not_not.mp c57, c72⟩)))
    · skip
      refine r_iinc (q := 3) (lv' := [(1, .int (cnt + 1)), (4, .ref p.1), (3, .int (nI i)), (2, .ref pa.1), (0, .ref (z_b G + 11))]) hX rfl rfl (by decide) rfl dX0_journeyCount_75 ?_
      refine r_aload hX 1 rfl dX0_journeyCount_78 ?_
      refine r_astore_n (lv' := [(2, .ref p.1), (1, .int (cnt + 1)), (4, .ref p.1), (3, .int (nI i)), (0, .ref (z_b G + 11))]) hX rfl (by decide) rfl dX0_journeyCount_80 ?_
      refine r_iinc (q := 3) (lv' := [(3, .int ((nI i) + 1)), (2, .ref p.1), (1, .int (cnt + 1)), (4, .ref p.1), (0, .ref (z_b G + 11))]) hX rfl rfl (by decide) rfl dX0_journeyCount_81 ?_
      refine r_goto (tgt := 6) hX rfl dX0_journeyCount_84 ?_
      refine r_lv [0, 1, 2, 4] (lv2 := [(3, .int (nI i + 1)), (2, .ref p.1), (1, .int (cnt + 1)), (0, .ref (z_b G + 11))]) rfl ?_
      rw [nI_1]
      exact ih p _ hqi ⟨k9, hp1⟩ (Eq.symm (if_pos (by simp only [zm_jnew, Bool.not_eq_true', Bool.and_eq_false_iff, decide_eq_false_iff_not]; first | exact Or.inl c57 | exact Or.inr c72)))

set_option maxRecDepth 20000 in
set_option maxHeartbeats 4000000 in
theorem f_jrNe {X : zX} {G : zG} {h : zH} {top : Nat} {Post : Option Value → zH → Nat → Prop} (s : zS) (rch : Nat → Int32) (c0 : Nat) (be : zB) (rows : List zQ) (RI : List Nat) (J : z_DK G s rch (nI c0) be rows RI h top) (hcr : c0 ≤ rows.length) (i : Nat) (hic : c0 ≤ i) (hi : i ≤ 225) (cnt : Int32) (hp : Post (some (.int cnt)) h top) (hX : z_ok X cX0_journeyCount 5 RX0 (some .int) "journeyCount" 4 G) (hq : z_mq X (Post)) : z_Z X h top 6 [(3, .int (nI i)), (2, .null), (1, .int cnt), (0, .ref (z_b G + 11))] [] := by
  have H := J.1
  have hbk : z_at G h top (z_b G + 11) (.inr (1, [.ref (z_b G + 12), .ref (z_b G + 13), .ref (z_b G + 14), .ref (z_b G + 15), .int (b_pu be), .int (nI c0)])) := by
    have q := J.1.bk
    unfold z_bkC at q
    rw [J.2.2.2] at q
    exact q
  have hl6 := H.l6
  rw [J.len.1] at hl6
  have hl61 := hl6.1
  have h225 := J.len.2
  refine r_iload_n hX rfl 0 rfl dX0_journeyCount_6 ?_
  refine r_aload_n hX rfl 3 rfl dX0_journeyCount_7 ?_
  refine r_getf hX fl_X0_49 hbk rfl dX0_journeyCount_8 ?_
  refine r_icmp_ge (tgt := 87) hX dX0_journeyCount_11 rfl (fun _ => ?_) (fun c => False.elim (c (nI_le hic (by omega))))
  refine r_iload_n hX rfl 2 rfl dX0_journeyCount_87 ?_
  exact r_iret hX hq hp dX0_journeyCount_88

set_option maxRecDepth 20000 in
set_option maxHeartbeats 4000000 in
theorem f_jrSe {X : zX} {G : zG} {h : zH} {top : Nat} {Post : Option Value → zH → Nat → Prop} (s : zS) (rch : Nat → Int32) (c0 : Nat) (be : zB) (rows : List zQ) (RI : List Nat) (J : z_DK G s rch (nI c0) be rows RI h top) (hcr : c0 ≤ rows.length) (i : Nat) (hic : c0 ≤ i) (hi : i ≤ 225) (cnt : Int32) (a : Nat) (hp : Post (some (.int cnt)) h top) (hX : z_ok X cX0_journeyCount 5 RX0 (some .int) "journeyCount" 4 G) (hq : z_mq X (Post)) : z_Z X h top 6 [(3, .int (nI i)), (2, .ref a), (1, .int cnt), (0, .ref (z_b G + 11))] [] := by
  have H := J.1
  have hbk : z_at G h top (z_b G + 11) (.inr (1, [.ref (z_b G + 12), .ref (z_b G + 13), .ref (z_b G + 14), .ref (z_b G + 15), .int (b_pu be), .int (nI c0)])) := by
    have q := J.1.bk
    unfold z_bkC at q
    rw [J.2.2.2] at q
    exact q
  have hl6 := H.l6
  rw [J.len.1] at hl6
  have hl61 := hl6.1
  have h225 := J.len.2
  refine r_iload_n hX rfl 0 rfl dX0_journeyCount_6 ?_
  refine r_aload_n hX rfl 3 rfl dX0_journeyCount_7 ?_
  refine r_getf hX fl_X0_49 hbk rfl dX0_journeyCount_8 ?_
  refine r_icmp_ge (tgt := 87) hX dX0_journeyCount_11 rfl (fun _ => ?_) (fun c => False.elim (c (nI_le hic (by omega))))
  refine r_iload_n hX rfl 2 rfl dX0_journeyCount_87 ?_
  exact r_iret hX hq hp dX0_journeyCount_88

theorem f_journeys {X : zX} {G : zG} {h : zH} {top : Nat} {Post : Option Value → zH → Nat → Prop} (s : zS) (rch : Nat → Int32) (c0 : Nat) (be : zB) (rows : List zQ) (RI : List Nat) (J : z_DK G s rch (nI c0) be rows RI h top) (hcr : c0 ≤ rows.length) (hp : ∀ {v : Int32}, v = zm_jcount s c0 rows → Post (some (.int v)) h top) (hX : z_ok X cX0_journeyCount 5 RX0 (some .int) "journeyCount" 4 G) (hq : z_mq X Post) : ∀ (k i : Nat) (o : Option zPas) (cnt : Int32), c0 - i < k → i ≤ c0 → (∀ p, o = some p → ∃ k : Nat, (b_pool be)[k]? = some p) → (o.map zm_q, cnt) = (rows.take i).foldl (zm_jrStep s) (none, 0) → z_Z X h top 6 [(3, .int (nI i)), (2, va_rf (o.map (fun x => x.1))), (1, .int cnt), (0, .ref (z_b G + 11))] [] := by
  intro k
  induction k with
  | zero => intros; omega
  | succ k ih =>
    intro i o cnt hk hi ho hf
    have h225 := J.len.2
    rcases Nat.lt_or_ge i c0 with hlt | hge
    · have hnx : ∀ (p : zPas) (cnt2 : Int32), rows[i]? = some (zm_q p) → (∃ k : Nat, (b_pool be)[k]? = some p) → cnt2 = (zm_jrStep s (o.map zm_q, cnt) (zm_q p)).2 → z_Z X h top 6 [(3, .int (nI (i + 1))), (2, .ref p.1), (1, .int cnt2), (0, .ref (z_b G + 11))] [] := fun p cnt2 w1 w2 w3 => ih (i + 1) (some p) cnt2 (by omega) (by omega) (fun p9 e => by cases e; exact w2) (by rw [zm_take _ _ _ w1, ← hf, w3]; rfl)
      cases o with
      | none => exact f_jrN s rch c0 be rows RI J hcr i hlt cnt hnx hX hq
      | some pa =>
        obtain ⟨ka, hpa⟩ := ho pa rfl
        exact f_jrS s rch c0 be rows RI J hcr i hlt cnt pa ka hpa hnx hX hq
    · have e : i = c0 := by omega
      have hpp := hp (v := cnt) (by rw [zm_jcount, ← e, ← hf])
      cases o with
      | none => exact f_jrNe s rch c0 be rows RI J hcr i hge (by omega) cnt hpp hX hq
      | some pa => exact f_jrSe s rch c0 be rows RI J hcr i hge (by omega) cnt pa.1 hpp hX hq
set_option maxRecDepth 20000 in
set_option maxHeartbeats 4000000 in
theorem c_X0_journeyCount (l : Launch) (G : zG) (h : zH) (top : Nat) (s : zS) (rch : Nat → Int32) (c0 : Nat) (be : zB) (rows : List zQ) (RI : List Nat) (J : z_DK G s rch (nI c0) be rows RI h top) (hcr : c0 ≤ rows.length) : z_Ct l yX0_journeyCount cX0_journeyCount 5 (some .int) 4 G [.ref (z_b G + 11)] h top (z_R (some (.int (zm_jcount s c0 rows))) h top) := by
  refine z_of (own := RX0) (nm := "journeyCount") (by decide) rfl rfl (by decide) (Nat.le_of_ble_eq_true rfl) (fun X hX hq => ?_)
  replace hX : z_ok X cX0_journeyCount 5 RX0 (some .int) "journeyCount" 4 G := hX
  show z_Z X h top 0 [(0, .ref (z_b G + 11))] []
  refine r_iconst (v := 0) hX (by decide) dX0_journeyCount_0 ?_
  refine r_istore_n (lv' := [(1, .int 0), (0, .ref (z_b G + 11))]) hX rfl (by decide) rfl dX0_journeyCount_1 ?_
  refine r_null hX dX0_journeyCount_2 ?_
  refine r_astore_nN (lv' := [(2, .null), (1, .int 0), (0, .ref (z_b G + 11))]) hX rfl (by decide) rfl dX0_journeyCount_3 ?_
  refine r_iconst (v := 0) hX (by decide) dX0_journeyCount_4 ?_
  refine r_istore_n (lv' := [(3, .int 0), (2, .null), (1, .int 0), (0, .ref (z_b G + 11))]) hX rfl (by decide) rfl dX0_journeyCount_5 ?_
  rw [← nI_0]
  refine r_lv [0, 1, 2, 3] (lv2 := [(3, .int (nI 0)), (2, .null), (1, .int (nI 0)), (0, .ref (z_b G + 11))]) rfl ?_
  exact f_journeys s rch c0 be rows RI J hcr (fun e => ⟨by rw [e], rfl, rfl⟩) hX hq (c0 + 1) 0 none (nI 0) (by omega) (by omega) (fun p9 e => by cases e) (by rw [nI_0]; rfl)

set_option maxRecDepth 20000 in
set_option maxHeartbeats 4000000 in
theorem f_bg_step {X : zX} {G : zG} {h : zH} {top : Nat} {Post : Option Value → zH → Nat → Prop} (s : zS) (rch : Nat → Int32) (c0 : Nat) (be : zB) (rows : List zQ) (RI : List Nat) (J : z_DK G s rch (nI c0) be rows RI h top) (hcr : c0 ≤ rows.length) (sg : Nat) (minute : Int32) (hp : ∀ {v : Int32}, v = zf_b (zm_begun c0 rows sg minute) → Post (some (.int v)) h top) (k i : Nat)  (hk : c0 - i < k + 1) (hi : i ≤ c0) (hinv : ∀ (j : Nat) (q : zQ), j < i → rows[j]? = some q → zm_bg sg minute q = false) (ih : ∀ (i : Nat) , c0 - i < k → i ≤ c0 → (∀ (j : Nat) (q : zQ), j < i → rows[j]? = some q → zm_bg sg minute q = false) → z_Z X h top 2 [(3, .int (nI i)), (0, .ref (z_b G + 11)), (1, .ref sg), (2, .int minute)] []) (hX : z_ok X cX0_hasBegun 5 RX0 (some .boolean) "hasBegun" 4 G) (hq : z_mq X (Post)) : z_Z X h top 2 [(3, .int (nI i)), (0, .ref (z_b G + 11)), (1, .ref sg), (2, .int minute)] [] := by
  have H := J.1
  have hbk : z_at G h top (z_b G + 11) (.inr (1, [.ref (z_b G + 12), .ref (z_b G + 13), .ref (z_b G + 14), .ref (z_b G + 15), .int (b_pu be), .int (nI c0)])) := by
    have q := J.1.bk
    unfold z_bkC at q
    rw [J.2.2.2] at q
    exact q
  have hl6 := H.l6
  rw [J.len.1] at hl6
  have hl61 := hl6.1
  have h225 := J.len.2
  refine r_iload_n hX rfl 0 rfl dX0_hasBegun_2 ?_
  refine r_aload_n hX rfl 1 rfl dX0_hasBegun_3 ?_
  refine r_getf hX fl_X0_49 hbk rfl dX0_hasBegun_4 ?_
  refine r_icmp_ge (tgt := 75) hX dX0_hasBegun_7 rfl (fun c7 => ?_) (fun c7 => ?_)
  · skip
    refine r_iconst (v := 0) hX (by decide) dX0_hasBegun_75 ?_
    exact r_zret hX hq (by decide) (hp (by
        rw [zm_begun, List.any_eq_false.mpr (fun q hq2 => ?_)]
        · rfl
        · obtain ⟨j, hj⟩ := List.getElem?_of_mem hq2
          have hjl := (List.getElem?_eq_some_iff.mp hj).1
          rw [List.length_take] at hjl
          have hjc : j < c0 := by omega
          rw [List.getElem?_take_of_lt hjc] at hj
          have hci : c0 ≤ i := (nI_leI (by omega) (by omega)).mp c7
          rw [hinv j q (by omega) hj]
          decide)) dX0_hasBegun_76
  · skip
    have hic : i < c0 := by
      rcases Nat.lt_or_ge i c0 with q | q
      · exact q
      · exact absurd (nI_le q (by omega)) c7
    have hlt : i < rows.length := by omega
    obtain ⟨k9, p, hRI, hp1, hpq, hrw⟩ := J.at (List.getElem?_eq_getElem hlt)
    have hps := H.pas hp1
    obtain ⟨hx1, hx2⟩ := zm_sg_at (H.2.2.2.1.2 p (List.mem_of_getElem? hp1))
    have hxs := H.seg hx1
    rw [hx2] at hxs
    have hqi : rows[i]? = some (zm_q p) := by rw [hpq]; exact List.getElem?_eq_getElem hlt
    refine r_iload_n hX rfl 0 rfl dX0_hasBegun_10 ?_
    refine r_aload_n hX rfl 1 rfl dX0_hasBegun_11 ?_
    refine r_getf hX fl_X0_21 hbk rfl dX0_hasBegun_12 ?_
    refine r_callVR (As := []) (rest := [.int (nI i)]) (rv := some (.int (nI rows.length))) (st1 := [.int (nI rows.length), .int (nI i)]) hX cs_X0_27 (by decide) (fun l => z_size hl6 l) hl61 rfl rfl rfl rfl (Nat.le_of_ble_eq_true rfl) dX0_hasBegun_15 ?_
    refine r_icmp_ge (tgt := 75) hX dX0_hasBegun_18 rfl (fun c => False.elim (absurd c (nI_ge hlt (by omega)))) (fun _ => ?_)
    refine r_aload_n hX rfl 1 rfl dX0_hasBegun_21 ?_
    refine r_getf hX fl_X0_21 hbk rfl dX0_hasBegun_22 ?_
    refine r_iload_n hX rfl 0 rfl dX0_hasBegun_25 ?_
    refine r_callVR (As := [.int (nI i)]) (rest := []) (rv := some (.ref p.1)) (st1 := [.ref p.1]) hX cs_X0_55 (by decide) (fun l => z_get hl6 hlt hrw l) hl61 rfl rfl rfl rfl (Nat.le_of_ble_eq_true rfl) dX0_hasBegun_26 ?_
    refine r_cast (ci := 3) hX rfl hps cl_X0_89 dX0_hasBegun_29 ?_
    refine r_astore (lv' := [(4, .ref p.1), (3, .int (nI i)), (0, .ref (z_b G + 11)), (1, .ref sg), (2, .int minute)]) hX (by decide) rfl dX0_hasBegun_32 ?_
    refine r_aload hX 0 rfl dX0_hasBegun_34 ?_
    refine r_getf hX fl_X0_102 hps rfl dX0_hasBegun_36 ?_
    refine r_aload_n hX rfl 3 rfl dX0_hasBegun_39 ?_
    refine r_acmp_ne (tgt := 69) hX dX0_hasBegun_40 rfl (fun c40 => ?_) (fun c40 => ?_)
    · skip
      refine r_iinc (q := 1) (lv' := [(3, .int ((nI i) + 1)), (4, .ref p.1), (0, .ref (z_b G + 11)), (1, .ref sg), (2, .int minute)]) hX rfl rfl (by decide) rfl dX0_hasBegun_69 ?_
      refine r_goto (tgt := 2) hX rfl dX0_hasBegun_72 ?_
      refine r_lv [0, 2, 3, 4] (lv2 := [(3, .int (nI i + 1)), (0, .ref (z_b G + 11)), (1, .ref sg), (2, .int minute)]) rfl ?_
      rw [nI_1]
      exact ih (i + 1) (by omega) (by omega) (fun j q hj hq2 => by
        rcases Nat.lt_or_ge j i with v | v
        · exact hinv j q v hq2
        · obtain rfl : j = i := by omega
          rw [hqi] at hq2
          cases hq2
          simp only [zm_bg, Bool.and_eq_false_iff, decide_eq_false_iff_not]; exact Or.inl c40)
    · skip
      refine r_aload hX 0 rfl dX0_hasBegun_43 ?_
      refine r_getf hX fl_X0_164 hps rfl dX0_hasBegun_45 ?_
      refine r_if_le (tgt := 69) hX dX0_hasBegun_48 rfl (fun c48 => ?_) (fun c48 => ?_)
      · skip
        refine r_iinc (q := 1) (lv' := [(3, .int ((nI i) + 1)), (4, .ref p.1), (0, .ref (z_b G + 11)), (1, .ref sg), (2, .int minute)]) hX rfl rfl (by decide) rfl dX0_hasBegun_69 ?_
        refine r_goto (tgt := 2) hX rfl dX0_hasBegun_72 ?_
        refine r_lv [0, 2, 3, 4] (lv2 := [(3, .int (nI i + 1)), (0, .ref (z_b G + 11)), (1, .ref sg), (2, .int minute)]) rfl ?_
        rw [nI_1]
        exact ih (i + 1) (by omega) (by omega) (fun j q hj hq2 => by
          rcases Nat.lt_or_ge j i with v | v
          · exact hinv j q v hq2
          · obtain rfl : j = i := by omega
            rw [hqi] at hq2
            cases hq2
            simp only [zm_bg, Bool.and_eq_false_iff, decide_eq_false_iff_not]; exact Or.inr (Or.inl (Int32.not_lt.mpr c48)))
      · skip
        refine r_iload_n hX rfl 4 rfl dX0_hasBegun_51 ?_
        refine r_aload hX 0 rfl dX0_hasBegun_52 ?_
        refine r_getf hX fl_X0_88 hps rfl dX0_hasBegun_54 ?_
        refine r_isub hX dX0_hasBegun_57 ?_
        refine r_iconst (v := 0) hX (by decide) dX0_hasBegun_58 ?_
        refine r_bipush (v := 15) hX (by decide) dX0_hasBegun_59 ?_
        refine r_callSNR (As := [.int (minute - p.2.2.1), .int 0, .int 15]) (rest := []) (rv := some (.int (zf_b (zf_isIn (minute - p.2.2.1) 0 15)))) (st1 := [.int (zf_b (zf_isIn (minute - p.2.2.1) 0 15))]) hX cs_X0_167 (by decide) (fun l => c_X8_isIn l G h top (minute - p.2.2.1) 0 15) rfl rfl rfl (Nat.le_of_ble_eq_true rfl) dX0_hasBegun_61 ?_
        refine r_if_eq (tgt := 69) hX dX0_hasBegun_64 rfl (fun c64 => ?_) (fun c64 => ?_)
        · skip
          refine r_iinc (q := 1) (lv' := [(3, .int ((nI i) + 1)), (4, .ref p.1), (0, .ref (z_b G + 11)), (1, .ref sg), (2, .int minute)]) hX rfl rfl (by decide) rfl dX0_hasBegun_69 ?_
          refine r_goto (tgt := 2) hX rfl dX0_hasBegun_72 ?_
          refine r_lv [0, 2, 3, 4] (lv2 := [(3, .int (nI i + 1)), (0, .ref (z_b G + 11)), (1, .ref sg), (2, .int minute)]) rfl ?_
          rw [nI_1]
          exact ih (i + 1) (by omega) (by omega) (fun j q hj hq2 => by
            rcases Nat.lt_or_ge j i with v | v
            · exact hinv j q v hq2
            · obtain rfl : j = i := by omega
              rw [hqi] at hq2
              cases hq2
              simp only [zm_bg, Bool.and_eq_false_iff, decide_eq_false_iff_not]; exact Or.inr (Or.inr (zf_b_e c64)))
        · skip
          refine r_iconst (v := 1) hX (by decide) dX0_hasBegun_67 ?_
          exact r_zret hX hq (by decide) (hp (by rw [zm_begun, List.any_eq_true.mpr ⟨zm_q p, List.mem_of_getElem? (by rw [List.getElem?_take_of_lt hic]; exact hqi), by simp only [zm_bg, Bool.and_eq_true, decide_eq_true_eq]; exact ⟨by first | exact c40 | exact Decidable.not_not.mp c40, Int32.not_le.mp c48, zf_b_ne c64⟩⟩]; rfl)) dX0_hasBegun_68

theorem f_bg {X : zX} {G : zG} {h : zH} {top : Nat} {Post : Option Value → zH → Nat → Prop} (s : zS) (rch : Nat → Int32) (c0 : Nat) (be : zB) (rows : List zQ) (RI : List Nat) (J : z_DK G s rch (nI c0) be rows RI h top) (hcr : c0 ≤ rows.length) (sg : Nat) (minute : Int32) (hp : ∀ {v : Int32}, v = zf_b (zm_begun c0 rows sg minute) → Post (some (.int v)) h top) (hX : z_ok X cX0_hasBegun 5 RX0 (some .boolean) "hasBegun" 4 G) (hq : z_mq X Post) : ∀ (k i : Nat) , c0 - i < k → i ≤ c0 → (∀ (j : Nat) (q : zQ), j < i → rows[j]? = some q → zm_bg sg minute q = false) → z_Z X h top 2 [(3, .int (nI i)), (0, .ref (z_b G + 11)), (1, .ref sg), (2, .int minute)] [] := by
  intro k
  induction k with
  | zero => intros; omega
  | succ k ih => intro i  hk hi hinv; exact f_bg_step s rch c0 be rows RI J hcr sg minute hp k i  hk hi hinv ih hX hq
set_option maxRecDepth 20000 in
set_option maxHeartbeats 4000000 in
theorem c_X0_hasBegun (l : Launch) (G : zG) (h : zH) (top : Nat) (s : zS) (rch : Nat → Int32) (c0 : Nat) (be : zB) (rows : List zQ) (RI : List Nat) (J : z_DK G s rch (nI c0) be rows RI h top) (hcr : c0 ≤ rows.length) (sg : Nat) (minute : Int32) : z_Ct l yX0_hasBegun cX0_hasBegun 5 (some .boolean) 4 G [.ref (z_b G + 11), .ref sg, .int minute] h top (z_R (some (.int (zf_b (zm_begun c0 rows sg minute)))) h top) := by
  refine z_of (own := RX0) (nm := "hasBegun") (by decide) rfl rfl (by decide) (Nat.le_of_ble_eq_true rfl) (fun X hX hq => ?_)
  replace hX : z_ok X cX0_hasBegun 5 RX0 (some .boolean) "hasBegun" 4 G := hX
  show z_Z X h top 0 [(0, .ref (z_b G + 11)), (1, .ref sg), (2, .int minute)] []
  refine r_iconst (v := 0) hX (by decide) dX0_hasBegun_0 ?_
  refine r_istore_n (lv' := [(3, .int 0), (0, .ref (z_b G + 11)), (1, .ref sg), (2, .int minute)]) hX rfl (by decide) rfl dX0_hasBegun_1 ?_
  rw [← nI_0]
  refine r_lv [0, 1, 2, 3] (lv2 := [(3, .int (nI 0)), (0, .ref (z_b G + 11)), (1, .ref sg), (2, .int minute)]) rfl ?_
  exact f_bg s rch c0 be rows RI J hcr sg minute (fun e => ⟨by rw [e], rfl, rfl⟩) hX hq (c0 + 1) 0 (by omega) (by omega) (fun j q hj => by omega)
end
section
/-! setters -/
section ST
variable {G : zG} {s : zS} {be : zB} {h : zH} {top : Nat}
abbrev zI7 : Type := Int32 × Int32 × Int32 × Int32 × Int32 × Int32 × Int32
abbrev zL6 : Type := (Nat → Int32) × (Nat → Int32) × (Nat → Int32) × Int32 × Int32 × Int32
theorem z_St.set0 (H : z_St G s be h top) (i7 : zI7) (l6 : zL6) (f : Nat → Int32) (i0 : Nat) {a : Nat} {e e0 : va_E} (hk : z_ct G s be 0 i0 = some (a, e0)) (hk2 : z_ct G (i7, l6, s.2.2) (f, be.2) 0 i0 = some (a, e)) (hc : ∀ i, i ≠ i0 → z_ct G (i7, l6, s.2.2) (f, be.2) 0 i = z_ct G s be 0 i) : z_St G (i7, l6, s.2.2) (f, be.2) (va_up h a e) top := by
  refine H.obj 0 i0 (e0 := e0) hk hk2 (fun k' i' hne => ?_) (fun j hj => ?_) rfl H.2.2.2.1
  · match k' with
    | 0 => exact hc i' (fun z => hne ⟨rfl, z⟩)
    | 1 => exact z_ct_ls (fun j hj => by rcases (show j = 0 ∨ j = 1 ∨ j = 2 ∨ j = 3 ∨ j = 4 ∨ j = 5 ∨ j = 6 ∨ j = 7 by omega) with rfl | rfl | rfl | rfl | rfl | rfl | rfl | rfl <;> rfl) rfl 1 (Or.inl rfl) i'
    | 2 => exact z_ct_ls (fun j hj => by rcases (show j = 0 ∨ j = 1 ∨ j = 2 ∨ j = 3 ∨ j = 4 ∨ j = 5 ∨ j = 6 ∨ j = 7 by omega) with rfl | rfl | rfl | rfl | rfl | rfl | rfl | rfl <;> rfl) rfl 2 (Or.inr rfl) i'
    | 3 => rfl
    | 4 => rfl
    | 5 => rfl
    | 6 => rfl
    | 7 => rfl
    | k + 8 => rw [z_ct8 _ _ _ _ _ (by omega), z_ct8 _ _ _ _ _ (by omega)]
  · rcases (show j = 0 ∨ j = 1 ∨ j = 2 ∨ j = 3 ∨ j = 4 ∨ j = 5 ∨ j = 6 ∨ j = 7 by omega) with rfl | rfl | rfl | rfl | rfl | rfl | rfl | rfl <;> rfl
theorem z_St.setHall (H : z_St G s be h top) (i7 : zI7) : z_St G (i7, s.2) be (va_up h (z_b G) (z_hallC (z_b G) (i7, s.2))) top := by
  refine H.set0 i7 s.2.1 be.1 0 rfl rfl (fun i hi => ?_)
  match i with
  | 0 => exact absurd rfl hi
  | 1 => rfl
  | 2 => rfl
  | 3 => rfl
  | 4 => rfl
  | 5 => rfl
  | 6 => rfl
  | 7 => rfl
  | 8 => rfl
  | i + 9 => rfl
theorem z_St.setLg (H : z_St G s be h top) (a b c : Int32) : z_St G (s.1, (s_coins s, s_caps s, s_paid s, a, b, c), s.2.2) be (va_up h (z_b G + 7) (.inr (2, [.ref (z_b G + 8), .ref (z_b G + 9), .ref (z_b G + 10), .int a, .int b, .int c]))) top := by
  refine H.set0 s.1 (s_coins s, s_caps s, s_paid s, a, b, c) be.1 2 rfl rfl (fun i hi => ?_)
  match i with
  | 0 => rfl
  | 1 => rfl
  | 2 => exact absurd rfl hi
  | 3 => rfl
  | 4 => rfl
  | 5 => rfl
  | 6 => rfl
  | 7 => rfl
  | 8 => rfl
  | i + 9 => rfl
theorem z_St.setCoins (H : z_St G s be h top) (f : Nat → Int32) : z_St G (s.1, (f, s_caps s, s_paid s, s_hall s, s_taken s, s_gb s), s.2.2) be (va_up h (z_b G + 8) (.inl (z_aI G, 4, .inl f))) top := by
  refine H.set0 s.1 (f, s_caps s, s_paid s, s_hall s, s_taken s, s_gb s) be.1 4 rfl rfl (fun i hi => ?_)
  match i with
  | 0 => rfl
  | 1 => rfl
  | 2 => rfl
  | 3 => rfl
  | 4 => exact absurd rfl hi
  | 5 => rfl
  | 6 => rfl
  | 7 => rfl
  | 8 => rfl
  | i + 9 => rfl
theorem z_St.setCaps (H : z_St G s be h top) (f : Nat → Int32) : z_St G (s.1, (s_coins s, f, s_paid s, s_hall s, s_taken s, s_gb s), s.2.2) be (va_up h (z_b G + 9) (.inl (z_aI G, 41, .inl f))) top := by
  refine H.set0 s.1 (s_coins s, f, s_paid s, s_hall s, s_taken s, s_gb s) be.1 5 rfl rfl (fun i hi => ?_)
  match i with
  | 0 => rfl
  | 1 => rfl
  | 2 => rfl
  | 3 => rfl
  | 4 => rfl
  | 5 => exact absurd rfl hi
  | 6 => rfl
  | 7 => rfl
  | 8 => rfl
  | i + 9 => rfl
theorem z_St.setPaid (H : z_St G s be h top) (f : Nat → Int32) : z_St G (s.1, (s_coins s, s_caps s, f, s_hall s, s_taken s, s_gb s), s.2.2) be (va_up h (z_b G + 10) (.inl (z_aI G, 1312, .inl f))) top := by
  refine H.set0 s.1 (s_coins s, s_caps s, f, s_hall s, s_taken s, s_gb s) be.1 6 rfl rfl (fun i hi => ?_)
  match i with
  | 0 => rfl
  | 1 => rfl
  | 2 => rfl
  | 3 => rfl
  | 4 => rfl
  | 5 => rfl
  | 6 => exact absurd rfl hi
  | 7 => rfl
  | 8 => rfl
  | i + 9 => rfl
theorem z_St.setRch (H : z_St G s be h top) (f : Nat → Int32) : z_St G s (f, be.2) (va_up h (z_b G + 16) (.inl (z_aI G, 8, .inl f))) top := by
  refine H.set0 s.1 s.2.1 f 7 rfl rfl (fun i hi => ?_)
  match i with
  | 0 => rfl
  | 1 => rfl
  | 2 => rfl
  | 3 => rfl
  | 4 => rfl
  | 5 => rfl
  | 6 => rfl
  | 7 => exact absurd rfl hi
  | 8 => rfl
  | i + 9 => rfl
def zs_vehs (s : zS) (l : List zVeh) : zS := (s.1, s.2.1, s_segs s, l, s_tars s, s_sgts s)
theorem z_St.setVeh (H : z_St G s be h top) {i : Nat} {p p2 : zVeh} (hp : (s_vehs s)[i]? = some p) (ha : p2.1 = p.1) : z_St G (zs_vehs s ((s_vehs s).set i p2)) be (va_up h p.1 (z_vehC i p2)) top := by
  have hi : i < (s_vehs s).length := (List.getElem?_eq_some_iff.mp hp).1
  refine H.obj 4 i (e0 := z_vehC i p) (by rw [z_ct4, hp]; rfl) ?_ (fun k' i' hne => ?_) (fun j hj => ?_) rfl ?_
  · rw [z_ct4]
    show (((s_vehs s).set i p2)[i]?).map _ = _
    rw [List.getElem?_set_self hi]
    simp [ha]
  · match k' with
    | 0 => match i' with
      | 0 => rfl
      | 1 => rfl
      | 2 => rfl
      | 3 => rfl
      | 4 => rfl
      | 5 => rfl
      | 6 => rfl
      | 7 => rfl
      | 8 => rfl
      | i' + 9 => rfl
    | 1 => exact z_ct_ls (fun j hj => by rcases (show j = 0 ∨ j = 1 ∨ j = 2 ∨ j = 3 ∨ j = 4 ∨ j = 5 ∨ j = 6 ∨ j = 7 by omega) with rfl | rfl | rfl | rfl | rfl | rfl | rfl | rfl <;> first | rfl | exact z_map_set hp ha) rfl 1 (Or.inl rfl) i'
    | 2 => exact z_ct_ls (fun j hj => by rcases (show j = 0 ∨ j = 1 ∨ j = 2 ∨ j = 3 ∨ j = 4 ∨ j = 5 ∨ j = 6 ∨ j = 7 by omega) with rfl | rfl | rfl | rfl | rfl | rfl | rfl | rfl <;> first | rfl | exact z_map_set hp ha) rfl 2 (Or.inr rfl) i'
    | 3 => rfl
    | 4 =>
      rw [z_ct4, z_ct4]
      show (((s_vehs s).set i p2)[i']?).map _ = _
      rw [List.getElem?_set_ne (fun z => hne ⟨rfl, z.symm⟩)]
    | 5 => rfl
    | 6 => rfl
    | 7 => rfl
    | k + 8 => rw [z_ct8 _ _ _ _ _ (by omega), z_ct8 _ _ _ _ _ (by omega)]
  · rcases (show j = 0 ∨ j = 1 ∨ j = 2 ∨ j = 3 ∨ j = 4 ∨ j = 5 ∨ j = 6 ∨ j = 7 by omega) with rfl | rfl | rfl | rfl | rfl | rfl | rfl | rfl <;> first | rfl | exact z_map_set hp ha
  · refine ⟨fun y hy => ⟨?_, (H.2.2.2.1.1 y hy).2⟩, H.2.2.2.1.2⟩
    obtain ⟨n, v, h1, h2⟩ := (H.2.2.2.1.1 y hy).1
    by_cases e : i = n
    · subst e
      rw [hp] at h1
      cases h1
      exact ⟨i, p2, List.getElem?_set_self hi, ha.trans h2⟩
    · exact ⟨n, v, by show ((s_vehs s).set i p2)[n]? = _; rw [List.getElem?_set_ne e]; exact h1, h2⟩
def zs_sgts (s : zS) (l : List zSgt) : zS := (s.1, s.2.1, s_segs s, s_vehs s, s_tars s, l)
theorem z_St.setSgt (H : z_St G s be h top) {i : Nat} {p p2 : zSgt} (hp : (s_sgts s)[i]? = some p) (ha : p2.1 = p.1) (hs : p2.2.1 = p.2.1) : z_St G (zs_sgts s ((s_sgts s).set i p2)) be (va_up h p.1 (z_sgtC p2)) top := by
  have hi : i < (s_sgts s).length := (List.getElem?_eq_some_iff.mp hp).1
  refine H.obj 6 i (e0 := z_sgtC p) (by rw [z_ct6, hp]; rfl) ?_ (fun k' i' hne => ?_) (fun j hj => ?_) rfl ?_
  · rw [z_ct6]
    show (((s_sgts s).set i p2)[i]?).map _ = _
    rw [List.getElem?_set_self hi]
    simp [ha]
  · match k' with
    | 0 => match i' with
      | 0 => rfl
      | 1 => rfl
      | 2 => rfl
      | 3 => rfl
      | 4 => rfl
      | 5 => rfl
      | 6 => rfl
      | 7 => rfl
      | 8 => rfl
      | i' + 9 => rfl
    | 1 => exact z_ct_ls (fun j hj => by rcases (show j = 0 ∨ j = 1 ∨ j = 2 ∨ j = 3 ∨ j = 4 ∨ j = 5 ∨ j = 6 ∨ j = 7 by omega) with rfl | rfl | rfl | rfl | rfl | rfl | rfl | rfl <;> first | rfl | exact z_map_set hp ha) rfl 1 (Or.inl rfl) i'
    | 2 => exact z_ct_ls (fun j hj => by rcases (show j = 0 ∨ j = 1 ∨ j = 2 ∨ j = 3 ∨ j = 4 ∨ j = 5 ∨ j = 6 ∨ j = 7 by omega) with rfl | rfl | rfl | rfl | rfl | rfl | rfl | rfl <;> first | rfl | exact z_map_set hp ha) rfl 2 (Or.inr rfl) i'
    | 3 => rfl
    | 4 => rfl
    | 5 => rfl
    | 6 =>
      rw [z_ct6, z_ct6]
      show (((s_sgts s).set i p2)[i']?).map _ = _
      rw [List.getElem?_set_ne (fun z => hne ⟨rfl, z.symm⟩)]
    | 7 => rfl
    | k + 8 => rw [z_ct8 _ _ _ _ _ (by omega), z_ct8 _ _ _ _ _ (by omega)]
  · rcases (show j = 0 ∨ j = 1 ∨ j = 2 ∨ j = 3 ∨ j = 4 ∨ j = 5 ∨ j = 6 ∨ j = 7 by omega) with rfl | rfl | rfl | rfl | rfl | rfl | rfl | rfl <;> first | rfl | exact z_map_set hp ha
  · refine ⟨fun y hy => ?_, H.2.2.2.1.2⟩
    rcases List.mem_or_eq_of_mem_set hy with w | w
    · exact H.2.2.2.1.1 y w
    · rw [w, hs]; exact H.2.2.2.1.1 p (List.mem_of_getElem? hp)
end ST
end
