-- ===== PART A: goes FIRST, ahead of the names: the tables' words, and 'selects' of the private methods out of them =====
/-- a private method of a class that the tables say can be made, by its rows of tables_1 -/
def lw_okq (q : MethodName × Nat) : Prop := (q.1.cls ≠ "java/lang/invoke/MethodHandle" ∧ q.1.cls ≠ "java/lang/invoke/VarHandle") ∧ Cond.instantiable q.1.cls q.2 ∈ tables_1 ∧ Cond.privateMethod q.1 ∈ tables_1 ∧ Cond.instanceMethod q.1 ∈ tables_1
theorem lw_p0 : lw_okq (⟨"ThirstRow$Reader", "take", "(II)I"⟩, 1) := ⟨⟨by decide +kernel, by decide +kernel⟩, List.mem_of_getElem? (i := 42) (by decide +kernel), List.mem_of_getElem? (i := 381) (by decide +kernel), List.mem_of_getElem? (i := 382) (by decide +kernel)⟩
theorem lw_p1 : lw_okq (⟨"ThirstRow$Reader", "takePart", "(I)I"⟩, 1) := ⟨⟨by decide +kernel, by decide +kernel⟩, List.mem_of_getElem? (i := 42) (by decide +kernel), List.mem_of_getElem? (i := 385) (by decide +kernel), List.mem_of_getElem? (i := 386) (by decide +kernel)⟩
theorem lw_p2 : lw_okq (⟨"ThirstRow$Reader", "takeFigure", "(III)I"⟩, 1) := ⟨⟨by decide +kernel, by decide +kernel⟩, List.mem_of_getElem? (i := 42) (by decide +kernel), List.mem_of_getElem? (i := 389) (by decide +kernel), List.mem_of_getElem? (i := 390) (by decide +kernel)⟩
theorem lw_p3 : lw_okq (⟨"ThirstRow", "isHouse", "(I)Z"⟩, 11) := ⟨⟨by decide +kernel, by decide +kernel⟩, List.mem_of_getElem? (i := 17) (by decide +kernel), List.mem_of_getElem? (i := 421) (by decide +kernel), List.mem_of_getElem? (i := 422) (by decide +kernel)⟩
theorem lw_p4 : lw_okq (⟨"ThirstRow$Today", "serve", "(IIII)V"⟩, 7) := ⟨⟨by decide +kernel, by decide +kernel⟩, List.mem_of_getElem? (i := 213) (by decide +kernel), List.mem_of_getElem? (i := 468) (by decide +kernel), List.mem_of_getElem? (i := 469) (by decide +kernel)⟩
theorem lw_p5 : lw_okq (⟨"ThirstRow$Outlook", "figures", "(I)I"⟩, 5) := ⟨⟨by decide +kernel, by decide +kernel⟩, List.mem_of_getElem? (i := 251) (by decide +kernel), List.mem_of_getElem? (i := 560) (by decide +kernel), List.mem_of_getElem? (i := 561) (by decide +kernel)⟩
theorem lw_p6 : lw_okq (⟨"ThirstRow$Outlook", "toNextOrder", "(I)Z"⟩, 5) := ⟨⟨by decide +kernel, by decide +kernel⟩, List.mem_of_getElem? (i := 251) (by decide +kernel), List.mem_of_getElem? (i := 564) (by decide +kernel), List.mem_of_getElem? (i := 565) (by decide +kernel)⟩
theorem lw_p7 : lw_okq (⟨"ThirstRow$Outlook", "canBe", "(LThirstRow$Told;III)Z"⟩, 5) := ⟨⟨by decide +kernel, by decide +kernel⟩, List.mem_of_getElem? (i := 251) (by decide +kernel), List.mem_of_getElem? (i := 613) (by decide +kernel), List.mem_of_getElem? (i := 614) (by decide +kernel)⟩
theorem lw_p8 : lw_okq (⟨"ThirstRow$Outlook", "lackOf", "(LThirstRow$Told;I)I"⟩, 5) := ⟨⟨by decide +kernel, by decide +kernel⟩, List.mem_of_getElem? (i := 251) (by decide +kernel), List.mem_of_getElem? (i := 618) (by decide +kernel), List.mem_of_getElem? (i := 619) (by decide +kernel)⟩
theorem lw_p9 : lw_okq (⟨"ThirstRow$Outlook", "carryOut", "(LThirstRow$Told;III)V"⟩, 5) := ⟨⟨by decide +kernel, by decide +kernel⟩, List.mem_of_getElem? (i := 251) (by decide +kernel), List.mem_of_getElem? (i := 622) (by decide +kernel), List.mem_of_getElem? (i := 623) (by decide +kernel)⟩
theorem lw_p10 : lw_okq (⟨"ThirstRow$Seen", "agrees", "(II)Z"⟩, 4) := ⟨⟨by decide +kernel, by decide +kernel⟩, List.mem_of_getElem? (i := 193) (by decide +kernel), List.mem_of_getElem? (i := 655) (by decide +kernel), List.mem_of_getElem? (i := 656) (by decide +kernel)⟩
theorem lw_p11 : lw_okq (⟨"ThirstRow$Chances", "drawnBy", "(LThirstRow$Told;LThirstRow$Standing;I)I"⟩, 7) := ⟨⟨by decide +kernel, by decide +kernel⟩, List.mem_of_getElem? (i := 281) (by decide +kernel), List.mem_of_getElem? (i := 669) (by decide +kernel), List.mem_of_getElem? (i := 670) (by decide +kernel)⟩
theorem lw_p12 : lw_okq (⟨"ThirstRow$Chances", "has", "(I)I"⟩, 7) := ⟨⟨by decide +kernel, by decide +kernel⟩, List.mem_of_getElem? (i := 281) (by decide +kernel), List.mem_of_getElem? (i := 698) (by decide +kernel), List.mem_of_getElem? (i := 699) (by decide +kernel)⟩
theorem lw_p13 : lw_okq (⟨"ThirstRow$Chances", "happen", "(LThirstRow$Told;I)I"⟩, 7) := ⟨⟨by decide +kernel, by decide +kernel⟩, List.mem_of_getElem? (i := 281) (by decide +kernel), List.mem_of_getElem? (i := 738) (by decide +kernel), List.mem_of_getElem? (i := 739) (by decide +kernel)⟩
theorem lw_p14 : lw_okq (⟨"ThirstRow", "lackingToday", "()I"⟩, 11) := ⟨⟨by decide +kernel, by decide +kernel⟩, List.mem_of_getElem? (i := 17) (by decide +kernel), List.mem_of_getElem? (i := 767) (by decide +kernel), List.mem_of_getElem? (i := 768) (by decide +kernel)⟩
theorem lw_p15 : lw_okq (⟨"ThirstRowModel", "readText", "()I"⟩, 30) := ⟨⟨by decide +kernel, by decide +kernel⟩, List.mem_of_getElem? (i := 771) (by decide +kernel), List.mem_of_getElem? (i := 885) (by decide +kernel), List.mem_of_getElem? (i := 886) (by decide +kernel)⟩
def lw_privs_1 : List (MethodName × Nat) := [(⟨"ThirstRow$Reader", "take", "(II)I"⟩, 1), (⟨"ThirstRow$Reader", "takePart", "(I)I"⟩, 1), (⟨"ThirstRow$Reader", "takeFigure", "(III)I"⟩, 1), (⟨"ThirstRow", "isHouse", "(I)Z"⟩, 11), (⟨"ThirstRow$Today", "serve", "(IIII)V"⟩, 7), (⟨"ThirstRow$Outlook", "figures", "(I)I"⟩, 5), (⟨"ThirstRow$Outlook", "toNextOrder", "(I)Z"⟩, 5), (⟨"ThirstRow$Outlook", "canBe", "(LThirstRow$Told;III)Z"⟩, 5), (⟨"ThirstRow$Outlook", "lackOf", "(LThirstRow$Told;I)I"⟩, 5), (⟨"ThirstRow$Outlook", "carryOut", "(LThirstRow$Told;III)V"⟩, 5), (⟨"ThirstRow$Seen", "agrees", "(II)Z"⟩, 4), (⟨"ThirstRow$Chances", "drawnBy", "(LThirstRow$Told;LThirstRow$Standing;I)I"⟩, 7), (⟨"ThirstRow$Chances", "has", "(I)I"⟩, 7), (⟨"ThirstRow$Chances", "happen", "(LThirstRow$Told;I)I"⟩, 7), (⟨"ThirstRow", "lackingToday", "()I"⟩, 11), (⟨"ThirstRowModel", "readText", "()I"⟩, 30)]
theorem lw_r1 : ∀ q ∈ lw_privs_1, lw_okq q := List.forall_mem_cons.mpr ⟨lw_p0, List.forall_mem_cons.mpr ⟨lw_p1, List.forall_mem_cons.mpr ⟨lw_p2, List.forall_mem_cons.mpr ⟨lw_p3, List.forall_mem_cons.mpr ⟨lw_p4, List.forall_mem_cons.mpr ⟨lw_p5, List.forall_mem_cons.mpr ⟨lw_p6, List.forall_mem_cons.mpr ⟨lw_p7, List.forall_mem_cons.mpr ⟨lw_p8, List.forall_mem_cons.mpr ⟨lw_p9, List.forall_mem_cons.mpr ⟨lw_p10, List.forall_mem_cons.mpr ⟨lw_p11, List.forall_mem_cons.mpr ⟨lw_p12, List.forall_mem_cons.mpr ⟨lw_p13, List.forall_mem_cons.mpr ⟨lw_p14, List.forall_mem_cons.mpr ⟨lw_p15, fun _ h => absurd h List.not_mem_nil⟩⟩⟩⟩⟩⟩⟩⟩⟩⟩⟩⟩⟩⟩⟩⟩
theorem lw_p16 : lw_okq (⟨"ThirstRowModel", "figure", "(I)I"⟩, 30) := ⟨⟨by decide +kernel, by decide +kernel⟩, List.mem_of_getElem? (i := 771) (by decide +kernel), List.mem_of_getElem? (i := 889) (by decide +kernel), List.mem_of_getElem? (i := 890) (by decide +kernel)⟩
theorem lw_p17 : lw_okq (⟨"ThirstRowModel", "isHouse", "(I)Z"⟩, 30) := ⟨⟨by decide +kernel, by decide +kernel⟩, List.mem_of_getElem? (i := 771) (by decide +kernel), List.mem_of_getElem? (i := 901) (by decide +kernel), List.mem_of_getElem? (i := 902) (by decide +kernel)⟩
theorem lw_p18 : lw_okq (⟨"ThirstRowModel", "layToday", "(I)V"⟩, 30) := ⟨⟨by decide +kernel, by decide +kernel⟩, List.mem_of_getElem? (i := 771) (by decide +kernel), List.mem_of_getElem? (i := 910) (by decide +kernel), List.mem_of_getElem? (i := 911) (by decide +kernel)⟩
theorem lw_p19 : lw_okq (⟨"ThirstRowModel", "heatOn", "(I)I"⟩, 30) := ⟨⟨by decide +kernel, by decide +kernel⟩, List.mem_of_getElem? (i := 771) (by decide +kernel), List.mem_of_getElem? (i := 920) (by decide +kernel), List.mem_of_getElem? (i := 921) (by decide +kernel)⟩
theorem lw_p20 : lw_okq (⟨"ThirstRowModel", "houseAt", "(II)I"⟩, 30) := ⟨⟨by decide +kernel, by decide +kernel⟩, List.mem_of_getElem? (i := 771) (by decide +kernel), List.mem_of_getElem? (i := 924) (by decide +kernel), List.mem_of_getElem? (i := 925) (by decide +kernel)⟩
theorem lw_p21 : lw_okq (⟨"ThirstRowModel", "keepAct", "()V"⟩, 30) := ⟨⟨by decide +kernel, by decide +kernel⟩, List.mem_of_getElem? (i := 771) (by decide +kernel), List.mem_of_getElem? (i := 936) (by decide +kernel), List.mem_of_getElem? (i := 937) (by decide +kernel)⟩
theorem lw_p22 : lw_okq (⟨"ThirstRowModel", "passOn", "(I)I"⟩, 30) := ⟨⟨by decide +kernel, by decide +kernel⟩, List.mem_of_getElem? (i := 771) (by decide +kernel), List.mem_of_getElem? (i := 940) (by decide +kernel), List.mem_of_getElem? (i := 941) (by decide +kernel)⟩
theorem lw_p23 : lw_okq (⟨"ThirstRowModel", "sumOf", "(I)I"⟩, 30) := ⟨⟨by decide +kernel, by decide +kernel⟩, List.mem_of_getElem? (i := 771) (by decide +kernel), List.mem_of_getElem? (i := 944) (by decide +kernel), List.mem_of_getElem? (i := 945) (by decide +kernel)⟩
theorem lw_p24 : lw_okq (⟨"ThirstRowModel", "swapOn", "(III)V"⟩, 30) := ⟨⟨by decide +kernel, by decide +kernel⟩, List.mem_of_getElem? (i := 771) (by decide +kernel), List.mem_of_getElem? (i := 952) (by decide +kernel), List.mem_of_getElem? (i := 953) (by decide +kernel)⟩
theorem lw_p25 : lw_okq (⟨"ThirstRowModel", "layTrial", "()V"⟩, 30) := ⟨⟨by decide +kernel, by decide +kernel⟩, List.mem_of_getElem? (i := 771) (by decide +kernel), List.mem_of_getElem? (i := 973) (by decide +kernel), List.mem_of_getElem? (i := 974) (by decide +kernel)⟩
theorem lw_p26 : lw_okq (⟨"ThirstRowModel", "lackedOn", "(I)I"⟩, 30) := ⟨⟨by decide +kernel, by decide +kernel⟩, List.mem_of_getElem? (i := 771) (by decide +kernel), List.mem_of_getElem? (i := 977) (by decide +kernel), List.mem_of_getElem? (i := 978) (by decide +kernel)⟩
theorem lw_p27 : lw_okq (⟨"ThirstRowModel", "bestOrder", "(ZZ)I"⟩, 30) := ⟨⟨by decide +kernel, by decide +kernel⟩, List.mem_of_getElem? (i := 771) (by decide +kernel), List.mem_of_getElem? (i := 985) (by decide +kernel), List.mem_of_getElem? (i := 986) (by decide +kernel)⟩
theorem lw_p28 : lw_okq (⟨"ThirstRowModel", "lackBy", "(Z)I"⟩, 30) := ⟨⟨by decide +kernel, by decide +kernel⟩, List.mem_of_getElem? (i := 771) (by decide +kernel), List.mem_of_getElem? (i := 989) (by decide +kernel), List.mem_of_getElem? (i := 990) (by decide +kernel)⟩
theorem lw_p29 : lw_okq (⟨"ThirstRowModel", "figures", "()I"⟩, 30) := ⟨⟨by decide +kernel, by decide +kernel⟩, List.mem_of_getElem? (i := 771) (by decide +kernel), List.mem_of_getElem? (i := 993) (by decide +kernel), List.mem_of_getElem? (i := 994) (by decide +kernel)⟩
theorem lw_p30 : lw_okq (⟨"ThirstRowModel", "nextOrder", "()Z"⟩, 30) := ⟨⟨by decide +kernel, by decide +kernel⟩, List.mem_of_getElem? (i := 771) (by decide +kernel), List.mem_of_getElem? (i := 997) (by decide +kernel), List.mem_of_getElem? (i := 998) (by decide +kernel)⟩
theorem lw_p31 : lw_okq (⟨"ThirstRowModel", "exchange", "(II)V"⟩, 30) := ⟨⟨by decide +kernel, by decide +kernel⟩, List.mem_of_getElem? (i := 771) (by decide +kernel), List.mem_of_getElem? (i := 1001) (by decide +kernel), List.mem_of_getElem? (i := 1002) (by decide +kernel)⟩
def lw_privs_2 : List (MethodName × Nat) := [(⟨"ThirstRowModel", "figure", "(I)I"⟩, 30), (⟨"ThirstRowModel", "isHouse", "(I)Z"⟩, 30), (⟨"ThirstRowModel", "layToday", "(I)V"⟩, 30), (⟨"ThirstRowModel", "heatOn", "(I)I"⟩, 30), (⟨"ThirstRowModel", "houseAt", "(II)I"⟩, 30), (⟨"ThirstRowModel", "keepAct", "()V"⟩, 30), (⟨"ThirstRowModel", "passOn", "(I)I"⟩, 30), (⟨"ThirstRowModel", "sumOf", "(I)I"⟩, 30), (⟨"ThirstRowModel", "swapOn", "(III)V"⟩, 30), (⟨"ThirstRowModel", "layTrial", "()V"⟩, 30), (⟨"ThirstRowModel", "lackedOn", "(I)I"⟩, 30), (⟨"ThirstRowModel", "bestOrder", "(ZZ)I"⟩, 30), (⟨"ThirstRowModel", "lackBy", "(Z)I"⟩, 30), (⟨"ThirstRowModel", "figures", "()I"⟩, 30), (⟨"ThirstRowModel", "nextOrder", "()Z"⟩, 30), (⟨"ThirstRowModel", "exchange", "(II)V"⟩, 30)]
theorem lw_r2 : ∀ q ∈ lw_privs_2, lw_okq q := List.forall_mem_cons.mpr ⟨lw_p16, List.forall_mem_cons.mpr ⟨lw_p17, List.forall_mem_cons.mpr ⟨lw_p18, List.forall_mem_cons.mpr ⟨lw_p19, List.forall_mem_cons.mpr ⟨lw_p20, List.forall_mem_cons.mpr ⟨lw_p21, List.forall_mem_cons.mpr ⟨lw_p22, List.forall_mem_cons.mpr ⟨lw_p23, List.forall_mem_cons.mpr ⟨lw_p24, List.forall_mem_cons.mpr ⟨lw_p25, List.forall_mem_cons.mpr ⟨lw_p26, List.forall_mem_cons.mpr ⟨lw_p27, List.forall_mem_cons.mpr ⟨lw_p28, List.forall_mem_cons.mpr ⟨lw_p29, List.forall_mem_cons.mpr ⟨lw_p30, List.forall_mem_cons.mpr ⟨lw_p31, fun _ h => absurd h List.not_mem_nil⟩⟩⟩⟩⟩⟩⟩⟩⟩⟩⟩⟩⟩⟩⟩⟩
theorem lw_p32 : lw_okq (⟨"ThirstRowModel", "every", "()I"⟩, 30) := ⟨⟨by decide +kernel, by decide +kernel⟩, List.mem_of_getElem? (i := 771) (by decide +kernel), List.mem_of_getElem? (i := 1013) (by decide +kernel), List.mem_of_getElem? (i := 1014) (by decide +kernel)⟩
theorem lw_p33 : lw_okq (⟨"ThirstRowModel", "tryThing", "(III)Z"⟩, 30) := ⟨⟨by decide +kernel, by decide +kernel⟩, List.mem_of_getElem? (i := 771) (by decide +kernel), List.mem_of_getElem? (i := 1033) (by decide +kernel), List.mem_of_getElem? (i := 1034) (by decide +kernel)⟩
theorem lw_p34 : lw_okq (⟨"ThirstRowModel", "drawnBy", "(I)I"⟩, 30) := ⟨⟨by decide +kernel, by decide +kernel⟩, List.mem_of_getElem? (i := 771) (by decide +kernel), List.mem_of_getElem? (i := 1058) (by decide +kernel), List.mem_of_getElem? (i := 1059) (by decide +kernel)⟩
theorem lw_p35 : lw_okq (⟨"ThirstRowModel", "gain", "(IIII)I"⟩, 30) := ⟨⟨by decide +kernel, by decide +kernel⟩, List.mem_of_getElem? (i := 771) (by decide +kernel), List.mem_of_getElem? (i := 1069) (by decide +kernel), List.mem_of_getElem? (i := 1070) (by decide +kernel)⟩
def lw_privs_3 : List (MethodName × Nat) := [(⟨"ThirstRowModel", "every", "()I"⟩, 30), (⟨"ThirstRowModel", "tryThing", "(III)Z"⟩, 30), (⟨"ThirstRowModel", "drawnBy", "(I)I"⟩, 30), (⟨"ThirstRowModel", "gain", "(IIII)I"⟩, 30)]
theorem lw_r3 : ∀ q ∈ lw_privs_3, lw_okq q := List.forall_mem_cons.mpr ⟨lw_p32, List.forall_mem_cons.mpr ⟨lw_p33, List.forall_mem_cons.mpr ⟨lw_p34, List.forall_mem_cons.mpr ⟨lw_p35, fun _ h => absurd h List.not_mem_nil⟩⟩⟩⟩
def lw_privs : List (MethodName × Nat) := lw_privs_1 ++ (lw_privs_2 ++ (lw_privs_3))
def lw_tbl : List Cond := k2_sels lw_privs ++ tables_1
theorem lw_privs_ok : ∀ q ∈ lw_privs, lw_okq q := by
  show ∀ q ∈ lw_privs_1 ++ (lw_privs_2 ++ (lw_privs_3)), lw_okq q
  exact List.forall_mem_append.mpr ⟨lw_r1, List.forall_mem_append.mpr ⟨lw_r2, lw_r3⟩⟩
def RX0 : String := "ThirstRow$Acts"
def TX0 : u_T := fun k => match k with
  | 0 => ("ThirstRow$Acts", "before", "[LThirstRow$Standing;", true)
  | 1 => ("ThirstRow$Acts", "first", "I", false)
  | _ => ("ThirstRow$Acts", "count", "I", false)
def tyX0 : Nat → FieldType := fun k => match k with
  | 0 => .array (.object "ThirstRow$Standing")
  | 1 => .int
  | _ => .int
abbrev wsX00 : List Cond := u_ws RX0 TX0 3
theorem nmX0 : ∀ a, a < 3 → ∀ b, b < 3 → a ≠ b → (TX0 a).2.1 ≠ (TX0 b).2.1 := by decide +kernel
theorem tyX0_ok : ∀ k, k < 3 → parseFieldDescriptor (TX0 k).2.2.1 = some (tyX0 k) := by decide +kernel
abbrev cX0_init : ByteArray := prog_2_method_1_code
def yX0_init : MethodName := ⟨RX0, "<init>", "()V"⟩
abbrev cX0_clear : ByteArray := prog_2_method_2_code
def yX0_clear : MethodName := ⟨RX0, "clear", "()V"⟩
abbrev cX0_remember : ByteArray := prog_2_method_3_code
def yX0_remember : MethodName := ⟨RX0, "remember", "(LThirstRow$Standing;)V"⟩
abbrev cX0_takeBack : ByteArray := prog_2_method_4_code
def yX0_takeBack : MethodName := ⟨RX0, "takeBack", "(LThirstRow$Standing;)Z"⟩
def RX1 : String := "ThirstRow$Chances"
def TX1 : u_T := fun k => match k with
  | 0 => ("ThirstRow$Chances", "trial", "LThirstRow$Standing;", true)
  | 1 => ("ThirstRow$Chances", "look", "LThirstRow$Today;", true)
  | 2 => ("ThirstRow$Chances", "oneHas", "[I", true)
  | 3 => ("ThirstRow$Chances", "otherHas", "[I", true)
  | 4 => ("ThirstRow$Chances", "restCount", "I", false)
  | 5 => ("ThirstRow$Chances", "firstRest", "I", false)
  | _ => ("ThirstRow$Chances", "seedThen", "J", false)
def tyX1 : Nat → FieldType := fun k => match k with
  | 0 => .object "ThirstRow$Standing"
  | 1 => .object "ThirstRow$Today"
  | 2 => .array .int
  | 3 => .array .int
  | 4 => .int
  | 5 => .int
  | _ => .long
abbrev wsX10 : List Cond := u_ws RX1 TX1 7
theorem nmX1 : ∀ a, a < 7 → ∀ b, b < 7 → a ≠ b → (TX1 a).2.1 ≠ (TX1 b).2.1 := by decide +kernel
theorem tyX1_ok : ∀ k, k < 7 → parseFieldDescriptor (TX1 k).2.2.1 = some (tyX1 k) := by decide +kernel
abbrev cX1_init : ByteArray := prog_3_method_1_code
def yX1_init : MethodName := ⟨RX1, "<init>", "()V"⟩
abbrev cX1_addedInAllOrders : ByteArray := prog_3_method_2_code
def yX1_addedInAllOrders : MethodName := ⟨RX1, "addedInAllOrders", "(LThirstRow$Told;LThirstRow$Standing;I)I"⟩
abbrev cX1_drawnBy : ByteArray := prog_3_method_3_code
def yX1_drawnBy : MethodName := ⟨RX1, "drawnBy", "(LThirstRow$Told;LThirstRow$Standing;I)I"⟩
abbrev cX1_seekRests : ByteArray := prog_3_method_4_code
def yX1_seekRests : MethodName := ⟨RX1, "seekRests", "(LThirstRow$Told;LThirstRow$Standing;II)V"⟩
abbrev cX1_has : ByteArray := prog_3_method_5_code
def yX1_has : MethodName := ⟨RX1, "has", "(I)I"⟩
abbrev cX1_waysToLack : ByteArray := prog_3_method_6_code
def yX1_waysToLack : MethodName := ⟨RX1, "waysToLack", "(LThirstRow$Told;LThirstRow$Standing;II)I"⟩
abbrev cX1_lackedByChance : ByteArray := prog_3_method_7_code
def yX1_lackedByChance : MethodName := ⟨RX1, "lackedByChance", "(LThirstRow$Told;LThirstRow$Standing;IJ)I"⟩
abbrev cX1_happen : ByteArray := prog_3_method_8_code
def yX1_happen : MethodName := ⟨RX1, "happen", "(LThirstRow$Told;I)I"⟩
def RX2 : String := "ThirstRow$Outlook"
def TX2 : u_T := fun k => match k with
  | 0 => ("ThirstRow$Outlook", "trialTold", "LThirstRow$Told;", true)
  | 1 => ("ThirstRow$Outlook", "trial", "LThirstRow$Standing;", true)
  | 2 => ("ThirstRow$Outlook", "look", "LThirstRow$Today;", true)
  | 3 => ("ThirstRow$Outlook", "bestLack", "I", false)
  | _ => ("ThirstRow$Outlook", "bestOrder", "I", false)
def tyX2 : Nat → FieldType := fun k => match k with
  | 0 => .object "ThirstRow$Told"
  | 1 => .object "ThirstRow$Standing"
  | 2 => .object "ThirstRow$Today"
  | 3 => .int
  | _ => .int
abbrev wsX20 : List Cond := u_ws RX2 TX2 5
theorem nmX2 : ∀ a, a < 5 → ∀ b, b < 5 → a ≠ b → (TX2 a).2.1 ≠ (TX2 b).2.1 := by decide +kernel
theorem tyX2_ok : ∀ k, k < 5 → parseFieldDescriptor (TX2 k).2.2.1 = some (tyX2 k) := by decide +kernel
abbrev cX2_init : ByteArray := prog_4_method_1_code
def yX2_init : MethodName := ⟨RX2, "<init>", "()V"⟩
abbrev cX2_inDays : ByteArray := prog_4_method_2_code
def yX2_inDays : MethodName := ⟨RX2, "inDays", "(LThirstRow$Told;LThirstRow$Standing;IZ)I"⟩
abbrev cX2_seekOrder : ByteArray := prog_4_method_3_code
def yX2_seekOrder : MethodName := ⟨RX2, "seekOrder", "(LThirstRow$Told;LThirstRow$Standing;Z)V"⟩
abbrev cX2_figures : ByteArray := prog_4_method_4_code
def yX2_figures : MethodName := ⟨RX2, "figures", "(I)I"⟩
abbrev cX2_toNextOrder : ByteArray := prog_4_method_5_code
def yX2_toNextOrder : MethodName := ⟨RX2, "toNextOrder", "(I)Z"⟩
abbrev cX2_exchangePlaces : ByteArray := prog_4_method_6_code
def yX2_exchangePlaces : MethodName := ⟨RX2, "exchangePlaces", "([III)V"⟩
abbrev cX2_fewestSalts : ByteArray := prog_4_method_7_code
def yX2_fewestSalts : MethodName := ⟨RX2, "fewestSalts", "(LThirstRow$Told;LThirstRow$Standing;I)I"⟩
abbrev cX2_leastBarrel : ByteArray := prog_4_method_8_code
def yX2_leastBarrel : MethodName := ⟨RX2, "leastBarrel", "(LThirstRow$Told;LThirstRow$Standing;I)I"⟩
abbrev cX2_firstNotSo : ByteArray := prog_4_method_9_code
def yX2_firstNotSo : MethodName := ⟨RX2, "firstNotSo", "(LThirstRow$Told;LThirstRow$Standing;IJ)I"⟩
abbrev cX2_canBe : ByteArray := prog_4_method_10_code
def yX2_canBe : MethodName := ⟨RX2, "canBe", "(LThirstRow$Told;III)Z"⟩
abbrev cX2_lackOf : ByteArray := prog_4_method_11_code
def yX2_lackOf : MethodName := ⟨RX2, "lackOf", "(LThirstRow$Told;I)I"⟩
abbrev cX2_carryOut : ByteArray := prog_4_method_12_code
def yX2_carryOut : MethodName := ⟨RX2, "carryOut", "(LThirstRow$Told;III)V"⟩
def RX3 : String := "ThirstRow$Reader"
def TX3 : u_T := fun k => match k with
  | _ => ("ThirstRow$Reader", "draft", "LThirstRow$Told;", true)
def tyX3 : Nat → FieldType := fun k => match k with
  | _ => .object "ThirstRow$Told"
abbrev wsX30 : List Cond := u_ws RX3 TX3 1
theorem nmX3 : ∀ a, a < 1 → ∀ b, b < 1 → a ≠ b → (TX3 a).2.1 ≠ (TX3 b).2.1 := by decide +kernel
theorem tyX3_ok : ∀ k, k < 1 → parseFieldDescriptor (TX3 k).2.2.1 = some (tyX3 k) := by decide +kernel
abbrev cX3_init : ByteArray := prog_5_method_1_code
def yX3_init : MethodName := ⟨RX3, "<init>", "()V"⟩
abbrev cX3_read : ByteArray := prog_5_method_2_code
def yX3_read : MethodName := ⟨RX3, "read", "(LThirstRow$Text;)I"⟩
abbrev cX3_take : ByteArray := prog_5_method_3_code
def yX3_take : MethodName := ⟨RX3, "take", "(II)I"⟩
abbrev cX3_takePart : ByteArray := prog_5_method_4_code
def yX3_takePart : MethodName := ⟨RX3, "takePart", "(I)I"⟩
abbrev cX3_takeFigure : ByteArray := prog_5_method_5_code
def yX3_takeFigure : MethodName := ⟨RX3, "takeFigure", "(III)I"⟩
abbrev cX3_putLast : ByteArray := prog_5_method_6_code
def yX3_putLast : MethodName := ⟨RX3, "putLast", "([IIII)I"⟩
def RX4 : String := "ThirstRow$Seen"
def TX4 : u_T := fun k => match k with
  | 0 => ("ThirstRow$Seen", "houses", "[I", true)
  | 1 => ("ThirstRow$Seen", "heats", "[I", true)
  | 2 => ("ThirstRow$Seen", "said", "[I", true)
  | _ => ("ThirstRow$Seen", "count", "I", false)
def tyX4 : Nat → FieldType := fun k => match k with
  | 0 => .array .int
  | 1 => .array .int
  | 2 => .array .int
  | _ => .int
abbrev wsX40 : List Cond := u_ws RX4 TX4 4
theorem nmX4 : ∀ a, a < 4 → ∀ b, b < 4 → a ≠ b → (TX4 a).2.1 ≠ (TX4 b).2.1 := by decide +kernel
theorem tyX4_ok : ∀ k, k < 4 → parseFieldDescriptor (TX4 k).2.2.1 = some (tyX4 k) := by decide +kernel
abbrev cX4_init : ByteArray := prog_6_method_1_code
def yX4_init : MethodName := ⟨RX4, "<init>", "()V"⟩
abbrev cX4_add : ByteArray := prog_6_method_2_code
def yX4_add : MethodName := ⟨RX4, "add", "(III)I"⟩
abbrev cX4_clear : ByteArray := prog_6_method_3_code
def yX4_clear : MethodName := ⟨RX4, "clear", "()I"⟩
abbrev cX4_possibleWants : ByteArray := prog_6_method_4_code
def yX4_possibleWants : MethodName := ⟨RX4, "possibleWants", "(II)I"⟩
abbrev cX4_agrees : ByteArray := prog_6_method_5_code
def yX4_agrees : MethodName := ⟨RX4, "agrees", "(II)Z"⟩
def RX5 : String := "ThirstRow$Slots"
def TX5 : u_T := fun k => match k with
  | 0 => ("ThirstRow$Slots", "kept", "[LThirstRow$Standing;", true)
  | _ => ("ThirstRow$Slots", "keptBits", "I", false)
def tyX5 : Nat → FieldType := fun k => match k with
  | 0 => .array (.object "ThirstRow$Standing")
  | _ => .int
abbrev wsX50 : List Cond := u_ws RX5 TX5 2
theorem nmX5 : ∀ a, a < 2 → ∀ b, b < 2 → a ≠ b → (TX5 a).2.1 ≠ (TX5 b).2.1 := by decide +kernel
theorem tyX5_ok : ∀ k, k < 2 → parseFieldDescriptor (TX5 k).2.2.1 = some (tyX5 k) := by decide +kernel
abbrev cX5_init : ByteArray := prog_7_method_1_code
def yX5_init : MethodName := ⟨RX5, "<init>", "()V"⟩
abbrev cX5_clear : ByteArray := prog_7_method_2_code
def yX5_clear : MethodName := ⟨RX5, "clear", "()V"⟩
abbrev cX5_put : ByteArray := prog_7_method_3_code
def yX5_put : MethodName := ⟨RX5, "put", "(ILThirstRow$Standing;)V"⟩
abbrev cX5_fetch : ByteArray := prog_7_method_4_code
def yX5_fetch : MethodName := ⟨RX5, "fetch", "(ILThirstRow$Standing;)Z"⟩
def RX6 : String := "ThirstRow$Standing"
def TX6 : u_T := fun k => match k with
  | 0 => ("ThirstRow$Standing", "order", "[I", true)
  | 1 => ("ThirstRow$Standing", "stored", "[I", true)
  | 2 => ("ThirstRow$Standing", "lacked", "[I", true)
  | 3 => ("ThirstRow$Standing", "saltedBits", "I", false)
  | 4 => ("ThirstRow$Standing", "awayBits", "I", false)
  | _ => ("ThirstRow$Standing", "dayNumber", "I", false)
def tyX6 : Nat → FieldType := fun k => match k with
  | 0 => .array .int
  | 1 => .array .int
  | 2 => .array .int
  | 3 => .int
  | 4 => .int
  | _ => .int
abbrev wsX60 : List Cond := u_ws RX6 TX6 6
theorem nmX6 : ∀ a, a < 6 → ∀ b, b < 6 → a ≠ b → (TX6 a).2.1 ≠ (TX6 b).2.1 := by decide +kernel
theorem tyX6_ok : ∀ k, k < 6 → parseFieldDescriptor (TX6 k).2.2.1 = some (tyX6 k) := by decide +kernel
abbrev cX6_init : ByteArray := prog_8_method_1_code
def yX6_init : MethodName := ⟨RX6, "<init>", "()V"⟩
abbrev cX6_clear : ByteArray := prog_8_method_2_code
def yX6_clear : MethodName := ⟨RX6, "clear", "()V"⟩
abbrev cX6_standAsTold : ByteArray := prog_8_method_3_code
def yX6_standAsTold : MethodName := ⟨RX6, "standAsTold", "()V"⟩
abbrev cX6_copyFrom : ByteArray := prog_8_method_4_code
def yX6_copyFrom : MethodName := ⟨RX6, "copyFrom", "(LThirstRow$Standing;)V"⟩
abbrev cX6_placeOf : ByteArray := prog_8_method_5_code
def yX6_placeOf : MethodName := ⟨RX6, "placeOf", "(I)I"⟩
abbrev cX6_exchange : ByteArray := prog_8_method_6_code
def yX6_exchange : MethodName := ⟨RX6, "exchange", "(II)V"⟩
abbrev cX6_isSalted : ByteArray := prog_8_method_7_code
def yX6_isSalted : MethodName := ⟨RX6, "isSalted", "(I)Z"⟩
abbrev cX6_giveSalt : ByteArray := prog_8_method_8_code
def yX6_giveSalt : MethodName := ⟨RX6, "giveSalt", "(I)V"⟩
abbrev cX6_isAway : ByteArray := prog_8_method_9_code
def yX6_isAway : MethodName := ⟨RX6, "isAway", "(I)Z"⟩
abbrev cX6_turnAway : ByteArray := prog_8_method_10_code
def yX6_turnAway : MethodName := ⟨RX6, "turnAway", "(I)V"⟩
abbrev cX6_countPresent : ByteArray := prog_8_method_11_code
def yX6_countPresent : MethodName := ⟨RX6, "countPresent", "(I)I"⟩
def RX7 : String := "ThirstRow$Text"
def TX7 : u_T := fun k => match k with
  | 0 => ("ThirstRow$Text", "letters", "[I", true)
  | _ => ("ThirstRow$Text", "length", "I", false)
def tyX7 : Nat → FieldType := fun k => match k with
  | 0 => .array .int
  | _ => .int
abbrev wsX70 : List Cond := u_ws RX7 TX7 2
theorem nmX7 : ∀ a, a < 2 → ∀ b, b < 2 → a ≠ b → (TX7 a).2.1 ≠ (TX7 b).2.1 := by decide +kernel
theorem tyX7_ok : ∀ k, k < 2 → parseFieldDescriptor (TX7 k).2.2.1 = some (tyX7 k) := by decide +kernel
abbrev cX7_init : ByteArray := prog_9_method_1_code
def yX7_init : MethodName := ⟨RX7, "<init>", "()V"⟩
abbrev cX7_append : ByteArray := prog_9_method_2_code
def yX7_append : MethodName := ⟨RX7, "append", "(I)I"⟩
abbrev cX7_clear : ByteArray := prog_9_method_3_code
def yX7_clear : MethodName := ⟨RX7, "clear", "()I"⟩
def RX8 : String := "ThirstRow$Today"
def TX8 : u_T := fun k => match k with
  | 0 => ("ThirstRow$Today", "want", "[I", true)
  | 1 => ("ThirstRow$Today", "said", "[I", true)
  | 2 => ("ThirstRow$Today", "given", "[I", true)
  | 3 => ("ThirstRow$Today", "drawn", "[I", true)
  | 4 => ("ThirstRow$Today", "lacking", "[I", true)
  | 5 => ("ThirstRow$Today", "left", "[I", true)
  | _ => ("ThirstRow$Today", "spilt", "[I", true)
def tyX8 : Nat → FieldType := fun k => match k with
  | 0 => .array .int
  | 1 => .array .int
  | 2 => .array .int
  | 3 => .array .int
  | 4 => .array .int
  | 5 => .array .int
  | _ => .array .int
abbrev wsX80 : List Cond := u_ws RX8 TX8 7
theorem nmX8 : ∀ a, a < 7 → ∀ b, b < 7 → a ≠ b → (TX8 a).2.1 ≠ (TX8 b).2.1 := by decide +kernel
theorem tyX8_ok : ∀ k, k < 7 → parseFieldDescriptor (TX8 k).2.2.1 = some (tyX8 k) := by decide +kernel
abbrev cX8_init : ByteArray := prog_10_method_1_code
def yX8_init : MethodName := ⟨RX8, "<init>", "()V"⟩
abbrev cX8_lookAt : ByteArray := prog_10_method_2_code
def yX8_lookAt : MethodName := ⟨RX8, "lookAt", "(LThirstRow$Told;LThirstRow$Standing;)V"⟩
abbrev cX8_hear : ByteArray := prog_10_method_3_code
def yX8_hear : MethodName := ⟨RX8, "hear", "(LThirstRow$Told;LThirstRow$Standing;I)V"⟩
abbrev cX8_pour : ByteArray := prog_10_method_4_code
def yX8_pour : MethodName := ⟨RX8, "pour", "(LThirstRow$Told;LThirstRow$Standing;)V"⟩
abbrev cX8_serve : ByteArray := prog_10_method_5_code
def yX8_serve : MethodName := ⟨RX8, "serve", "(IIII)V"⟩
abbrev cX8_pass : ByteArray := prog_10_method_6_code
def yX8_pass : MethodName := ⟨RX8, "pass", "(LThirstRow$Told;LThirstRow$Standing;)V"⟩
def RX9 : String := "ThirstRow$Told"
def TX9 : u_T := fun k => match k with
  | 0 => ("ThirstRow$Told", "trough", "I", false)
  | 1 => ("ThirstRow$Told", "ring", "Z", false)
  | 2 => ("ThirstRow$Told", "houses", "I", false)
  | 3 => ("ThirstRow$Told", "heats", "I", false)
  | 4 => ("ThirstRow$Told", "wants", "[I", true)
  | 5 => ("ThirstRow$Told", "kinds", "[I", true)
  | 6 => ("ThirstRow$Told", "barrels", "[I", true)
  | _ => ("ThirstRow$Told", "heatsInTurn", "[I", true)
def tyX9 : Nat → FieldType := fun k => match k with
  | 0 => .int
  | 1 => .boolean
  | 2 => .int
  | 3 => .int
  | 4 => .array .int
  | 5 => .array .int
  | 6 => .array .int
  | _ => .array .int
abbrev wsX90 : List Cond := u_ws RX9 TX9 8
theorem nmX9 : ∀ a, a < 8 → ∀ b, b < 8 → a ≠ b → (TX9 a).2.1 ≠ (TX9 b).2.1 := by decide +kernel
theorem tyX9_ok : ∀ k, k < 8 → parseFieldDescriptor (TX9 k).2.2.1 = some (tyX9 k) := by decide +kernel
abbrev cX9_init : ByteArray := prog_11_method_1_code
def yX9_init : MethodName := ⟨RX9, "<init>", "()V"⟩
abbrev cX9_clear : ByteArray := prog_11_method_2_code
def yX9_clear : MethodName := ⟨RX9, "clear", "()V"⟩
abbrev cX9_copyFrom : ByteArray := prog_11_method_3_code
def yX9_copyFrom : MethodName := ⟨RX9, "copyFrom", "(LThirstRow$Told;)V"⟩
abbrev cX9_heatOn : ByteArray := prog_11_method_4_code
def yX9_heatOn : MethodName := ⟨RX9, "heatOn", "(I)I"⟩
def RX10 : String := "ThirstRow"
def TX10 : u_T := fun k => match k with
  | 0 => ("ThirstRow", "text", "LThirstRow$Text;", true)
  | 1 => ("ThirstRow", "reader", "LThirstRow$Reader;", true)
  | 2 => ("ThirstRow", "told", "LThirstRow$Told;", true)
  | 3 => ("ThirstRow", "now", "LThirstRow$Standing;", true)
  | 4 => ("ThirstRow", "acts", "LThirstRow$Acts;", true)
  | 5 => ("ThirstRow", "slots", "LThirstRow$Slots;", true)
  | 6 => ("ThirstRow", "seen", "LThirstRow$Seen;", true)
  | 7 => ("ThirstRow", "look", "LThirstRow$Today;", true)
  | 8 => ("ThirstRow", "outlook", "LThirstRow$Outlook;", true)
  | 9 => ("ThirstRow", "chances", "LThirstRow$Chances;", true)
  | _ => ("ThirstRow", "theSeed", "J", false)
def tyX10 : Nat → FieldType := fun k => match k with
  | 0 => .object "ThirstRow$Text"
  | 1 => .object "ThirstRow$Reader"
  | 2 => .object "ThirstRow$Told"
  | 3 => .object "ThirstRow$Standing"
  | 4 => .object "ThirstRow$Acts"
  | 5 => .object "ThirstRow$Slots"
  | 6 => .object "ThirstRow$Seen"
  | 7 => .object "ThirstRow$Today"
  | 8 => .object "ThirstRow$Outlook"
  | 9 => .object "ThirstRow$Chances"
  | _ => .long
abbrev wsX100 : List Cond := u_ws RX10 TX10 11
theorem nmX10 : ∀ a, a < 11 → ∀ b, b < 11 → a ≠ b → (TX10 a).2.1 ≠ (TX10 b).2.1 := by decide +kernel
theorem tyX10_ok : ∀ k, k < 11 → parseFieldDescriptor (TX10 k).2.2.1 = some (tyX10 k) := by decide +kernel
abbrev cX10_init : ByteArray := prog_1_method_1_code
def yX10_init : MethodName := ⟨RX10, "<init>", "()V"⟩
abbrev cX10_write : ByteArray := prog_1_method_2_code
def yX10_write : MethodName := ⟨RX10, "write", "(I)I"⟩
abbrev cX10_wipe : ByteArray := prog_1_method_3_code
def yX10_wipe : MethodName := ⟨RX10, "wipe", "()I"⟩
abbrev cX10_fault : ByteArray := prog_1_method_4_code
def yX10_fault : MethodName := ⟨RX10, "fault", "()I"⟩
abbrev cX10_row : ByteArray := prog_1_method_5_code
def yX10_row : MethodName := ⟨RX10, "row", "()I"⟩
abbrev cX10_house : ByteArray := prog_1_method_6_code
def yX10_house : MethodName := ⟨RX10, "house", "(II)I"⟩
abbrev cX10_today : ByteArray := prog_1_method_7_code
def yX10_today : MethodName := ⟨RX10, "today", "(II)I"⟩
abbrev cX10_at : ByteArray := prog_1_method_8_code
def yX10_at : MethodName := ⟨RX10, "at", "(I)I"⟩
abbrev cX10_day : ByteArray := prog_1_method_9_code
def yX10_day : MethodName := ⟨RX10, "day", "()I"⟩
abbrev cX10_swap : ByteArray := prog_1_method_10_code
def yX10_swap : MethodName := ⟨RX10, "swap", "(II)I"⟩
abbrev cX10_salt : ByteArray := prog_1_method_11_code
def yX10_salt : MethodName := ⟨RX10, "salt", "(I)I"⟩
abbrev cX10_away : ByteArray := prog_1_method_12_code
def yX10_away : MethodName := ⟨RX10, "away", "(I)I"⟩
abbrev cX10_undo : ByteArray := prog_1_method_13_code
def yX10_undo : MethodName := ⟨RX10, "undo", "()I"⟩
abbrev cX10_ahead : ByteArray := prog_1_method_14_code
def yX10_ahead : MethodName := ⟨RX10, "ahead", "(II)I"⟩
abbrev cX10_order : ByteArray := prog_1_method_15_code
def yX10_order : MethodName := ⟨RX10, "order", "(Z)I"⟩
abbrev cX10_worst : ByteArray := prog_1_method_16_code
def yX10_worst : MethodName := ⟨RX10, "worst", "(Z)I"⟩
abbrev cX10_salts : ByteArray := prog_1_method_17_code
def yX10_salts : MethodName := ⟨RX10, "salts", "(I)I"⟩
abbrev cX10_cask : ByteArray := prog_1_method_18_code
def yX10_cask : MethodName := ⟨RX10, "cask", "(I)I"⟩
abbrev cX10_judge : ByteArray := prog_1_method_19_code
def yX10_judge : MethodName := ⟨RX10, "judge", "(IJ)I"⟩
abbrev cX10_see : ByteArray := prog_1_method_20_code
def yX10_see : MethodName := ⟨RX10, "see", "(III)I"⟩
abbrev cX10_unsee : ByteArray := prog_1_method_21_code
def yX10_unsee : MethodName := ⟨RX10, "unsee", "()I"⟩
abbrev cX10_wants : ByteArray := prog_1_method_22_code
def yX10_wants : MethodName := ⟨RX10, "wants", "(I)I"⟩
abbrev cX10_share : ByteArray := prog_1_method_23_code
def yX10_share : MethodName := ⟨RX10, "share", "(IZ)I"⟩
abbrev cX10_rests : ByteArray := prog_1_method_24_code
def yX10_rests : MethodName := ⟨RX10, "rests", "(III)I"⟩
abbrev cX10_guests : ByteArray := prog_1_method_25_code
def yX10_guests : MethodName := ⟨RX10, "guests", "(IIZ)I"⟩
abbrev cX10_seed : ByteArray := prog_1_method_26_code
def yX10_seed : MethodName := ⟨RX10, "seed", "(J)J"⟩
abbrev cX10_weeks : ByteArray := prog_1_method_27_code
def yX10_weeks : MethodName := ⟨RX10, "weeks", "(I)I"⟩
abbrev cX10_keep : ByteArray := prog_1_method_28_code
def yX10_keep : MethodName := ⟨RX10, "keep", "(I)I"⟩
abbrev cX10_again : ByteArray := prog_1_method_29_code
def yX10_again : MethodName := ⟨RX10, "again", "(I)I"⟩
abbrev cX10_count : ByteArray := prog_1_method_30_code
def yX10_count : MethodName := ⟨RX10, "count", "(I)I"⟩
abbrev cX10_isHouse : ByteArray := prog_1_method_31_code
def yX10_isHouse : MethodName := ⟨RX10, "isHouse", "(I)Z"⟩
abbrev cX10_lackingToday : ByteArray := prog_1_method_32_code
def yX10_lackingToday : MethodName := ⟨RX10, "lackingToday", "()I"⟩
abbrev cX10_within : ByteArray := prog_1_method_33_code
def yX10_within : MethodName := ⟨RX10, "within", "(III)Z"⟩
abbrev cX10_sum : ByteArray := prog_1_method_34_code
def yX10_sum : MethodName := ⟨RX10, "sum", "([II)I"⟩
abbrev cX10_greatest : ByteArray := prog_1_method_35_code
def yX10_greatest : MethodName := ⟨RX10, "greatest", "([II)I"⟩
abbrev cX10_ordersOf : ByteArray := prog_1_method_36_code
def yX10_ordersOf : MethodName := ⟨RX10, "ordersOf", "(I)I"⟩
abbrev cX10_power : ByteArray := prog_1_method_37_code
def yX10_power : MethodName := ⟨RX10, "power", "(II)I"⟩
abbrev cX10_wantByKind : ByteArray := prog_1_method_38_code
def yX10_wantByKind : MethodName := ⟨RX10, "wantByKind", "(II)I"⟩
abbrev cX10_lieOf : ByteArray := prog_1_method_39_code
def yX10_lieOf : MethodName := ⟨RX10, "lieOf", "(I)I"⟩
abbrev cX10_withoutDoings : ByteArray := prog_1_method_40_code
def yX10_withoutDoings : MethodName := ⟨RX10, "withoutDoings", "(JI)J"⟩
abbrev cX10_inLeastTerms : ByteArray := prog_1_method_41_code
def yX10_inLeastTerms : MethodName := ⟨RX10, "inLeastTerms", "(IIZ)I"⟩
abbrev cX10_commonDivisor : ByteArray := prog_1_method_42_code
def yX10_commonDivisor : MethodName := ⟨RX10, "commonDivisor", "(II)I"⟩
def RX11 : String := "ThirstRowModel"
def TX11 : u_T := fun k => match k with
  | 0 => ("ThirstRowModel", "houses", "I", false)
  | 1 => ("ThirstRowModel", "heats", "I", false)
  | 2 => ("ThirstRowModel", "trough", "I", false)
  | 3 => ("ThirstRowModel", "ring", "I", false)
  | 4 => ("ThirstRowModel", "need", "[I", true)
  | 5 => ("ThirstRowModel", "kind", "[I", true)
  | 6 => ("ThirstRowModel", "barrel", "[I", true)
  | 7 => ("ThirstRowModel", "heat", "[I", true)
  | 8 => ("ThirstRowModel", "now", "[I", true)
  | 9 => ("ThirstRowModel", "readHouse", "[I", true)
  | 10 => ("ThirstRowModel", "readHeat", "[I", true)
  | 11 => ("ThirstRowModel", "readHouses", "I", false)
  | 12 => ("ThirstRowModel", "readHeats", "I", false)
  | 13 => ("ThirstRowModel", "text", "[I", true)
  | 14 => ("ThirstRowModel", "length", "I", false)
  | 15 => ("ThirstRowModel", "where", "I", false)
  | 16 => ("ThirstRowModel", "faultAt", "I", false)
  | 17 => ("ThirstRowModel", "today", "[I", true)
  | 18 => ("ThirstRowModel", "guests", "I", false)
  | 19 => ("ThirstRowModel", "acts", "I", false)
  | 20 => ("ThirstRowModel", "next", "I", false)
  | 21 => ("ThirstRowModel", "row", "[I", true)
  | 22 => ("ThirstRowModel", "order", "[I", true)
  | 23 => ("ThirstRowModel", "seen", "I", false)
  | 24 => ("ThirstRowModel", "seenOf", "[I", true)
  | 25 => ("ThirstRowModel", "seenHeat", "[I", true)
  | 26 => ("ThirstRowModel", "seenSaid", "[I", true)
  | 27 => ("ThirstRowModel", "seed", "J", false)
  | 28 => ("ThirstRowModel", "isKept", "[Z", true)
  | _ => ("ThirstRowModel", "kept", "[I", true)
def tyX11 : Nat → FieldType := fun k => match k with
  | 0 => .int
  | 1 => .int
  | 2 => .int
  | 3 => .int
  | 4 => .array .int
  | 5 => .array .int
  | 6 => .array .int
  | 7 => .array .int
  | 8 => .array .int
  | 9 => .array .int
  | 10 => .array .int
  | 11 => .int
  | 12 => .int
  | 13 => .array .int
  | 14 => .int
  | 15 => .int
  | 16 => .int
  | 17 => .array .int
  | 18 => .int
  | 19 => .int
  | 20 => .int
  | 21 => .array .int
  | 22 => .array .int
  | 23 => .int
  | 24 => .array .int
  | 25 => .array .int
  | 26 => .array .int
  | 27 => .long
  | 28 => .array .boolean
  | _ => .array .int
abbrev wsX110 : List Cond := u_ws RX11 TX11 30
theorem nmX11 : ∀ a, a < 30 → ∀ b, b < 30 → a ≠ b → (TX11 a).2.1 ≠ (TX11 b).2.1 := by decide +kernel
theorem tyX11_ok : ∀ k, k < 30 → parseFieldDescriptor (TX11 k).2.2.1 = some (tyX11 k) := by decide +kernel
abbrev cX11_init : ByteArray := prog_13_method_1_code
def yX11_init : MethodName := ⟨RX11, "<init>", "()V"⟩
abbrev cX11_in : ByteArray := prog_13_method_3_code
def yX11_in : MethodName := ⟨RX11, "in", "(JJJ)Z"⟩
abbrev cX11_has : ByteArray := prog_13_method_4_code
def yX11_has : MethodName := ⟨RX11, "has", "(II)Z"⟩
abbrev cX11_ones : ByteArray := prog_13_method_5_code
def yX11_ones : MethodName := ⟨RX11, "ones", "(I)I"⟩
abbrev cX11_write : ByteArray := prog_13_method_6_code
def yX11_write : MethodName := ⟨RX11, "write", "(I)I"⟩
abbrev cX11_wipe : ByteArray := prog_13_method_7_code
def yX11_wipe : MethodName := ⟨RX11, "wipe", "()I"⟩
abbrev cX11_figure : ByteArray := prog_13_method_8_code
def yX11_figure : MethodName := ⟨RX11, "figure", "(I)I"⟩
abbrev cX11_readText : ByteArray := prog_13_method_9_code
def yX11_readText : MethodName := ⟨RX11, "readText", "()I"⟩
abbrev cX11_fault : ByteArray := prog_13_method_10_code
def yX11_fault : MethodName := ⟨RX11, "fault", "()I"⟩
abbrev cX11_row : ByteArray := prog_13_method_11_code
def yX11_row : MethodName := ⟨RX11, "row", "()I"⟩
abbrev cX11_isHouse : ByteArray := prog_13_method_12_code
def yX11_isHouse : MethodName := ⟨RX11, "isHouse", "(I)Z"⟩
abbrev cX11_every : ByteArray := prog_13_method_13_code
def yX11_every : MethodName := ⟨RX11, "every", "()I"⟩
abbrev cX11_heatOn : ByteArray := prog_13_method_14_code
def yX11_heatOn : MethodName := ⟨RX11, "heatOn", "(I)I"⟩
abbrev cX11_wantBy : ByteArray := prog_13_method_15_code
def yX11_wantBy : MethodName := ⟨RX11, "wantBy", "(II)I"⟩
abbrev cX11_houseAt : ByteArray := prog_13_method_16_code
def yX11_houseAt : MethodName := ⟨RX11, "houseAt", "(II)I"⟩
abbrev cX11_layToday : ByteArray := prog_13_method_17_code
def yX11_layToday : MethodName := ⟨RX11, "layToday", "(I)V"⟩
abbrev cX11_sumOf : ByteArray := prog_13_method_18_code
def yX11_sumOf : MethodName := ⟨RX11, "sumOf", "(I)I"⟩
abbrev cX11_passOn : ByteArray := prog_13_method_19_code
def yX11_passOn : MethodName := ⟨RX11, "passOn", "(I)I"⟩
abbrev cX11_lackedOn : ByteArray := prog_13_method_20_code
def yX11_lackedOn : MethodName := ⟨RX11, "lackedOn", "(I)I"⟩
abbrev cX11_house : ByteArray := prog_13_method_21_code
def yX11_house : MethodName := ⟨RX11, "house", "(II)I"⟩
abbrev cX11_today : ByteArray := prog_13_method_22_code
def yX11_today : MethodName := ⟨RX11, "today", "(II)I"⟩
abbrev cX11_at : ByteArray := prog_13_method_23_code
def yX11_at : MethodName := ⟨RX11, "at", "(I)I"⟩
abbrev cX11_keepAct : ByteArray := prog_13_method_24_code
def yX11_keepAct : MethodName := ⟨RX11, "keepAct", "()V"⟩
abbrev cX11_day : ByteArray := prog_13_method_25_code
def yX11_day : MethodName := ⟨RX11, "day", "()I"⟩
abbrev cX11_swapOn : ByteArray := prog_13_method_26_code
def yX11_swapOn : MethodName := ⟨RX11, "swapOn", "(III)V"⟩
abbrev cX11_swap : ByteArray := prog_13_method_27_code
def yX11_swap : MethodName := ⟨RX11, "swap", "(II)I"⟩
abbrev cX11_salt : ByteArray := prog_13_method_28_code
def yX11_salt : MethodName := ⟨RX11, "salt", "(I)I"⟩
abbrev cX11_away : ByteArray := prog_13_method_29_code
def yX11_away : MethodName := ⟨RX11, "away", "(I)I"⟩
abbrev cX11_undo : ByteArray := prog_13_method_30_code
def yX11_undo : MethodName := ⟨RX11, "undo", "()I"⟩
abbrev cX11_layTrial : ByteArray := prog_13_method_31_code
def yX11_layTrial : MethodName := ⟨RX11, "layTrial", "()V"⟩
abbrev cX11_ahead : ByteArray := prog_13_method_32_code
def yX11_ahead : MethodName := ⟨RX11, "ahead", "(II)I"⟩
abbrev cX11_nextOrder : ByteArray := prog_13_method_33_code
def yX11_nextOrder : MethodName := ⟨RX11, "nextOrder", "()Z"⟩
abbrev cX11_exchange : ByteArray := prog_13_method_34_code
def yX11_exchange : MethodName := ⟨RX11, "exchange", "(II)V"⟩
abbrev cX11_lackBy : ByteArray := prog_13_method_35_code
def yX11_lackBy : MethodName := ⟨RX11, "lackBy", "(Z)I"⟩
abbrev cX11_figures : ByteArray := prog_13_method_36_code
def yX11_figures : MethodName := ⟨RX11, "figures", "()I"⟩
abbrev cX11_bestOrder : ByteArray := prog_13_method_37_code
def yX11_bestOrder : MethodName := ⟨RX11, "bestOrder", "(ZZ)I"⟩
abbrev cX11_order : ByteArray := prog_13_method_38_code
def yX11_order : MethodName := ⟨RX11, "order", "(Z)I"⟩
abbrev cX11_worst : ByteArray := prog_13_method_39_code
def yX11_worst : MethodName := ⟨RX11, "worst", "(Z)I"⟩
abbrev cX11_salts : ByteArray := prog_13_method_40_code
def yX11_salts : MethodName := ⟨RX11, "salts", "(I)I"⟩
abbrev cX11_cask : ByteArray := prog_13_method_41_code
def yX11_cask : MethodName := ⟨RX11, "cask", "(I)I"⟩
abbrev cX11_tryThing : ByteArray := prog_13_method_42_code
def yX11_tryThing : MethodName := ⟨RX11, "tryThing", "(III)Z"⟩
abbrev cX11_power : ByteArray := prog_13_method_43_code
def yX11_power : MethodName := ⟨RX11, "power", "(JI)J"⟩
abbrev cX11_judge : ByteArray := prog_13_method_44_code
def yX11_judge : MethodName := ⟨RX11, "judge", "(IJ)I"⟩
abbrev cX11_see : ByteArray := prog_13_method_45_code
def yX11_see : MethodName := ⟨RX11, "see", "(III)I"⟩
abbrev cX11_unsee : ByteArray := prog_13_method_46_code
def yX11_unsee : MethodName := ⟨RX11, "unsee", "()I"⟩
abbrev cX11_wants : ByteArray := prog_13_method_47_code
def yX11_wants : MethodName := ⟨RX11, "wants", "(I)I"⟩
abbrev cX11_factorial : ByteArray := prog_13_method_48_code
def yX11_factorial : MethodName := ⟨RX11, "factorial", "(I)I"⟩
abbrev cX11_common : ByteArray := prog_13_method_49_code
def yX11_common : MethodName := ⟨RX11, "common", "(II)I"⟩
abbrev cX11_drawnBy : ByteArray := prog_13_method_50_code
def yX11_drawnBy : MethodName := ⟨RX11, "drawnBy", "(I)I"⟩
abbrev cX11_share : ByteArray := prog_13_method_51_code
def yX11_share : MethodName := ⟨RX11, "share", "(IZ)I"⟩
abbrev cX11_gain : ByteArray := prog_13_method_52_code
def yX11_gain : MethodName := ⟨RX11, "gain", "(IIII)I"⟩
abbrev cX11_rests : ByteArray := prog_13_method_53_code
def yX11_rests : MethodName := ⟨RX11, "rests", "(III)I"⟩
abbrev cX11_guests : ByteArray := prog_13_method_54_code
def yX11_guests : MethodName := ⟨RX11, "guests", "(IIZ)I"⟩
abbrev cX11_seed : ByteArray := prog_13_method_55_code
def yX11_seed : MethodName := ⟨RX11, "seed", "(J)J"⟩
abbrev cX11_weeks : ByteArray := prog_13_method_56_code
def yX11_weeks : MethodName := ⟨RX11, "weeks", "(I)I"⟩
abbrev cX11_keep : ByteArray := prog_13_method_57_code
def yX11_keep : MethodName := ⟨RX11, "keep", "(I)I"⟩
abbrev cX11_again : ByteArray := prog_13_method_58_code
def yX11_again : MethodName := ⟨RX11, "again", "(I)I"⟩
abbrev cX11_count : ByteArray := prog_13_method_59_code
def yX11_count : MethodName := ⟨RX11, "count", "(I)I"⟩
def RJ6 : String := "java/lang/Integer"
abbrev cJ6_bitCount_0f7a4 : ByteArray := prog_14_method_49_code
def yJ6_bitCount_0f7a4 : MethodName := ⟨RJ6, "bitCount", "(I)I"⟩
def RJ9 : String := "java/lang/Math"
abbrev cJ9_floorMod_7cf53 : ByteArray := prog_15_method_50_code
def yJ9_floorMod_7cf53 : MethodName := ⟨RJ9, "floorMod", "(II)I"⟩
abbrev cJ9_abs_0f7a4 : ByteArray := prog_15_method_59_code
def yJ9_abs_0f7a4 : MethodName := ⟨RJ9, "abs", "(I)I"⟩
abbrev cJ9_max_7cf53 : ByteArray := prog_15_method_65_code
def yJ9_max_7cf53 : MethodName := ⟨RJ9, "max", "(II)I"⟩
abbrev cJ9_min_7cf53 : ByteArray := prog_15_method_69_code
def yJ9_min_7cf53 : MethodName := ⟨RJ9, "min", "(II)I"⟩
def RJ10 : String := "java/lang/System"
def RL : String := "ThirstRowLaw"
abbrev cL_law : ByteArray := code
