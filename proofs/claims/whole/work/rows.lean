section
-- ===== PART A: goes FIRST, ahead of the names: the tables' words, and 'selects' of the private methods out of them =====
/-- a private method of a class that the tables say can be made, by its rows of tables_1 -/
def lw_okq (q : MethodName × Nat) : Prop := (q.1.cls ≠ "java/lang/invoke/MethodHandle" ∧ q.1.cls ≠ "java/lang/invoke/VarHandle") ∧ Cond.instantiable q.1.cls q.2 ∈ tables_1 ∧ Cond.privateMethod q.1 ∈ tables_1 ∧ Cond.instanceMethod q.1 ∈ tables_1
theorem lw_p0 : lw_okq (⟨"ThirstRow$Reader", "take", "(II)I"⟩, 1) := ⟨⟨by decide +kernel, by decide +kernel⟩, List.mem_of_getElem? (i := 42) (by decide +kernel), List.mem_of_getElem? (i := 381) (by decide +kernel), List.mem_of_getElem? (i := 382) (by decide +kernel)⟩
theorem lw_p1 : lw_okq (⟨"ThirstRow$Reader", "takePart", "(I)I"⟩, 1) := ⟨⟨by decide +kernel, by decide +kernel⟩, List.mem_of_getElem? (i := 42) (by decide +kernel), List.mem_of_getElem? (i := 385) (by decide +kernel), List.mem_of_getElem? (i := 386) (by decide +kernel)⟩
theorem lw_p2 : lw_okq (⟨"ThirstRow$Reader", "takeFigure", "(III)I"⟩, 1) := ⟨⟨by decide +kernel, by decide +kernel⟩, List.mem_of_getElem? (i := 42) (by decide +kernel), List.mem_of_getElem? (i := 389) (by decide +kernel), List.mem_of_getElem? (i := 390) (by decide +kernel)⟩
theorem lw_p3 : lw_okq (⟨"ThirstRow", "isHouse", "(I)Z"⟩, 11) := ⟨⟨by decide +kernel, by decide +kernel⟩, List.mem_of_getElem? (i := 17) (by decide +kernel), List.mem_of_getElem? (i := 421) (by decide +kernel), List.mem_of_getElem? (i := 422) (by decide +kernel)⟩
theorem lw_p4 : lw_okq (⟨"ThirstRow$Today", "serve", "(IIII)V"⟩, 7) := ⟨⟨by decide +kernel, by decide +kernel⟩, List.mem_of_getElem? (i := 213) (by decide +kernel), List.mem_of_getElem? (i := 468) (by decide +kernel), List.mem_of_getElem? (i := 469) (by decide +kernel)⟩
theorem lw_p5 : lw_okq (⟨"ThirstRow$Outlook", "figures", "(I)I"⟩, 5) := ⟨⟨by decide +kernel, by decide +kernel⟩, List.mem_of_getElem? (i := 251) (by decide +kernel), List.mem_of_getElem? (i := 561) (by decide +kernel), List.mem_of_getElem? (i := 562) (by decide +kernel)⟩
theorem lw_p6 : lw_okq (⟨"ThirstRow$Outlook", "toNextOrder", "(I)Z"⟩, 5) := ⟨⟨by decide +kernel, by decide +kernel⟩, List.mem_of_getElem? (i := 251) (by decide +kernel), List.mem_of_getElem? (i := 565) (by decide +kernel), List.mem_of_getElem? (i := 566) (by decide +kernel)⟩
theorem lw_p7 : lw_okq (⟨"ThirstRow$Outlook", "canBe", "(LThirstRow$Told;III)Z"⟩, 5) := ⟨⟨by decide +kernel, by decide +kernel⟩, List.mem_of_getElem? (i := 251) (by decide +kernel), List.mem_of_getElem? (i := 614) (by decide +kernel), List.mem_of_getElem? (i := 615) (by decide +kernel)⟩
theorem lw_p8 : lw_okq (⟨"ThirstRow$Outlook", "lackOf", "(LThirstRow$Told;I)I"⟩, 5) := ⟨⟨by decide +kernel, by decide +kernel⟩, List.mem_of_getElem? (i := 251) (by decide +kernel), List.mem_of_getElem? (i := 619) (by decide +kernel), List.mem_of_getElem? (i := 620) (by decide +kernel)⟩
theorem lw_p9 : lw_okq (⟨"ThirstRow$Outlook", "carryOut", "(LThirstRow$Told;III)V"⟩, 5) := ⟨⟨by decide +kernel, by decide +kernel⟩, List.mem_of_getElem? (i := 251) (by decide +kernel), List.mem_of_getElem? (i := 623) (by decide +kernel), List.mem_of_getElem? (i := 624) (by decide +kernel)⟩
theorem lw_p10 : lw_okq (⟨"ThirstRow$Seen", "agrees", "(II)Z"⟩, 4) := ⟨⟨by decide +kernel, by decide +kernel⟩, List.mem_of_getElem? (i := 193) (by decide +kernel), List.mem_of_getElem? (i := 656) (by decide +kernel), List.mem_of_getElem? (i := 657) (by decide +kernel)⟩
theorem lw_p11 : lw_okq (⟨"ThirstRow$Chances", "drawnBy", "(LThirstRow$Told;LThirstRow$Standing;I)I"⟩, 7) := ⟨⟨by decide +kernel, by decide +kernel⟩, List.mem_of_getElem? (i := 281) (by decide +kernel), List.mem_of_getElem? (i := 670) (by decide +kernel), List.mem_of_getElem? (i := 671) (by decide +kernel)⟩
theorem lw_p12 : lw_okq (⟨"ThirstRow$Chances", "has", "(I)I"⟩, 7) := ⟨⟨by decide +kernel, by decide +kernel⟩, List.mem_of_getElem? (i := 281) (by decide +kernel), List.mem_of_getElem? (i := 699) (by decide +kernel), List.mem_of_getElem? (i := 700) (by decide +kernel)⟩
theorem lw_p13 : lw_okq (⟨"ThirstRow$Chances", "happen", "(LThirstRow$Told;I)I"⟩, 7) := ⟨⟨by decide +kernel, by decide +kernel⟩, List.mem_of_getElem? (i := 281) (by decide +kernel), List.mem_of_getElem? (i := 739) (by decide +kernel), List.mem_of_getElem? (i := 740) (by decide +kernel)⟩
theorem lw_p14 : lw_okq (⟨"ThirstRow", "lackingToday", "()I"⟩, 11) := ⟨⟨by decide +kernel, by decide +kernel⟩, List.mem_of_getElem? (i := 17) (by decide +kernel), List.mem_of_getElem? (i := 768) (by decide +kernel), List.mem_of_getElem? (i := 769) (by decide +kernel)⟩
theorem lw_p15 : lw_okq (⟨"ThirstRowModel", "readText", "()I"⟩, 30) := ⟨⟨by decide +kernel, by decide +kernel⟩, List.mem_of_getElem? (i := 772) (by decide +kernel), List.mem_of_getElem? (i := 886) (by decide +kernel), List.mem_of_getElem? (i := 887) (by decide +kernel)⟩
def lw_privs_1 : List (MethodName × Nat) := [(⟨"ThirstRow$Reader", "take", "(II)I"⟩, 1), (⟨"ThirstRow$Reader", "takePart", "(I)I"⟩, 1), (⟨"ThirstRow$Reader", "takeFigure", "(III)I"⟩, 1), (⟨"ThirstRow", "isHouse", "(I)Z"⟩, 11), (⟨"ThirstRow$Today", "serve", "(IIII)V"⟩, 7), (⟨"ThirstRow$Outlook", "figures", "(I)I"⟩, 5), (⟨"ThirstRow$Outlook", "toNextOrder", "(I)Z"⟩, 5), (⟨"ThirstRow$Outlook", "canBe", "(LThirstRow$Told;III)Z"⟩, 5), (⟨"ThirstRow$Outlook", "lackOf", "(LThirstRow$Told;I)I"⟩, 5), (⟨"ThirstRow$Outlook", "carryOut", "(LThirstRow$Told;III)V"⟩, 5), (⟨"ThirstRow$Seen", "agrees", "(II)Z"⟩, 4), (⟨"ThirstRow$Chances", "drawnBy", "(LThirstRow$Told;LThirstRow$Standing;I)I"⟩, 7), (⟨"ThirstRow$Chances", "has", "(I)I"⟩, 7), (⟨"ThirstRow$Chances", "happen", "(LThirstRow$Told;I)I"⟩, 7), (⟨"ThirstRow", "lackingToday", "()I"⟩, 11), (⟨"ThirstRowModel", "readText", "()I"⟩, 30)]
theorem lw_r1 : ∀ q ∈ lw_privs_1, lw_okq q := List.forall_mem_cons.mpr ⟨lw_p0, List.forall_mem_cons.mpr ⟨lw_p1, List.forall_mem_cons.mpr ⟨lw_p2, List.forall_mem_cons.mpr ⟨lw_p3, List.forall_mem_cons.mpr ⟨lw_p4, List.forall_mem_cons.mpr ⟨lw_p5, List.forall_mem_cons.mpr ⟨lw_p6, List.forall_mem_cons.mpr ⟨lw_p7, List.forall_mem_cons.mpr ⟨lw_p8, List.forall_mem_cons.mpr ⟨lw_p9, List.forall_mem_cons.mpr ⟨lw_p10, List.forall_mem_cons.mpr ⟨lw_p11, List.forall_mem_cons.mpr ⟨lw_p12, List.forall_mem_cons.mpr ⟨lw_p13, List.forall_mem_cons.mpr ⟨lw_p14, List.forall_mem_cons.mpr ⟨lw_p15, fun _ h => absurd h List.not_mem_nil⟩⟩⟩⟩⟩⟩⟩⟩⟩⟩⟩⟩⟩⟩⟩⟩
theorem lw_p16 : lw_okq (⟨"ThirstRowModel", "figure", "(I)I"⟩, 30) := ⟨⟨by decide +kernel, by decide +kernel⟩, List.mem_of_getElem? (i := 772) (by decide +kernel), List.mem_of_getElem? (i := 890) (by decide +kernel), List.mem_of_getElem? (i := 891) (by decide +kernel)⟩
theorem lw_p17 : lw_okq (⟨"ThirstRowModel", "isHouse", "(I)Z"⟩, 30) := ⟨⟨by decide +kernel, by decide +kernel⟩, List.mem_of_getElem? (i := 772) (by decide +kernel), List.mem_of_getElem? (i := 902) (by decide +kernel), List.mem_of_getElem? (i := 903) (by decide +kernel)⟩
theorem lw_p18 : lw_okq (⟨"ThirstRowModel", "layToday", "(I)V"⟩, 30) := ⟨⟨by decide +kernel, by decide +kernel⟩, List.mem_of_getElem? (i := 772) (by decide +kernel), List.mem_of_getElem? (i := 911) (by decide +kernel), List.mem_of_getElem? (i := 912) (by decide +kernel)⟩
theorem lw_p19 : lw_okq (⟨"ThirstRowModel", "heatOn", "(I)I"⟩, 30) := ⟨⟨by decide +kernel, by decide +kernel⟩, List.mem_of_getElem? (i := 772) (by decide +kernel), List.mem_of_getElem? (i := 921) (by decide +kernel), List.mem_of_getElem? (i := 922) (by decide +kernel)⟩
theorem lw_p20 : lw_okq (⟨"ThirstRowModel", "houseAt", "(II)I"⟩, 30) := ⟨⟨by decide +kernel, by decide +kernel⟩, List.mem_of_getElem? (i := 772) (by decide +kernel), List.mem_of_getElem? (i := 925) (by decide +kernel), List.mem_of_getElem? (i := 926) (by decide +kernel)⟩
theorem lw_p21 : lw_okq (⟨"ThirstRowModel", "keepAct", "()V"⟩, 30) := ⟨⟨by decide +kernel, by decide +kernel⟩, List.mem_of_getElem? (i := 772) (by decide +kernel), List.mem_of_getElem? (i := 937) (by decide +kernel), List.mem_of_getElem? (i := 938) (by decide +kernel)⟩
theorem lw_p22 : lw_okq (⟨"ThirstRowModel", "passOn", "(I)I"⟩, 30) := ⟨⟨by decide +kernel, by decide +kernel⟩, List.mem_of_getElem? (i := 772) (by decide +kernel), List.mem_of_getElem? (i := 941) (by decide +kernel), List.mem_of_getElem? (i := 942) (by decide +kernel)⟩
theorem lw_p23 : lw_okq (⟨"ThirstRowModel", "sumOf", "(I)I"⟩, 30) := ⟨⟨by decide +kernel, by decide +kernel⟩, List.mem_of_getElem? (i := 772) (by decide +kernel), List.mem_of_getElem? (i := 945) (by decide +kernel), List.mem_of_getElem? (i := 946) (by decide +kernel)⟩
theorem lw_p24 : lw_okq (⟨"ThirstRowModel", "swapOn", "(III)V"⟩, 30) := ⟨⟨by decide +kernel, by decide +kernel⟩, List.mem_of_getElem? (i := 772) (by decide +kernel), List.mem_of_getElem? (i := 953) (by decide +kernel), List.mem_of_getElem? (i := 954) (by decide +kernel)⟩
theorem lw_p25 : lw_okq (⟨"ThirstRowModel", "layTrial", "()V"⟩, 30) := ⟨⟨by decide +kernel, by decide +kernel⟩, List.mem_of_getElem? (i := 772) (by decide +kernel), List.mem_of_getElem? (i := 974) (by decide +kernel), List.mem_of_getElem? (i := 975) (by decide +kernel)⟩
theorem lw_p26 : lw_okq (⟨"ThirstRowModel", "lackedOn", "(I)I"⟩, 30) := ⟨⟨by decide +kernel, by decide +kernel⟩, List.mem_of_getElem? (i := 772) (by decide +kernel), List.mem_of_getElem? (i := 978) (by decide +kernel), List.mem_of_getElem? (i := 979) (by decide +kernel)⟩
theorem lw_p27 : lw_okq (⟨"ThirstRowModel", "bestOrder", "(ZZ)I"⟩, 30) := ⟨⟨by decide +kernel, by decide +kernel⟩, List.mem_of_getElem? (i := 772) (by decide +kernel), List.mem_of_getElem? (i := 986) (by decide +kernel), List.mem_of_getElem? (i := 987) (by decide +kernel)⟩
theorem lw_p28 : lw_okq (⟨"ThirstRowModel", "lackBy", "(Z)I"⟩, 30) := ⟨⟨by decide +kernel, by decide +kernel⟩, List.mem_of_getElem? (i := 772) (by decide +kernel), List.mem_of_getElem? (i := 990) (by decide +kernel), List.mem_of_getElem? (i := 991) (by decide +kernel)⟩
theorem lw_p29 : lw_okq (⟨"ThirstRowModel", "figures", "()I"⟩, 30) := ⟨⟨by decide +kernel, by decide +kernel⟩, List.mem_of_getElem? (i := 772) (by decide +kernel), List.mem_of_getElem? (i := 994) (by decide +kernel), List.mem_of_getElem? (i := 995) (by decide +kernel)⟩
theorem lw_p30 : lw_okq (⟨"ThirstRowModel", "nextOrder", "()Z"⟩, 30) := ⟨⟨by decide +kernel, by decide +kernel⟩, List.mem_of_getElem? (i := 772) (by decide +kernel), List.mem_of_getElem? (i := 998) (by decide +kernel), List.mem_of_getElem? (i := 999) (by decide +kernel)⟩
theorem lw_p31 : lw_okq (⟨"ThirstRowModel", "exchange", "(II)V"⟩, 30) := ⟨⟨by decide +kernel, by decide +kernel⟩, List.mem_of_getElem? (i := 772) (by decide +kernel), List.mem_of_getElem? (i := 1002) (by decide +kernel), List.mem_of_getElem? (i := 1003) (by decide +kernel)⟩
def lw_privs_2 : List (MethodName × Nat) := [(⟨"ThirstRowModel", "figure", "(I)I"⟩, 30), (⟨"ThirstRowModel", "isHouse", "(I)Z"⟩, 30), (⟨"ThirstRowModel", "layToday", "(I)V"⟩, 30), (⟨"ThirstRowModel", "heatOn", "(I)I"⟩, 30), (⟨"ThirstRowModel", "houseAt", "(II)I"⟩, 30), (⟨"ThirstRowModel", "keepAct", "()V"⟩, 30), (⟨"ThirstRowModel", "passOn", "(I)I"⟩, 30), (⟨"ThirstRowModel", "sumOf", "(I)I"⟩, 30), (⟨"ThirstRowModel", "swapOn", "(III)V"⟩, 30), (⟨"ThirstRowModel", "layTrial", "()V"⟩, 30), (⟨"ThirstRowModel", "lackedOn", "(I)I"⟩, 30), (⟨"ThirstRowModel", "bestOrder", "(ZZ)I"⟩, 30), (⟨"ThirstRowModel", "lackBy", "(Z)I"⟩, 30), (⟨"ThirstRowModel", "figures", "()I"⟩, 30), (⟨"ThirstRowModel", "nextOrder", "()Z"⟩, 30), (⟨"ThirstRowModel", "exchange", "(II)V"⟩, 30)]
theorem lw_r2 : ∀ q ∈ lw_privs_2, lw_okq q := List.forall_mem_cons.mpr ⟨lw_p16, List.forall_mem_cons.mpr ⟨lw_p17, List.forall_mem_cons.mpr ⟨lw_p18, List.forall_mem_cons.mpr ⟨lw_p19, List.forall_mem_cons.mpr ⟨lw_p20, List.forall_mem_cons.mpr ⟨lw_p21, List.forall_mem_cons.mpr ⟨lw_p22, List.forall_mem_cons.mpr ⟨lw_p23, List.forall_mem_cons.mpr ⟨lw_p24, List.forall_mem_cons.mpr ⟨lw_p25, List.forall_mem_cons.mpr ⟨lw_p26, List.forall_mem_cons.mpr ⟨lw_p27, List.forall_mem_cons.mpr ⟨lw_p28, List.forall_mem_cons.mpr ⟨lw_p29, List.forall_mem_cons.mpr ⟨lw_p30, List.forall_mem_cons.mpr ⟨lw_p31, fun _ h => absurd h List.not_mem_nil⟩⟩⟩⟩⟩⟩⟩⟩⟩⟩⟩⟩⟩⟩⟩⟩
theorem lw_p32 : lw_okq (⟨"ThirstRowModel", "every", "()I"⟩, 30) := ⟨⟨by decide +kernel, by decide +kernel⟩, List.mem_of_getElem? (i := 772) (by decide +kernel), List.mem_of_getElem? (i := 1014) (by decide +kernel), List.mem_of_getElem? (i := 1015) (by decide +kernel)⟩
theorem lw_p33 : lw_okq (⟨"ThirstRowModel", "tryThing", "(III)Z"⟩, 30) := ⟨⟨by decide +kernel, by decide +kernel⟩, List.mem_of_getElem? (i := 772) (by decide +kernel), List.mem_of_getElem? (i := 1034) (by decide +kernel), List.mem_of_getElem? (i := 1035) (by decide +kernel)⟩
theorem lw_p34 : lw_okq (⟨"ThirstRowModel", "drawnBy", "(I)I"⟩, 30) := ⟨⟨by decide +kernel, by decide +kernel⟩, List.mem_of_getElem? (i := 772) (by decide +kernel), List.mem_of_getElem? (i := 1059) (by decide +kernel), List.mem_of_getElem? (i := 1060) (by decide +kernel)⟩
theorem lw_p35 : lw_okq (⟨"ThirstRowModel", "gain", "(IIII)I"⟩, 30) := ⟨⟨by decide +kernel, by decide +kernel⟩, List.mem_of_getElem? (i := 772) (by decide +kernel), List.mem_of_getElem? (i := 1070) (by decide +kernel), List.mem_of_getElem? (i := 1071) (by decide +kernel)⟩
def lw_privs_3 : List (MethodName × Nat) := [(⟨"ThirstRowModel", "every", "()I"⟩, 30), (⟨"ThirstRowModel", "tryThing", "(III)Z"⟩, 30), (⟨"ThirstRowModel", "drawnBy", "(I)I"⟩, 30), (⟨"ThirstRowModel", "gain", "(IIII)I"⟩, 30)]
theorem lw_r3 : ∀ q ∈ lw_privs_3, lw_okq q := List.forall_mem_cons.mpr ⟨lw_p32, List.forall_mem_cons.mpr ⟨lw_p33, List.forall_mem_cons.mpr ⟨lw_p34, List.forall_mem_cons.mpr ⟨lw_p35, fun _ h => absurd h List.not_mem_nil⟩⟩⟩⟩
def lw_privs : List (MethodName × Nat) := lw_privs_1 ++ (lw_privs_2 ++ (lw_privs_3))
def lw_tbl : List Cond := k2_sels lw_privs ++ tables_1
theorem lw_privs_ok : ∀ q ∈ lw_privs, lw_okq q := by
  show ∀ q ∈ lw_privs_1 ++ (lw_privs_2 ++ (lw_privs_3)), lw_okq q
  exact List.forall_mem_append.mpr ⟨lw_r1, List.forall_mem_append.mpr ⟨lw_r2, lw_r3⟩⟩
def RX0 : String := "ThirstRow$Acts"
def TX0 : u_T := fun k => match k with
  | 0 => ("ThirstRow$Acts", "before", "[LThirstRow$Standing;", true)
  | 1 => ("ThirstRow$Acts", "first", "I", false)
  | _ => ("ThirstRow$Acts", "count", "I", false)
def tyX0 : Nat → FieldType := fun k => match k with
  | 0 => .array (.object "ThirstRow$Standing")
  | 1 => .int
  | _ => .int
abbrev wsX00 : List Cond := u_ws RX0 TX0 3
theorem nmX0 : ∀ a, a < 3 → ∀ b, b < 3 → a ≠ b → (TX0 a).2.1 ≠ (TX0 b).2.1 := by decide +kernel
theorem tyX0_ok : ∀ k, k < 3 → parseFieldDescriptor (TX0 k).2.2.1 = some (tyX0 k) := by decide +kernel
abbrev cX0_init : ByteArray := prog_2_method_1_code
def yX0_init : MethodName := ⟨RX0, "<init>", "()V"⟩
abbrev cX0_clear : ByteArray := prog_2_method_2_code
def yX0_clear : MethodName := ⟨RX0, "clear", "()V"⟩
abbrev cX0_remember : ByteArray := prog_2_method_3_code
def yX0_remember : MethodName := ⟨RX0, "remember", "(LThirstRow$Standing;)V"⟩
abbrev cX0_takeBack : ByteArray := prog_2_method_4_code
def yX0_takeBack : MethodName := ⟨RX0, "takeBack", "(LThirstRow$Standing;)Z"⟩
def RX1 : String := "ThirstRow$Chances"
def TX1 : u_T := fun k => match k with
  | 0 => ("ThirstRow$Chances", "trial", "LThirstRow$Standing;", true)
  | 1 => ("ThirstRow$Chances", "look", "LThirstRow$Today;", true)
  | 2 => ("ThirstRow$Chances", "oneHas", "[I", true)
  | 3 => ("ThirstRow$Chances", "otherHas", "[I", true)
  | 4 => ("ThirstRow$Chances", "restCount", "I", false)
  | 5 => ("ThirstRow$Chances", "firstRest", "I", false)
  | _ => ("ThirstRow$Chances", "seedThen", "J", false)
def tyX1 : Nat → FieldType := fun k => match k with
  | 0 => .object "ThirstRow$Standing"
  | 1 => .object "ThirstRow$Today"
  | 2 => .array .int
  | 3 => .array .int
  | 4 => .int
  | 5 => .int
  | _ => .long
abbrev wsX10 : List Cond := u_ws RX1 TX1 7
theorem nmX1 : ∀ a, a < 7 → ∀ b, b < 7 → a ≠ b → (TX1 a).2.1 ≠ (TX1 b).2.1 := by decide +kernel
theorem tyX1_ok : ∀ k, k < 7 → parseFieldDescriptor (TX1 k).2.2.1 = some (tyX1 k) := by decide +kernel
abbrev cX1_init : ByteArray := prog_3_method_1_code
def yX1_init : MethodName := ⟨RX1, "<init>", "()V"⟩
abbrev cX1_addedInAllOrders : ByteArray := prog_3_method_2_code
def yX1_addedInAllOrders : MethodName := ⟨RX1, "addedInAllOrders", "(LThirstRow$Told;LThirstRow$Standing;I)I"⟩
abbrev cX1_drawnBy : ByteArray := prog_3_method_3_code
def yX1_drawnBy : MethodName := ⟨RX1, "drawnBy", "(LThirstRow$Told;LThirstRow$Standing;I)I"⟩
abbrev cX1_seekRests : ByteArray := prog_3_method_4_code
def yX1_seekRests : MethodName := ⟨RX1, "seekRests", "(LThirstRow$Told;LThirstRow$Standing;II)V"⟩
abbrev cX1_has : ByteArray := prog_3_method_5_code
def yX1_has : MethodName := ⟨RX1, "has", "(I)I"⟩
abbrev cX1_waysToLack : ByteArray := prog_3_method_6_code
def yX1_waysToLack : MethodName := ⟨RX1, "waysToLack", "(LThirstRow$Told;LThirstRow$Standing;II)I"⟩
abbrev cX1_lackedByChance : ByteArray := prog_3_method_7_code
def yX1_lackedByChance : MethodName := ⟨RX1, "lackedByChance", "(LThirstRow$Told;LThirstRow$Standing;IJ)I"⟩
abbrev cX1_happen : ByteArray := prog_3_method_8_code
def yX1_happen : MethodName := ⟨RX1, "happen", "(LThirstRow$Told;I)I"⟩
def RX2 : String := "ThirstRow$Outlook"
def TX2 : u_T := fun k => match k with
  | 0 => ("ThirstRow$Outlook", "trialTold", "LThirstRow$Told;", true)
  | 1 => ("ThirstRow$Outlook", "trial", "LThirstRow$Standing;", true)
  | 2 => ("ThirstRow$Outlook", "look", "LThirstRow$Today;", true)
  | 3 => ("ThirstRow$Outlook", "bestLack", "I", false)
  | _ => ("ThirstRow$Outlook", "bestOrder", "I", false)
def tyX2 : Nat → FieldType := fun k => match k with
  | 0 => .object "ThirstRow$Told"
  | 1 => .object "ThirstRow$Standing"
  | 2 => .object "ThirstRow$Today"
  | 3 => .int
  | _ => .int
abbrev wsX20 : List Cond := u_ws RX2 TX2 5
theorem nmX2 : ∀ a, a < 5 → ∀ b, b < 5 → a ≠ b → (TX2 a).2.1 ≠ (TX2 b).2.1 := by decide +kernel
theorem tyX2_ok : ∀ k, k < 5 → parseFieldDescriptor (TX2 k).2.2.1 = some (tyX2 k) := by decide +kernel
abbrev cX2_init : ByteArray := prog_4_method_1_code
def yX2_init : MethodName := ⟨RX2, "<init>", "()V"⟩
abbrev cX2_inDays : ByteArray := prog_4_method_2_code
def yX2_inDays : MethodName := ⟨RX2, "inDays", "(LThirstRow$Told;LThirstRow$Standing;IZ)I"⟩
abbrev cX2_seekOrder : ByteArray := prog_4_method_3_code
def yX2_seekOrder : MethodName := ⟨RX2, "seekOrder", "(LThirstRow$Told;LThirstRow$Standing;Z)V"⟩
abbrev cX2_figures : ByteArray := prog_4_method_4_code
def yX2_figures : MethodName := ⟨RX2, "figures", "(I)I"⟩
abbrev cX2_toNextOrder : ByteArray := prog_4_method_5_code
def yX2_toNextOrder : MethodName := ⟨RX2, "toNextOrder", "(I)Z"⟩
abbrev cX2_exchangePlaces : ByteArray := prog_4_method_6_code
def yX2_exchangePlaces : MethodName := ⟨RX2, "exchangePlaces", "([III)V"⟩
abbrev cX2_fewestSalts : ByteArray := prog_4_method_7_code
def yX2_fewestSalts : MethodName := ⟨RX2, "fewestSalts", "(LThirstRow$Told;LThirstRow$Standing;I)I"⟩
abbrev cX2_leastBarrel : ByteArray := prog_4_method_8_code
def yX2_leastBarrel : MethodName := ⟨RX2, "leastBarrel", "(LThirstRow$Told;LThirstRow$Standing;I)I"⟩
abbrev cX2_firstNotSo : ByteArray := prog_4_method_9_code
def yX2_firstNotSo : MethodName := ⟨RX2, "firstNotSo", "(LThirstRow$Told;LThirstRow$Standing;IJ)I"⟩
abbrev cX2_canBe : ByteArray := prog_4_method_10_code
def yX2_canBe : MethodName := ⟨RX2, "canBe", "(LThirstRow$Told;III)Z"⟩
abbrev cX2_lackOf : ByteArray := prog_4_method_11_code
def yX2_lackOf : MethodName := ⟨RX2, "lackOf", "(LThirstRow$Told;I)I"⟩
abbrev cX2_carryOut : ByteArray := prog_4_method_12_code
def yX2_carryOut : MethodName := ⟨RX2, "carryOut", "(LThirstRow$Told;III)V"⟩
def RX3 : String := "ThirstRow$Reader"
def TX3 : u_T := fun k => match k with
  | _ => ("ThirstRow$Reader", "draft", "LThirstRow$Told;", true)
def tyX3 : Nat → FieldType := fun k => match k with
  | _ => .object "ThirstRow$Told"
abbrev wsX30 : List Cond := u_ws RX3 TX3 1
theorem nmX3 : ∀ a, a < 1 → ∀ b, b < 1 → a ≠ b → (TX3 a).2.1 ≠ (TX3 b).2.1 := by decide +kernel
theorem tyX3_ok : ∀ k, k < 1 → parseFieldDescriptor (TX3 k).2.2.1 = some (tyX3 k) := by decide +kernel
abbrev cX3_init : ByteArray := prog_5_method_1_code
def yX3_init : MethodName := ⟨RX3, "<init>", "()V"⟩
abbrev cX3_read : ByteArray := prog_5_method_2_code
def yX3_read : MethodName := ⟨RX3, "read", "(LThirstRow$Text;)I"⟩
abbrev cX3_take : ByteArray := prog_5_method_3_code
def yX3_take : MethodName := ⟨RX3, "take", "(II)I"⟩
abbrev cX3_takePart : ByteArray := prog_5_method_4_code
def yX3_takePart : MethodName := ⟨RX3, "takePart", "(I)I"⟩
abbrev cX3_takeFigure : ByteArray := prog_5_method_5_code
def yX3_takeFigure : MethodName := ⟨RX3, "takeFigure", "(III)I"⟩
abbrev cX3_putLast : ByteArray := prog_5_method_6_code
def yX3_putLast : MethodName := ⟨RX3, "putLast", "([IIII)I"⟩
def RX4 : String := "ThirstRow$Seen"
def TX4 : u_T := fun k => match k with
  | 0 => ("ThirstRow$Seen", "houses", "[I", true)
  | 1 => ("ThirstRow$Seen", "heats", "[I", true)
  | 2 => ("ThirstRow$Seen", "said", "[I", true)
  | _ => ("ThirstRow$Seen", "count", "I", false)
def tyX4 : Nat → FieldType := fun k => match k with
  | 0 => .array .int
  | 1 => .array .int
  | 2 => .array .int
  | _ => .int
abbrev wsX40 : List Cond := u_ws RX4 TX4 4
theorem nmX4 : ∀ a, a < 4 → ∀ b, b < 4 → a ≠ b → (TX4 a).2.1 ≠ (TX4 b).2.1 := by decide +kernel
theorem tyX4_ok : ∀ k, k < 4 → parseFieldDescriptor (TX4 k).2.2.1 = some (tyX4 k) := by decide +kernel
abbrev cX4_init : ByteArray := prog_6_method_1_code
def yX4_init : MethodName := ⟨RX4, "<init>", "()V"⟩
abbrev cX4_add : ByteArray := prog_6_method_2_code
def yX4_add : MethodName := ⟨RX4, "add", "(III)I"⟩
abbrev cX4_clear : ByteArray := prog_6_method_3_code
def yX4_clear : MethodName := ⟨RX4, "clear", "()I"⟩
abbrev cX4_possibleWants : ByteArray := prog_6_method_4_code
def yX4_possibleWants : MethodName := ⟨RX4, "possibleWants", "(II)I"⟩
abbrev cX4_agrees : ByteArray := prog_6_method_5_code
def yX4_agrees : MethodName := ⟨RX4, "agrees", "(II)Z"⟩
def RX5 : String := "ThirstRow$Slots"
def TX5 : u_T := fun k => match k with
  | 0 => ("ThirstRow$Slots", "kept", "[LThirstRow$Standing;", true)
  | _ => ("ThirstRow$Slots", "keptBits", "I", false)
def tyX5 : Nat → FieldType := fun k => match k with
  | 0 => .array (.object "ThirstRow$Standing")
  | _ => .int
abbrev wsX50 : List Cond := u_ws RX5 TX5 2
theorem nmX5 : ∀ a, a < 2 → ∀ b, b < 2 → a ≠ b → (TX5 a).2.1 ≠ (TX5 b).2.1 := by decide +kernel
theorem tyX5_ok : ∀ k, k < 2 → parseFieldDescriptor (TX5 k).2.2.1 = some (tyX5 k) := by decide +kernel
abbrev cX5_init : ByteArray := prog_7_method_1_code
def yX5_init : MethodName := ⟨RX5, "<init>", "()V"⟩
abbrev cX5_clear : ByteArray := prog_7_method_2_code
def yX5_clear : MethodName := ⟨RX5, "clear", "()V"⟩
abbrev cX5_put : ByteArray := prog_7_method_3_code
def yX5_put : MethodName := ⟨RX5, "put", "(ILThirstRow$Standing;)V"⟩
abbrev cX5_fetch : ByteArray := prog_7_method_4_code
def yX5_fetch : MethodName := ⟨RX5, "fetch", "(ILThirstRow$Standing;)Z"⟩
def RX6 : String := "ThirstRow$Standing"
def TX6 : u_T := fun k => match k with
  | 0 => ("ThirstRow$Standing", "order", "[I", true)
  | 1 => ("ThirstRow$Standing", "stored", "[I", true)
  | 2 => ("ThirstRow$Standing", "lacked", "[I", true)
  | 3 => ("ThirstRow$Standing", "saltedBits", "I", false)
  | 4 => ("ThirstRow$Standing", "awayBits", "I", false)
  | _ => ("ThirstRow$Standing", "dayNumber", "I", false)
def tyX6 : Nat → FieldType := fun k => match k with
  | 0 => .array .int
  | 1 => .array .int
  | 2 => .array .int
  | 3 => .int
  | 4 => .int
  | _ => .int
abbrev wsX60 : List Cond := u_ws RX6 TX6 6
theorem nmX6 : ∀ a, a < 6 → ∀ b, b < 6 → a ≠ b → (TX6 a).2.1 ≠ (TX6 b).2.1 := by decide +kernel
theorem tyX6_ok : ∀ k, k < 6 → parseFieldDescriptor (TX6 k).2.2.1 = some (tyX6 k) := by decide +kernel
abbrev cX6_init : ByteArray := prog_8_method_1_code
def yX6_init : MethodName := ⟨RX6, "<init>", "()V"⟩
abbrev cX6_clear : ByteArray := prog_8_method_2_code
def yX6_clear : MethodName := ⟨RX6, "clear", "()V"⟩
abbrev cX6_standAsTold : ByteArray := prog_8_method_3_code
def yX6_standAsTold : MethodName := ⟨RX6, "standAsTold", "()V"⟩
abbrev cX6_copyFrom : ByteArray := prog_8_method_4_code
def yX6_copyFrom : MethodName := ⟨RX6, "copyFrom", "(LThirstRow$Standing;)V"⟩
abbrev cX6_placeOf : ByteArray := prog_8_method_5_code
def yX6_placeOf : MethodName := ⟨RX6, "placeOf", "(I)I"⟩
abbrev cX6_exchange : ByteArray := prog_8_method_6_code
def yX6_exchange : MethodName := ⟨RX6, "exchange", "(II)V"⟩
abbrev cX6_isSalted : ByteArray := prog_8_method_7_code
def yX6_isSalted : MethodName := ⟨RX6, "isSalted", "(I)Z"⟩
abbrev cX6_giveSalt : ByteArray := prog_8_method_8_code
def yX6_giveSalt : MethodName := ⟨RX6, "giveSalt", "(I)V"⟩
abbrev cX6_isAway : ByteArray := prog_8_method_9_code
def yX6_isAway : MethodName := ⟨RX6, "isAway", "(I)Z"⟩
abbrev cX6_turnAway : ByteArray := prog_8_method_10_code
def yX6_turnAway : MethodName := ⟨RX6, "turnAway", "(I)V"⟩
abbrev cX6_countPresent : ByteArray := prog_8_method_11_code
def yX6_countPresent : MethodName := ⟨RX6, "countPresent", "(I)I"⟩
def RX7 : String := "ThirstRow$Text"
def TX7 : u_T := fun k => match k with
  | 0 => ("ThirstRow$Text", "letters", "[I", true)
  | _ => ("ThirstRow$Text", "length", "I", false)
def tyX7 : Nat → FieldType := fun k => match k with
  | 0 => .array .int
  | _ => .int
abbrev wsX70 : List Cond := u_ws RX7 TX7 2
theorem nmX7 : ∀ a, a < 2 → ∀ b, b < 2 → a ≠ b → (TX7 a).2.1 ≠ (TX7 b).2.1 := by decide +kernel
theorem tyX7_ok : ∀ k, k < 2 → parseFieldDescriptor (TX7 k).2.2.1 = some (tyX7 k) := by decide +kernel
abbrev cX7_init : ByteArray := prog_9_method_1_code
def yX7_init : MethodName := ⟨RX7, "<init>", "()V"⟩
abbrev cX7_append : ByteArray := prog_9_method_2_code
def yX7_append : MethodName := ⟨RX7, "append", "(I)I"⟩
abbrev cX7_clear : ByteArray := prog_9_method_3_code
def yX7_clear : MethodName := ⟨RX7, "clear", "()I"⟩
def RX8 : String := "ThirstRow$Today"
def TX8 : u_T := fun k => match k with
  | 0 => ("ThirstRow$Today", "want", "[I", true)
  | 1 => ("ThirstRow$Today", "said", "[I", true)
  | 2 => ("ThirstRow$Today", "given", "[I", true)
  | 3 => ("ThirstRow$Today", "drawn", "[I", true)
  | 4 => ("ThirstRow$Today", "lacking", "[I", true)
  | 5 => ("ThirstRow$Today", "left", "[I", true)
  | _ => ("ThirstRow$Today", "spilt", "[I", true)
def tyX8 : Nat → FieldType := fun k => match k with
  | 0 => .array .int
  | 1 => .array .int
  | 2 => .array .int
  | 3 => .array .int
  | 4 => .array .int
  | 5 => .array .int
  | _ => .array .int
abbrev wsX80 : List Cond := u_ws RX8 TX8 7
theorem nmX8 : ∀ a, a < 7 → ∀ b, b < 7 → a ≠ b → (TX8 a).2.1 ≠ (TX8 b).2.1 := by decide +kernel
theorem tyX8_ok : ∀ k, k < 7 → parseFieldDescriptor (TX8 k).2.2.1 = some (tyX8 k) := by decide +kernel
abbrev cX8_init : ByteArray := prog_10_method_1_code
def yX8_init : MethodName := ⟨RX8, "<init>", "()V"⟩
abbrev cX8_lookAt : ByteArray := prog_10_method_2_code
def yX8_lookAt : MethodName := ⟨RX8, "lookAt", "(LThirstRow$Told;LThirstRow$Standing;)V"⟩
abbrev cX8_hear : ByteArray := prog_10_method_3_code
def yX8_hear : MethodName := ⟨RX8, "hear", "(LThirstRow$Told;LThirstRow$Standing;I)V"⟩
abbrev cX8_pour : ByteArray := prog_10_method_4_code
def yX8_pour : MethodName := ⟨RX8, "pour", "(LThirstRow$Told;LThirstRow$Standing;)V"⟩
abbrev cX8_serve : ByteArray := prog_10_method_5_code
def yX8_serve : MethodName := ⟨RX8, "serve", "(IIII)V"⟩
abbrev cX8_pass : ByteArray := prog_10_method_6_code
def yX8_pass : MethodName := ⟨RX8, "pass", "(LThirstRow$Told;LThirstRow$Standing;)V"⟩
def RX9 : String := "ThirstRow$Told"
def TX9 : u_T := fun k => match k with
  | 0 => ("ThirstRow$Told", "trough", "I", false)
  | 1 => ("ThirstRow$Told", "ring", "Z", false)
  | 2 => ("ThirstRow$Told", "houses", "I", false)
  | 3 => ("ThirstRow$Told", "heats", "I", false)
  | 4 => ("ThirstRow$Told", "wants", "[I", true)
  | 5 => ("ThirstRow$Told", "kinds", "[I", true)
  | 6 => ("ThirstRow$Told", "barrels", "[I", true)
  | _ => ("ThirstRow$Told", "heatsInTurn", "[I", true)
def tyX9 : Nat → FieldType := fun k => match k with
  | 0 => .int
  | 1 => .boolean
  | 2 => .int
  | 3 => .int
  | 4 => .array .int
  | 5 => .array .int
  | 6 => .array .int
  | _ => .array .int
abbrev wsX90 : List Cond := u_ws RX9 TX9 8
theorem nmX9 : ∀ a, a < 8 → ∀ b, b < 8 → a ≠ b → (TX9 a).2.1 ≠ (TX9 b).2.1 := by decide +kernel
theorem tyX9_ok : ∀ k, k < 8 → parseFieldDescriptor (TX9 k).2.2.1 = some (tyX9 k) := by decide +kernel
abbrev cX9_init : ByteArray := prog_11_method_1_code
def yX9_init : MethodName := ⟨RX9, "<init>", "()V"⟩
abbrev cX9_clear : ByteArray := prog_11_method_2_code
def yX9_clear : MethodName := ⟨RX9, "clear", "()V"⟩
abbrev cX9_copyFrom : ByteArray := prog_11_method_3_code
def yX9_copyFrom : MethodName := ⟨RX9, "copyFrom", "(LThirstRow$Told;)V"⟩
abbrev cX9_heatOn : ByteArray := prog_11_method_4_code
def yX9_heatOn : MethodName := ⟨RX9, "heatOn", "(I)I"⟩
def RX10 : String := "ThirstRow"
def TX10 : u_T := fun k => match k with
  | 0 => ("ThirstRow", "text", "LThirstRow$Text;", true)
  | 1 => ("ThirstRow", "reader", "LThirstRow$Reader;", true)
  | 2 => ("ThirstRow", "told", "LThirstRow$Told;", true)
  | 3 => ("ThirstRow", "now", "LThirstRow$Standing;", true)
  | 4 => ("ThirstRow", "acts", "LThirstRow$Acts;", true)
  | 5 => ("ThirstRow", "slots", "LThirstRow$Slots;", true)
  | 6 => ("ThirstRow", "seen", "LThirstRow$Seen;", true)
  | 7 => ("ThirstRow", "look", "LThirstRow$Today;", true)
  | 8 => ("ThirstRow", "outlook", "LThirstRow$Outlook;", true)
  | 9 => ("ThirstRow", "chances", "LThirstRow$Chances;", true)
  | _ => ("ThirstRow", "theSeed", "J", false)
def tyX10 : Nat → FieldType := fun k => match k with
  | 0 => .object "ThirstRow$Text"
  | 1 => .object "ThirstRow$Reader"
  | 2 => .object "ThirstRow$Told"
  | 3 => .object "ThirstRow$Standing"
  | 4 => .object "ThirstRow$Acts"
  | 5 => .object "ThirstRow$Slots"
  | 6 => .object "ThirstRow$Seen"
  | 7 => .object "ThirstRow$Today"
  | 8 => .object "ThirstRow$Outlook"
  | 9 => .object "ThirstRow$Chances"
  | _ => .long
abbrev wsX100 : List Cond := u_ws RX10 TX10 11
theorem nmX10 : ∀ a, a < 11 → ∀ b, b < 11 → a ≠ b → (TX10 a).2.1 ≠ (TX10 b).2.1 := by decide +kernel
theorem tyX10_ok : ∀ k, k < 11 → parseFieldDescriptor (TX10 k).2.2.1 = some (tyX10 k) := by decide +kernel
abbrev cX10_init : ByteArray := prog_1_method_1_code
def yX10_init : MethodName := ⟨RX10, "<init>", "()V"⟩
abbrev cX10_write : ByteArray := prog_1_method_2_code
def yX10_write : MethodName := ⟨RX10, "write", "(I)I"⟩
abbrev cX10_wipe : ByteArray := prog_1_method_3_code
def yX10_wipe : MethodName := ⟨RX10, "wipe", "()I"⟩
abbrev cX10_fault : ByteArray := prog_1_method_4_code
def yX10_fault : MethodName := ⟨RX10, "fault", "()I"⟩
abbrev cX10_row : ByteArray := prog_1_method_5_code
def yX10_row : MethodName := ⟨RX10, "row", "()I"⟩
abbrev cX10_house : ByteArray := prog_1_method_6_code
def yX10_house : MethodName := ⟨RX10, "house", "(II)I"⟩
abbrev cX10_today : ByteArray := prog_1_method_7_code
def yX10_today : MethodName := ⟨RX10, "today", "(II)I"⟩
abbrev cX10_at : ByteArray := prog_1_method_8_code
def yX10_at : MethodName := ⟨RX10, "at", "(I)I"⟩
abbrev cX10_day : ByteArray := prog_1_method_9_code
def yX10_day : MethodName := ⟨RX10, "day", "()I"⟩
abbrev cX10_swap : ByteArray := prog_1_method_10_code
def yX10_swap : MethodName := ⟨RX10, "swap", "(II)I"⟩
abbrev cX10_salt : ByteArray := prog_1_method_11_code
def yX10_salt : MethodName := ⟨RX10, "salt", "(I)I"⟩
abbrev cX10_away : ByteArray := prog_1_method_12_code
def yX10_away : MethodName := ⟨RX10, "away", "(I)I"⟩
abbrev cX10_undo : ByteArray := prog_1_method_13_code
def yX10_undo : MethodName := ⟨RX10, "undo", "()I"⟩
abbrev cX10_ahead : ByteArray := prog_1_method_14_code
def yX10_ahead : MethodName := ⟨RX10, "ahead", "(II)I"⟩
abbrev cX10_order : ByteArray := prog_1_method_15_code
def yX10_order : MethodName := ⟨RX10, "order", "(Z)I"⟩
abbrev cX10_worst : ByteArray := prog_1_method_16_code
def yX10_worst : MethodName := ⟨RX10, "worst", "(Z)I"⟩
abbrev cX10_salts : ByteArray := prog_1_method_17_code
def yX10_salts : MethodName := ⟨RX10, "salts", "(I)I"⟩
abbrev cX10_cask : ByteArray := prog_1_method_18_code
def yX10_cask : MethodName := ⟨RX10, "cask", "(I)I"⟩
abbrev cX10_judge : ByteArray := prog_1_method_19_code
def yX10_judge : MethodName := ⟨RX10, "judge", "(IJ)I"⟩
abbrev cX10_see : ByteArray := prog_1_method_20_code
def yX10_see : MethodName := ⟨RX10, "see", "(III)I"⟩
abbrev cX10_unsee : ByteArray := prog_1_method_21_code
def yX10_unsee : MethodName := ⟨RX10, "unsee", "()I"⟩
abbrev cX10_wants : ByteArray := prog_1_method_22_code
def yX10_wants : MethodName := ⟨RX10, "wants", "(I)I"⟩
abbrev cX10_share : ByteArray := prog_1_method_23_code
def yX10_share : MethodName := ⟨RX10, "share", "(IZ)I"⟩
abbrev cX10_rests : ByteArray := prog_1_method_24_code
def yX10_rests : MethodName := ⟨RX10, "rests", "(III)I"⟩
abbrev cX10_guests : ByteArray := prog_1_method_25_code
def yX10_guests : MethodName := ⟨RX10, "guests", "(IIZ)I"⟩
abbrev cX10_seed : ByteArray := prog_1_method_26_code
def yX10_seed : MethodName := ⟨RX10, "seed", "(J)J"⟩
abbrev cX10_weeks : ByteArray := prog_1_method_27_code
def yX10_weeks : MethodName := ⟨RX10, "weeks", "(I)I"⟩
abbrev cX10_keep : ByteArray := prog_1_method_28_code
def yX10_keep : MethodName := ⟨RX10, "keep", "(I)I"⟩
abbrev cX10_again : ByteArray := prog_1_method_29_code
def yX10_again : MethodName := ⟨RX10, "again", "(I)I"⟩
abbrev cX10_count : ByteArray := prog_1_method_30_code
def yX10_count : MethodName := ⟨RX10, "count", "(I)I"⟩
abbrev cX10_isHouse : ByteArray := prog_1_method_31_code
def yX10_isHouse : MethodName := ⟨RX10, "isHouse", "(I)Z"⟩
abbrev cX10_lackingToday : ByteArray := prog_1_method_32_code
def yX10_lackingToday : MethodName := ⟨RX10, "lackingToday", "()I"⟩
abbrev cX10_within : ByteArray := prog_1_method_33_code
def yX10_within : MethodName := ⟨RX10, "within", "(III)Z"⟩
abbrev cX10_sum : ByteArray := prog_1_method_34_code
def yX10_sum : MethodName := ⟨RX10, "sum", "([II)I"⟩
abbrev cX10_greatest : ByteArray := prog_1_method_35_code
def yX10_greatest : MethodName := ⟨RX10, "greatest", "([II)I"⟩
abbrev cX10_ordersOf : ByteArray := prog_1_method_36_code
def yX10_ordersOf : MethodName := ⟨RX10, "ordersOf", "(I)I"⟩
abbrev cX10_power : ByteArray := prog_1_method_37_code
def yX10_power : MethodName := ⟨RX10, "power", "(II)I"⟩
abbrev cX10_wantByKind : ByteArray := prog_1_method_38_code
def yX10_wantByKind : MethodName := ⟨RX10, "wantByKind", "(II)I"⟩
abbrev cX10_lieOf : ByteArray := prog_1_method_39_code
def yX10_lieOf : MethodName := ⟨RX10, "lieOf", "(I)I"⟩
abbrev cX10_withoutDoings : ByteArray := prog_1_method_40_code
def yX10_withoutDoings : MethodName := ⟨RX10, "withoutDoings", "(JI)J"⟩
abbrev cX10_inLeastTerms : ByteArray := prog_1_method_41_code
def yX10_inLeastTerms : MethodName := ⟨RX10, "inLeastTerms", "(IIZ)I"⟩
abbrev cX10_commonDivisor : ByteArray := prog_1_method_42_code
def yX10_commonDivisor : MethodName := ⟨RX10, "commonDivisor", "(II)I"⟩
def RX11 : String := "ThirstRowModel"
def TX11 : u_T := fun k => match k with
  | 0 => ("ThirstRowModel", "houses", "I", false)
  | 1 => ("ThirstRowModel", "heats", "I", false)
  | 2 => ("ThirstRowModel", "trough", "I", false)
  | 3 => ("ThirstRowModel", "ring", "I", false)
  | 4 => ("ThirstRowModel", "need", "[I", true)
  | 5 => ("ThirstRowModel", "kind", "[I", true)
  | 6 => ("ThirstRowModel", "barrel", "[I", true)
  | 7 => ("ThirstRowModel", "heat", "[I", true)
  | 8 => ("ThirstRowModel", "now", "[I", true)
  | 9 => ("ThirstRowModel", "readHouse", "[I", true)
  | 10 => ("ThirstRowModel", "readHeat", "[I", true)
  | 11 => ("ThirstRowModel", "readHouses", "I", false)
  | 12 => ("ThirstRowModel", "readHeats", "I", false)
  | 13 => ("ThirstRowModel", "text", "[I", true)
  | 14 => ("ThirstRowModel", "length", "I", false)
  | 15 => ("ThirstRowModel", "where", "I", false)
  | 16 => ("ThirstRowModel", "faultAt", "I", false)
  | 17 => ("ThirstRowModel", "today", "[I", true)
  | 18 => ("ThirstRowModel", "guests", "I", false)
  | 19 => ("ThirstRowModel", "acts", "I", false)
  | 20 => ("ThirstRowModel", "next", "I", false)
  | 21 => ("ThirstRowModel", "row", "[I", true)
  | 22 => ("ThirstRowModel", "order", "[I", true)
  | 23 => ("ThirstRowModel", "seen", "I", false)
  | 24 => ("ThirstRowModel", "seenOf", "[I", true)
  | 25 => ("ThirstRowModel", "seenHeat", "[I", true)
  | 26 => ("ThirstRowModel", "seenSaid", "[I", true)
  | 27 => ("ThirstRowModel", "seed", "J", false)
  | 28 => ("ThirstRowModel", "isKept", "[Z", true)
  | _ => ("ThirstRowModel", "kept", "[I", true)
def tyX11 : Nat → FieldType := fun k => match k with
  | 0 => .int
  | 1 => .int
  | 2 => .int
  | 3 => .int
  | 4 => .array .int
  | 5 => .array .int
  | 6 => .array .int
  | 7 => .array .int
  | 8 => .array .int
  | 9 => .array .int
  | 10 => .array .int
  | 11 => .int
  | 12 => .int
  | 13 => .array .int
  | 14 => .int
  | 15 => .int
  | 16 => .int
  | 17 => .array .int
  | 18 => .int
  | 19 => .int
  | 20 => .int
  | 21 => .array .int
  | 22 => .array .int
  | 23 => .int
  | 24 => .array .int
  | 25 => .array .int
  | 26 => .array .int
  | 27 => .long
  | 28 => .array .boolean
  | _ => .array .int
abbrev wsX110 : List Cond := u_ws RX11 TX11 30
theorem nmX11 : ∀ a, a < 30 → ∀ b, b < 30 → a ≠ b → (TX11 a).2.1 ≠ (TX11 b).2.1 := by decide +kernel
theorem tyX11_ok : ∀ k, k < 30 → parseFieldDescriptor (TX11 k).2.2.1 = some (tyX11 k) := by decide +kernel
abbrev cX11_init : ByteArray := prog_13_method_1_code
def yX11_init : MethodName := ⟨RX11, "<init>", "()V"⟩
abbrev cX11_in : ByteArray := prog_13_method_3_code
def yX11_in : MethodName := ⟨RX11, "in", "(JJJ)Z"⟩
abbrev cX11_has : ByteArray := prog_13_method_4_code
def yX11_has : MethodName := ⟨RX11, "has", "(II)Z"⟩
abbrev cX11_ones : ByteArray := prog_13_method_5_code
def yX11_ones : MethodName := ⟨RX11, "ones", "(I)I"⟩
abbrev cX11_write : ByteArray := prog_13_method_6_code
def yX11_write : MethodName := ⟨RX11, "write", "(I)I"⟩
abbrev cX11_wipe : ByteArray := prog_13_method_7_code
def yX11_wipe : MethodName := ⟨RX11, "wipe", "()I"⟩
abbrev cX11_figure : ByteArray := prog_13_method_8_code
def yX11_figure : MethodName := ⟨RX11, "figure", "(I)I"⟩
abbrev cX11_readText : ByteArray := prog_13_method_9_code
def yX11_readText : MethodName := ⟨RX11, "readText", "()I"⟩
abbrev cX11_fault : ByteArray := prog_13_method_10_code
def yX11_fault : MethodName := ⟨RX11, "fault", "()I"⟩
abbrev cX11_row : ByteArray := prog_13_method_11_code
def yX11_row : MethodName := ⟨RX11, "row", "()I"⟩
abbrev cX11_isHouse : ByteArray := prog_13_method_12_code
def yX11_isHouse : MethodName := ⟨RX11, "isHouse", "(I)Z"⟩
abbrev cX11_every : ByteArray := prog_13_method_13_code
def yX11_every : MethodName := ⟨RX11, "every", "()I"⟩
abbrev cX11_heatOn : ByteArray := prog_13_method_14_code
def yX11_heatOn : MethodName := ⟨RX11, "heatOn", "(I)I"⟩
abbrev cX11_wantBy : ByteArray := prog_13_method_15_code
def yX11_wantBy : MethodName := ⟨RX11, "wantBy", "(II)I"⟩
abbrev cX11_houseAt : ByteArray := prog_13_method_16_code
def yX11_houseAt : MethodName := ⟨RX11, "houseAt", "(II)I"⟩
abbrev cX11_layToday : ByteArray := prog_13_method_17_code
def yX11_layToday : MethodName := ⟨RX11, "layToday", "(I)V"⟩
abbrev cX11_sumOf : ByteArray := prog_13_method_18_code
def yX11_sumOf : MethodName := ⟨RX11, "sumOf", "(I)I"⟩
abbrev cX11_passOn : ByteArray := prog_13_method_19_code
def yX11_passOn : MethodName := ⟨RX11, "passOn", "(I)I"⟩
abbrev cX11_lackedOn : ByteArray := prog_13_method_20_code
def yX11_lackedOn : MethodName := ⟨RX11, "lackedOn", "(I)I"⟩
abbrev cX11_house : ByteArray := prog_13_method_21_code
def yX11_house : MethodName := ⟨RX11, "house", "(II)I"⟩
abbrev cX11_today : ByteArray := prog_13_method_22_code
def yX11_today : MethodName := ⟨RX11, "today", "(II)I"⟩
abbrev cX11_at : ByteArray := prog_13_method_23_code
def yX11_at : MethodName := ⟨RX11, "at", "(I)I"⟩
abbrev cX11_keepAct : ByteArray := prog_13_method_24_code
def yX11_keepAct : MethodName := ⟨RX11, "keepAct", "()V"⟩
abbrev cX11_day : ByteArray := prog_13_method_25_code
def yX11_day : MethodName := ⟨RX11, "day", "()I"⟩
abbrev cX11_swapOn : ByteArray := prog_13_method_26_code
def yX11_swapOn : MethodName := ⟨RX11, "swapOn", "(III)V"⟩
abbrev cX11_swap : ByteArray := prog_13_method_27_code
def yX11_swap : MethodName := ⟨RX11, "swap", "(II)I"⟩
abbrev cX11_salt : ByteArray := prog_13_method_28_code
def yX11_salt : MethodName := ⟨RX11, "salt", "(I)I"⟩
abbrev cX11_away : ByteArray := prog_13_method_29_code
def yX11_away : MethodName := ⟨RX11, "away", "(I)I"⟩
abbrev cX11_undo : ByteArray := prog_13_method_30_code
def yX11_undo : MethodName := ⟨RX11, "undo", "()I"⟩
abbrev cX11_layTrial : ByteArray := prog_13_method_31_code
def yX11_layTrial : MethodName := ⟨RX11, "layTrial", "()V"⟩
abbrev cX11_ahead : ByteArray := prog_13_method_32_code
def yX11_ahead : MethodName := ⟨RX11, "ahead", "(II)I"⟩
abbrev cX11_nextOrder : ByteArray := prog_13_method_33_code
def yX11_nextOrder : MethodName := ⟨RX11, "nextOrder", "()Z"⟩
abbrev cX11_exchange : ByteArray := prog_13_method_34_code
def yX11_exchange : MethodName := ⟨RX11, "exchange", "(II)V"⟩
abbrev cX11_lackBy : ByteArray := prog_13_method_35_code
def yX11_lackBy : MethodName := ⟨RX11, "lackBy", "(Z)I"⟩
abbrev cX11_figures : ByteArray := prog_13_method_36_code
def yX11_figures : MethodName := ⟨RX11, "figures", "()I"⟩
abbrev cX11_bestOrder : ByteArray := prog_13_method_37_code
def yX11_bestOrder : MethodName := ⟨RX11, "bestOrder", "(ZZ)I"⟩
abbrev cX11_order : ByteArray := prog_13_method_38_code
def yX11_order : MethodName := ⟨RX11, "order", "(Z)I"⟩
abbrev cX11_worst : ByteArray := prog_13_method_39_code
def yX11_worst : MethodName := ⟨RX11, "worst", "(Z)I"⟩
abbrev cX11_salts : ByteArray := prog_13_method_40_code
def yX11_salts : MethodName := ⟨RX11, "salts", "(I)I"⟩
abbrev cX11_cask : ByteArray := prog_13_method_41_code
def yX11_cask : MethodName := ⟨RX11, "cask", "(I)I"⟩
abbrev cX11_tryThing : ByteArray := prog_13_method_42_code
def yX11_tryThing : MethodName := ⟨RX11, "tryThing", "(III)Z"⟩
abbrev cX11_power : ByteArray := prog_13_method_43_code
def yX11_power : MethodName := ⟨RX11, "power", "(JI)J"⟩
abbrev cX11_judge : ByteArray := prog_13_method_44_code
def yX11_judge : MethodName := ⟨RX11, "judge", "(IJ)I"⟩
abbrev cX11_see : ByteArray := prog_13_method_45_code
def yX11_see : MethodName := ⟨RX11, "see", "(III)I"⟩
abbrev cX11_unsee : ByteArray := prog_13_method_46_code
def yX11_unsee : MethodName := ⟨RX11, "unsee", "()I"⟩
abbrev cX11_wants : ByteArray := prog_13_method_47_code
def yX11_wants : MethodName := ⟨RX11, "wants", "(I)I"⟩
abbrev cX11_factorial : ByteArray := prog_13_method_48_code
def yX11_factorial : MethodName := ⟨RX11, "factorial", "(I)I"⟩
abbrev cX11_common : ByteArray := prog_13_method_49_code
def yX11_common : MethodName := ⟨RX11, "common", "(II)I"⟩
abbrev cX11_drawnBy : ByteArray := prog_13_method_50_code
def yX11_drawnBy : MethodName := ⟨RX11, "drawnBy", "(I)I"⟩
abbrev cX11_share : ByteArray := prog_13_method_51_code
def yX11_share : MethodName := ⟨RX11, "share", "(IZ)I"⟩
abbrev cX11_gain : ByteArray := prog_13_method_52_code
def yX11_gain : MethodName := ⟨RX11, "gain", "(IIII)I"⟩
abbrev cX11_rests : ByteArray := prog_13_method_53_code
def yX11_rests : MethodName := ⟨RX11, "rests", "(III)I"⟩
abbrev cX11_guests : ByteArray := prog_13_method_54_code
def yX11_guests : MethodName := ⟨RX11, "guests", "(IIZ)I"⟩
abbrev cX11_seed : ByteArray := prog_13_method_55_code
def yX11_seed : MethodName := ⟨RX11, "seed", "(J)J"⟩
abbrev cX11_weeks : ByteArray := prog_13_method_56_code
def yX11_weeks : MethodName := ⟨RX11, "weeks", "(I)I"⟩
abbrev cX11_keep : ByteArray := prog_13_method_57_code
def yX11_keep : MethodName := ⟨RX11, "keep", "(I)I"⟩
abbrev cX11_again : ByteArray := prog_13_method_58_code
def yX11_again : MethodName := ⟨RX11, "again", "(I)I"⟩
abbrev cX11_count : ByteArray := prog_13_method_59_code
def yX11_count : MethodName := ⟨RX11, "count", "(I)I"⟩
def RJ6 : String := "java/lang/Integer"
abbrev cJ6_bitCount_0f7a4 : ByteArray := prog_14_method_49_code
def yJ6_bitCount_0f7a4 : MethodName := ⟨RJ6, "bitCount", "(I)I"⟩
def RJ9 : String := "java/lang/Math"
abbrev cJ9_floorMod_7cf53 : ByteArray := prog_15_method_50_code
def yJ9_floorMod_7cf53 : MethodName := ⟨RJ9, "floorMod", "(II)I"⟩
abbrev cJ9_abs_0f7a4 : ByteArray := prog_15_method_59_code
def yJ9_abs_0f7a4 : MethodName := ⟨RJ9, "abs", "(I)I"⟩
abbrev cJ9_max_7cf53 : ByteArray := prog_15_method_65_code
def yJ9_max_7cf53 : MethodName := ⟨RJ9, "max", "(II)I"⟩
abbrev cJ9_min_7cf53 : ByteArray := prog_15_method_69_code
def yJ9_min_7cf53 : MethodName := ⟨RJ9, "min", "(II)I"⟩
def RJ10 : String := "java/lang/System"
def RL : String := "ThirstRowLaw"
abbrev cL_law : ByteArray := code
end
section
/-! A SMALL MACHINE: the bytecode's meaning over lists: a world is a list of cells, a reference is a place in it. Everything that is said of the class and of the reference is said of this machine; part 05 shows that the real one follows it. -/
/-- a cell: a row (its kind: 0 int, 1 boolean, 2 references; its length; what it holds), or an object (the number of its class, its fields) -/
abbrev am_E : Type := (Nat × Nat × ((Nat → Int32) ⊕ (Nat → Option Nat))) ⊕ (Nat × List Value)
abbrev am_W : Type := List am_E
/-- pc, locals, stack, world, cells and slots made -/
abbrev am_S : Type := Nat × List Value × List Value × am_W × Nat × Nat
/-- a row of code: pc, instruction, length, three numbers that say what it is linked to -/
abbrev am_R : Type := Nat × Instr × Nat × Nat × Nat × Int
/-- a method: its rows, its locals, the cells and slots that it may make -/
abbrev am_M : Type := List am_R × Nat × Nat × Nat
abbrev am_V : Type := Option Value × am_W
abbrev am_A : Type := am_V ⊕ am_S ⊕ (Nat × List Value × am_S)
def am_row (rows : List am_R) (pc : Nat) : Option am_R := rows.find? (fun r => Nat.beq r.1 pc)
def am_nx (s : am_S) : Option am_A := some (.inr (.inl s))
def am_cmp (c : Jvm.ClassFile.Cond) (x y : Int32) : Bool := match c with
  | .eq => decide (x = y)
  | .ne => !decide (x = y)
  | .lt => decide (x < y)
  | .ge => decide (y ≤ x)
  | .gt => decide (y < x)
  | .le => decide (x ≤ y)
/-- a local that may be stored to: it is there, and no second half of a long -/
def am_free (ls : List Value) (i : Nat) : Bool := Nat.blt i ls.length && (match i with
  | 0 => true
  | j + 1 => match ls[j]? with
    | some (.long _) => false
    | _ => true)
def am_ix (i : Int32) (n : Nat) : Bool := decide (¬ (i < 0 ∨ n ≤ i.toNatClampNeg))
/-- what a field of a kind takes: 0 int, 1 boolean, 2 long, 3 a reference -/
def am_fit (t : Int) (v : Value) : Bool := match v with
  | .int x => decide (t = 0) || (decide (t = 1) && (decide (x = 0) || decide (x = 1)))
  | .long _ => decide (t = 2)
  | .ref _ => decide (t = 3)
  | _ => false
def am_cpy (f g : Nat → Int32) (sp dp n : Nat) : Nat → Int32 := va_cpy f g sp dp n
def am_sl (vs : List Value) : List Value := vs.flatMap fun v => if v.category = 2 then [v, .float 0] else [v]
def am_ent (maxL : Nat) (vs : List Value) : List Value := am_sl vs ++ List.replicate (maxL - (am_sl vs).length) (.float 0)
def am_call (P : List am_M) (M : am_M) (a b pc : Nat) (ls st : List Value) (w : am_W) (k1 k2 : Nat) : Option am_A := match P[a]? with
  | none => none
  | some N => if b ≤ st.length ∧ ((st.drop b).map fun v => v.category).sum ≤ 8 ∧ k1 + N.2.2.1 ≤ M.2.2.1 ∧ k2 + N.2.2.2 ≤ M.2.2.2 ∧ (am_sl (st.take b).reverse).length ≤ N.2.1
    then some (.inr (.inr (a, (st.take b).reverse, (pc + 3, ls, st.drop b, w, k1 + N.2.2.1, k2 + N.2.2.2)))) else none
/-- one instruction: an end, a next state, or a call -/
def am_act (D : List (List Value)) (P : List am_M) (M : am_M) (r : am_R) (s : am_S) : Option am_A := match s, r with
  | (pc, ls, st, w, k1, k2), (_, i, _, a, b, v) => match i with
    | .iconst c => am_nx (pc + 1, ls, .int (Int32.ofInt c) :: st, w, k1, k2)
    | .bipush c => am_nx (pc + 2, ls, .int (Int8.ofInt c).toInt32 :: st, w, k1, k2)
    | .sipush c => am_nx (pc + 3, ls, .int (Int16.ofInt c).toInt32 :: st, w, k1, k2)
    | .ldc _ => am_nx (pc + 2, ls, .int (Int32.ofInt v) :: st, w, k1, k2)
    | .ldc_w _ => am_nx (pc + 3, ls, .int (Int32.ofInt v) :: st, w, k1, k2)
    | .ldc2_w _ => am_nx (pc + 3, ls, .long (Int64.ofInt v) :: st, w, k1, k2)
    | .lconst c => am_nx (pc + 1, ls, .long (Int64.ofNat c.val) :: st, w, k1, k2)
    | .iload n => match ls[n]? with
      | some (.int x) => am_nx (pc + 2, ls, .int x :: st, w, k1, k2)
      | _ => none
    | .iload_n n => match ls[n.val]? with
      | some (.int x) => am_nx (pc + 1, ls, .int x :: st, w, k1, k2)
      | _ => none
    | .lload n => match ls[n]? with
      | some (.long x) => am_nx (pc + 2, ls, .long x :: st, w, k1, k2)
      | _ => none
    | .lload_n n => match ls[n.val]? with
      | some (.long x) => am_nx (pc + 1, ls, .long x :: st, w, k1, k2)
      | _ => none
    | .aload n => match ls[n]? with
      | some (.ref x) => am_nx (pc + 2, ls, .ref x :: st, w, k1, k2)
      | _ => none
    | .aload_n n => match ls[n.val]? with
      | some (.ref x) => am_nx (pc + 1, ls, .ref x :: st, w, k1, k2)
      | _ => none
    | .istore n => match st with
      | .int x :: st => bif am_free ls n then am_nx (pc + 2, ls.set n (.int x), st, w, k1, k2) else none
      | _ => none
    | .istore_n n => match st with
      | .int x :: st => bif am_free ls n.val then am_nx (pc + 1, ls.set n.val (.int x), st, w, k1, k2) else none
      | _ => none
    | .astore n => match st with
      | .ref x :: st => bif am_free ls n then am_nx (pc + 2, ls.set n (.ref x), st, w, k1, k2) else none
      | _ => none
    | .astore_n n => match st with
      | .ref x :: st => bif am_free ls n.val then am_nx (pc + 1, ls.set n.val (.ref x), st, w, k1, k2) else none
      | _ => none
    | .lstore n => match st with
      | .long x :: st => bif am_free ls n && Nat.blt (n + 1) ls.length then am_nx (pc + 2, (ls.set n (.long x)).set (n + 1) (.float 0), st, w, k1, k2) else none
      | _ => none
    | .lstore_n n => match st with
      | .long x :: st => bif am_free ls n.val && Nat.blt (n.val + 1) ls.length then am_nx (pc + 1, (ls.set n.val (.long x)).set (n.val + 1) (.float 0), st, w, k1, k2) else none
      | _ => none
    | .iinc n c => match ls[n]? with
      | some (.int x) => bif am_free ls n then am_nx (pc + 3, ls.set n (.int (x + Int32.ofInt c)), st, w, k1, k2) else none
      | _ => none
    | .dup => match st with
      | x :: st => if x.category = 1 then am_nx (pc + 1, ls, x :: x :: st, w, k1, k2) else none
      | _ => none
    | .dup2 => match st with
      | x :: y :: st => if x.category = 1 ∧ y.category = 1 then am_nx (pc + 1, ls, x :: y :: x :: y :: st, w, k1, k2) else none
      | _ => none
    | .pop => match st with
      | x :: st => if x.category = 1 then am_nx (pc + 1, ls, st, w, k1, k2) else none
      | _ => none
    | .iadd => match st with
      | .int y :: .int x :: st => am_nx (pc + 1, ls, .int (x + y) :: st, w, k1, k2)
      | _ => none
    | .isub => match st with
      | .int y :: .int x :: st => am_nx (pc + 1, ls, .int (x - y) :: st, w, k1, k2)
      | _ => none
    | .imul => match st with
      | .int y :: .int x :: st => am_nx (pc + 1, ls, .int (x * y) :: st, w, k1, k2)
      | _ => none
    | .idiv => match st with
      | .int y :: .int x :: st => if y = 0 then none else am_nx (pc + 1, ls, .int (x / y) :: st, w, k1, k2)
      | _ => none
    | .irem => match st with
      | .int y :: .int x :: st => if y = 0 then none else am_nx (pc + 1, ls, .int (x - x / y * y) :: st, w, k1, k2)
      | _ => none
    | .ineg => match st with
      | .int x :: st => am_nx (pc + 1, ls, .int (-x) :: st, w, k1, k2)
      | _ => none
    | .iand => match st with
      | .int y :: .int x :: st => am_nx (pc + 1, ls, .int (x &&& y) :: st, w, k1, k2)
      | _ => none
    | .ior => match st with
      | .int y :: .int x :: st => am_nx (pc + 1, ls, .int (x ||| y) :: st, w, k1, k2)
      | _ => none
    | .ixor => match st with
      | .int y :: .int x :: st => am_nx (pc + 1, ls, .int (x ^^^ y) :: st, w, k1, k2)
      | _ => none
    | .ishl => match st with
      | .int y :: .int x :: st => am_nx (pc + 1, ls, .int (x <<< (y &&& 31)) :: st, w, k1, k2)
      | _ => none
    | .ishr => match st with
      | .int y :: .int x :: st => am_nx (pc + 1, ls, .int (x >>> (y &&& 31)) :: st, w, k1, k2)
      | _ => none
    | .iushr => match st with
      | .int y :: .int x :: st => am_nx (pc + 1, ls, .int (x.toUInt32 >>> (y.toUInt32 &&& Int32.toUInt32 31)).toInt32 :: st, w, k1, k2)
      | _ => none
    | .i2l => match st with
      | .int x :: st => am_nx (pc + 1, ls, .long x.toInt64 :: st, w, k1, k2)
      | _ => none
    | .l2i => match st with
      | .long x :: st => am_nx (pc + 1, ls, .int x.toInt32 :: st, w, k1, k2)
      | _ => none
    | .ladd => match st with
      | .long y :: .long x :: st => am_nx (pc + 1, ls, .long (x + y) :: st, w, k1, k2)
      | _ => none
    | .lsub => match st with
      | .long y :: .long x :: st => am_nx (pc + 1, ls, .long (x - y) :: st, w, k1, k2)
      | _ => none
    | .lmul => match st with
      | .long y :: .long x :: st => am_nx (pc + 1, ls, .long (x * y) :: st, w, k1, k2)
      | _ => none
    | .ldiv => match st with
      | .long y :: .long x :: st => if y = 0 then none else am_nx (pc + 1, ls, .long (x / y) :: st, w, k1, k2)
      | _ => none
    | .lrem => match st with
      | .long y :: .long x :: st => if y = 0 then none else am_nx (pc + 1, ls, .long (x - x / y * y) :: st, w, k1, k2)
      | _ => none
    | .land => match st with
      | .long y :: .long x :: st => am_nx (pc + 1, ls, .long (x &&& y) :: st, w, k1, k2)
      | _ => none
    | .lor => match st with
      | .long y :: .long x :: st => am_nx (pc + 1, ls, .long (x ||| y) :: st, w, k1, k2)
      | _ => none
    | .lshl => match st with
      | .int y :: .long x :: st => am_nx (pc + 1, ls, .long (x <<< (y.toInt64 &&& 63)) :: st, w, k1, k2)
      | _ => none
    | .lushr => match st with
      | .int y :: .long x :: st => am_nx (pc + 1, ls, .long (x.toUInt64 >>> (y.toInt64.toUInt64 &&& Int64.toUInt64 63)).toInt64 :: st, w, k1, k2)
      | _ => none
    | .lcmp => match st with
      | .long y :: .long x :: st => am_nx (pc + 1, ls, .int (lg_cmp x y) :: st, w, k1, k2)
      | _ => none
    | .goto _ => am_nx (a, ls, st, w, k1, k2)
    | .if_icmp c _ => match st with
      | .int y :: .int x :: st => bif am_cmp c x y then am_nx (a, ls, st, w, k1, k2) else am_nx (pc + 3, ls, st, w, k1, k2)
      | _ => none
    | .ifCond c _ => match st with
      | .int x :: st => bif am_cmp c x 0 then am_nx (a, ls, st, w, k1, k2) else am_nx (pc + 3, ls, st, w, k1, k2)
      | _ => none
    | .tableswitch d lo hi offs => match st with
      | .int x :: st => if x.toInt < lo ∨ hi < x.toInt then am_nx (((pc : Int) + d).toNat, ls, st, w, k1, k2) else match offs[(x.toInt - lo).toNat]? with
        | some off => am_nx (((pc : Int) + off).toNat, ls, st, w, k1, k2)
        | none => none
      | _ => none
    | .lookupswitch d ps => match st with
      | .int x :: st => am_nx (((pc : Int) + Op.lookupswitch.offset ps.toList d x.toInt).toNat, ls, st, w, k1, k2)
      | _ => none
    | .getstatic _ => am_nx (pc + 3, ls, .ref 0 :: st, w, k1, k2)
    | .getfield _ => match st with
      | .ref q :: st => match w[q]? with
        | some (.inr (ci, fs)) => if ci = a then match fs[b]? with
          | some x => am_nx (pc + 3, ls, x :: st, w, k1, k2)
          | none => none
          else none
        | _ => none
      | _ => none
    | .putfield _ => match st with
      | x :: .ref q :: st => match w[q]? with
        | some (.inr (ci, fs)) => if ci = a ∧ b < fs.length ∧ am_fit v x = true ∧ 2 ≤ q then am_nx (pc + 3, ls, st, w.set q (.inr (ci, fs.set b x)), k1, k2) else none
        | _ => none
      | _ => none
    | .iaload => match st with
      | .int i :: .ref q :: st => match w[q]? with
        | some (.inl (0, n, .inl f)) => bif am_ix i n then am_nx (pc + 1, ls, .int (f i.toNatClampNeg) :: st, w, k1, k2) else none
        | _ => none
      | _ => none
    | .baload => match st with
      | .int i :: .ref q :: st => match w[q]? with
        | some (.inl (1, n, .inl f)) => if am_ix i n = true ∧ 2 ≤ q then am_nx (pc + 1, ls, .int (f i.toNatClampNeg) :: st, w, k1, k2) else none
        | _ => none
      | _ => none
    | .aaload => match st with
      | .int i :: .ref q :: st => match w[q]? with
        | some (.inl (2, n, .inr f)) => if am_ix i n = true ∧ 2 ≤ q then match f i.toNatClampNeg with
          | some x => am_nx (pc + 1, ls, .ref x :: st, w, k1, k2)
          | none => none
          else none
        | _ => none
      | _ => none
    | .iastore => match st with
      | .int x :: .int i :: .ref q :: st => match w[q]? with
        | some (.inl (0, n, .inl f)) => if am_ix i n = true ∧ 2 ≤ q then am_nx (pc + 1, ls, st, w.set q (.inl (0, n, .inl (upd f i.toNatClampNeg x))), k1, k2) else none
        | _ => none
      | _ => none
    | .bastore => match st with
      | .int x :: .int i :: .ref q :: st => match w[q]? with
        | some (.inl (1, n, .inl f)) => if am_ix i n = true ∧ 2 ≤ q ∧ am_fit 1 (.int x) = true then am_nx (pc + 1, ls, st, w.set q (.inl (1, n, .inl (upd f i.toNatClampNeg x))), k1, k2) else none
        | _ => none
      | _ => none
    | .aastore => match st with
      | .ref x :: .int i :: .ref q :: st => match w[q]?, w[x]? with
        | some (.inl (2, n, .inr f)), some (.inr (ci, _)) => if am_ix i n = true ∧ 2 ≤ q ∧ 2 ≤ x ∧ ci = 6 then am_nx (pc + 1, ls, st, w.set q (.inl (2, n, .inr (va_up f i.toNatClampNeg (some x)))), k1, k2) else none
        | _, _ => none
      | _ => none
    | .arraylength => match st with
      | .ref q :: st => match w[q]? with
        | some (.inl (0, n, _)) => am_nx (pc + 1, ls, .int (Int32.ofNat n) :: st, w, k1, k2)
        | _ => none
      | _ => none
    | .newarray t => match st with
      | .int n :: st => match (match t with | .int => some 0 | .boolean => some 1 | _ => none : Option Nat) with
        | some kd => if ¬ n < 0 ∧ n.toNatClampNeg ≤ 1000 ∧ k1 + 1 ≤ M.2.2.1 ∧ k2 + n.toNatClampNeg ≤ M.2.2.2 then am_nx (pc + 2, ls, .ref w.length :: st, w ++ [.inl (kd, n.toNatClampNeg, .inl (fun _ => 0))], k1 + 1, k2 + n.toNatClampNeg) else none
        | none => none
      | _ => none
    | .anewarray _ => match st with
      | .int n :: st => if ¬ n < 0 ∧ n.toNatClampNeg ≤ 1000 ∧ k1 + 1 ≤ M.2.2.1 ∧ k2 + n.toNatClampNeg ≤ M.2.2.2 then am_nx (pc + 3, ls, .ref w.length :: st, w ++ [.inl (2, n.toNatClampNeg, .inr (fun _ => none))], k1 + 1, k2 + n.toNatClampNeg) else none
      | _ => none
    | .new _ => match D[a]? with
      | some fs => if k1 + 1 ≤ M.2.2.1 ∧ k2 + fs.length ≤ M.2.2.2 then am_nx (pc + 3, ls, .ref w.length :: st, w ++ [.inr (a, fs)], k1 + 1, k2 + fs.length) else none
      | none => none
    | .invokespecial _ => if a = 1000 then (match st with
      | .ref _ :: st => if (st.map fun v => v.category).sum ≤ 8 then am_nx (pc + 3, ls, st, w, k1, k2) else none
      | _ => none) else am_call P M a b pc ls st w k1 k2
    | .invokestatic _ => if a = 1001 then (match st with
      | .int n :: .int dp :: .ref q1 :: .int sp :: .ref q0 :: st => match w[q0]?, w[q1]? with
        | some (.inl (0, n0, .inl f)), some (.inl (0, n1, .inl g)) => if ¬ sp < 0 ∧ ¬ dp < 0 ∧ ¬ n < 0 ∧ sp.toNatClampNeg + n.toNatClampNeg ≤ n0 ∧ dp.toNatClampNeg + n.toNatClampNeg ≤ n1 ∧ 2 ≤ q0 ∧ 2 ≤ q1 ∧ (st.map fun v => v.category).sum ≤ 8 then
          am_nx (pc + 3, ls, st, w.set q1 (.inl (0, n1, .inl (va_cpy f g sp.toNatClampNeg dp.toNatClampNeg n.toNatClampNeg))), k1, k2) else none
        | _, _ => none
      | _ => none) else am_call P M a b pc ls st w k1 k2
    | .invokevirtual _ => match (st.take b).reverse with
      | .ref q :: _ => match w[q]? with
        | some (.inr (ci, _)) => if (ci : Int) = v ∧ 2 ≤ q then am_call P M a b pc ls st w k1 k2 else none
        | _ => none
      | _ => none
    | .ireturn => match st with
      | [.int x] => if a = 0 ∨ x = 0 ∨ x = 1 then some (.inl (some (.int x), w)) else none
      | _ => none
    | .lreturn => match st with
      | [.long x] => some (.inl (some (.long x), w))
      | _ => none
    | .return_ => match st with
      | [] => some (.inl (none, w))
      | _ => none
    | _ => none
def am_step (D : List (List Value)) (P : List am_M) (M : am_M) (s : am_S) : Option am_A := match am_row M.1 s.1 with
  | none => none
  | some r => am_act D P M r s
/-- a method from a state to its end, with fuel -/
def am_exec (D : List (List Value)) (P : List am_M) : Nat → Nat → am_S → Option am_V
  | 0 => fun _ _ => none
  | n + 1 => fun y s => match P[y]? with
    | none => none
    | some M => match am_step D P M s with
      | none => none
      | some (.inl r) => some r
      | some (.inr (.inl s')) => am_exec D P n y s'
      | some (.inr (.inr (y', vs, s'))) => match P[y']? with
        | none => none
        | some N => match am_exec D P n y' (0, am_ent N.2.1 vs, [], s'.2.2.2.1, 0, 0) with
          | none => none
          | some (res, w') => am_exec D P n y (s'.1, s'.2.1, res.toList ++ s'.2.2.1, w', s'.2.2.2.2)
theorem am_mono {D : List (List Value)} {P : List am_M} : ∀ (n : Nat) (y : Nat) (s : am_S) (x : am_V), am_exec D P n y s = some x → am_exec D P (n + 1) y s = some x := by
  intro n
  induction n with
  | zero => intro y s x h; simp [am_exec] at h
  | succ n ih =>
    intro y s x h
    rw [am_exec] at h ⊢
    cases hP : P[y]? with
    | none => simp [hP] at h
    | some M =>
      simp only [hP] at h ⊢
      cases hs : am_step D P M s with
      | none => simp [hs] at h
      | some q =>
        simp only [hs] at h ⊢
        match q, h with
        | .inl r, h => exact h
        | .inr (.inl s'), h => exact ih y s' x h
        | .inr (.inr (y', vs, s')), h =>
          cases hN : P[y']? with
          | none => simp [hN] at h
          | some N =>
            simp only [hN] at h ⊢
            cases hc : am_exec D P n y' (0, am_ent N.2.1 vs, [], s'.2.2.2.1, 0, 0) with
            | none => simp [hc] at h
            | some z =>
              simp only [hc] at h
              rw [ih _ _ _ hc]
              exact ih _ _ _ h
theorem am_mono' {D : List (List Value)} {P : List am_M} {n k y : Nat} {s : am_S} {x : am_V} (hk : n ≤ k) (h : am_exec D P n y s = some x) : am_exec D P k y s = some x := by
  induction k with
  | zero => rw [show n = 0 by omega] at h; exact h
  | succ k ih =>
    rcases Nat.lt_or_ge n (k + 1) with q | q
    · exact am_mono k y s x (ih (by omega))
    · rw [show n = k + 1 by omega] at h; exact h
end
section
/-! the code of every method as rows of the small machine: by program out of the printed decode rows and the tables -/
abbrev am_cl : List vw_C := [(RX0, TX0, 3), (RX1, TX1, 7), (RX2, TX2, 5), (RX3, TX3, 1), (RX4, TX4, 4), (RX5, TX5, 2), (RX6, TX6, 6), (RX7, TX7, 2), (RX8, TX8, 7), (RX9, TX9, 8), (RX10, TX10, 11), (RX11, TX11, 30)]
def am_D : List (List Value) := [[.null, .int 0, .int 0], [.null, .null, .null, .null, .int 0, .int 0, .long 0], [.null, .null, .null, .int 0, .int 0], [.null], [.null, .null, .null, .int 0], [.null, .int 0], [.null, .null, .null, .int 0, .int 0, .int 0], [.null, .int 0], [.null, .null, .null, .null, .null, .null, .null], [.int 0, .int 0, .int 0, .int 0, .null, .null, .null, .null], [.null, .null, .null, .null, .null, .null, .null, .null, .null, .null, .long 0], [.int 0, .int 0, .int 0, .int 0, .null, .null, .null, .null, .null, .null, .null, .int 0, .int 0, .null, .int 0, .int 0, .int 0, .null, .int 0, .int 0, .int 0, .null, .null, .int 0, .null, .null, .null, .long 0, .null, .null]]
def zr_X0_init : List am_R := [(0, .aload_n 0, 1, 0, 0, 0), (1, .invokespecial 3, 3, 1000, 0, 0), (4, .aload_n 0, 1, 0, 0, 0), (5, .bipush 14, 2, 0, 0, 0), (7, .anewarray 9, 3, 0, 0, 0), (10, .putfield 11, 3, 0, 0, 3), (13, .iconst 0, 1, 0, 0, 0), (14, .istore_n 1, 1, 0, 0, 0), (15, .iload_n 1, 1, 0, 0, 0), (16, .bipush 14, 2, 0, 0, 0), (18, .if_icmp .ge 22, 3, 40, 0, 0), (21, .aload_n 0, 1, 0, 0, 0), (22, .getfield 11, 3, 0, 0, 3), (25, .iload_n 1, 1, 0, 0, 0), (26, .new 9, 3, 6, 0, 0), (29, .dup, 1, 0, 0, 0), (30, .invokespecial 17, 3, 39, 1, 0), (33, .aastore, 1, 0, 0, 0), (34, .iinc 1 1, 3, 0, 0, 0), (37, .goto (-22), 3, 15, 0, 0), (40, .aload_n 0, 1, 0, 0, 0), (41, .iconst 0, 1, 0, 0, 0), (42, .putfield 18, 3, 0, 1, 0), (45, .aload_n 0, 1, 0, 0, 0), (46, .iconst 0, 1, 0, 0, 0), (47, .putfield 22, 3, 0, 2, 0), (50, .return_, 1, 0, 0, 0)]
def zr_X0_clear : List am_R := [(0, .aload_n 0, 1, 0, 0, 0), (1, .iconst 0, 1, 0, 0, 0), (2, .putfield 18, 3, 0, 1, 0), (5, .aload_n 0, 1, 0, 0, 0), (6, .iconst 0, 1, 0, 0, 0), (7, .putfield 22, 3, 0, 2, 0), (10, .return_, 1, 0, 0, 0)]
def zr_X0_remember : List am_R := [(0, .aload_n 0, 1, 0, 0, 0), (1, .getfield 22, 3, 0, 2, 0), (4, .bipush 14, 2, 0, 0, 0), (6, .if_icmp .lt 22, 3, 28, 0, 0), (9, .aload_n 0, 1, 0, 0, 0), (10, .aload_n 0, 1, 0, 0, 0), (11, .getfield 18, 3, 0, 1, 0), (14, .iconst 1, 1, 0, 0, 0), (15, .iadd, 1, 0, 0, 0), (16, .bipush 14, 2, 0, 0, 0), (18, .irem, 1, 0, 0, 0), (19, .putfield 18, 3, 0, 1, 0), (22, .aload_n 0, 1, 0, 0, 0), (23, .bipush 13, 2, 0, 0, 0), (25, .putfield 22, 3, 0, 2, 0), (28, .aload_n 0, 1, 0, 0, 0), (29, .getfield 11, 3, 0, 0, 3), (32, .aload_n 0, 1, 0, 0, 0), (33, .getfield 18, 3, 0, 1, 0), (36, .aload_n 0, 1, 0, 0, 0), (37, .getfield 22, 3, 0, 2, 0), (40, .iadd, 1, 0, 0, 0), (41, .bipush 14, 2, 0, 0, 0), (43, .irem, 1, 0, 0, 0), (44, .aaload, 1, 0, 0, 0), (45, .aload_n 1, 1, 0, 0, 0), (46, .invokevirtual 25, 3, 42, 2, 6), (49, .aload_n 0, 1, 0, 0, 0), (50, .dup, 1, 0, 0, 0), (51, .getfield 22, 3, 0, 2, 0), (54, .iconst 1, 1, 0, 0, 0), (55, .iadd, 1, 0, 0, 0), (56, .putfield 22, 3, 0, 2, 0), (59, .return_, 1, 0, 0, 0)]
def zr_X0_takeBack : List am_R := [(0, .aload_n 0, 1, 0, 0, 0), (1, .getfield 22, 3, 0, 2, 0), (4, .ifCond .gt 5, 3, 9, 0, 0), (7, .iconst 0, 1, 0, 0, 0), (8, .ireturn, 1, 1, 0, 0), (9, .aload_n 0, 1, 0, 0, 0), (10, .dup, 1, 0, 0, 0), (11, .getfield 22, 3, 0, 2, 0), (14, .iconst 1, 1, 0, 0, 0), (15, .isub, 1, 0, 0, 0), (16, .putfield 22, 3, 0, 2, 0), (19, .aload_n 1, 1, 0, 0, 0), (20, .aload_n 0, 1, 0, 0, 0), (21, .getfield 11, 3, 0, 0, 3), (24, .aload_n 0, 1, 0, 0, 0), (25, .getfield 18, 3, 0, 1, 0), (28, .aload_n 0, 1, 0, 0, 0), (29, .getfield 22, 3, 0, 2, 0), (32, .iadd, 1, 0, 0, 0), (33, .bipush 14, 2, 0, 0, 0), (35, .irem, 1, 0, 0, 0), (36, .aaload, 1, 0, 0, 0), (37, .invokevirtual 25, 3, 42, 2, 6), (40, .iconst 1, 1, 0, 0, 0), (41, .ireturn, 1, 1, 0, 0)]
def zr_X1_init : List am_R := [(0, .aload_n 0, 1, 0, 0, 0), (1, .invokespecial 3, 3, 1000, 0, 0), (4, .aload_n 0, 1, 0, 0, 0), (5, .new 9, 3, 6, 0, 0), (8, .dup, 1, 0, 0, 0), (9, .invokespecial 11, 3, 39, 1, 0), (12, .putfield 12, 3, 1, 0, 3), (15, .aload_n 0, 1, 0, 0, 0), (16, .new 18, 3, 8, 0, 0), (19, .dup, 1, 0, 0, 0), (20, .invokespecial 20, 3, 53, 1, 0), (23, .putfield 21, 3, 1, 1, 3), (26, .aload_n 0, 1, 0, 0, 0), (27, .iconst 4, 1, 0, 0, 0), (28, .newarray .int, 2, 0, 0, 0), (30, .putfield 25, 3, 1, 2, 3), (33, .aload_n 0, 1, 0, 0, 0), (34, .iconst 4, 1, 0, 0, 0), (35, .newarray .int, 2, 0, 0, 0), (37, .putfield 29, 3, 1, 3, 3), (40, .return_, 1, 0, 0, 0)]
def zr_X1_addedInAllOrders : List am_R := [(0, .aload_n 0, 1, 0, 0, 0), (1, .getfield 12, 3, 1, 0, 3), (4, .aload_n 2, 1, 0, 0, 0), (5, .invokevirtual 32, 3, 42, 2, 6), (8, .iconst 0, 1, 0, 0, 0), (9, .istore 4, 2, 0, 0, 0), (11, .iconst 0, 1, 0, 0, 0), (12, .istore 5, 2, 0, 0, 0), (14, .iload 5, 2, 0, 0, 0), (16, .iconst 1, 1, 0, 0, 0), (17, .aload_n 1, 1, 0, 0, 0), (18, .getfield 36, 3, 9, 2, 0), (21, .ishl, 1, 0, 0, 0), (22, .if_icmp .ge 78, 3, 100, 0, 0), (25, .iload 5, 2, 0, 0, 0), (27, .iload_n 3, 1, 0, 0, 0), (28, .ishr, 1, 0, 0, 0), (29, .iconst 1, 1, 0, 0, 0), (30, .iand, 1, 0, 0, 0), (31, .ifCond .ne 63, 3, 94, 0, 0), (34, .iload 5, 2, 0, 0, 0), (36, .invokestatic 42, 3, 163, 1, 0), (39, .istore 6, 2, 0, 0, 0), (41, .aload_n 1, 1, 0, 0, 0), (42, .getfield 36, 3, 9, 2, 0), (45, .iconst 1, 1, 0, 0, 0), (46, .isub, 1, 0, 0, 0), (47, .iload 6, 2, 0, 0, 0), (49, .isub, 1, 0, 0, 0), (50, .istore 7, 2, 0, 0, 0), (52, .aload_n 0, 1, 0, 0, 0), (53, .aload_n 1, 1, 0, 0, 0), (54, .aload_n 2, 1, 0, 0, 0), (55, .iload 5, 2, 0, 0, 0), (57, .iconst 1, 1, 0, 0, 0), (58, .iload_n 3, 1, 0, 0, 0), (59, .ishl, 1, 0, 0, 0), (60, .ior, 1, 0, 0, 0), (61, .invokevirtual 48, 3, 6, 4, 1), (64, .aload_n 0, 1, 0, 0, 0), (65, .aload_n 1, 1, 0, 0, 0), (66, .aload_n 2, 1, 0, 0, 0), (67, .iload 5, 2, 0, 0, 0), (69, .invokevirtual 48, 3, 6, 4, 1), (72, .isub, 1, 0, 0, 0), (73, .istore 8, 2, 0, 0, 0), (75, .iload 4, 2, 0, 0, 0), (77, .iload 6, 2, 0, 0, 0), (79, .invokestatic 52, 3, 98, 1, 1), (82, .iload 7, 2, 0, 0, 0), (84, .invokestatic 52, 3, 98, 1, 1), (87, .imul, 1, 0, 0, 0), (88, .iload 8, 2, 0, 0, 0), (90, .imul, 1, 0, 0, 0), (91, .iadd, 1, 0, 0, 0), (92, .istore 4, 2, 0, 0, 0), (94, .iinc 5 1, 3, 0, 0, 0), (97, .goto (-83), 3, 14, 0, 0), (100, .iload 4, 2, 0, 0, 0), (102, .ireturn, 1, 0, 0, 0)]
def zr_X1_drawnBy : List am_R := [(0, .iconst 1, 1, 0, 0, 0), (1, .aload_n 1, 1, 0, 0, 0), (2, .getfield 36, 3, 9, 2, 0), (5, .ishl, 1, 0, 0, 0), (6, .iconst 1, 1, 0, 0, 0), (7, .isub, 1, 0, 0, 0), (8, .istore 4, 2, 0, 0, 0), (10, .aload_n 0, 1, 0, 0, 0), (11, .getfield 12, 3, 1, 0, 3), (14, .aload_n 2, 1, 0, 0, 0), (15, .getfield 55, 3, 6, 4, 0), (18, .iload 4, 2, 0, 0, 0), (20, .iload_n 3, 1, 0, 0, 0), (21, .iconst (-1), 1, 0, 0, 0), (22, .ixor, 1, 0, 0, 0), (23, .iand, 1, 0, 0, 0), (24, .ior, 1, 0, 0, 0), (25, .putfield 55, 3, 6, 4, 0), (28, .aload_n 0, 1, 0, 0, 0), (29, .getfield 21, 3, 1, 1, 3), (32, .aload_n 1, 1, 0, 0, 0), (33, .aload_n 0, 1, 0, 0, 0), (34, .getfield 12, 3, 1, 0, 3), (37, .invokevirtual 58, 3, 54, 3, 8), (40, .aload_n 0, 1, 0, 0, 0), (41, .getfield 21, 3, 1, 1, 3), (44, .getfield 62, 3, 8, 3, 3), (47, .aload_n 1, 1, 0, 0, 0), (48, .getfield 36, 3, 9, 2, 0), (51, .invokestatic 65, 3, 96, 2, 1), (54, .ireturn, 1, 0, 0, 0)]
def zr_X1_seekRests : List am_R := [(0, .aload_n 0, 1, 0, 0, 0), (1, .getfield 12, 3, 1, 0, 3), (4, .aload_n 2, 1, 0, 0, 0), (5, .invokevirtual 32, 3, 42, 2, 6), (8, .iconst 0, 1, 0, 0, 0), (9, .istore 5, 2, 0, 0, 0), (11, .iload 5, 2, 0, 0, 0), (13, .iconst 4, 1, 0, 0, 0), (14, .if_icmp .ge 72, 3, 86, 0, 0), (17, .aload_n 0, 1, 0, 0, 0), (18, .getfield 12, 3, 1, 0, 3), (21, .aload_n 2, 1, 0, 0, 0), (22, .getfield 69, 3, 6, 3, 0), (25, .iload 5, 2, 0, 0, 0), (27, .iconst 1, 1, 0, 0, 0), (28, .ishr, 1, 0, 0, 0), (29, .iload_n 3, 1, 0, 0, 0), (30, .ishl, 1, 0, 0, 0), (31, .ior, 1, 0, 0, 0), (32, .iload 5, 2, 0, 0, 0), (34, .iconst 1, 1, 0, 0, 0), (35, .iand, 1, 0, 0, 0), (36, .iload 4, 2, 0, 0, 0), (38, .ishl, 1, 0, 0, 0), (39, .ior, 1, 0, 0, 0), (40, .putfield 69, 3, 6, 3, 0), (43, .aload_n 0, 1, 0, 0, 0), (44, .getfield 21, 3, 1, 1, 3), (47, .aload_n 1, 1, 0, 0, 0), (48, .aload_n 0, 1, 0, 0, 0), (49, .getfield 12, 3, 1, 0, 3), (52, .invokevirtual 58, 3, 54, 3, 8), (55, .aload_n 0, 1, 0, 0, 0), (56, .getfield 25, 3, 1, 2, 3), (59, .iload 5, 2, 0, 0, 0), (61, .aload_n 0, 1, 0, 0, 0), (62, .iload_n 3, 1, 0, 0, 0), (63, .invokevirtual 72, 3, 8, 2, 1), (66, .iastore, 1, 0, 0, 0), (67, .aload_n 0, 1, 0, 0, 0), (68, .getfield 29, 3, 1, 3, 3), (71, .iload 5, 2, 0, 0, 0), (73, .aload_n 0, 1, 0, 0, 0), (74, .iload 4, 2, 0, 0, 0), (76, .invokevirtual 72, 3, 8, 2, 1), (79, .iastore, 1, 0, 0, 0), (80, .iinc 5 1, 3, 0, 0, 0), (83, .goto (-72), 3, 11, 0, 0), (86, .aload_n 0, 1, 0, 0, 0), (87, .iconst 0, 1, 0, 0, 0), (88, .putfield 75, 3, 1, 4, 0), (91, .aload_n 0, 1, 0, 0, 0), (92, .bipush (-9), 2, 0, 0, 0), (94, .putfield 78, 3, 1, 5, 0), (97, .iconst 3, 1, 0, 0, 0), (98, .istore 5, 2, 0, 0, 0), (100, .iload 5, 2, 0, 0, 0), (102, .ifCond .lt 73, 3, 175, 0, 0), (105, .aload_n 0, 1, 0, 0, 0), (106, .getfield 25, 3, 1, 2, 3), (109, .iload 5, 2, 0, 0, 0), (111, .iaload, 1, 0, 0, 0), (112, .aload_n 0, 1, 0, 0, 0), (113, .getfield 25, 3, 1, 2, 3), (116, .iload 5, 2, 0, 0, 0), (118, .iconst 2, 1, 0, 0, 0), (119, .ixor, 1, 0, 0, 0), (120, .iaload, 1, 0, 0, 0), (121, .if_icmp .lt 48, 3, 169, 0, 0), (124, .aload_n 0, 1, 0, 0, 0), (125, .getfield 29, 3, 1, 3, 3), (128, .iload 5, 2, 0, 0, 0), (130, .iaload, 1, 0, 0, 0), (131, .aload_n 0, 1, 0, 0, 0), (132, .getfield 29, 3, 1, 3, 3), (135, .iload 5, 2, 0, 0, 0), (137, .iconst 1, 1, 0, 0, 0), (138, .ixor, 1, 0, 0, 0), (139, .iaload, 1, 0, 0, 0), (140, .if_icmp .lt 29, 3, 169, 0, 0), (143, .aload_n 0, 1, 0, 0, 0), (144, .dup, 1, 0, 0, 0), (145, .getfield 75, 3, 1, 4, 0), (148, .iconst 1, 1, 0, 0, 0), (149, .iadd, 1, 0, 0, 0), (150, .putfield 75, 3, 1, 4, 0), (153, .aload_n 0, 1, 0, 0, 0), (154, .bipush 10, 2, 0, 0, 0), (156, .iload 5, 2, 0, 0, 0), (158, .iconst 1, 1, 0, 0, 0), (159, .ishr, 1, 0, 0, 0), (160, .imul, 1, 0, 0, 0), (161, .iload 5, 2, 0, 0, 0), (163, .iconst 1, 1, 0, 0, 0), (164, .iand, 1, 0, 0, 0), (165, .iadd, 1, 0, 0, 0), (166, .putfield 78, 3, 1, 5, 0), (169, .iinc 5 (-1), 3, 0, 0, 0), (172, .goto (-72), 3, 100, 0, 0), (175, .return_, 1, 0, 0, 0)]
def zr_X1_has : List am_R := [(0, .aload_n 0, 1, 0, 0, 0), (1, .getfield 12, 3, 1, 0, 3), (4, .iload_n 1, 1, 0, 0, 0), (5, .invokevirtual 81, 3, 45, 2, 6), (8, .ifCond .eq 7, 3, 15, 0, 0), (11, .iconst 2, 1, 0, 0, 0), (12, .goto 4, 3, 16, 0, 0), (15, .iconst 0, 1, 0, 0, 0), (16, .aload_n 0, 1, 0, 0, 0), (17, .getfield 21, 3, 1, 1, 3), (20, .getfield 85, 3, 8, 4, 3), (23, .iload_n 1, 1, 0, 0, 0), (24, .iaload, 1, 0, 0, 0), (25, .isub, 1, 0, 0, 0), (26, .ireturn, 1, 0, 0, 0)]
def zr_X1_waysToLack : List am_R := [(0, .aload_n 2, 1, 0, 0, 0), (1, .aload_n 1, 1, 0, 0, 0), (2, .getfield 36, 3, 9, 2, 0), (5, .invokevirtual 88, 3, 49, 2, 6), (8, .istore 5, 2, 0, 0, 0), (10, .iconst 0, 1, 0, 0, 0), (11, .istore 6, 2, 0, 0, 0), (13, .iconst 0, 1, 0, 0, 0), (14, .istore 7, 2, 0, 0, 0), (16, .iload 7, 2, 0, 0, 0), (18, .iconst 1, 1, 0, 0, 0), (19, .aload_n 1, 1, 0, 0, 0), (20, .getfield 36, 3, 9, 2, 0), (23, .ishl, 1, 0, 0, 0), (24, .if_icmp .ge 90, 3, 114, 0, 0), (27, .iload 7, 2, 0, 0, 0), (29, .aload_n 2, 1, 0, 0, 0), (30, .getfield 55, 3, 6, 4, 0), (33, .iand, 1, 0, 0, 0), (34, .ifCond .ne 74, 3, 108, 0, 0), (37, .aload_n 0, 1, 0, 0, 0), (38, .getfield 21, 3, 1, 1, 3), (41, .aload_n 1, 1, 0, 0, 0), (42, .aload_n 2, 1, 0, 0, 0), (43, .iload 7, 2, 0, 0, 0), (45, .invokevirtual 91, 3, 55, 4, 8), (48, .aload_n 0, 1, 0, 0, 0), (49, .getfield 21, 3, 1, 1, 3), (52, .aload_n 1, 1, 0, 0, 0), (53, .aload_n 2, 1, 0, 0, 0), (54, .invokevirtual 95, 3, 56, 3, 8), (57, .aload_n 0, 1, 0, 0, 0), (58, .getfield 21, 3, 1, 1, 3), (61, .getfield 85, 3, 8, 4, 3), (64, .aload_n 1, 1, 0, 0, 0), (65, .getfield 36, 3, 9, 2, 0), (68, .invokestatic 65, 3, 96, 2, 1), (71, .iload_n 3, 1, 0, 0, 0), (72, .if_icmp .lt 36, 3, 108, 0, 0), (75, .iload 7, 2, 0, 0, 0), (77, .invokestatic 42, 3, 163, 1, 0), (80, .istore 8, 2, 0, 0, 0), (82, .iload 6, 2, 0, 0, 0), (84, .iload 4, 2, 0, 0, 0), (86, .iload 8, 2, 0, 0, 0), (88, .invokestatic 98, 3, 99, 2, 1), (91, .bipush 10, 2, 0, 0, 0), (93, .iload 4, 2, 0, 0, 0), (95, .isub, 1, 0, 0, 0), (96, .iload 5, 2, 0, 0, 0), (98, .iload 8, 2, 0, 0, 0), (100, .isub, 1, 0, 0, 0), (101, .invokestatic 98, 3, 99, 2, 1), (104, .imul, 1, 0, 0, 0), (105, .iadd, 1, 0, 0, 0), (106, .istore 6, 2, 0, 0, 0), (108, .iinc 7 1, 3, 0, 0, 0), (111, .goto (-95), 3, 16, 0, 0), (114, .iload 6, 2, 0, 0, 0), (116, .ireturn, 1, 0, 0, 0)]
def zr_X1_lackedByChance : List am_R := [(0, .aload_n 0, 1, 0, 0, 0), (1, .getfield 12, 3, 1, 0, 3), (4, .aload_n 2, 1, 0, 0, 0), (5, .invokevirtual 32, 3, 42, 2, 6), (8, .aload_n 0, 1, 0, 0, 0), (9, .lload 4, 2, 0, 0, 0), (11, .putfield 102, 3, 1, 6, 2), (14, .iconst 0, 1, 0, 0, 0), (15, .istore 6, 2, 0, 0, 0), (17, .iconst 0, 1, 0, 0, 0), (18, .istore 7, 2, 0, 0, 0), (20, .iload 7, 2, 0, 0, 0), (22, .iload_n 3, 1, 0, 0, 0), (23, .if_icmp .ge 47, 3, 70, 0, 0), (26, .aload_n 0, 1, 0, 0, 0), (27, .aload_n 0, 1, 0, 0, 0), (28, .getfield 102, 3, 1, 6, 2), (31, .ldc2_w 106, 3, 0, 0, 6364136223846793005), (34, .lmul, 1, 0, 0, 0), (35, .ldc2_w 108, 3, 0, 0, 1442695040888963407), (38, .ladd, 1, 0, 0, 0), (39, .putfield 102, 3, 1, 6, 2), (42, .iload 6, 2, 0, 0, 0), (44, .aload_n 0, 1, 0, 0, 0), (45, .aload_n 1, 1, 0, 0, 0), (46, .aload_n 0, 1, 0, 0, 0), (47, .getfield 102, 3, 1, 6, 2), (50, .bipush 33, 2, 0, 0, 0), (52, .lushr, 1, 0, 0, 0), (53, .ldc2_w 110, 3, 0, 0, 18), (56, .lrem, 1, 0, 0, 0), (57, .l2i, 1, 0, 0, 0), (58, .invokevirtual 112, 3, 11, 3, 1), (61, .iadd, 1, 0, 0, 0), (62, .istore 6, 2, 0, 0, 0), (64, .iinc 7 1, 3, 0, 0, 0), (67, .goto (-47), 3, 20, 0, 0), (70, .iload 6, 2, 0, 0, 0), (72, .ireturn, 1, 0, 0, 0)]
def zr_X1_happen : List am_R := [(0, .iload_n 2, 1, 0, 0, 0), (1, .bipush 12, 2, 0, 0, 0), (3, .if_icmp .lt 30, 3, 33, 0, 0), (6, .aload_n 0, 1, 0, 0, 0), (7, .getfield 21, 3, 1, 1, 3), (10, .aload_n 1, 1, 0, 0, 0), (11, .aload_n 0, 1, 0, 0, 0), (12, .getfield 12, 3, 1, 0, 3), (15, .invokevirtual 116, 3, 58, 3, 8), (18, .aload_n 0, 1, 0, 0, 0), (19, .getfield 21, 3, 1, 1, 3), (22, .getfield 85, 3, 8, 4, 3), (25, .aload_n 1, 1, 0, 0, 0), (26, .getfield 36, 3, 9, 2, 0), (29, .invokestatic 65, 3, 96, 2, 1), (32, .ireturn, 1, 0, 0, 0), (33, .iload_n 2, 1, 0, 0, 0), (34, .bipush 6, 2, 0, 0, 0), (36, .irem, 1, 0, 0, 0), (37, .istore_n 3, 1, 0, 0, 0), (38, .iload_n 3, 1, 0, 0, 0), (39, .aload_n 1, 1, 0, 0, 0), (40, .getfield 36, 3, 9, 2, 0), (43, .if_icmp .ge 28, 3, 71, 0, 0), (46, .iload_n 2, 1, 0, 0, 0), (47, .bipush 6, 2, 0, 0, 0), (49, .if_icmp .ge 14, 3, 63, 0, 0), (52, .aload_n 0, 1, 0, 0, 0), (53, .getfield 12, 3, 1, 0, 3), (56, .iload_n 3, 1, 0, 0, 0), (57, .invokevirtual 119, 3, 46, 2, 6), (60, .goto 11, 3, 71, 0, 0), (63, .aload_n 0, 1, 0, 0, 0), (64, .getfield 12, 3, 1, 0, 3), (67, .iload_n 3, 1, 0, 0, 0), (68, .invokevirtual 123, 3, 48, 2, 6), (71, .iconst 0, 1, 0, 0, 0), (72, .ireturn, 1, 0, 0, 0)]
def zr_X2_init : List am_R := [(0, .aload_n 0, 1, 0, 0, 0), (1, .invokespecial 3, 3, 1000, 0, 0), (4, .aload_n 0, 1, 0, 0, 0), (5, .new 9, 3, 9, 0, 0), (8, .dup, 1, 0, 0, 0), (9, .invokespecial 11, 3, 59, 1, 0), (12, .putfield 12, 3, 2, 0, 3), (15, .aload_n 0, 1, 0, 0, 0), (16, .new 18, 3, 6, 0, 0), (19, .dup, 1, 0, 0, 0), (20, .invokespecial 20, 3, 39, 1, 0), (23, .putfield 21, 3, 2, 1, 3), (26, .aload_n 0, 1, 0, 0, 0), (27, .new 25, 3, 8, 0, 0), (30, .dup, 1, 0, 0, 0), (31, .invokespecial 27, 3, 53, 1, 0), (34, .putfield 28, 3, 2, 2, 3), (37, .return_, 1, 0, 0, 0)]
def zr_X2_inDays : List am_R := [(0, .aload_n 0, 1, 0, 0, 0), (1, .getfield 21, 3, 2, 1, 3), (4, .aload_n 2, 1, 0, 0, 0), (5, .invokevirtual 32, 3, 42, 2, 6), (8, .iconst 0, 1, 0, 0, 0), (9, .istore 5, 2, 0, 0, 0), (11, .iconst 0, 1, 0, 0, 0), (12, .istore 6, 2, 0, 0, 0), (14, .iload 6, 2, 0, 0, 0), (16, .iload_n 3, 1, 0, 0, 0), (17, .if_icmp .ge 55, 3, 72, 0, 0), (20, .aload_n 0, 1, 0, 0, 0), (21, .getfield 28, 3, 2, 2, 3), (24, .aload_n 1, 1, 0, 0, 0), (25, .aload_n 0, 1, 0, 0, 0), (26, .getfield 21, 3, 2, 1, 3), (29, .invokevirtual 36, 3, 58, 3, 8), (32, .iload 5, 2, 0, 0, 0), (34, .iload 4, 2, 0, 0, 0), (36, .ifCond .eq 13, 3, 49, 0, 0), (39, .aload_n 0, 1, 0, 0, 0), (40, .getfield 28, 3, 2, 2, 3), (43, .getfield 40, 3, 8, 6, 3), (46, .goto 10, 3, 56, 0, 0), (49, .aload_n 0, 1, 0, 0, 0), (50, .getfield 28, 3, 2, 2, 3), (53, .getfield 44, 3, 8, 4, 3), (56, .aload_n 1, 1, 0, 0, 0), (57, .getfield 47, 3, 9, 2, 0), (60, .invokestatic 51, 3, 96, 2, 1), (63, .iadd, 1, 0, 0, 0), (64, .istore 5, 2, 0, 0, 0), (66, .iinc 6 1, 3, 0, 0, 0), (69, .goto (-55), 3, 14, 0, 0), (72, .iload 5, 2, 0, 0, 0), (74, .ireturn, 1, 0, 0, 0)]
def zr_X2_seekOrder : List am_R := [(0, .aload_n 0, 1, 0, 0, 0), (1, .getfield 21, 3, 2, 1, 3), (4, .aload_n 2, 1, 0, 0, 0), (5, .invokevirtual 32, 3, 42, 2, 6), (8, .aload_n 0, 1, 0, 0, 0), (9, .getfield 21, 3, 2, 1, 3), (12, .invokevirtual 55, 3, 41, 1, 6), (15, .aload_n 0, 1, 0, 0, 0), (16, .getfield 28, 3, 2, 2, 3), (19, .aload_n 1, 1, 0, 0, 0), (20, .aload_n 0, 1, 0, 0, 0), (21, .getfield 21, 3, 2, 1, 3), (24, .iconst 0, 1, 0, 0, 0), (25, .invokevirtual 58, 3, 55, 4, 8), (28, .aload_n 0, 1, 0, 0, 0), (29, .ldc 64, 2, 0, 0, 2147483647), (31, .putfield 65, 3, 2, 3, 0), (34, .aload_n 0, 1, 0, 0, 0), (35, .iconst 0, 1, 0, 0, 0), (36, .putfield 68, 3, 2, 4, 0), (39, .iconst 1, 1, 0, 0, 0), (40, .istore 4, 2, 0, 0, 0), (42, .iconst 0, 1, 0, 0, 0), (43, .istore 5, 2, 0, 0, 0), (45, .iload 5, 2, 0, 0, 0), (47, .sipush 720, 3, 0, 0, 0), (50, .if_icmp .ge 100, 3, 150, 0, 0), (53, .iload 4, 2, 0, 0, 0), (55, .ifCond .eq 95, 3, 150, 0, 0), (58, .aload_n 0, 1, 0, 0, 0), (59, .getfield 28, 3, 2, 2, 3), (62, .aload_n 1, 1, 0, 0, 0), (63, .aload_n 0, 1, 0, 0, 0), (64, .getfield 21, 3, 2, 1, 3), (67, .invokevirtual 71, 3, 56, 3, 8), (70, .iload_n 3, 1, 0, 0, 0), (71, .ifCond .eq 20, 3, 91, 0, 0), (74, .aload_n 0, 1, 0, 0, 0), (75, .getfield 28, 3, 2, 2, 3), (78, .getfield 44, 3, 8, 4, 3), (81, .aload_n 1, 1, 0, 0, 0), (82, .getfield 47, 3, 9, 2, 0), (85, .invokestatic 74, 3, 97, 2, 1), (88, .goto 17, 3, 105, 0, 0), (91, .aload_n 0, 1, 0, 0, 0), (92, .getfield 28, 3, 2, 2, 3), (95, .getfield 44, 3, 8, 4, 3), (98, .aload_n 1, 1, 0, 0, 0), (99, .getfield 47, 3, 9, 2, 0), (102, .invokestatic 51, 3, 96, 2, 1), (105, .istore 6, 2, 0, 0, 0), (107, .iload 6, 2, 0, 0, 0), (109, .aload_n 0, 1, 0, 0, 0), (110, .getfield 65, 3, 2, 3, 0), (113, .if_icmp .ge 21, 3, 134, 0, 0), (116, .aload_n 0, 1, 0, 0, 0), (117, .iload 6, 2, 0, 0, 0), (119, .putfield 65, 3, 2, 3, 0), (122, .aload_n 0, 1, 0, 0, 0), (123, .aload_n 0, 1, 0, 0, 0), (124, .aload_n 1, 1, 0, 0, 0), (125, .getfield 47, 3, 9, 2, 0), (128, .invokevirtual 77, 3, 15, 2, 2), (131, .putfield 68, 3, 2, 4, 0), (134, .aload_n 0, 1, 0, 0, 0), (135, .aload_n 1, 1, 0, 0, 0), (136, .getfield 47, 3, 9, 2, 0), (139, .invokevirtual 81, 3, 16, 2, 2), (142, .istore 4, 2, 0, 0, 0), (144, .iinc 5 1, 3, 0, 0, 0), (147, .goto (-102), 3, 45, 0, 0), (150, .return_, 1, 0, 0, 0)]
def zr_X2_figures : List am_R := [(0, .iconst 0, 1, 0, 0, 0), (1, .istore_n 2, 1, 0, 0, 0), (2, .iconst 0, 1, 0, 0, 0), (3, .istore_n 3, 1, 0, 0, 0), (4, .iload_n 3, 1, 0, 0, 0), (5, .iload_n 1, 1, 0, 0, 0), (6, .if_icmp .ge 26, 3, 32, 0, 0), (9, .bipush 10, 2, 0, 0, 0), (11, .iload_n 2, 1, 0, 0, 0), (12, .imul, 1, 0, 0, 0), (13, .aload_n 0, 1, 0, 0, 0), (14, .getfield 21, 3, 2, 1, 3), (17, .getfield 85, 3, 6, 0, 3), (20, .iload_n 3, 1, 0, 0, 0), (21, .iaload, 1, 0, 0, 0), (22, .iadd, 1, 0, 0, 0), (23, .iconst 1, 1, 0, 0, 0), (24, .iadd, 1, 0, 0, 0), (25, .istore_n 2, 1, 0, 0, 0), (26, .iinc 3 1, 3, 0, 0, 0), (29, .goto (-25), 3, 4, 0, 0), (32, .iload_n 2, 1, 0, 0, 0), (33, .ireturn, 1, 0, 0, 0)]
def zr_X2_toNextOrder : List am_R := [(0, .aload_n 0, 1, 0, 0, 0), (1, .getfield 21, 3, 2, 1, 3), (4, .getfield 85, 3, 6, 0, 3), (7, .astore_n 2, 1, 0, 0, 0), (8, .iload_n 1, 1, 0, 0, 0), (9, .iconst 2, 1, 0, 0, 0), (10, .isub, 1, 0, 0, 0), (11, .istore_n 3, 1, 0, 0, 0), (12, .iload_n 3, 1, 0, 0, 0), (13, .ifCond .lt 20, 3, 33, 0, 0), (16, .aload_n 2, 1, 0, 0, 0), (17, .iload_n 3, 1, 0, 0, 0), (18, .iaload, 1, 0, 0, 0), (19, .aload_n 2, 1, 0, 0, 0), (20, .iload_n 3, 1, 0, 0, 0), (21, .iconst 1, 1, 0, 0, 0), (22, .iadd, 1, 0, 0, 0), (23, .iaload, 1, 0, 0, 0), (24, .if_icmp .le 9, 3, 33, 0, 0), (27, .iinc 3 (-1), 3, 0, 0, 0), (30, .goto (-18), 3, 12, 0, 0), (33, .iload_n 3, 1, 0, 0, 0), (34, .ifCond .ge 5, 3, 39, 0, 0), (37, .iconst 0, 1, 0, 0, 0), (38, .ireturn, 1, 1, 0, 0), (39, .iload_n 1, 1, 0, 0, 0), (40, .iconst 1, 1, 0, 0, 0), (41, .isub, 1, 0, 0, 0), (42, .istore 4, 2, 0, 0, 0), (44, .iload 4, 2, 0, 0, 0), (46, .iload_n 3, 1, 0, 0, 0), (47, .if_icmp .le 19, 3, 66, 0, 0), (50, .aload_n 2, 1, 0, 0, 0), (51, .iload 4, 2, 0, 0, 0), (53, .iaload, 1, 0, 0, 0), (54, .aload_n 2, 1, 0, 0, 0), (55, .iload_n 3, 1, 0, 0, 0), (56, .iaload, 1, 0, 0, 0), (57, .if_icmp .ge 9, 3, 66, 0, 0), (60, .iinc 4 (-1), 3, 0, 0, 0), (63, .goto (-19), 3, 44, 0, 0), (66, .aload_n 2, 1, 0, 0, 0), (67, .iload_n 3, 1, 0, 0, 0), (68, .iload 4, 2, 0, 0, 0), (70, .invokestatic 88, 3, 17, 3, 0), (73, .iload_n 3, 1, 0, 0, 0), (74, .iconst 1, 1, 0, 0, 0), (75, .iadd, 1, 0, 0, 0), (76, .istore 5, 2, 0, 0, 0), (78, .iload_n 1, 1, 0, 0, 0), (79, .iconst 1, 1, 0, 0, 0), (80, .isub, 1, 0, 0, 0), (81, .istore 6, 2, 0, 0, 0), (83, .iload 5, 2, 0, 0, 0), (85, .iload 6, 2, 0, 0, 0), (87, .if_icmp .ge 20, 3, 107, 0, 0), (90, .aload_n 2, 1, 0, 0, 0), (91, .iload 5, 2, 0, 0, 0), (93, .iload 6, 2, 0, 0, 0), (95, .invokestatic 88, 3, 17, 3, 0), (98, .iinc 5 1, 3, 0, 0, 0), (101, .iinc 6 (-1), 3, 0, 0, 0), (104, .goto (-21), 3, 83, 0, 0), (107, .iconst 1, 1, 0, 0, 0), (108, .ireturn, 1, 1, 0, 0)]
def zr_X2_exchangePlaces : List am_R := [(0, .aload_n 0, 1, 0, 0, 0), (1, .iload_n 1, 1, 0, 0, 0), (2, .iaload, 1, 0, 0, 0), (3, .istore_n 3, 1, 0, 0, 0), (4, .aload_n 0, 1, 0, 0, 0), (5, .iload_n 1, 1, 0, 0, 0), (6, .aload_n 0, 1, 0, 0, 0), (7, .iload_n 2, 1, 0, 0, 0), (8, .iaload, 1, 0, 0, 0), (9, .iastore, 1, 0, 0, 0), (10, .aload_n 0, 1, 0, 0, 0), (11, .iload_n 2, 1, 0, 0, 0), (12, .iload_n 3, 1, 0, 0, 0), (13, .iastore, 1, 0, 0, 0), (14, .return_, 1, 0, 0, 0)]
def zr_X2_fewestSalts : List am_R := [(0, .aload_n 0, 1, 0, 0, 0), (1, .getfield 21, 3, 2, 1, 3), (4, .aload_n 2, 1, 0, 0, 0), (5, .invokevirtual 32, 3, 42, 2, 6), (8, .bipush (-9), 2, 0, 0, 0), (10, .istore 4, 2, 0, 0, 0), (12, .bipush 7, 2, 0, 0, 0), (14, .istore 5, 2, 0, 0, 0), (16, .iconst 0, 1, 0, 0, 0), (17, .istore 6, 2, 0, 0, 0), (19, .iload 6, 2, 0, 0, 0), (21, .iconst 1, 1, 0, 0, 0), (22, .aload_n 1, 1, 0, 0, 0), (23, .getfield 47, 3, 9, 2, 0), (26, .ishl, 1, 0, 0, 0), (27, .if_icmp .ge 90, 3, 117, 0, 0), (30, .iload 6, 2, 0, 0, 0), (32, .aload_n 2, 1, 0, 0, 0), (33, .getfield 92, 3, 6, 3, 0), (36, .iand, 1, 0, 0, 0), (37, .ifCond .ne 7, 3, 44, 0, 0), (40, .iconst 1, 1, 0, 0, 0), (41, .goto 4, 3, 45, 0, 0), (44, .iconst 0, 1, 0, 0, 0), (45, .istore 7, 2, 0, 0, 0), (47, .iload 7, 2, 0, 0, 0), (49, .ifCond .eq 62, 3, 111, 0, 0), (52, .iload 6, 2, 0, 0, 0), (54, .invokestatic 95, 3, 163, 1, 0), (57, .iload 5, 2, 0, 0, 0), (59, .if_icmp .ge 52, 3, 111, 0, 0), (62, .aload_n 0, 1, 0, 0, 0), (63, .getfield 21, 3, 2, 1, 3), (66, .aload_n 2, 1, 0, 0, 0), (67, .getfield 92, 3, 6, 3, 0), (70, .iload 6, 2, 0, 0, 0), (72, .ior, 1, 0, 0, 0), (73, .putfield 92, 3, 6, 3, 0), (76, .aload_n 0, 1, 0, 0, 0), (77, .getfield 28, 3, 2, 2, 3), (80, .aload_n 1, 1, 0, 0, 0), (81, .aload_n 0, 1, 0, 0, 0), (82, .getfield 21, 3, 2, 1, 3), (85, .invokevirtual 98, 3, 54, 3, 8), (88, .aload_n 0, 1, 0, 0, 0), (89, .getfield 28, 3, 2, 2, 3), (92, .getfield 44, 3, 8, 4, 3), (95, .iload_n 3, 1, 0, 0, 0), (96, .iaload, 1, 0, 0, 0), (97, .ifCond .ne 14, 3, 111, 0, 0), (100, .iload 6, 2, 0, 0, 0), (102, .istore 4, 2, 0, 0, 0), (104, .iload 6, 2, 0, 0, 0), (106, .invokestatic 95, 3, 163, 1, 0), (109, .istore 5, 2, 0, 0, 0), (111, .iinc 6 1, 3, 0, 0, 0), (114, .goto (-95), 3, 19, 0, 0), (117, .iload 4, 2, 0, 0, 0), (119, .ireturn, 1, 0, 0, 0)]
def zr_X2_leastBarrel : List am_R := [(0, .aload_n 0, 1, 0, 0, 0), (1, .getfield 12, 3, 2, 0, 3), (4, .aload_n 1, 1, 0, 0, 0), (5, .invokevirtual 101, 3, 61, 2, 9), (8, .iconst 0, 1, 0, 0, 0), (9, .istore 4, 2, 0, 0, 0), (11, .iload 4, 2, 0, 0, 0), (13, .bipush 9, 2, 0, 0, 0), (15, .if_icmp .gt 90, 3, 105, 0, 0), (18, .aload_n 0, 1, 0, 0, 0), (19, .getfield 12, 3, 2, 0, 3), (22, .getfield 104, 3, 9, 6, 3), (25, .iload_n 3, 1, 0, 0, 0), (26, .iload 4, 2, 0, 0, 0), (28, .iastore, 1, 0, 0, 0), (29, .aload_n 0, 1, 0, 0, 0), (30, .getfield 21, 3, 2, 1, 3), (33, .aload_n 2, 1, 0, 0, 0), (34, .invokevirtual 32, 3, 42, 2, 6), (37, .aload_n 0, 1, 0, 0, 0), (38, .getfield 21, 3, 2, 1, 3), (41, .getfield 107, 3, 6, 1, 3), (44, .iload_n 3, 1, 0, 0, 0), (45, .iconst 0, 1, 0, 0, 0), (46, .iastore, 1, 0, 0, 0), (47, .iconst 0, 1, 0, 0, 0), (48, .istore 5, 2, 0, 0, 0), (50, .iload 5, 2, 0, 0, 0), (52, .bipush 10, 2, 0, 0, 0), (54, .if_icmp .ge 24, 3, 78, 0, 0), (57, .aload_n 0, 1, 0, 0, 0), (58, .getfield 28, 3, 2, 2, 3), (61, .aload_n 0, 1, 0, 0, 0), (62, .getfield 12, 3, 2, 0, 3), (65, .aload_n 0, 1, 0, 0, 0), (66, .getfield 21, 3, 2, 1, 3), (69, .invokevirtual 36, 3, 58, 3, 8), (72, .iinc 5 1, 3, 0, 0, 0), (75, .goto (-25), 3, 50, 0, 0), (78, .aload_n 0, 1, 0, 0, 0), (79, .getfield 21, 3, 2, 1, 3), (82, .getfield 110, 3, 6, 2, 3), (85, .iload_n 3, 1, 0, 0, 0), (86, .iaload, 1, 0, 0, 0), (87, .aload_n 2, 1, 0, 0, 0), (88, .getfield 110, 3, 6, 2, 3), (91, .iload_n 3, 1, 0, 0, 0), (92, .iaload, 1, 0, 0, 0), (93, .if_icmp .ne 6, 3, 99, 0, 0), (96, .iload 4, 2, 0, 0, 0), (98, .ireturn, 1, 0, 0, 0), (99, .iinc 4 1, 3, 0, 0, 0), (102, .goto (-91), 3, 11, 0, 0), (105, .bipush (-9), 2, 0, 0, 0), (107, .ireturn, 1, 0, 0, 0)]
def zr_X2_firstNotSo : List am_R := [(0, .aload_n 0, 1, 0, 0, 0), (1, .getfield 21, 3, 2, 1, 3), (4, .aload_n 2, 1, 0, 0, 0), (5, .invokevirtual 32, 3, 42, 2, 6), (8, .iconst 0, 1, 0, 0, 0), (9, .istore 6, 2, 0, 0, 0), (11, .iload 6, 2, 0, 0, 0), (13, .iload_n 3, 1, 0, 0, 0), (14, .if_icmp .ge 79, 3, 93, 0, 0), (17, .lload 4, 2, 0, 0, 0), (19, .iload_n 3, 1, 0, 0, 0), (20, .iconst 1, 1, 0, 0, 0), (21, .isub, 1, 0, 0, 0), (22, .iload 6, 2, 0, 0, 0), (24, .isub, 1, 0, 0, 0), (25, .invokestatic 113, 3, 102, 2, 1), (28, .ldc2_w 117, 3, 0, 0, 1000), (31, .lrem, 1, 0, 0, 0), (32, .l2i, 1, 0, 0, 0), (33, .istore 7, 2, 0, 0, 0), (35, .iload 7, 2, 0, 0, 0), (37, .bipush 100, 2, 0, 0, 0), (39, .idiv, 1, 0, 0, 0), (40, .istore 8, 2, 0, 0, 0), (42, .iload 7, 2, 0, 0, 0), (44, .bipush 10, 2, 0, 0, 0), (46, .idiv, 1, 0, 0, 0), (47, .bipush 10, 2, 0, 0, 0), (49, .irem, 1, 0, 0, 0), (50, .istore 9, 2, 0, 0, 0), (52, .iload 7, 2, 0, 0, 0), (54, .bipush 10, 2, 0, 0, 0), (56, .irem, 1, 0, 0, 0), (57, .istore 10, 2, 0, 0, 0), (59, .aload_n 0, 1, 0, 0, 0), (60, .aload_n 1, 1, 0, 0, 0), (61, .iload 8, 2, 0, 0, 0), (63, .iload 9, 2, 0, 0, 0), (65, .iload 10, 2, 0, 0, 0), (67, .invokevirtual 119, 3, 21, 5, 2), (70, .ifCond .ne 6, 3, 76, 0, 0), (73, .iload 6, 2, 0, 0, 0), (75, .ireturn, 1, 0, 0, 0), (76, .aload_n 0, 1, 0, 0, 0), (77, .aload_n 1, 1, 0, 0, 0), (78, .iload 8, 2, 0, 0, 0), (80, .iload 9, 2, 0, 0, 0), (82, .iload 10, 2, 0, 0, 0), (84, .invokevirtual 123, 3, 23, 5, 2), (87, .iinc 6 1, 3, 0, 0, 0), (90, .goto (-79), 3, 11, 0, 0), (93, .bipush (-9), 2, 0, 0, 0), (95, .ireturn, 1, 0, 0, 0)]
def zr_X2_canBe : List am_R := [(0, .iload 4, 2, 0, 0, 0), (2, .aload_n 1, 1, 0, 0, 0), (3, .getfield 47, 3, 9, 2, 0), (6, .if_icmp .ge 7, 3, 13, 0, 0), (9, .iconst 1, 1, 0, 0, 0), (10, .goto 4, 3, 14, 0, 0), (13, .iconst 0, 1, 0, 0, 0), (14, .istore 5, 2, 0, 0, 0), (16, .iload_n 2, 1, 0, 0, 0), (17, .tableswitch 139 0 4 #[35, 50, 75, 102, 117], 35, 0, 0, 0), (52, .iload_n 3, 1, 0, 0, 0), (53, .ifCond .ne 12, 3, 65, 0, 0), (56, .iload 4, 2, 0, 0, 0), (58, .ifCond .ne 7, 3, 65, 0, 0), (61, .iconst 1, 1, 0, 0, 0), (62, .goto 4, 3, 66, 0, 0), (65, .iconst 0, 1, 0, 0, 0), (66, .ireturn, 1, 1, 0, 0), (67, .iload 5, 2, 0, 0, 0), (69, .ifCond .eq 21, 3, 90, 0, 0), (72, .iload_n 3, 1, 0, 0, 0), (73, .aload_n 1, 1, 0, 0, 0), (74, .getfield 47, 3, 9, 2, 0), (77, .if_icmp .ge 13, 3, 90, 0, 0), (80, .iload_n 3, 1, 0, 0, 0), (81, .iload 4, 2, 0, 0, 0), (83, .if_icmp .eq 7, 3, 90, 0, 0), (86, .iconst 1, 1, 0, 0, 0), (87, .goto 4, 3, 91, 0, 0), (90, .iconst 0, 1, 0, 0, 0), (91, .ireturn, 1, 1, 0, 0), (92, .iload 5, 2, 0, 0, 0), (94, .ifCond .eq 23, 3, 117, 0, 0), (97, .iload_n 3, 1, 0, 0, 0), (98, .ifCond .ne 19, 3, 117, 0, 0), (101, .aload_n 0, 1, 0, 0, 0), (102, .getfield 21, 3, 2, 1, 3), (105, .iload 4, 2, 0, 0, 0), (107, .invokevirtual 127, 3, 45, 2, 6), (110, .ifCond .ne 7, 3, 117, 0, 0), (113, .iconst 1, 1, 0, 0, 0), (114, .goto 4, 3, 118, 0, 0), (117, .iconst 0, 1, 0, 0, 0), (118, .ireturn, 1, 1, 0, 0), (119, .iload 5, 2, 0, 0, 0), (121, .ifCond .eq 11, 3, 132, 0, 0), (124, .iload_n 3, 1, 0, 0, 0), (125, .ifCond .ne 7, 3, 132, 0, 0), (128, .iconst 1, 1, 0, 0, 0), (129, .goto 4, 3, 133, 0, 0), (132, .iconst 0, 1, 0, 0, 0), (133, .ireturn, 1, 1, 0, 0), (134, .iload 5, 2, 0, 0, 0), (136, .ifCond .eq 18, 3, 154, 0, 0), (139, .aload_n 0, 1, 0, 0, 0), (140, .aload_n 1, 1, 0, 0, 0), (141, .iload 4, 2, 0, 0, 0), (143, .invokevirtual 130, 3, 22, 3, 2), (146, .iload_n 3, 1, 0, 0, 0), (147, .if_icmp .gt 7, 3, 154, 0, 0), (150, .iconst 1, 1, 0, 0, 0), (151, .goto 4, 3, 155, 0, 0), (154, .iconst 0, 1, 0, 0, 0), (155, .ireturn, 1, 1, 0, 0), (156, .iconst 0, 1, 0, 0, 0), (157, .ireturn, 1, 1, 0, 0)]
def zr_X2_lackOf : List am_R := [(0, .aload_n 0, 1, 0, 0, 0), (1, .getfield 28, 3, 2, 2, 3), (4, .aload_n 1, 1, 0, 0, 0), (5, .aload_n 0, 1, 0, 0, 0), (6, .getfield 21, 3, 2, 1, 3), (9, .invokevirtual 98, 3, 54, 3, 8), (12, .aload_n 0, 1, 0, 0, 0), (13, .getfield 28, 3, 2, 2, 3), (16, .getfield 44, 3, 8, 4, 3), (19, .iload_n 2, 1, 0, 0, 0), (20, .iaload, 1, 0, 0, 0), (21, .ireturn, 1, 0, 0, 0)]
def zr_X2_carryOut : List am_R := [(0, .iload_n 2, 1, 0, 0, 0), (1, .tableswitch 83 0 3 #[31, 46, 59, 71], 31, 0, 0, 0), (32, .aload_n 0, 1, 0, 0, 0), (33, .getfield 28, 3, 2, 2, 3), (36, .aload_n 1, 1, 0, 0, 0), (37, .aload_n 0, 1, 0, 0, 0), (38, .getfield 21, 3, 2, 1, 3), (41, .invokevirtual 36, 3, 58, 3, 8), (44, .goto 40, 3, 84, 0, 0), (47, .aload_n 0, 1, 0, 0, 0), (48, .getfield 21, 3, 2, 1, 3), (51, .iload_n 3, 1, 0, 0, 0), (52, .iload 4, 2, 0, 0, 0), (54, .invokevirtual 134, 3, 44, 3, 6), (57, .goto 27, 3, 84, 0, 0), (60, .aload_n 0, 1, 0, 0, 0), (61, .getfield 21, 3, 2, 1, 3), (64, .iload 4, 2, 0, 0, 0), (66, .invokevirtual 138, 3, 46, 2, 6), (69, .goto 15, 3, 84, 0, 0), (72, .aload_n 0, 1, 0, 0, 0), (73, .getfield 21, 3, 2, 1, 3), (76, .iload 4, 2, 0, 0, 0), (78, .invokevirtual 142, 3, 48, 2, 6), (81, .goto 3, 3, 84, 0, 0), (84, .return_, 1, 0, 0, 0)]
def zr_X3_init : List am_R := [(0, .aload_n 0, 1, 0, 0, 0), (1, .invokespecial 3, 3, 1000, 0, 0), (4, .aload_n 0, 1, 0, 0, 0), (5, .new 9, 3, 9, 0, 0), (8, .dup, 1, 0, 0, 0), (9, .invokespecial 11, 3, 59, 1, 0), (12, .putfield 12, 3, 3, 0, 3), (15, .return_, 1, 0, 0, 0)]
def zr_X3_read : List am_R := [(0, .aload_n 0, 1, 0, 0, 0), (1, .getfield 12, 3, 3, 0, 3), (4, .invokevirtual 18, 3, 60, 1, 9), (7, .iconst 0, 1, 0, 0, 0), (8, .istore_n 2, 1, 0, 0, 0), (9, .iconst 0, 1, 0, 0, 0), (10, .istore_n 3, 1, 0, 0, 0), (11, .iload_n 3, 1, 0, 0, 0), (12, .aload_n 1, 1, 0, 0, 0), (13, .getfield 21, 3, 7, 1, 0), (16, .if_icmp .ge 29, 3, 45, 0, 0), (19, .aload_n 0, 1, 0, 0, 0), (20, .iload_n 2, 1, 0, 0, 0), (21, .aload_n 1, 1, 0, 0, 0), (22, .getfield 27, 3, 7, 0, 3), (25, .iload_n 3, 1, 0, 0, 0), (26, .iaload, 1, 0, 0, 0), (27, .invokevirtual 31, 3, 26, 3, 3), (30, .istore_n 2, 1, 0, 0, 0), (31, .iload_n 2, 1, 0, 0, 0), (32, .bipush (-9), 2, 0, 0, 0), (34, .if_icmp .ne 5, 3, 39, 0, 0), (37, .iload_n 3, 1, 0, 0, 0), (38, .ireturn, 1, 0, 0, 0), (39, .iinc 3 1, 3, 0, 0, 0), (42, .goto (-31), 3, 11, 0, 0), (45, .iload_n 2, 1, 0, 0, 0), (46, .iconst 3, 1, 0, 0, 0), (47, .if_icmp .ne 8, 3, 55, 0, 0), (50, .bipush (-9), 2, 0, 0, 0), (52, .goto 7, 3, 59, 0, 0), (55, .aload_n 1, 1, 0, 0, 0), (56, .getfield 21, 3, 7, 1, 0), (59, .ireturn, 1, 0, 0, 0)]
def zr_X3_take : List am_R := [(0, .iload_n 1, 1, 0, 0, 0), (1, .tableswitch 111 0 7 #[47, 66, 78, 60, 66, 89, 66, 100], 47, 0, 0, 0), (48, .iload_n 2, 1, 0, 0, 0), (49, .bipush 84, 2, 0, 0, 0), (51, .if_icmp .ne 7, 3, 58, 0, 0), (54, .iconst 1, 1, 0, 0, 0), (55, .goto 5, 3, 60, 0, 0), (58, .bipush (-9), 2, 0, 0, 0), (60, .ireturn, 1, 0, 0, 0), (61, .aload_n 0, 1, 0, 0, 0), (62, .iload_n 2, 1, 0, 0, 0), (63, .invokevirtual 35, 3, 27, 2, 3), (66, .ireturn, 1, 0, 0, 0), (67, .aload_n 0, 1, 0, 0, 0), (68, .iload_n 1, 1, 0, 0, 0), (69, .iload_n 2, 1, 0, 0, 0), (70, .bipush 48, 2, 0, 0, 0), (72, .isub, 1, 0, 0, 0), (73, .bipush 9, 2, 0, 0, 0), (75, .invokevirtual 39, 3, 28, 4, 3), (78, .ireturn, 1, 0, 0, 0), (79, .aload_n 0, 1, 0, 0, 0), (80, .iload_n 1, 1, 0, 0, 0), (81, .iload_n 2, 1, 0, 0, 0), (82, .bipush 48, 2, 0, 0, 0), (84, .isub, 1, 0, 0, 0), (85, .iconst 1, 1, 0, 0, 0), (86, .invokevirtual 39, 3, 28, 4, 3), (89, .ireturn, 1, 0, 0, 0), (90, .aload_n 0, 1, 0, 0, 0), (91, .iload_n 1, 1, 0, 0, 0), (92, .iload_n 2, 1, 0, 0, 0), (93, .bipush 48, 2, 0, 0, 0), (95, .isub, 1, 0, 0, 0), (96, .iconst 3, 1, 0, 0, 0), (97, .invokevirtual 39, 3, 28, 4, 3), (100, .ireturn, 1, 0, 0, 0), (101, .aload_n 0, 1, 0, 0, 0), (102, .iload_n 1, 1, 0, 0, 0), (103, .iload_n 2, 1, 0, 0, 0), (104, .bipush 48, 2, 0, 0, 0), (106, .isub, 1, 0, 0, 0), (107, .iconst 3, 1, 0, 0, 0), (108, .invokevirtual 39, 3, 28, 4, 3), (111, .ireturn, 1, 0, 0, 0), (112, .bipush (-9), 2, 0, 0, 0), (114, .ireturn, 1, 0, 0, 0)]
def zr_X3_takePart : List am_R := [(0, .iload_n 1, 1, 0, 0, 0), (1, .bipush 72, 2, 0, 0, 0), (3, .if_icmp .ne 30, 3, 33, 0, 0), (6, .aload_n 0, 1, 0, 0, 0), (7, .getfield 12, 3, 3, 0, 3), (10, .getfield 43, 3, 9, 2, 0), (13, .bipush 6, 2, 0, 0, 0), (15, .if_icmp .ge 18, 3, 33, 0, 0), (18, .aload_n 0, 1, 0, 0, 0), (19, .getfield 12, 3, 3, 0, 3), (22, .dup, 1, 0, 0, 0), (23, .getfield 43, 3, 9, 2, 0), (26, .iconst 1, 1, 0, 0, 0), (27, .iadd, 1, 0, 0, 0), (28, .putfield 43, 3, 9, 2, 0), (31, .iconst 4, 1, 0, 0, 0), (32, .ireturn, 1, 0, 0, 0), (33, .iload_n 1, 1, 0, 0, 0), (34, .bipush 68, 2, 0, 0, 0), (36, .if_icmp .ne 30, 3, 66, 0, 0), (39, .aload_n 0, 1, 0, 0, 0), (40, .getfield 12, 3, 3, 0, 3), (43, .getfield 46, 3, 9, 3, 0), (46, .iconst 5, 1, 0, 0, 0), (47, .if_icmp .ge 19, 3, 66, 0, 0), (50, .aload_n 0, 1, 0, 0, 0), (51, .getfield 12, 3, 3, 0, 3), (54, .dup, 1, 0, 0, 0), (55, .getfield 46, 3, 9, 3, 0), (58, .iconst 1, 1, 0, 0, 0), (59, .iadd, 1, 0, 0, 0), (60, .putfield 46, 3, 9, 3, 0), (63, .bipush 7, 2, 0, 0, 0), (65, .ireturn, 1, 0, 0, 0), (66, .bipush (-9), 2, 0, 0, 0), (68, .ireturn, 1, 0, 0, 0)]
def zr_X3_takeFigure : List am_R := [(0, .iload_n 2, 1, 0, 0, 0), (1, .iconst 0, 1, 0, 0, 0), (2, .iload_n 3, 1, 0, 0, 0), (3, .invokestatic 49, 3, 95, 3, 1), (6, .ifCond .ne 6, 3, 12, 0, 0), (9, .bipush (-9), 2, 0, 0, 0), (11, .ireturn, 1, 0, 0, 0), (12, .iload_n 1, 1, 0, 0, 0), (13, .tableswitch 133 1 7 #[43, 53, 133, 92, 112, 133, 72], 43, 0, 0, 0), (56, .aload_n 0, 1, 0, 0, 0), (57, .getfield 12, 3, 3, 0, 3), (60, .iload_n 2, 1, 0, 0, 0), (61, .putfield 53, 3, 9, 0, 0), (64, .iconst 2, 1, 0, 0, 0), (65, .ireturn, 1, 0, 0, 0), (66, .aload_n 0, 1, 0, 0, 0), (67, .getfield 12, 3, 3, 0, 3), (70, .iload_n 2, 1, 0, 0, 0), (71, .iconst 1, 1, 0, 0, 0), (72, .if_icmp .ne 7, 3, 79, 0, 0), (75, .iconst 1, 1, 0, 0, 0), (76, .goto 4, 3, 80, 0, 0), (79, .iconst 0, 1, 0, 0, 0), (80, .putfield 56, 3, 9, 1, 1), (83, .iconst 3, 1, 0, 0, 0), (84, .ireturn, 1, 0, 0, 0), (85, .aload_n 0, 1, 0, 0, 0), (86, .getfield 12, 3, 3, 0, 3), (89, .getfield 60, 3, 9, 7, 3), (92, .aload_n 0, 1, 0, 0, 0), (93, .getfield 12, 3, 3, 0, 3), (96, .getfield 46, 3, 9, 3, 0), (99, .iload_n 2, 1, 0, 0, 0), (100, .iconst 3, 1, 0, 0, 0), (101, .invokestatic 63, 3, 29, 4, 0), (104, .ireturn, 1, 0, 0, 0), (105, .aload_n 0, 1, 0, 0, 0), (106, .getfield 12, 3, 3, 0, 3), (109, .getfield 67, 3, 9, 4, 3), (112, .aload_n 0, 1, 0, 0, 0), (113, .getfield 12, 3, 3, 0, 3), (116, .getfield 43, 3, 9, 2, 0), (119, .iload_n 2, 1, 0, 0, 0), (120, .iconst 5, 1, 0, 0, 0), (121, .invokestatic 63, 3, 29, 4, 0), (124, .ireturn, 1, 0, 0, 0), (125, .aload_n 0, 1, 0, 0, 0), (126, .getfield 12, 3, 3, 0, 3), (129, .getfield 70, 3, 9, 5, 3), (132, .aload_n 0, 1, 0, 0, 0), (133, .getfield 12, 3, 3, 0, 3), (136, .getfield 43, 3, 9, 2, 0), (139, .iload_n 2, 1, 0, 0, 0), (140, .bipush 6, 2, 0, 0, 0), (142, .invokestatic 63, 3, 29, 4, 0), (145, .ireturn, 1, 0, 0, 0), (146, .aload_n 0, 1, 0, 0, 0), (147, .getfield 12, 3, 3, 0, 3), (150, .getfield 73, 3, 9, 6, 3), (153, .aload_n 0, 1, 0, 0, 0), (154, .getfield 12, 3, 3, 0, 3), (157, .getfield 43, 3, 9, 2, 0), (160, .iload_n 2, 1, 0, 0, 0), (161, .iconst 3, 1, 0, 0, 0), (162, .invokestatic 63, 3, 29, 4, 0), (165, .ireturn, 1, 0, 0, 0)]
def zr_X3_putLast : List am_R := [(0, .iload_n 1, 1, 0, 0, 0), (1, .iconst 1, 1, 0, 0, 0), (2, .aload_n 0, 1, 0, 0, 0), (3, .arraylength, 1, 0, 0, 0), (4, .invokestatic 49, 3, 95, 3, 1), (7, .ifCond .ne 6, 3, 13, 0, 0), (10, .bipush (-9), 2, 0, 0, 0), (12, .ireturn, 1, 0, 0, 0), (13, .aload_n 0, 1, 0, 0, 0), (14, .iload_n 1, 1, 0, 0, 0), (15, .iconst 1, 1, 0, 0, 0), (16, .isub, 1, 0, 0, 0), (17, .iload_n 2, 1, 0, 0, 0), (18, .iastore, 1, 0, 0, 0), (19, .iload_n 3, 1, 0, 0, 0), (20, .ireturn, 1, 0, 0, 0)]
def zr_X4_init : List am_R := [(0, .aload_n 0, 1, 0, 0, 0), (1, .invokespecial 3, 3, 1000, 0, 0), (4, .aload_n 0, 1, 0, 0, 0), (5, .bipush 6, 2, 0, 0, 0), (7, .newarray .int, 2, 0, 0, 0), (9, .putfield 9, 3, 4, 0, 3), (12, .aload_n 0, 1, 0, 0, 0), (13, .bipush 6, 2, 0, 0, 0), (15, .newarray .int, 2, 0, 0, 0), (17, .putfield 15, 3, 4, 1, 3), (20, .aload_n 0, 1, 0, 0, 0), (21, .bipush 6, 2, 0, 0, 0), (23, .newarray .int, 2, 0, 0, 0), (25, .putfield 18, 3, 4, 2, 3), (28, .aload_n 0, 1, 0, 0, 0), (29, .iconst 0, 1, 0, 0, 0), (30, .putfield 21, 3, 4, 3, 0), (33, .return_, 1, 0, 0, 0)]
def zr_X4_add : List am_R := [(0, .aload_n 0, 1, 0, 0, 0), (1, .getfield 21, 3, 4, 3, 0), (4, .bipush 6, 2, 0, 0, 0), (6, .if_icmp .lt 6, 3, 12, 0, 0), (9, .bipush (-4), 2, 0, 0, 0), (11, .ireturn, 1, 0, 0, 0), (12, .aload_n 0, 1, 0, 0, 0), (13, .getfield 9, 3, 4, 0, 3), (16, .aload_n 0, 1, 0, 0, 0), (17, .getfield 21, 3, 4, 3, 0), (20, .iload_n 1, 1, 0, 0, 0), (21, .iastore, 1, 0, 0, 0), (22, .aload_n 0, 1, 0, 0, 0), (23, .getfield 15, 3, 4, 1, 3), (26, .aload_n 0, 1, 0, 0, 0), (27, .getfield 21, 3, 4, 3, 0), (30, .iload_n 2, 1, 0, 0, 0), (31, .iastore, 1, 0, 0, 0), (32, .aload_n 0, 1, 0, 0, 0), (33, .getfield 18, 3, 4, 2, 3), (36, .aload_n 0, 1, 0, 0, 0), (37, .getfield 21, 3, 4, 3, 0), (40, .iload_n 3, 1, 0, 0, 0), (41, .iastore, 1, 0, 0, 0), (42, .aload_n 0, 1, 0, 0, 0), (43, .dup, 1, 0, 0, 0), (44, .getfield 21, 3, 4, 3, 0), (47, .iconst 1, 1, 0, 0, 0), (48, .iadd, 1, 0, 0, 0), (49, .putfield 21, 3, 4, 3, 0), (52, .aload_n 0, 1, 0, 0, 0), (53, .getfield 21, 3, 4, 3, 0), (56, .ireturn, 1, 0, 0, 0)]
def zr_X4_clear : List am_R := [(0, .aload_n 0, 1, 0, 0, 0), (1, .getfield 21, 3, 4, 3, 0), (4, .istore_n 1, 1, 0, 0, 0), (5, .aload_n 0, 1, 0, 0, 0), (6, .iconst 0, 1, 0, 0, 0), (7, .putfield 21, 3, 4, 3, 0), (10, .iload_n 1, 1, 0, 0, 0), (11, .ireturn, 1, 0, 0, 0)]
def zr_X4_possibleWants : List am_R := [(0, .iconst 0, 1, 0, 0, 0), (1, .istore_n 3, 1, 0, 0, 0), (2, .iconst 0, 1, 0, 0, 0), (3, .istore 4, 2, 0, 0, 0), (5, .iload 4, 2, 0, 0, 0), (7, .bipush 9, 2, 0, 0, 0), (9, .if_icmp .gt 35, 3, 44, 0, 0), (12, .aload_n 0, 1, 0, 0, 0), (13, .iload_n 1, 1, 0, 0, 0), (14, .iload 4, 2, 0, 0, 0), (16, .iload_n 2, 1, 0, 0, 0), (17, .invokestatic 25, 3, 100, 2, 1), (20, .iload_n 2, 1, 0, 0, 0), (21, .invokestatic 29, 3, 101, 1, 1), (24, .iadd, 1, 0, 0, 0), (25, .invokevirtual 33, 3, 34, 3, 4), (28, .ifCond .eq 10, 3, 38, 0, 0), (31, .iload_n 3, 1, 0, 0, 0), (32, .iconst 1, 1, 0, 0, 0), (33, .iload 4, 2, 0, 0, 0), (35, .ishl, 1, 0, 0, 0), (36, .ior, 1, 0, 0, 0), (37, .istore_n 3, 1, 0, 0, 0), (38, .iinc 4 1, 3, 0, 0, 0), (41, .goto (-36), 3, 5, 0, 0), (44, .iload_n 3, 1, 0, 0, 0), (45, .ireturn, 1, 0, 0, 0)]
def zr_X4_agrees : List am_R := [(0, .iconst 0, 1, 0, 0, 0), (1, .istore_n 3, 1, 0, 0, 0), (2, .iload_n 3, 1, 0, 0, 0), (3, .aload_n 0, 1, 0, 0, 0), (4, .getfield 21, 3, 4, 3, 0), (7, .if_icmp .ge 38, 3, 45, 0, 0), (10, .aload_n 0, 1, 0, 0, 0), (11, .getfield 9, 3, 4, 0, 3), (14, .iload_n 3, 1, 0, 0, 0), (15, .iaload, 1, 0, 0, 0), (16, .iload_n 1, 1, 0, 0, 0), (17, .if_icmp .ne 22, 3, 39, 0, 0), (20, .aload_n 0, 1, 0, 0, 0), (21, .getfield 18, 3, 4, 2, 3), (24, .iload_n 3, 1, 0, 0, 0), (25, .iaload, 1, 0, 0, 0), (26, .iload_n 2, 1, 0, 0, 0), (27, .aload_n 0, 1, 0, 0, 0), (28, .getfield 15, 3, 4, 1, 3), (31, .iload_n 3, 1, 0, 0, 0), (32, .iaload, 1, 0, 0, 0), (33, .iadd, 1, 0, 0, 0), (34, .if_icmp .eq 5, 3, 39, 0, 0), (37, .iconst 0, 1, 0, 0, 0), (38, .ireturn, 1, 1, 0, 0), (39, .iinc 3 1, 3, 0, 0, 0), (42, .goto (-40), 3, 2, 0, 0), (45, .iconst 1, 1, 0, 0, 0), (46, .ireturn, 1, 1, 0, 0)]
def zr_X5_init : List am_R := [(0, .aload_n 0, 1, 0, 0, 0), (1, .invokespecial 3, 3, 1000, 0, 0), (4, .aload_n 0, 1, 0, 0, 0), (5, .iconst 2, 1, 0, 0, 0), (6, .anewarray 9, 3, 0, 0, 0), (9, .putfield 11, 3, 5, 0, 3), (12, .iconst 0, 1, 0, 0, 0), (13, .istore_n 1, 1, 0, 0, 0), (14, .iload_n 1, 1, 0, 0, 0), (15, .iconst 2, 1, 0, 0, 0), (16, .if_icmp .ge 22, 3, 38, 0, 0), (19, .aload_n 0, 1, 0, 0, 0), (20, .getfield 11, 3, 5, 0, 3), (23, .iload_n 1, 1, 0, 0, 0), (24, .new 9, 3, 6, 0, 0), (27, .dup, 1, 0, 0, 0), (28, .invokespecial 17, 3, 39, 1, 0), (31, .aastore, 1, 0, 0, 0), (32, .iinc 1 1, 3, 0, 0, 0), (35, .goto (-21), 3, 14, 0, 0), (38, .aload_n 0, 1, 0, 0, 0), (39, .iconst 0, 1, 0, 0, 0), (40, .putfield 18, 3, 5, 1, 0), (43, .return_, 1, 0, 0, 0)]
def zr_X5_clear : List am_R := [(0, .aload_n 0, 1, 0, 0, 0), (1, .iconst 0, 1, 0, 0, 0), (2, .putfield 18, 3, 5, 1, 0), (5, .return_, 1, 0, 0, 0)]
def zr_X5_put : List am_R := [(0, .aload_n 0, 1, 0, 0, 0), (1, .getfield 11, 3, 5, 0, 3), (4, .iload_n 1, 1, 0, 0, 0), (5, .aaload, 1, 0, 0, 0), (6, .aload_n 2, 1, 0, 0, 0), (7, .invokevirtual 22, 3, 42, 2, 6), (10, .aload_n 0, 1, 0, 0, 0), (11, .dup, 1, 0, 0, 0), (12, .getfield 18, 3, 5, 1, 0), (15, .iconst 1, 1, 0, 0, 0), (16, .iload_n 1, 1, 0, 0, 0), (17, .ishl, 1, 0, 0, 0), (18, .ior, 1, 0, 0, 0), (19, .putfield 18, 3, 5, 1, 0), (22, .return_, 1, 0, 0, 0)]
def zr_X5_fetch : List am_R := [(0, .aload_n 0, 1, 0, 0, 0), (1, .getfield 18, 3, 5, 1, 0), (4, .iload_n 1, 1, 0, 0, 0), (5, .ishr, 1, 0, 0, 0), (6, .iconst 1, 1, 0, 0, 0), (7, .iand, 1, 0, 0, 0), (8, .ifCond .ne 5, 3, 13, 0, 0), (11, .iconst 0, 1, 0, 0, 0), (12, .ireturn, 1, 1, 0, 0), (13, .aload_n 2, 1, 0, 0, 0), (14, .aload_n 0, 1, 0, 0, 0), (15, .getfield 11, 3, 5, 0, 3), (18, .iload_n 1, 1, 0, 0, 0), (19, .aaload, 1, 0, 0, 0), (20, .invokevirtual 22, 3, 42, 2, 6), (23, .iconst 1, 1, 0, 0, 0), (24, .ireturn, 1, 1, 0, 0)]
def zr_X6_init : List am_R := [(0, .aload_n 0, 1, 0, 0, 0), (1, .invokespecial 3, 3, 1000, 0, 0), (4, .aload_n 0, 1, 0, 0, 0), (5, .bipush 6, 2, 0, 0, 0), (7, .newarray .int, 2, 0, 0, 0), (9, .putfield 9, 3, 6, 0, 3), (12, .aload_n 0, 1, 0, 0, 0), (13, .bipush 6, 2, 0, 0, 0), (15, .newarray .int, 2, 0, 0, 0), (17, .putfield 15, 3, 6, 1, 3), (20, .aload_n 0, 1, 0, 0, 0), (21, .bipush 6, 2, 0, 0, 0), (23, .newarray .int, 2, 0, 0, 0), (25, .putfield 18, 3, 6, 2, 3), (28, .aload_n 0, 1, 0, 0, 0), (29, .invokevirtual 21, 3, 40, 1, 6), (32, .return_, 1, 0, 0, 0)]
def zr_X6_clear : List am_R := [(0, .aload_n 0, 1, 0, 0, 0), (1, .invokevirtual 24, 3, 41, 1, 6), (4, .iconst 0, 1, 0, 0, 0), (5, .istore_n 1, 1, 0, 0, 0), (6, .iload_n 1, 1, 0, 0, 0), (7, .bipush 6, 2, 0, 0, 0), (9, .if_icmp .ge 23, 3, 32, 0, 0), (12, .aload_n 0, 1, 0, 0, 0), (13, .getfield 15, 3, 6, 1, 3), (16, .iload_n 1, 1, 0, 0, 0), (17, .iconst 0, 1, 0, 0, 0), (18, .iastore, 1, 0, 0, 0), (19, .aload_n 0, 1, 0, 0, 0), (20, .getfield 18, 3, 6, 2, 3), (23, .iload_n 1, 1, 0, 0, 0), (24, .iconst 0, 1, 0, 0, 0), (25, .iastore, 1, 0, 0, 0), (26, .iinc 1 1, 3, 0, 0, 0), (29, .goto (-23), 3, 6, 0, 0), (32, .aload_n 0, 1, 0, 0, 0), (33, .iconst 0, 1, 0, 0, 0), (34, .putfield 27, 3, 6, 3, 0), (37, .aload_n 0, 1, 0, 0, 0), (38, .iconst 0, 1, 0, 0, 0), (39, .putfield 31, 3, 6, 4, 0), (42, .aload_n 0, 1, 0, 0, 0), (43, .iconst 0, 1, 0, 0, 0), (44, .putfield 34, 3, 6, 5, 0), (47, .return_, 1, 0, 0, 0)]
def zr_X6_standAsTold : List am_R := [(0, .iconst 0, 1, 0, 0, 0), (1, .istore_n 1, 1, 0, 0, 0), (2, .iload_n 1, 1, 0, 0, 0), (3, .bipush 6, 2, 0, 0, 0), (5, .if_icmp .ge 16, 3, 21, 0, 0), (8, .aload_n 0, 1, 0, 0, 0), (9, .getfield 9, 3, 6, 0, 3), (12, .iload_n 1, 1, 0, 0, 0), (13, .iload_n 1, 1, 0, 0, 0), (14, .iastore, 1, 0, 0, 0), (15, .iinc 1 1, 3, 0, 0, 0), (18, .goto (-16), 3, 2, 0, 0), (21, .return_, 1, 0, 0, 0)]
def zr_X6_copyFrom : List am_R := [(0, .aload_n 1, 1, 0, 0, 0), (1, .getfield 9, 3, 6, 0, 3), (4, .iconst 0, 1, 0, 0, 0), (5, .aload_n 0, 1, 0, 0, 0), (6, .getfield 9, 3, 6, 0, 3), (9, .iconst 0, 1, 0, 0, 0), (10, .bipush 6, 2, 0, 0, 0), (12, .invokestatic 37, 3, 1001, 0, 0), (15, .aload_n 1, 1, 0, 0, 0), (16, .getfield 15, 3, 6, 1, 3), (19, .iconst 0, 1, 0, 0, 0), (20, .aload_n 0, 1, 0, 0, 0), (21, .getfield 15, 3, 6, 1, 3), (24, .iconst 0, 1, 0, 0, 0), (25, .bipush 6, 2, 0, 0, 0), (27, .invokestatic 37, 3, 1001, 0, 0), (30, .aload_n 1, 1, 0, 0, 0), (31, .getfield 18, 3, 6, 2, 3), (34, .iconst 0, 1, 0, 0, 0), (35, .aload_n 0, 1, 0, 0, 0), (36, .getfield 18, 3, 6, 2, 3), (39, .iconst 0, 1, 0, 0, 0), (40, .bipush 6, 2, 0, 0, 0), (42, .invokestatic 37, 3, 1001, 0, 0), (45, .aload_n 0, 1, 0, 0, 0), (46, .aload_n 1, 1, 0, 0, 0), (47, .getfield 27, 3, 6, 3, 0), (50, .putfield 27, 3, 6, 3, 0), (53, .aload_n 0, 1, 0, 0, 0), (54, .aload_n 1, 1, 0, 0, 0), (55, .getfield 31, 3, 6, 4, 0), (58, .putfield 31, 3, 6, 4, 0), (61, .aload_n 0, 1, 0, 0, 0), (62, .aload_n 1, 1, 0, 0, 0), (63, .getfield 34, 3, 6, 5, 0), (66, .putfield 34, 3, 6, 5, 0), (69, .return_, 1, 0, 0, 0)]
def zr_X6_placeOf : List am_R := [(0, .iconst 0, 1, 0, 0, 0), (1, .istore_n 2, 1, 0, 0, 0), (2, .iload_n 2, 1, 0, 0, 0), (3, .bipush 6, 2, 0, 0, 0), (5, .if_icmp .ge 21, 3, 26, 0, 0), (8, .aload_n 0, 1, 0, 0, 0), (9, .getfield 9, 3, 6, 0, 3), (12, .iload_n 2, 1, 0, 0, 0), (13, .iaload, 1, 0, 0, 0), (14, .iload_n 1, 1, 0, 0, 0), (15, .if_icmp .ne 5, 3, 20, 0, 0), (18, .iload_n 2, 1, 0, 0, 0), (19, .ireturn, 1, 0, 0, 0), (20, .iinc 2 1, 3, 0, 0, 0), (23, .goto (-21), 3, 2, 0, 0), (26, .bipush (-9), 2, 0, 0, 0), (28, .ireturn, 1, 0, 0, 0)]
def zr_X6_exchange : List am_R := [(0, .iconst 0, 1, 0, 0, 0), (1, .istore_n 3, 1, 0, 0, 0), (2, .iload_n 3, 1, 0, 0, 0), (3, .bipush 6, 2, 0, 0, 0), (5, .if_icmp .ge 46, 3, 51, 0, 0), (8, .aload_n 0, 1, 0, 0, 0), (9, .getfield 9, 3, 6, 0, 3), (12, .iload_n 3, 1, 0, 0, 0), (13, .iaload, 1, 0, 0, 0), (14, .iload_n 1, 1, 0, 0, 0), (15, .if_icmp .ne 13, 3, 28, 0, 0), (18, .aload_n 0, 1, 0, 0, 0), (19, .getfield 9, 3, 6, 0, 3), (22, .iload_n 3, 1, 0, 0, 0), (23, .iload_n 2, 1, 0, 0, 0), (24, .iastore, 1, 0, 0, 0), (25, .goto 20, 3, 45, 0, 0), (28, .aload_n 0, 1, 0, 0, 0), (29, .getfield 9, 3, 6, 0, 3), (32, .iload_n 3, 1, 0, 0, 0), (33, .iaload, 1, 0, 0, 0), (34, .iload_n 2, 1, 0, 0, 0), (35, .if_icmp .ne 10, 3, 45, 0, 0), (38, .aload_n 0, 1, 0, 0, 0), (39, .getfield 9, 3, 6, 0, 3), (42, .iload_n 3, 1, 0, 0, 0), (43, .iload_n 1, 1, 0, 0, 0), (44, .iastore, 1, 0, 0, 0), (45, .iinc 3 1, 3, 0, 0, 0), (48, .goto (-46), 3, 2, 0, 0), (51, .return_, 1, 0, 0, 0)]
def zr_X6_isSalted : List am_R := [(0, .aload_n 0, 1, 0, 0, 0), (1, .getfield 27, 3, 6, 3, 0), (4, .iload_n 1, 1, 0, 0, 0), (5, .ishr, 1, 0, 0, 0), (6, .iconst 1, 1, 0, 0, 0), (7, .iand, 1, 0, 0, 0), (8, .iconst 1, 1, 0, 0, 0), (9, .if_icmp .ne 7, 3, 16, 0, 0), (12, .iconst 1, 1, 0, 0, 0), (13, .goto 4, 3, 17, 0, 0), (16, .iconst 0, 1, 0, 0, 0), (17, .ireturn, 1, 1, 0, 0)]
def zr_X6_giveSalt : List am_R := [(0, .aload_n 0, 1, 0, 0, 0), (1, .dup, 1, 0, 0, 0), (2, .getfield 27, 3, 6, 3, 0), (5, .iconst 1, 1, 0, 0, 0), (6, .iload_n 1, 1, 0, 0, 0), (7, .ishl, 1, 0, 0, 0), (8, .ior, 1, 0, 0, 0), (9, .putfield 27, 3, 6, 3, 0), (12, .return_, 1, 0, 0, 0)]
def zr_X6_isAway : List am_R := [(0, .aload_n 0, 1, 0, 0, 0), (1, .getfield 31, 3, 6, 4, 0), (4, .iload_n 1, 1, 0, 0, 0), (5, .ishr, 1, 0, 0, 0), (6, .iconst 1, 1, 0, 0, 0), (7, .iand, 1, 0, 0, 0), (8, .iconst 1, 1, 0, 0, 0), (9, .if_icmp .ne 7, 3, 16, 0, 0), (12, .iconst 1, 1, 0, 0, 0), (13, .goto 4, 3, 17, 0, 0), (16, .iconst 0, 1, 0, 0, 0), (17, .ireturn, 1, 1, 0, 0)]
def zr_X6_turnAway : List am_R := [(0, .aload_n 0, 1, 0, 0, 0), (1, .dup, 1, 0, 0, 0), (2, .getfield 31, 3, 6, 4, 0), (5, .iconst 1, 1, 0, 0, 0), (6, .iload_n 1, 1, 0, 0, 0), (7, .ishl, 1, 0, 0, 0), (8, .ixor, 1, 0, 0, 0), (9, .putfield 31, 3, 6, 4, 0), (12, .return_, 1, 0, 0, 0)]
def zr_X6_countPresent : List am_R := [(0, .iload_n 1, 1, 0, 0, 0), (1, .aload_n 0, 1, 0, 0, 0), (2, .getfield 31, 3, 6, 4, 0), (5, .invokestatic 43, 3, 163, 1, 0), (8, .isub, 1, 0, 0, 0), (9, .ireturn, 1, 0, 0, 0)]
def zr_X7_init : List am_R := [(0, .aload_n 0, 1, 0, 0, 0), (1, .invokespecial 3, 3, 1000, 0, 0), (4, .aload_n 0, 1, 0, 0, 0), (5, .bipush 40, 2, 0, 0, 0), (7, .newarray .int, 2, 0, 0, 0), (9, .putfield 9, 3, 7, 0, 3), (12, .aload_n 0, 1, 0, 0, 0), (13, .iconst 0, 1, 0, 0, 0), (14, .putfield 15, 3, 7, 1, 0), (17, .return_, 1, 0, 0, 0)]
def zr_X7_append : List am_R := [(0, .aload_n 0, 1, 0, 0, 0), (1, .getfield 15, 3, 7, 1, 0), (4, .bipush 40, 2, 0, 0, 0), (6, .if_icmp .lt 6, 3, 12, 0, 0), (9, .bipush (-4), 2, 0, 0, 0), (11, .ireturn, 1, 0, 0, 0), (12, .aload_n 0, 1, 0, 0, 0), (13, .getfield 9, 3, 7, 0, 3), (16, .aload_n 0, 1, 0, 0, 0), (17, .getfield 15, 3, 7, 1, 0), (20, .iload_n 1, 1, 0, 0, 0), (21, .iastore, 1, 0, 0, 0), (22, .aload_n 0, 1, 0, 0, 0), (23, .dup, 1, 0, 0, 0), (24, .getfield 15, 3, 7, 1, 0), (27, .iconst 1, 1, 0, 0, 0), (28, .iadd, 1, 0, 0, 0), (29, .putfield 15, 3, 7, 1, 0), (32, .aload_n 0, 1, 0, 0, 0), (33, .getfield 15, 3, 7, 1, 0), (36, .ireturn, 1, 0, 0, 0)]
def zr_X7_clear : List am_R := [(0, .aload_n 0, 1, 0, 0, 0), (1, .getfield 15, 3, 7, 1, 0), (4, .istore_n 1, 1, 0, 0, 0), (5, .aload_n 0, 1, 0, 0, 0), (6, .iconst 0, 1, 0, 0, 0), (7, .putfield 15, 3, 7, 1, 0), (10, .iload_n 1, 1, 0, 0, 0), (11, .ireturn, 1, 0, 0, 0)]
def zr_X8_init : List am_R := [(0, .aload_n 0, 1, 0, 0, 0), (1, .invokespecial 3, 3, 1000, 0, 0), (4, .aload_n 0, 1, 0, 0, 0), (5, .bipush 6, 2, 0, 0, 0), (7, .newarray .int, 2, 0, 0, 0), (9, .putfield 9, 3, 8, 0, 3), (12, .aload_n 0, 1, 0, 0, 0), (13, .bipush 6, 2, 0, 0, 0), (15, .newarray .int, 2, 0, 0, 0), (17, .putfield 15, 3, 8, 1, 3), (20, .aload_n 0, 1, 0, 0, 0), (21, .bipush 6, 2, 0, 0, 0), (23, .newarray .int, 2, 0, 0, 0), (25, .putfield 18, 3, 8, 2, 3), (28, .aload_n 0, 1, 0, 0, 0), (29, .bipush 6, 2, 0, 0, 0), (31, .newarray .int, 2, 0, 0, 0), (33, .putfield 21, 3, 8, 3, 3), (36, .aload_n 0, 1, 0, 0, 0), (37, .bipush 6, 2, 0, 0, 0), (39, .newarray .int, 2, 0, 0, 0), (41, .putfield 24, 3, 8, 4, 3), (44, .aload_n 0, 1, 0, 0, 0), (45, .bipush 6, 2, 0, 0, 0), (47, .newarray .int, 2, 0, 0, 0), (49, .putfield 27, 3, 8, 5, 3), (52, .aload_n 0, 1, 0, 0, 0), (53, .bipush 6, 2, 0, 0, 0), (55, .newarray .int, 2, 0, 0, 0), (57, .putfield 30, 3, 8, 6, 3), (60, .return_, 1, 0, 0, 0)]
def zr_X8_lookAt : List am_R := [(0, .aload_n 0, 1, 0, 0, 0), (1, .aload_n 1, 1, 0, 0, 0), (2, .aload_n 2, 1, 0, 0, 0), (3, .iconst 0, 1, 0, 0, 0), (4, .invokevirtual 33, 3, 55, 4, 8), (7, .aload_n 0, 1, 0, 0, 0), (8, .aload_n 1, 1, 0, 0, 0), (9, .aload_n 2, 1, 0, 0, 0), (10, .invokevirtual 37, 3, 56, 3, 8), (13, .return_, 1, 0, 0, 0)]
def zr_X8_hear : List am_R := [(0, .aload_n 1, 1, 0, 0, 0), (1, .aload_n 2, 1, 0, 0, 0), (2, .getfield 41, 3, 6, 5, 0), (5, .invokevirtual 47, 3, 62, 2, 9), (8, .istore 4, 2, 0, 0, 0), (10, .iconst 0, 1, 0, 0, 0), (11, .istore 5, 2, 0, 0, 0), (13, .iload 5, 2, 0, 0, 0), (15, .aload_n 1, 1, 0, 0, 0), (16, .getfield 53, 3, 9, 2, 0), (19, .if_icmp .ge 128, 3, 147, 0, 0), (22, .aload_n 2, 1, 0, 0, 0), (23, .iload 5, 2, 0, 0, 0), (25, .invokevirtual 56, 3, 47, 2, 6), (28, .ifCond .eq 22, 3, 50, 0, 0), (31, .aload_n 0, 1, 0, 0, 0), (32, .getfield 9, 3, 8, 0, 3), (35, .iload 5, 2, 0, 0, 0), (37, .iconst 0, 1, 0, 0, 0), (38, .iastore, 1, 0, 0, 0), (39, .aload_n 0, 1, 0, 0, 0), (40, .getfield 15, 3, 8, 1, 3), (43, .iload 5, 2, 0, 0, 0), (45, .iconst 0, 1, 0, 0, 0), (46, .iastore, 1, 0, 0, 0), (47, .goto 94, 3, 141, 0, 0), (50, .aload_n 2, 1, 0, 0, 0), (51, .iload 5, 2, 0, 0, 0), (53, .invokevirtual 60, 3, 45, 2, 6), (56, .ifCond .eq 7, 3, 63, 0, 0), (59, .iconst 3, 1, 0, 0, 0), (60, .goto 4, 3, 64, 0, 0), (63, .iconst 0, 1, 0, 0, 0), (64, .istore 6, 2, 0, 0, 0), (66, .iload_n 3, 1, 0, 0, 0), (67, .iload 5, 2, 0, 0, 0), (69, .ishr, 1, 0, 0, 0), (70, .iconst 1, 1, 0, 0, 0), (71, .iand, 1, 0, 0, 0), (72, .iconst 1, 1, 0, 0, 0), (73, .if_icmp .ne 7, 3, 80, 0, 0), (76, .iconst 2, 1, 0, 0, 0), (77, .goto 4, 3, 81, 0, 0), (80, .iconst 0, 1, 0, 0, 0), (81, .istore 7, 2, 0, 0, 0), (83, .aload_n 0, 1, 0, 0, 0), (84, .getfield 9, 3, 8, 0, 3), (87, .iload 5, 2, 0, 0, 0), (89, .aload_n 1, 1, 0, 0, 0), (90, .getfield 63, 3, 9, 4, 3), (93, .iload 5, 2, 0, 0, 0), (95, .iaload, 1, 0, 0, 0), (96, .aload_n 1, 1, 0, 0, 0), (97, .getfield 66, 3, 9, 5, 3), (100, .iload 5, 2, 0, 0, 0), (102, .iaload, 1, 0, 0, 0), (103, .invokestatic 69, 3, 100, 2, 1), (106, .iload 4, 2, 0, 0, 0), (108, .iadd, 1, 0, 0, 0), (109, .iload 6, 2, 0, 0, 0), (111, .iadd, 1, 0, 0, 0), (112, .iload 7, 2, 0, 0, 0), (114, .iadd, 1, 0, 0, 0), (115, .iastore, 1, 0, 0, 0), (116, .aload_n 0, 1, 0, 0, 0), (117, .getfield 15, 3, 8, 1, 3), (120, .iload 5, 2, 0, 0, 0), (122, .aload_n 0, 1, 0, 0, 0), (123, .getfield 9, 3, 8, 0, 3), (126, .iload 5, 2, 0, 0, 0), (128, .iaload, 1, 0, 0, 0), (129, .aload_n 1, 1, 0, 0, 0), (130, .getfield 66, 3, 9, 5, 3), (133, .iload 5, 2, 0, 0, 0), (135, .iaload, 1, 0, 0, 0), (136, .invokestatic 73, 3, 101, 1, 1), (139, .iadd, 1, 0, 0, 0), (140, .iastore, 1, 0, 0, 0), (141, .iinc 5 1, 3, 0, 0, 0), (144, .goto (-131), 3, 13, 0, 0), (147, .return_, 1, 0, 0, 0)]
def zr_X8_pour : List am_R := [(0, .aload_n 1, 1, 0, 0, 0), (1, .getfield 76, 3, 9, 0, 0), (4, .istore_n 3, 1, 0, 0, 0), (5, .aload_n 1, 1, 0, 0, 0), (6, .getfield 79, 3, 9, 1, 1), (9, .ifCond .eq 27, 3, 36, 0, 0), (12, .aload_n 1, 1, 0, 0, 0), (13, .getfield 53, 3, 9, 2, 0), (16, .ifCond .le 20, 3, 36, 0, 0), (19, .aload_n 0, 1, 0, 0, 0), (20, .getfield 15, 3, 8, 1, 3), (23, .aload_n 2, 1, 0, 0, 0), (24, .getfield 83, 3, 6, 0, 3), (27, .aload_n 1, 1, 0, 0, 0), (28, .getfield 53, 3, 9, 2, 0), (31, .iconst 1, 1, 0, 0, 0), (32, .isub, 1, 0, 0, 0), (33, .iaload, 1, 0, 0, 0), (34, .iaload, 1, 0, 0, 0), (35, .istore_n 3, 1, 0, 0, 0), (36, .iconst 0, 1, 0, 0, 0), (37, .istore 4, 2, 0, 0, 0), (39, .iload 4, 2, 0, 0, 0), (41, .aload_n 1, 1, 0, 0, 0), (42, .getfield 53, 3, 9, 2, 0), (45, .if_icmp .ge 47, 3, 92, 0, 0), (48, .aload_n 2, 1, 0, 0, 0), (49, .getfield 83, 3, 6, 0, 3), (52, .iload 4, 2, 0, 0, 0), (54, .iaload, 1, 0, 0, 0), (55, .istore 5, 2, 0, 0, 0), (57, .aload_n 0, 1, 0, 0, 0), (58, .iload 5, 2, 0, 0, 0), (60, .iload_n 3, 1, 0, 0, 0), (61, .aload_n 2, 1, 0, 0, 0), (62, .getfield 86, 3, 6, 1, 3), (65, .iload 5, 2, 0, 0, 0), (67, .iaload, 1, 0, 0, 0), (68, .aload_n 1, 1, 0, 0, 0), (69, .getfield 89, 3, 9, 6, 3), (72, .iload 5, 2, 0, 0, 0), (74, .iaload, 1, 0, 0, 0), (75, .invokevirtual 92, 3, 57, 5, 8), (78, .aload_n 0, 1, 0, 0, 0), (79, .getfield 15, 3, 8, 1, 3), (82, .iload 5, 2, 0, 0, 0), (84, .iaload, 1, 0, 0, 0), (85, .istore_n 3, 1, 0, 0, 0), (86, .iinc 4 1, 3, 0, 0, 0), (89, .goto (-50), 3, 39, 0, 0), (92, .return_, 1, 0, 0, 0)]
def zr_X8_serve : List am_R := [(0, .iload_n 2, 1, 0, 0, 0), (1, .iload_n 3, 1, 0, 0, 0), (2, .iadd, 1, 0, 0, 0), (3, .istore 5, 2, 0, 0, 0), (5, .aload_n 0, 1, 0, 0, 0), (6, .getfield 18, 3, 8, 2, 3), (9, .iload_n 1, 1, 0, 0, 0), (10, .iload_n 2, 1, 0, 0, 0), (11, .iastore, 1, 0, 0, 0), (12, .aload_n 0, 1, 0, 0, 0), (13, .getfield 21, 3, 8, 3, 3), (16, .iload_n 1, 1, 0, 0, 0), (17, .aload_n 0, 1, 0, 0, 0), (18, .getfield 9, 3, 8, 0, 3), (21, .iload_n 1, 1, 0, 0, 0), (22, .iaload, 1, 0, 0, 0), (23, .iload 5, 2, 0, 0, 0), (25, .invokestatic 96, 3, 167, 2, 0), (28, .iastore, 1, 0, 0, 0), (29, .aload_n 0, 1, 0, 0, 0), (30, .getfield 24, 3, 8, 4, 3), (33, .iload_n 1, 1, 0, 0, 0), (34, .aload_n 0, 1, 0, 0, 0), (35, .getfield 9, 3, 8, 0, 3), (38, .iload_n 1, 1, 0, 0, 0), (39, .iaload, 1, 0, 0, 0), (40, .aload_n 0, 1, 0, 0, 0), (41, .getfield 21, 3, 8, 3, 3), (44, .iload_n 1, 1, 0, 0, 0), (45, .iaload, 1, 0, 0, 0), (46, .isub, 1, 0, 0, 0), (47, .iastore, 1, 0, 0, 0), (48, .aload_n 0, 1, 0, 0, 0), (49, .getfield 27, 3, 8, 5, 3), (52, .iload_n 1, 1, 0, 0, 0), (53, .iload 5, 2, 0, 0, 0), (55, .aload_n 0, 1, 0, 0, 0), (56, .getfield 21, 3, 8, 3, 3), (59, .iload_n 1, 1, 0, 0, 0), (60, .iaload, 1, 0, 0, 0), (61, .isub, 1, 0, 0, 0), (62, .iload 4, 2, 0, 0, 0), (64, .invokestatic 96, 3, 167, 2, 0), (67, .iastore, 1, 0, 0, 0), (68, .aload_n 0, 1, 0, 0, 0), (69, .getfield 30, 3, 8, 6, 3), (72, .iload_n 1, 1, 0, 0, 0), (73, .iload 5, 2, 0, 0, 0), (75, .aload_n 0, 1, 0, 0, 0), (76, .getfield 21, 3, 8, 3, 3), (79, .iload_n 1, 1, 0, 0, 0), (80, .iaload, 1, 0, 0, 0), (81, .isub, 1, 0, 0, 0), (82, .aload_n 0, 1, 0, 0, 0), (83, .getfield 27, 3, 8, 5, 3), (86, .iload_n 1, 1, 0, 0, 0), (87, .iaload, 1, 0, 0, 0), (88, .isub, 1, 0, 0, 0), (89, .iastore, 1, 0, 0, 0), (90, .return_, 1, 0, 0, 0)]
def zr_X8_pass : List am_R := [(0, .aload_n 0, 1, 0, 0, 0), (1, .aload_n 1, 1, 0, 0, 0), (2, .aload_n 2, 1, 0, 0, 0), (3, .invokevirtual 101, 3, 54, 3, 8), (6, .iconst 0, 1, 0, 0, 0), (7, .istore_n 3, 1, 0, 0, 0), (8, .iload_n 3, 1, 0, 0, 0), (9, .aload_n 1, 1, 0, 0, 0), (10, .getfield 53, 3, 9, 2, 0), (13, .if_icmp .ge 36, 3, 49, 0, 0), (16, .aload_n 2, 1, 0, 0, 0), (17, .getfield 86, 3, 6, 1, 3), (20, .iload_n 3, 1, 0, 0, 0), (21, .aload_n 0, 1, 0, 0, 0), (22, .getfield 27, 3, 8, 5, 3), (25, .iload_n 3, 1, 0, 0, 0), (26, .iaload, 1, 0, 0, 0), (27, .iastore, 1, 0, 0, 0), (28, .aload_n 2, 1, 0, 0, 0), (29, .getfield 104, 3, 6, 2, 3), (32, .iload_n 3, 1, 0, 0, 0), (33, .dup2, 1, 0, 0, 0), (34, .iaload, 1, 0, 0, 0), (35, .aload_n 0, 1, 0, 0, 0), (36, .getfield 24, 3, 8, 4, 3), (39, .iload_n 3, 1, 0, 0, 0), (40, .iaload, 1, 0, 0, 0), (41, .iadd, 1, 0, 0, 0), (42, .iastore, 1, 0, 0, 0), (43, .iinc 3 1, 3, 0, 0, 0), (46, .goto (-38), 3, 8, 0, 0), (49, .aload_n 2, 1, 0, 0, 0), (50, .iconst 0, 1, 0, 0, 0), (51, .putfield 107, 3, 6, 3, 0), (54, .aload_n 2, 1, 0, 0, 0), (55, .dup, 1, 0, 0, 0), (56, .getfield 41, 3, 6, 5, 0), (59, .iconst 1, 1, 0, 0, 0), (60, .iadd, 1, 0, 0, 0), (61, .putfield 41, 3, 6, 5, 0), (64, .return_, 1, 0, 0, 0)]
def zr_X9_init : List am_R := [(0, .aload_n 0, 1, 0, 0, 0), (1, .invokespecial 3, 3, 1000, 0, 0), (4, .aload_n 0, 1, 0, 0, 0), (5, .bipush 6, 2, 0, 0, 0), (7, .newarray .int, 2, 0, 0, 0), (9, .putfield 9, 3, 9, 4, 3), (12, .aload_n 0, 1, 0, 0, 0), (13, .bipush 6, 2, 0, 0, 0), (15, .newarray .int, 2, 0, 0, 0), (17, .putfield 15, 3, 9, 5, 3), (20, .aload_n 0, 1, 0, 0, 0), (21, .bipush 6, 2, 0, 0, 0), (23, .newarray .int, 2, 0, 0, 0), (25, .putfield 18, 3, 9, 6, 3), (28, .aload_n 0, 1, 0, 0, 0), (29, .iconst 5, 1, 0, 0, 0), (30, .newarray .int, 2, 0, 0, 0), (32, .putfield 21, 3, 9, 7, 3), (35, .return_, 1, 0, 0, 0)]
def zr_X9_clear : List am_R := [(0, .aload_n 0, 1, 0, 0, 0), (1, .iconst 0, 1, 0, 0, 0), (2, .putfield 24, 3, 9, 0, 0), (5, .aload_n 0, 1, 0, 0, 0), (6, .iconst 0, 1, 0, 0, 0), (7, .putfield 28, 3, 9, 1, 1), (10, .aload_n 0, 1, 0, 0, 0), (11, .iconst 0, 1, 0, 0, 0), (12, .putfield 32, 3, 9, 2, 0), (15, .aload_n 0, 1, 0, 0, 0), (16, .iconst 0, 1, 0, 0, 0), (17, .putfield 35, 3, 9, 3, 0), (20, .return_, 1, 0, 0, 0)]
def zr_X9_copyFrom : List am_R := [(0, .aload_n 0, 1, 0, 0, 0), (1, .aload_n 1, 1, 0, 0, 0), (2, .getfield 24, 3, 9, 0, 0), (5, .putfield 24, 3, 9, 0, 0), (8, .aload_n 0, 1, 0, 0, 0), (9, .aload_n 1, 1, 0, 0, 0), (10, .getfield 28, 3, 9, 1, 1), (13, .putfield 28, 3, 9, 1, 1), (16, .aload_n 0, 1, 0, 0, 0), (17, .aload_n 1, 1, 0, 0, 0), (18, .getfield 32, 3, 9, 2, 0), (21, .putfield 32, 3, 9, 2, 0), (24, .aload_n 0, 1, 0, 0, 0), (25, .aload_n 1, 1, 0, 0, 0), (26, .getfield 35, 3, 9, 3, 0), (29, .putfield 35, 3, 9, 3, 0), (32, .aload_n 1, 1, 0, 0, 0), (33, .getfield 9, 3, 9, 4, 3), (36, .iconst 0, 1, 0, 0, 0), (37, .aload_n 0, 1, 0, 0, 0), (38, .getfield 9, 3, 9, 4, 3), (41, .iconst 0, 1, 0, 0, 0), (42, .bipush 6, 2, 0, 0, 0), (44, .invokestatic 38, 3, 1001, 0, 0), (47, .aload_n 1, 1, 0, 0, 0), (48, .getfield 15, 3, 9, 5, 3), (51, .iconst 0, 1, 0, 0, 0), (52, .aload_n 0, 1, 0, 0, 0), (53, .getfield 15, 3, 9, 5, 3), (56, .iconst 0, 1, 0, 0, 0), (57, .bipush 6, 2, 0, 0, 0), (59, .invokestatic 38, 3, 1001, 0, 0), (62, .aload_n 1, 1, 0, 0, 0), (63, .getfield 18, 3, 9, 6, 3), (66, .iconst 0, 1, 0, 0, 0), (67, .aload_n 0, 1, 0, 0, 0), (68, .getfield 18, 3, 9, 6, 3), (71, .iconst 0, 1, 0, 0, 0), (72, .bipush 6, 2, 0, 0, 0), (74, .invokestatic 38, 3, 1001, 0, 0), (77, .aload_n 1, 1, 0, 0, 0), (78, .getfield 21, 3, 9, 7, 3), (81, .iconst 0, 1, 0, 0, 0), (82, .aload_n 0, 1, 0, 0, 0), (83, .getfield 21, 3, 9, 7, 3), (86, .iconst 0, 1, 0, 0, 0), (87, .iconst 5, 1, 0, 0, 0), (88, .invokestatic 38, 3, 1001, 0, 0), (91, .return_, 1, 0, 0, 0)]
def zr_X9_heatOn : List am_R := [(0, .aload_n 0, 1, 0, 0, 0), (1, .getfield 35, 3, 9, 3, 0), (4, .ifCond .gt 7, 3, 11, 0, 0), (7, .iconst 0, 1, 0, 0, 0), (8, .goto 16, 3, 24, 0, 0), (11, .aload_n 0, 1, 0, 0, 0), (12, .getfield 21, 3, 9, 7, 3), (15, .iload_n 1, 1, 0, 0, 0), (16, .aload_n 0, 1, 0, 0, 0), (17, .getfield 35, 3, 9, 3, 0), (20, .invokestatic 44, 3, 164, 2, 0), (23, .iaload, 1, 0, 0, 0), (24, .ireturn, 1, 0, 0, 0)]
def zr_X10_init : List am_R := [(0, .aload_n 0, 1, 0, 0, 0), (1, .invokespecial 1, 3, 1000, 0, 0), (4, .aload_n 0, 1, 0, 0, 0), (5, .new 7, 3, 7, 0, 0), (8, .dup, 1, 0, 0, 0), (9, .invokespecial 9, 3, 50, 1, 0), (12, .putfield 10, 3, 10, 0, 3), (15, .aload_n 0, 1, 0, 0, 0), (16, .new 16, 3, 3, 0, 0), (19, .dup, 1, 0, 0, 0), (20, .invokespecial 18, 3, 24, 1, 0), (23, .putfield 19, 3, 10, 1, 3), (26, .aload_n 0, 1, 0, 0, 0), (27, .new 23, 3, 9, 0, 0), (30, .dup, 1, 0, 0, 0), (31, .invokespecial 25, 3, 59, 1, 0), (34, .putfield 26, 3, 10, 2, 3), (37, .aload_n 0, 1, 0, 0, 0), (38, .new 30, 3, 6, 0, 0), (41, .dup, 1, 0, 0, 0), (42, .invokespecial 32, 3, 39, 1, 0), (45, .putfield 33, 3, 10, 3, 3), (48, .aload_n 0, 1, 0, 0, 0), (49, .new 37, 3, 0, 0, 0), (52, .dup, 1, 0, 0, 0), (53, .invokespecial 39, 3, 0, 1, 0), (56, .putfield 40, 3, 10, 4, 3), (59, .aload_n 0, 1, 0, 0, 0), (60, .new 44, 3, 5, 0, 0), (63, .dup, 1, 0, 0, 0), (64, .invokespecial 46, 3, 35, 1, 0), (67, .putfield 47, 3, 10, 5, 3), (70, .aload_n 0, 1, 0, 0, 0), (71, .new 51, 3, 4, 0, 0), (74, .dup, 1, 0, 0, 0), (75, .invokespecial 53, 3, 30, 1, 0), (78, .putfield 54, 3, 10, 6, 3), (81, .aload_n 0, 1, 0, 0, 0), (82, .new 58, 3, 8, 0, 0), (85, .dup, 1, 0, 0, 0), (86, .invokespecial 60, 3, 53, 1, 0), (89, .putfield 61, 3, 10, 7, 3), (92, .aload_n 0, 1, 0, 0, 0), (93, .new 65, 3, 2, 0, 0), (96, .dup, 1, 0, 0, 0), (97, .invokespecial 67, 3, 12, 1, 0), (100, .putfield 68, 3, 10, 8, 3), (103, .aload_n 0, 1, 0, 0, 0), (104, .new 72, 3, 1, 0, 0), (107, .dup, 1, 0, 0, 0), (108, .invokespecial 74, 3, 4, 1, 0), (111, .putfield 75, 3, 10, 9, 3), (114, .aload_n 0, 1, 0, 0, 0), (115, .lconst 0, 1, 0, 0, 0), (116, .putfield 79, 3, 10, 10, 2), (119, .return_, 1, 0, 0, 0)]
def zr_X10_write : List am_R := [(0, .iload_n 1, 1, 0, 0, 0), (1, .iconst 0, 1, 0, 0, 0), (2, .sipush 255, 3, 0, 0, 0), (5, .invokestatic 83, 3, 95, 3, 0), (8, .ifCond .ne 6, 3, 14, 0, 0), (11, .bipush (-2), 2, 0, 0, 0), (13, .ireturn, 1, 0, 0, 0), (14, .aload_n 0, 1, 0, 0, 0), (15, .getfield 10, 3, 10, 0, 3), (18, .iload_n 1, 1, 0, 0, 0), (19, .invokevirtual 87, 3, 51, 2, 7), (22, .ireturn, 1, 0, 0, 0)]
def zr_X10_wipe : List am_R := [(0, .aload_n 0, 1, 0, 0, 0), (1, .getfield 10, 3, 10, 0, 3), (4, .invokevirtual 91, 3, 52, 1, 7), (7, .ireturn, 1, 0, 0, 0)]
def zr_X10_fault : List am_R := [(0, .aload_n 0, 1, 0, 0, 0), (1, .getfield 19, 3, 10, 1, 3), (4, .aload_n 0, 1, 0, 0, 0), (5, .getfield 10, 3, 10, 0, 3), (8, .invokevirtual 95, 3, 25, 2, 3), (11, .ireturn, 1, 0, 0, 0)]
def zr_X10_row : List am_R := [(0, .aload_n 0, 1, 0, 0, 0), (1, .getfield 19, 3, 10, 1, 3), (4, .aload_n 0, 1, 0, 0, 0), (5, .getfield 10, 3, 10, 0, 3), (8, .invokevirtual 95, 3, 25, 2, 3), (11, .bipush (-9), 2, 0, 0, 0), (13, .if_icmp .eq 6, 3, 19, 0, 0), (16, .bipush (-3), 2, 0, 0, 0), (18, .ireturn, 1, 0, 0, 0), (19, .aload_n 0, 1, 0, 0, 0), (20, .getfield 26, 3, 10, 2, 3), (23, .aload_n 0, 1, 0, 0, 0), (24, .getfield 19, 3, 10, 1, 3), (27, .getfield 99, 3, 3, 0, 3), (30, .invokevirtual 102, 3, 61, 2, 9), (33, .aload_n 0, 1, 0, 0, 0), (34, .getfield 33, 3, 10, 3, 3), (37, .invokevirtual 106, 3, 40, 1, 6), (40, .aload_n 0, 1, 0, 0, 0), (41, .getfield 40, 3, 10, 4, 3), (44, .invokevirtual 108, 3, 1, 1, 0), (47, .aload_n 0, 1, 0, 0, 0), (48, .getfield 47, 3, 10, 5, 3), (51, .invokevirtual 109, 3, 36, 1, 5), (54, .bipush 10, 2, 0, 0, 0), (56, .aload_n 0, 1, 0, 0, 0), (57, .getfield 26, 3, 10, 2, 3), (60, .getfield 110, 3, 9, 2, 0), (63, .imul, 1, 0, 0, 0), (64, .aload_n 0, 1, 0, 0, 0), (65, .getfield 26, 3, 10, 2, 3), (68, .getfield 114, 3, 9, 3, 0), (71, .iadd, 1, 0, 0, 0), (72, .ireturn, 1, 0, 0, 0)]
def zr_X10_house : List am_R := [(0, .aload_n 0, 1, 0, 0, 0), (1, .iload_n 1, 1, 0, 0, 0), (2, .invokevirtual 117, 3, 93, 2, 10), (5, .ifCond .ne 5, 3, 10, 0, 0), (8, .iconst (-1), 1, 0, 0, 0), (9, .ireturn, 1, 0, 0, 0), (10, .iload_n 2, 1, 0, 0, 0), (11, .tableswitch 138 0 7 #[45, 55, 65, 75, 85, 94, 104, 121], 45, 0, 0, 0), (56, .aload_n 0, 1, 0, 0, 0), (57, .getfield 26, 3, 10, 2, 3), (60, .getfield 121, 3, 9, 4, 3), (63, .iload_n 1, 1, 0, 0, 0), (64, .iaload, 1, 0, 0, 0), (65, .ireturn, 1, 0, 0, 0), (66, .aload_n 0, 1, 0, 0, 0), (67, .getfield 26, 3, 10, 2, 3), (70, .getfield 125, 3, 9, 5, 3), (73, .iload_n 1, 1, 0, 0, 0), (74, .iaload, 1, 0, 0, 0), (75, .ireturn, 1, 0, 0, 0), (76, .aload_n 0, 1, 0, 0, 0), (77, .getfield 26, 3, 10, 2, 3), (80, .getfield 128, 3, 9, 6, 3), (83, .iload_n 1, 1, 0, 0, 0), (84, .iaload, 1, 0, 0, 0), (85, .ireturn, 1, 0, 0, 0), (86, .aload_n 0, 1, 0, 0, 0), (87, .getfield 33, 3, 10, 3, 3), (90, .getfield 131, 3, 6, 1, 3), (93, .iload_n 1, 1, 0, 0, 0), (94, .iaload, 1, 0, 0, 0), (95, .ireturn, 1, 0, 0, 0), (96, .aload_n 0, 1, 0, 0, 0), (97, .getfield 33, 3, 10, 3, 3), (100, .iload_n 1, 1, 0, 0, 0), (101, .invokevirtual 134, 3, 43, 2, 6), (104, .ireturn, 1, 0, 0, 0), (105, .aload_n 0, 1, 0, 0, 0), (106, .getfield 33, 3, 10, 3, 3), (109, .getfield 137, 3, 6, 2, 3), (112, .iload_n 1, 1, 0, 0, 0), (113, .iaload, 1, 0, 0, 0), (114, .ireturn, 1, 0, 0, 0), (115, .aload_n 0, 1, 0, 0, 0), (116, .getfield 33, 3, 10, 3, 3), (119, .iload_n 1, 1, 0, 0, 0), (120, .invokevirtual 140, 3, 45, 2, 6), (123, .ifCond .eq 7, 3, 130, 0, 0), (126, .iconst 1, 1, 0, 0, 0), (127, .goto 4, 3, 131, 0, 0), (130, .iconst 0, 1, 0, 0, 0), (131, .ireturn, 1, 0, 0, 0), (132, .aload_n 0, 1, 0, 0, 0), (133, .getfield 33, 3, 10, 3, 3), (136, .iload_n 1, 1, 0, 0, 0), (137, .invokevirtual 143, 3, 47, 2, 6), (140, .ifCond .eq 7, 3, 147, 0, 0), (143, .iconst 1, 1, 0, 0, 0), (144, .goto 4, 3, 148, 0, 0), (147, .iconst 0, 1, 0, 0, 0), (148, .ireturn, 1, 0, 0, 0), (149, .bipush (-2), 2, 0, 0, 0), (151, .ireturn, 1, 0, 0, 0)]
def zr_X10_today : List am_R := [(0, .aload_n 0, 1, 0, 0, 0), (1, .iload_n 1, 1, 0, 0, 0), (2, .invokevirtual 117, 3, 93, 2, 10), (5, .ifCond .ne 5, 3, 10, 0, 0), (8, .iconst (-1), 1, 0, 0, 0), (9, .ireturn, 1, 0, 0, 0), (10, .aload_n 0, 1, 0, 0, 0), (11, .getfield 61, 3, 10, 7, 3), (14, .aload_n 0, 1, 0, 0, 0), (15, .getfield 26, 3, 10, 2, 3), (18, .aload_n 0, 1, 0, 0, 0), (19, .getfield 33, 3, 10, 3, 3), (22, .invokevirtual 146, 3, 54, 3, 8), (25, .iload_n 2, 1, 0, 0, 0), (26, .tableswitch 98 0 5 #[38, 48, 58, 68, 78, 88], 38, 0, 0, 0), (64, .aload_n 0, 1, 0, 0, 0), (65, .getfield 61, 3, 10, 7, 3), (68, .getfield 150, 3, 8, 0, 3), (71, .iload_n 1, 1, 0, 0, 0), (72, .iaload, 1, 0, 0, 0), (73, .ireturn, 1, 0, 0, 0), (74, .aload_n 0, 1, 0, 0, 0), (75, .getfield 61, 3, 10, 7, 3), (78, .getfield 153, 3, 8, 1, 3), (81, .iload_n 1, 1, 0, 0, 0), (82, .iaload, 1, 0, 0, 0), (83, .ireturn, 1, 0, 0, 0), (84, .aload_n 0, 1, 0, 0, 0), (85, .getfield 61, 3, 10, 7, 3), (88, .getfield 156, 3, 8, 2, 3), (91, .iload_n 1, 1, 0, 0, 0), (92, .iaload, 1, 0, 0, 0), (93, .ireturn, 1, 0, 0, 0), (94, .aload_n 0, 1, 0, 0, 0), (95, .getfield 61, 3, 10, 7, 3), (98, .getfield 159, 3, 8, 3, 3), (101, .iload_n 1, 1, 0, 0, 0), (102, .iaload, 1, 0, 0, 0), (103, .ireturn, 1, 0, 0, 0), (104, .aload_n 0, 1, 0, 0, 0), (105, .getfield 61, 3, 10, 7, 3), (108, .getfield 162, 3, 8, 4, 3), (111, .iload_n 1, 1, 0, 0, 0), (112, .iaload, 1, 0, 0, 0), (113, .ireturn, 1, 0, 0, 0), (114, .aload_n 0, 1, 0, 0, 0), (115, .getfield 61, 3, 10, 7, 3), (118, .getfield 165, 3, 8, 6, 3), (121, .iload_n 1, 1, 0, 0, 0), (122, .iaload, 1, 0, 0, 0), (123, .ireturn, 1, 0, 0, 0), (124, .bipush (-2), 2, 0, 0, 0), (126, .ireturn, 1, 0, 0, 0)]
def zr_X10_at : List am_R := [(0, .iload_n 1, 1, 0, 0, 0), (1, .iconst 0, 1, 0, 0, 0), (2, .aload_n 0, 1, 0, 0, 0), (3, .getfield 26, 3, 10, 2, 3), (6, .getfield 110, 3, 9, 2, 0), (9, .iconst 1, 1, 0, 0, 0), (10, .isub, 1, 0, 0, 0), (11, .invokestatic 83, 3, 95, 3, 0), (14, .ifCond .eq 15, 3, 29, 0, 0), (17, .aload_n 0, 1, 0, 0, 0), (18, .getfield 33, 3, 10, 3, 3), (21, .getfield 168, 3, 6, 0, 3), (24, .iload_n 1, 1, 0, 0, 0), (25, .iaload, 1, 0, 0, 0), (26, .goto 5, 3, 31, 0, 0), (29, .bipush (-9), 2, 0, 0, 0), (31, .ireturn, 1, 0, 0, 0)]
def zr_X10_day : List am_R := [(0, .aload_n 0, 1, 0, 0, 0), (1, .getfield 40, 3, 10, 4, 3), (4, .aload_n 0, 1, 0, 0, 0), (5, .getfield 33, 3, 10, 3, 3), (8, .invokevirtual 171, 3, 2, 2, 0), (11, .aload_n 0, 1, 0, 0, 0), (12, .getfield 61, 3, 10, 7, 3), (15, .aload_n 0, 1, 0, 0, 0), (16, .getfield 26, 3, 10, 2, 3), (19, .aload_n 0, 1, 0, 0, 0), (20, .getfield 33, 3, 10, 3, 3), (23, .invokevirtual 175, 3, 58, 3, 8), (26, .aload_n 0, 1, 0, 0, 0), (27, .getfield 61, 3, 10, 7, 3), (30, .getfield 162, 3, 8, 4, 3), (33, .aload_n 0, 1, 0, 0, 0), (34, .getfield 26, 3, 10, 2, 3), (37, .getfield 110, 3, 9, 2, 0), (40, .invokestatic 178, 3, 96, 2, 0), (43, .ireturn, 1, 0, 0, 0)]
def zr_X10_swap : List am_R := [(0, .aload_n 0, 1, 0, 0, 0), (1, .iload_n 1, 1, 0, 0, 0), (2, .invokevirtual 117, 3, 93, 2, 10), (5, .ifCond .eq 11, 3, 16, 0, 0), (8, .aload_n 0, 1, 0, 0, 0), (9, .iload_n 2, 1, 0, 0, 0), (10, .invokevirtual 117, 3, 93, 2, 10), (13, .ifCond .ne 5, 3, 18, 0, 0), (16, .iconst (-1), 1, 0, 0, 0), (17, .ireturn, 1, 0, 0, 0), (18, .iload_n 1, 1, 0, 0, 0), (19, .iload_n 2, 1, 0, 0, 0), (20, .if_icmp .ne 6, 3, 26, 0, 0), (23, .bipush (-2), 2, 0, 0, 0), (25, .ireturn, 1, 0, 0, 0), (26, .aload_n 0, 1, 0, 0, 0), (27, .getfield 40, 3, 10, 4, 3), (30, .aload_n 0, 1, 0, 0, 0), (31, .getfield 33, 3, 10, 3, 3), (34, .invokevirtual 171, 3, 2, 2, 0), (37, .aload_n 0, 1, 0, 0, 0), (38, .getfield 33, 3, 10, 3, 3), (41, .iload_n 1, 1, 0, 0, 0), (42, .iload_n 2, 1, 0, 0, 0), (43, .invokevirtual 182, 3, 44, 3, 6), (46, .aload_n 0, 1, 0, 0, 0), (47, .getfield 33, 3, 10, 3, 3), (50, .iload_n 1, 1, 0, 0, 0), (51, .invokevirtual 134, 3, 43, 2, 6), (54, .ireturn, 1, 0, 0, 0)]
def zr_X10_salt : List am_R := [(0, .aload_n 0, 1, 0, 0, 0), (1, .iload_n 1, 1, 0, 0, 0), (2, .invokevirtual 117, 3, 93, 2, 10), (5, .ifCond .ne 5, 3, 10, 0, 0), (8, .iconst (-1), 1, 0, 0, 0), (9, .ireturn, 1, 0, 0, 0), (10, .aload_n 0, 1, 0, 0, 0), (11, .getfield 33, 3, 10, 3, 3), (14, .iload_n 1, 1, 0, 0, 0), (15, .invokevirtual 140, 3, 45, 2, 6), (18, .ifCond .eq 6, 3, 24, 0, 0), (21, .bipush (-3), 2, 0, 0, 0), (23, .ireturn, 1, 0, 0, 0), (24, .aload_n 0, 1, 0, 0, 0), (25, .getfield 40, 3, 10, 4, 3), (28, .aload_n 0, 1, 0, 0, 0), (29, .getfield 33, 3, 10, 3, 3), (32, .invokevirtual 171, 3, 2, 2, 0), (35, .aload_n 0, 1, 0, 0, 0), (36, .getfield 33, 3, 10, 3, 3), (39, .iload_n 1, 1, 0, 0, 0), (40, .invokevirtual 186, 3, 46, 2, 6), (43, .aload_n 0, 1, 0, 0, 0), (44, .getfield 61, 3, 10, 7, 3), (47, .aload_n 0, 1, 0, 0, 0), (48, .getfield 26, 3, 10, 2, 3), (51, .aload_n 0, 1, 0, 0, 0), (52, .getfield 33, 3, 10, 3, 3), (55, .invokevirtual 146, 3, 54, 3, 8), (58, .aload_n 0, 1, 0, 0, 0), (59, .getfield 61, 3, 10, 7, 3), (62, .getfield 150, 3, 8, 0, 3), (65, .iload_n 1, 1, 0, 0, 0), (66, .iaload, 1, 0, 0, 0), (67, .ireturn, 1, 0, 0, 0)]
def zr_X10_away : List am_R := [(0, .aload_n 0, 1, 0, 0, 0), (1, .iload_n 1, 1, 0, 0, 0), (2, .invokevirtual 117, 3, 93, 2, 10), (5, .ifCond .ne 5, 3, 10, 0, 0), (8, .iconst (-1), 1, 0, 0, 0), (9, .ireturn, 1, 0, 0, 0), (10, .aload_n 0, 1, 0, 0, 0), (11, .getfield 40, 3, 10, 4, 3), (14, .aload_n 0, 1, 0, 0, 0), (15, .getfield 33, 3, 10, 3, 3), (18, .invokevirtual 171, 3, 2, 2, 0), (21, .aload_n 0, 1, 0, 0, 0), (22, .getfield 33, 3, 10, 3, 3), (25, .iload_n 1, 1, 0, 0, 0), (26, .invokevirtual 190, 3, 48, 2, 6), (29, .aload_n 0, 1, 0, 0, 0), (30, .getfield 33, 3, 10, 3, 3), (33, .iload_n 1, 1, 0, 0, 0), (34, .invokevirtual 143, 3, 47, 2, 6), (37, .ifCond .eq 7, 3, 44, 0, 0), (40, .iconst 1, 1, 0, 0, 0), (41, .goto 4, 3, 45, 0, 0), (44, .iconst 0, 1, 0, 0, 0), (45, .ireturn, 1, 0, 0, 0)]
def zr_X10_undo : List am_R := [(0, .aload_n 0, 1, 0, 0, 0), (1, .getfield 40, 3, 10, 4, 3), (4, .aload_n 0, 1, 0, 0, 0), (5, .getfield 33, 3, 10, 3, 3), (8, .invokevirtual 193, 3, 3, 2, 0), (11, .ifCond .eq 13, 3, 24, 0, 0), (14, .aload_n 0, 1, 0, 0, 0), (15, .getfield 40, 3, 10, 4, 3), (18, .getfield 197, 3, 0, 2, 0), (21, .goto 5, 3, 26, 0, 0), (24, .bipush (-3), 2, 0, 0, 0), (26, .ireturn, 1, 0, 0, 0)]
def zr_X10_ahead : List am_R := [(0, .iload_n 1, 1, 0, 0, 0), (1, .iconst 0, 1, 0, 0, 0), (2, .bipush 20, 2, 0, 0, 0), (4, .invokestatic 83, 3, 95, 3, 0), (7, .ifCond .eq 12, 3, 19, 0, 0), (10, .iload_n 2, 1, 0, 0, 0), (11, .iconst 0, 1, 0, 0, 0), (12, .iconst 1, 1, 0, 0, 0), (13, .invokestatic 83, 3, 95, 3, 0), (16, .ifCond .ne 6, 3, 22, 0, 0), (19, .bipush (-2), 2, 0, 0, 0), (21, .ireturn, 1, 0, 0, 0), (22, .aload_n 0, 1, 0, 0, 0), (23, .getfield 68, 3, 10, 8, 3), (26, .aload_n 0, 1, 0, 0, 0), (27, .getfield 26, 3, 10, 2, 3), (30, .aload_n 0, 1, 0, 0, 0), (31, .getfield 33, 3, 10, 3, 3), (34, .iload_n 1, 1, 0, 0, 0), (35, .iload_n 2, 1, 0, 0, 0), (36, .iconst 1, 1, 0, 0, 0), (37, .if_icmp .ne 7, 3, 44, 0, 0), (40, .iconst 1, 1, 0, 0, 0), (41, .goto 4, 3, 45, 0, 0), (44, .iconst 0, 1, 0, 0, 0), (45, .invokevirtual 200, 3, 13, 5, 2), (48, .ireturn, 1, 0, 0, 0)]
def zr_X10_order : List am_R := [(0, .aload_n 0, 1, 0, 0, 0), (1, .getfield 68, 3, 10, 8, 3), (4, .aload_n 0, 1, 0, 0, 0), (5, .getfield 26, 3, 10, 2, 3), (8, .aload_n 0, 1, 0, 0, 0), (9, .getfield 33, 3, 10, 3, 3), (12, .iconst 0, 1, 0, 0, 0), (13, .invokevirtual 204, 3, 14, 4, 2), (16, .iload_n 1, 1, 0, 0, 0), (17, .ifCond .eq 13, 3, 30, 0, 0), (20, .aload_n 0, 1, 0, 0, 0), (21, .getfield 68, 3, 10, 8, 3), (24, .getfield 208, 3, 2, 4, 0), (27, .goto 10, 3, 37, 0, 0), (30, .aload_n 0, 1, 0, 0, 0), (31, .getfield 68, 3, 10, 8, 3), (34, .getfield 211, 3, 2, 3, 0), (37, .ireturn, 1, 0, 0, 0)]
def zr_X10_worst : List am_R := [(0, .aload_n 0, 1, 0, 0, 0), (1, .getfield 68, 3, 10, 8, 3), (4, .aload_n 0, 1, 0, 0, 0), (5, .getfield 26, 3, 10, 2, 3), (8, .aload_n 0, 1, 0, 0, 0), (9, .getfield 33, 3, 10, 3, 3), (12, .iconst 1, 1, 0, 0, 0), (13, .invokevirtual 204, 3, 14, 4, 2), (16, .iload_n 1, 1, 0, 0, 0), (17, .ifCond .eq 13, 3, 30, 0, 0), (20, .aload_n 0, 1, 0, 0, 0), (21, .getfield 68, 3, 10, 8, 3), (24, .getfield 208, 3, 2, 4, 0), (27, .goto 10, 3, 37, 0, 0), (30, .aload_n 0, 1, 0, 0, 0), (31, .getfield 68, 3, 10, 8, 3), (34, .getfield 211, 3, 2, 3, 0), (37, .ireturn, 1, 0, 0, 0)]
def zr_X10_salts : List am_R := [(0, .aload_n 0, 1, 0, 0, 0), (1, .iload_n 1, 1, 0, 0, 0), (2, .invokevirtual 117, 3, 93, 2, 10), (5, .ifCond .eq 22, 3, 27, 0, 0), (8, .aload_n 0, 1, 0, 0, 0), (9, .getfield 68, 3, 10, 8, 3), (12, .aload_n 0, 1, 0, 0, 0), (13, .getfield 26, 3, 10, 2, 3), (16, .aload_n 0, 1, 0, 0, 0), (17, .getfield 33, 3, 10, 3, 3), (20, .iload_n 1, 1, 0, 0, 0), (21, .invokevirtual 214, 3, 18, 4, 2), (24, .goto 4, 3, 28, 0, 0), (27, .iconst (-1), 1, 0, 0, 0), (28, .ireturn, 1, 0, 0, 0)]
def zr_X10_cask : List am_R := [(0, .aload_n 0, 1, 0, 0, 0), (1, .iload_n 1, 1, 0, 0, 0), (2, .invokevirtual 117, 3, 93, 2, 10), (5, .ifCond .eq 22, 3, 27, 0, 0), (8, .aload_n 0, 1, 0, 0, 0), (9, .getfield 68, 3, 10, 8, 3), (12, .aload_n 0, 1, 0, 0, 0), (13, .getfield 26, 3, 10, 2, 3), (16, .aload_n 0, 1, 0, 0, 0), (17, .getfield 33, 3, 10, 3, 3), (20, .iload_n 1, 1, 0, 0, 0), (21, .invokevirtual 218, 3, 19, 4, 2), (24, .goto 4, 3, 28, 0, 0), (27, .iconst (-1), 1, 0, 0, 0), (28, .ireturn, 1, 0, 0, 0)]
def zr_X10_judge : List am_R := [(0, .iload_n 1, 1, 0, 0, 0), (1, .iconst 1, 1, 0, 0, 0), (2, .iconst 4, 1, 0, 0, 0), (3, .invokestatic 83, 3, 95, 3, 0), (6, .ifCond .eq 19, 3, 25, 0, 0), (9, .lload_n 2, 1, 0, 0, 0), (10, .lconst 0, 1, 0, 0, 0), (11, .lcmp, 1, 0, 0, 0), (12, .ifCond .lt 13, 3, 25, 0, 0), (15, .lload_n 2, 1, 0, 0, 0), (16, .iload_n 1, 1, 0, 0, 0), (17, .invokestatic 221, 3, 102, 2, 0), (20, .lconst 0, 1, 0, 0, 0), (21, .lcmp, 1, 0, 0, 0), (22, .ifCond .eq 6, 3, 28, 0, 0), (25, .bipush (-2), 2, 0, 0, 0), (27, .ireturn, 1, 0, 0, 0), (28, .aload_n 0, 1, 0, 0, 0), (29, .getfield 68, 3, 10, 8, 3), (32, .aload_n 0, 1, 0, 0, 0), (33, .getfield 26, 3, 10, 2, 3), (36, .aload_n 0, 1, 0, 0, 0), (37, .getfield 33, 3, 10, 3, 3), (40, .iload_n 1, 1, 0, 0, 0), (41, .lload_n 2, 1, 0, 0, 0), (42, .invokevirtual 225, 3, 20, 5, 2), (45, .ireturn, 1, 0, 0, 0)]
def zr_X10_see : List am_R := [(0, .aload_n 0, 1, 0, 0, 0), (1, .iload_n 1, 1, 0, 0, 0), (2, .invokevirtual 117, 3, 93, 2, 10), (5, .ifCond .ne 5, 3, 10, 0, 0), (8, .iconst (-1), 1, 0, 0, 0), (9, .ireturn, 1, 0, 0, 0), (10, .iload_n 2, 1, 0, 0, 0), (11, .iconst 0, 1, 0, 0, 0), (12, .iconst 3, 1, 0, 0, 0), (13, .invokestatic 83, 3, 95, 3, 0), (16, .ifCond .eq 13, 3, 29, 0, 0), (19, .iload_n 3, 1, 0, 0, 0), (20, .iconst 0, 1, 0, 0, 0), (21, .bipush 30, 2, 0, 0, 0), (23, .invokestatic 83, 3, 95, 3, 0), (26, .ifCond .ne 6, 3, 32, 0, 0), (29, .bipush (-2), 2, 0, 0, 0), (31, .ireturn, 1, 0, 0, 0), (32, .aload_n 0, 1, 0, 0, 0), (33, .getfield 54, 3, 10, 6, 3), (36, .iload_n 1, 1, 0, 0, 0), (37, .iload_n 2, 1, 0, 0, 0), (38, .iload_n 3, 1, 0, 0, 0), (39, .invokevirtual 229, 3, 31, 4, 4), (42, .ireturn, 1, 0, 0, 0)]
def zr_X10_unsee : List am_R := [(0, .aload_n 0, 1, 0, 0, 0), (1, .getfield 54, 3, 10, 6, 3), (4, .invokevirtual 233, 3, 32, 1, 4), (7, .ireturn, 1, 0, 0, 0)]
def zr_X10_wants : List am_R := [(0, .aload_n 0, 1, 0, 0, 0), (1, .iload_n 1, 1, 0, 0, 0), (2, .invokevirtual 117, 3, 93, 2, 10), (5, .ifCond .eq 23, 3, 28, 0, 0), (8, .aload_n 0, 1, 0, 0, 0), (9, .getfield 54, 3, 10, 6, 3), (12, .iload_n 1, 1, 0, 0, 0), (13, .aload_n 0, 1, 0, 0, 0), (14, .getfield 26, 3, 10, 2, 3), (17, .getfield 125, 3, 9, 5, 3), (20, .iload_n 1, 1, 0, 0, 0), (21, .iaload, 1, 0, 0, 0), (22, .invokevirtual 234, 3, 33, 3, 4), (25, .goto 4, 3, 29, 0, 0), (28, .iconst (-1), 1, 0, 0, 0), (29, .ireturn, 1, 0, 0, 0)]
def zr_X10_share : List am_R := [(0, .aload_n 0, 1, 0, 0, 0), (1, .iload_n 1, 1, 0, 0, 0), (2, .invokevirtual 117, 3, 93, 2, 10), (5, .ifCond .ne 5, 3, 10, 0, 0), (8, .iconst (-1), 1, 0, 0, 0), (9, .ireturn, 1, 0, 0, 0), (10, .aload_n 0, 1, 0, 0, 0), (11, .getfield 75, 3, 10, 9, 3), (14, .aload_n 0, 1, 0, 0, 0), (15, .getfield 26, 3, 10, 2, 3), (18, .aload_n 0, 1, 0, 0, 0), (19, .getfield 33, 3, 10, 3, 3), (22, .iload_n 1, 1, 0, 0, 0), (23, .invokevirtual 238, 3, 5, 4, 1), (26, .istore_n 3, 1, 0, 0, 0), (27, .iload_n 3, 1, 0, 0, 0), (28, .aload_n 0, 1, 0, 0, 0), (29, .getfield 26, 3, 10, 2, 3), (32, .getfield 110, 3, 9, 2, 0), (35, .invokestatic 241, 3, 98, 1, 0), (38, .iload_n 2, 1, 0, 0, 0), (39, .invokestatic 244, 3, 103, 3, 0), (42, .ireturn, 1, 0, 0, 0)]
def zr_X10_rests : List am_R := [(0, .aload_n 0, 1, 0, 0, 0), (1, .iload_n 1, 1, 0, 0, 0), (2, .invokevirtual 117, 3, 93, 2, 10), (5, .ifCond .eq 11, 3, 16, 0, 0), (8, .aload_n 0, 1, 0, 0, 0), (9, .iload_n 2, 1, 0, 0, 0), (10, .invokevirtual 117, 3, 93, 2, 10), (13, .ifCond .ne 5, 3, 18, 0, 0), (16, .iconst (-1), 1, 0, 0, 0), (17, .ireturn, 1, 0, 0, 0), (18, .iload_n 1, 1, 0, 0, 0), (19, .iload_n 2, 1, 0, 0, 0), (20, .if_icmp .eq 12, 3, 32, 0, 0), (23, .iload_n 3, 1, 0, 0, 0), (24, .iconst 0, 1, 0, 0, 0), (25, .iconst 1, 1, 0, 0, 0), (26, .invokestatic 83, 3, 95, 3, 0), (29, .ifCond .ne 6, 3, 35, 0, 0), (32, .bipush (-2), 2, 0, 0, 0), (34, .ireturn, 1, 0, 0, 0), (35, .aload_n 0, 1, 0, 0, 0), (36, .getfield 75, 3, 10, 9, 3), (39, .aload_n 0, 1, 0, 0, 0), (40, .getfield 26, 3, 10, 2, 3), (43, .aload_n 0, 1, 0, 0, 0), (44, .getfield 33, 3, 10, 3, 3), (47, .iload_n 1, 1, 0, 0, 0), (48, .iload_n 2, 1, 0, 0, 0), (49, .invokevirtual 248, 3, 7, 5, 1), (52, .iload_n 3, 1, 0, 0, 0), (53, .ifCond .ne 13, 3, 66, 0, 0), (56, .aload_n 0, 1, 0, 0, 0), (57, .getfield 75, 3, 10, 9, 3), (60, .getfield 252, 3, 1, 4, 0), (63, .goto 10, 3, 73, 0, 0), (66, .aload_n 0, 1, 0, 0, 0), (67, .getfield 75, 3, 10, 9, 3), (70, .getfield 255, 3, 1, 5, 0), (73, .ireturn, 1, 0, 0, 0)]
def zr_X10_guests : List am_R := [(0, .iload_n 1, 1, 0, 0, 0), (1, .iconst 0, 1, 0, 0, 0), (2, .bipush 60, 2, 0, 0, 0), (4, .invokestatic 83, 3, 95, 3, 0), (7, .ifCond .eq 13, 3, 20, 0, 0), (10, .iload_n 2, 1, 0, 0, 0), (11, .iconst 0, 1, 0, 0, 0), (12, .bipush 10, 2, 0, 0, 0), (14, .invokestatic 83, 3, 95, 3, 0), (17, .ifCond .ne 6, 3, 23, 0, 0), (20, .bipush (-2), 2, 0, 0, 0), (22, .ireturn, 1, 0, 0, 0), (23, .aload_n 0, 1, 0, 0, 0), (24, .getfield 75, 3, 10, 9, 3), (27, .aload_n 0, 1, 0, 0, 0), (28, .getfield 26, 3, 10, 2, 3), (31, .aload_n 0, 1, 0, 0, 0), (32, .getfield 33, 3, 10, 3, 3), (35, .iload_n 1, 1, 0, 0, 0), (36, .iload_n 2, 1, 0, 0, 0), (37, .invokevirtual 258, 3, 9, 5, 1), (40, .istore 4, 2, 0, 0, 0), (42, .iload 4, 2, 0, 0, 0), (44, .bipush 10, 2, 0, 0, 0), (46, .aload_n 0, 1, 0, 0, 0), (47, .getfield 33, 3, 10, 3, 3), (50, .aload_n 0, 1, 0, 0, 0), (51, .getfield 26, 3, 10, 2, 3), (54, .getfield 110, 3, 9, 2, 0), (57, .invokevirtual 262, 3, 49, 2, 6), (60, .invokestatic 265, 3, 99, 2, 0), (63, .iload_n 3, 1, 0, 0, 0), (64, .invokestatic 244, 3, 103, 3, 0), (67, .ireturn, 1, 0, 0, 0)]
def zr_X10_seed : List am_R := [(0, .aload_n 0, 1, 0, 0, 0), (1, .getfield 79, 3, 10, 10, 2), (4, .lstore_n 3, 1, 0, 0, 0), (5, .aload_n 0, 1, 0, 0, 0), (6, .lload_n 1, 1, 0, 0, 0), (7, .putfield 79, 3, 10, 10, 2), (10, .lload_n 3, 1, 0, 0, 0), (11, .lreturn, 1, 0, 0, 0)]
def zr_X10_weeks : List am_R := [(0, .iload_n 1, 1, 0, 0, 0), (1, .iconst 1, 1, 0, 0, 0), (2, .bipush 30, 2, 0, 0, 0), (4, .invokestatic 83, 3, 95, 3, 0), (7, .ifCond .ne 6, 3, 13, 0, 0), (10, .bipush (-2), 2, 0, 0, 0), (12, .ireturn, 1, 0, 0, 0), (13, .aload_n 0, 1, 0, 0, 0), (14, .getfield 75, 3, 10, 9, 3), (17, .aload_n 0, 1, 0, 0, 0), (18, .getfield 26, 3, 10, 2, 3), (21, .aload_n 0, 1, 0, 0, 0), (22, .getfield 33, 3, 10, 3, 3), (25, .iload_n 1, 1, 0, 0, 0), (26, .aload_n 0, 1, 0, 0, 0), (27, .getfield 79, 3, 10, 10, 2), (30, .invokevirtual 268, 3, 10, 5, 1), (33, .istore_n 2, 1, 0, 0, 0), (34, .aload_n 0, 1, 0, 0, 0), (35, .aload_n 0, 1, 0, 0, 0), (36, .getfield 75, 3, 10, 9, 3), (39, .getfield 271, 3, 1, 6, 2), (42, .putfield 79, 3, 10, 10, 2), (45, .iload_n 2, 1, 0, 0, 0), (46, .ireturn, 1, 0, 0, 0)]
def zr_X10_keep : List am_R := [(0, .iload_n 1, 1, 0, 0, 0), (1, .iconst 0, 1, 0, 0, 0), (2, .iconst 1, 1, 0, 0, 0), (3, .invokestatic 83, 3, 95, 3, 0), (6, .ifCond .ne 5, 3, 11, 0, 0), (9, .iconst (-1), 1, 0, 0, 0), (10, .ireturn, 1, 0, 0, 0), (11, .aload_n 0, 1, 0, 0, 0), (12, .getfield 47, 3, 10, 5, 3), (15, .iload_n 1, 1, 0, 0, 0), (16, .aload_n 0, 1, 0, 0, 0), (17, .getfield 33, 3, 10, 3, 3), (20, .invokevirtual 274, 3, 37, 3, 5), (23, .aload_n 0, 1, 0, 0, 0), (24, .getfield 33, 3, 10, 3, 3), (27, .getfield 278, 3, 6, 5, 0), (30, .ireturn, 1, 0, 0, 0)]
def zr_X10_again : List am_R := [(0, .iload_n 1, 1, 0, 0, 0), (1, .iconst 0, 1, 0, 0, 0), (2, .iconst 1, 1, 0, 0, 0), (3, .invokestatic 83, 3, 95, 3, 0), (6, .ifCond .ne 5, 3, 11, 0, 0), (9, .iconst (-1), 1, 0, 0, 0), (10, .ireturn, 1, 0, 0, 0), (11, .aload_n 0, 1, 0, 0, 0), (12, .getfield 47, 3, 10, 5, 3), (15, .iload_n 1, 1, 0, 0, 0), (16, .aload_n 0, 1, 0, 0, 0), (17, .getfield 33, 3, 10, 3, 3), (20, .invokevirtual 281, 3, 38, 3, 5), (23, .ifCond .ne 6, 3, 29, 0, 0), (26, .bipush (-3), 2, 0, 0, 0), (28, .ireturn, 1, 0, 0, 0), (29, .aload_n 0, 1, 0, 0, 0), (30, .getfield 40, 3, 10, 4, 3), (33, .invokevirtual 108, 3, 1, 1, 0), (36, .aload_n 0, 1, 0, 0, 0), (37, .getfield 33, 3, 10, 3, 3), (40, .getfield 278, 3, 6, 5, 0), (43, .ireturn, 1, 0, 0, 0)]
def zr_X10_count : List am_R := [(0, .iload_n 1, 1, 0, 0, 0), (1, .tableswitch 161 0 10 #[59, 67, 75, 83, 91, 106, 111, 129, 137, 145, 153], 59, 0, 0, 0), (60, .aload_n 0, 1, 0, 0, 0), (61, .getfield 10, 3, 10, 0, 3), (64, .getfield 285, 3, 7, 1, 0), (67, .ireturn, 1, 0, 0, 0), (68, .aload_n 0, 1, 0, 0, 0), (69, .getfield 26, 3, 10, 2, 3), (72, .getfield 110, 3, 9, 2, 0), (75, .ireturn, 1, 0, 0, 0), (76, .aload_n 0, 1, 0, 0, 0), (77, .getfield 26, 3, 10, 2, 3), (80, .getfield 114, 3, 9, 3, 0), (83, .ireturn, 1, 0, 0, 0), (84, .aload_n 0, 1, 0, 0, 0), (85, .getfield 33, 3, 10, 3, 3), (88, .getfield 278, 3, 6, 5, 0), (91, .ireturn, 1, 0, 0, 0), (92, .aload_n 0, 1, 0, 0, 0), (93, .getfield 26, 3, 10, 2, 3), (96, .aload_n 0, 1, 0, 0, 0), (97, .getfield 33, 3, 10, 3, 3), (100, .getfield 278, 3, 6, 5, 0), (103, .invokevirtual 288, 3, 62, 2, 9), (106, .ireturn, 1, 0, 0, 0), (107, .aload_n 0, 1, 0, 0, 0), (108, .invokevirtual 291, 3, 94, 1, 10), (111, .ireturn, 1, 0, 0, 0), (112, .aload_n 0, 1, 0, 0, 0), (113, .getfield 33, 3, 10, 3, 3), (116, .getfield 137, 3, 6, 2, 3), (119, .aload_n 0, 1, 0, 0, 0), (120, .getfield 26, 3, 10, 2, 3), (123, .getfield 110, 3, 9, 2, 0), (126, .invokestatic 178, 3, 96, 2, 0), (129, .ireturn, 1, 0, 0, 0), (130, .aload_n 0, 1, 0, 0, 0), (131, .getfield 33, 3, 10, 3, 3), (134, .getfield 294, 3, 6, 3, 0), (137, .ireturn, 1, 0, 0, 0), (138, .aload_n 0, 1, 0, 0, 0), (139, .getfield 33, 3, 10, 3, 3), (142, .getfield 297, 3, 6, 4, 0), (145, .ireturn, 1, 0, 0, 0), (146, .aload_n 0, 1, 0, 0, 0), (147, .getfield 40, 3, 10, 4, 3), (150, .getfield 197, 3, 0, 2, 0), (153, .ireturn, 1, 0, 0, 0), (154, .aload_n 0, 1, 0, 0, 0), (155, .getfield 54, 3, 10, 6, 3), (158, .getfield 300, 3, 4, 3, 0), (161, .ireturn, 1, 0, 0, 0), (162, .bipush (-2), 2, 0, 0, 0), (164, .ireturn, 1, 0, 0, 0)]
def zr_X10_isHouse : List am_R := [(0, .iload_n 1, 1, 0, 0, 0), (1, .iconst 0, 1, 0, 0, 0), (2, .aload_n 0, 1, 0, 0, 0), (3, .getfield 26, 3, 10, 2, 3), (6, .getfield 110, 3, 9, 2, 0), (9, .iconst 1, 1, 0, 0, 0), (10, .isub, 1, 0, 0, 0), (11, .invokestatic 83, 3, 95, 3, 0), (14, .ireturn, 1, 1, 0, 0)]
def zr_X10_lackingToday : List am_R := [(0, .aload_n 0, 1, 0, 0, 0), (1, .getfield 61, 3, 10, 7, 3), (4, .aload_n 0, 1, 0, 0, 0), (5, .getfield 26, 3, 10, 2, 3), (8, .aload_n 0, 1, 0, 0, 0), (9, .getfield 33, 3, 10, 3, 3), (12, .invokevirtual 146, 3, 54, 3, 8), (15, .aload_n 0, 1, 0, 0, 0), (16, .getfield 61, 3, 10, 7, 3), (19, .getfield 162, 3, 8, 4, 3), (22, .aload_n 0, 1, 0, 0, 0), (23, .getfield 26, 3, 10, 2, 3), (26, .getfield 110, 3, 9, 2, 0), (29, .invokestatic 178, 3, 96, 2, 0), (32, .ireturn, 1, 0, 0, 0)]
def zr_X10_within : List am_R := [(0, .iload_n 0, 1, 0, 0, 0), (1, .iload_n 1, 1, 0, 0, 0), (2, .if_icmp .lt 12, 3, 14, 0, 0), (5, .iload_n 0, 1, 0, 0, 0), (6, .iload_n 2, 1, 0, 0, 0), (7, .if_icmp .gt 7, 3, 14, 0, 0), (10, .iconst 1, 1, 0, 0, 0), (11, .goto 4, 3, 15, 0, 0), (14, .iconst 0, 1, 0, 0, 0), (15, .ireturn, 1, 1, 0, 0)]
def zr_X10_sum : List am_R := [(0, .iconst 0, 1, 0, 0, 0), (1, .istore_n 2, 1, 0, 0, 0), (2, .iconst 0, 1, 0, 0, 0), (3, .istore_n 3, 1, 0, 0, 0), (4, .iload_n 3, 1, 0, 0, 0), (5, .iload_n 1, 1, 0, 0, 0), (6, .if_icmp .ge 21, 3, 27, 0, 0), (9, .iload_n 3, 1, 0, 0, 0), (10, .aload_n 0, 1, 0, 0, 0), (11, .arraylength, 1, 0, 0, 0), (12, .if_icmp .ge 15, 3, 27, 0, 0), (15, .iload_n 2, 1, 0, 0, 0), (16, .aload_n 0, 1, 0, 0, 0), (17, .iload_n 3, 1, 0, 0, 0), (18, .iaload, 1, 0, 0, 0), (19, .iadd, 1, 0, 0, 0), (20, .istore_n 2, 1, 0, 0, 0), (21, .iinc 3 1, 3, 0, 0, 0), (24, .goto (-20), 3, 4, 0, 0), (27, .iload_n 2, 1, 0, 0, 0), (28, .ireturn, 1, 0, 0, 0)]
def zr_X10_greatest : List am_R := [(0, .iconst 0, 1, 0, 0, 0), (1, .istore_n 2, 1, 0, 0, 0), (2, .iconst 0, 1, 0, 0, 0), (3, .istore_n 3, 1, 0, 0, 0), (4, .iload_n 3, 1, 0, 0, 0), (5, .iload_n 1, 1, 0, 0, 0), (6, .if_icmp .ge 23, 3, 29, 0, 0), (9, .iload_n 3, 1, 0, 0, 0), (10, .aload_n 0, 1, 0, 0, 0), (11, .arraylength, 1, 0, 0, 0), (12, .if_icmp .ge 17, 3, 29, 0, 0), (15, .iload_n 2, 1, 0, 0, 0), (16, .aload_n 0, 1, 0, 0, 0), (17, .iload_n 3, 1, 0, 0, 0), (18, .iaload, 1, 0, 0, 0), (19, .invokestatic 301, 3, 166, 2, 0), (22, .istore_n 2, 1, 0, 0, 0), (23, .iinc 3 1, 3, 0, 0, 0), (26, .goto (-22), 3, 4, 0, 0), (29, .iload_n 2, 1, 0, 0, 0), (30, .ireturn, 1, 0, 0, 0)]
def zr_X10_ordersOf : List am_R := [(0, .iload_n 0, 1, 0, 0, 0), (1, .iconst 0, 1, 0, 0, 0), (2, .getstatic 306, 3, 0, 0, 0), (5, .arraylength, 1, 0, 0, 0), (6, .iconst 1, 1, 0, 0, 0), (7, .isub, 1, 0, 0, 0), (8, .invokestatic 83, 3, 95, 3, 0), (11, .ifCond .eq 11, 3, 22, 0, 0), (14, .getstatic 306, 3, 0, 0, 0), (17, .iload_n 0, 1, 0, 0, 0), (18, .iaload, 1, 0, 0, 0), (19, .goto 4, 3, 23, 0, 0), (22, .iconst 1, 1, 0, 0, 0), (23, .ireturn, 1, 0, 0, 0)]
def zr_X10_power : List am_R := [(0, .iconst 1, 1, 0, 0, 0), (1, .istore_n 2, 1, 0, 0, 0), (2, .iconst 0, 1, 0, 0, 0), (3, .istore_n 3, 1, 0, 0, 0), (4, .iload_n 3, 1, 0, 0, 0), (5, .iload_n 1, 1, 0, 0, 0), (6, .if_icmp .ge 13, 3, 19, 0, 0), (9, .iload_n 2, 1, 0, 0, 0), (10, .iload_n 0, 1, 0, 0, 0), (11, .imul, 1, 0, 0, 0), (12, .istore_n 2, 1, 0, 0, 0), (13, .iinc 3 1, 3, 0, 0, 0), (16, .goto (-12), 3, 4, 0, 0), (19, .iload_n 2, 1, 0, 0, 0), (20, .ireturn, 1, 0, 0, 0)]
def zr_X10_wantByKind : List am_R := [(0, .iload_n 1, 1, 0, 0, 0), (1, .lookupswitch 35 #[(1, 27), (2, 31)], 27, 0, 0, 0), (28, .iload_n 0, 1, 0, 0, 0), (29, .iconst 3, 1, 0, 0, 0), (30, .iadd, 1, 0, 0, 0), (31, .ireturn, 1, 0, 0, 0), (32, .iconst 2, 1, 0, 0, 0), (33, .iload_n 0, 1, 0, 0, 0), (34, .imul, 1, 0, 0, 0), (35, .ireturn, 1, 0, 0, 0), (36, .iload_n 0, 1, 0, 0, 0), (37, .ireturn, 1, 0, 0, 0)]
def zr_X10_lieOf : List am_R := [(0, .iload_n 0, 1, 0, 0, 0), (1, .iconst 3, 1, 0, 0, 0), (2, .if_icmp .ne 7, 3, 9, 0, 0), (5, .iconst 2, 1, 0, 0, 0), (6, .goto 4, 3, 10, 0, 0), (9, .iconst 0, 1, 0, 0, 0), (10, .ireturn, 1, 0, 0, 0)]
def zr_X10_withoutDoings : List am_R := [(0, .lload_n 0, 1, 0, 0, 0), (1, .lstore_n 3, 1, 0, 0, 0), (2, .iconst 0, 1, 0, 0, 0), (3, .istore 5, 2, 0, 0, 0), (5, .iload 5, 2, 0, 0, 0), (7, .iload_n 2, 1, 0, 0, 0), (8, .if_icmp .ge 15, 3, 23, 0, 0), (11, .lload_n 3, 1, 0, 0, 0), (12, .ldc2_w 309, 3, 0, 0, 1000), (15, .ldiv, 1, 0, 0, 0), (16, .lstore_n 3, 1, 0, 0, 0), (17, .iinc 5 1, 3, 0, 0, 0), (20, .goto (-15), 3, 5, 0, 0), (23, .lload_n 3, 1, 0, 0, 0), (24, .lreturn, 1, 0, 0, 0)]
def zr_X10_inLeastTerms : List am_R := [(0, .iconst 1, 1, 0, 0, 0), (1, .iload_n 0, 1, 0, 0, 0), (2, .invokestatic 311, 3, 165, 1, 0), (5, .iload_n 1, 1, 0, 0, 0), (6, .invokestatic 314, 3, 104, 2, 0), (9, .invokestatic 301, 3, 166, 2, 0), (12, .istore_n 3, 1, 0, 0, 0), (13, .iload_n 2, 1, 0, 0, 0), (14, .ifCond .eq 7, 3, 21, 0, 0), (17, .iload_n 0, 1, 0, 0, 0), (18, .goto 4, 3, 22, 0, 0), (21, .iload_n 1, 1, 0, 0, 0), (22, .iload_n 3, 1, 0, 0, 0), (23, .idiv, 1, 0, 0, 0), (24, .ireturn, 1, 0, 0, 0)]
def zr_X10_commonDivisor : List am_R := [(0, .iload_n 0, 1, 0, 0, 0), (1, .istore_n 2, 1, 0, 0, 0), (2, .iload_n 1, 1, 0, 0, 0), (3, .istore_n 3, 1, 0, 0, 0), (4, .iconst 0, 1, 0, 0, 0), (5, .istore 4, 2, 0, 0, 0), (7, .iload 4, 2, 0, 0, 0), (9, .bipush 64, 2, 0, 0, 0), (11, .if_icmp .ge 23, 3, 34, 0, 0), (14, .iload_n 3, 1, 0, 0, 0), (15, .ifCond .eq 19, 3, 34, 0, 0), (18, .iload_n 2, 1, 0, 0, 0), (19, .iload_n 3, 1, 0, 0, 0), (20, .irem, 1, 0, 0, 0), (21, .istore 5, 2, 0, 0, 0), (23, .iload_n 3, 1, 0, 0, 0), (24, .istore_n 2, 1, 0, 0, 0), (25, .iload 5, 2, 0, 0, 0), (27, .istore_n 3, 1, 0, 0, 0), (28, .iinc 4 1, 3, 0, 0, 0), (31, .goto (-24), 3, 7, 0, 0), (34, .iload_n 2, 1, 0, 0, 0), (35, .ireturn, 1, 0, 0, 0)]
def zr_X11_init : List am_R := [(0, .aload_n 0, 1, 0, 0, 0), (1, .invokespecial 1, 3, 1000, 0, 0), (4, .aload_n 0, 1, 0, 0, 0), (5, .bipush 6, 2, 0, 0, 0), (7, .newarray .int, 2, 0, 0, 0), (9, .putfield 7, 3, 11, 4, 3), (12, .aload_n 0, 1, 0, 0, 0), (13, .bipush 6, 2, 0, 0, 0), (15, .newarray .int, 2, 0, 0, 0), (17, .putfield 13, 3, 11, 5, 3), (20, .aload_n 0, 1, 0, 0, 0), (21, .bipush 6, 2, 0, 0, 0), (23, .newarray .int, 2, 0, 0, 0), (25, .putfield 16, 3, 11, 6, 3), (28, .aload_n 0, 1, 0, 0, 0), (29, .iconst 5, 1, 0, 0, 0), (30, .newarray .int, 2, 0, 0, 0), (32, .putfield 19, 3, 11, 7, 3), (35, .aload_n 0, 1, 0, 0, 0), (36, .bipush 42, 2, 0, 0, 0), (38, .newarray .int, 2, 0, 0, 0), (40, .putfield 22, 3, 11, 8, 3), (43, .aload_n 0, 1, 0, 0, 0), (44, .bipush 18, 2, 0, 0, 0), (46, .newarray .int, 2, 0, 0, 0), (48, .putfield 25, 3, 11, 9, 3), (51, .aload_n 0, 1, 0, 0, 0), (52, .iconst 5, 1, 0, 0, 0), (53, .newarray .int, 2, 0, 0, 0), (55, .putfield 28, 3, 11, 10, 3), (58, .aload_n 0, 1, 0, 0, 0), (59, .bipush 40, 2, 0, 0, 0), (61, .newarray .int, 2, 0, 0, 0), (63, .putfield 31, 3, 11, 13, 3), (66, .aload_n 0, 1, 0, 0, 0), (67, .bipush 36, 2, 0, 0, 0), (69, .newarray .int, 2, 0, 0, 0), (71, .putfield 34, 3, 11, 17, 3), (74, .aload_n 0, 1, 0, 0, 0), (75, .sipush 294, 3, 0, 0, 0), (78, .newarray .int, 2, 0, 0, 0), (80, .putfield 37, 3, 11, 21, 3), (83, .aload_n 0, 1, 0, 0, 0), (84, .bipush 6, 2, 0, 0, 0), (86, .newarray .int, 2, 0, 0, 0), (88, .putfield 40, 3, 11, 22, 3), (91, .aload_n 0, 1, 0, 0, 0), (92, .bipush 6, 2, 0, 0, 0), (94, .newarray .int, 2, 0, 0, 0), (96, .putfield 43, 3, 11, 24, 3), (99, .aload_n 0, 1, 0, 0, 0), (100, .bipush 6, 2, 0, 0, 0), (102, .newarray .int, 2, 0, 0, 0), (104, .putfield 46, 3, 11, 25, 3), (107, .aload_n 0, 1, 0, 0, 0), (108, .bipush 6, 2, 0, 0, 0), (110, .newarray .int, 2, 0, 0, 0), (112, .putfield 49, 3, 11, 26, 3), (115, .aload_n 0, 1, 0, 0, 0), (116, .iconst 2, 1, 0, 0, 0), (117, .newarray .boolean, 2, 0, 0, 0), (119, .putfield 52, 3, 11, 28, 3), (122, .aload_n 0, 1, 0, 0, 0), (123, .bipush 42, 2, 0, 0, 0), (125, .newarray .int, 2, 0, 0, 0), (127, .putfield 56, 3, 11, 29, 3), (130, .return_, 1, 0, 0, 0)]
def zr_X11_in : List am_R := [(0, .lload_n 0, 1, 0, 0, 0), (1, .lload_n 2, 1, 0, 0, 0), (2, .lcmp, 1, 0, 0, 0), (3, .ifCond .lt 14, 3, 17, 0, 0), (6, .lload_n 0, 1, 0, 0, 0), (7, .lload 4, 2, 0, 0, 0), (9, .lcmp, 1, 0, 0, 0), (10, .ifCond .gt 7, 3, 17, 0, 0), (13, .iconst 1, 1, 0, 0, 0), (14, .goto 4, 3, 18, 0, 0), (17, .iconst 0, 1, 0, 0, 0), (18, .ireturn, 1, 1, 0, 0)]
def zr_X11_has : List am_R := [(0, .iload_n 0, 1, 0, 0, 0), (1, .iload_n 1, 1, 0, 0, 0), (2, .ishr, 1, 0, 0, 0), (3, .iconst 1, 1, 0, 0, 0), (4, .iand, 1, 0, 0, 0), (5, .iconst 1, 1, 0, 0, 0), (6, .if_icmp .ne 7, 3, 13, 0, 0), (9, .iconst 1, 1, 0, 0, 0), (10, .goto 4, 3, 14, 0, 0), (13, .iconst 0, 1, 0, 0, 0), (14, .ireturn, 1, 1, 0, 0)]
def zr_X11_ones : List am_R := [(0, .iconst 0, 1, 0, 0, 0), (1, .istore_n 1, 1, 0, 0, 0), (2, .iconst 0, 1, 0, 0, 0), (3, .istore_n 2, 1, 0, 0, 0), (4, .iload_n 2, 1, 0, 0, 0), (5, .bipush 6, 2, 0, 0, 0), (7, .if_icmp .ge 17, 3, 24, 0, 0), (10, .iload_n 1, 1, 0, 0, 0), (11, .iload_n 0, 1, 0, 0, 0), (12, .iload_n 2, 1, 0, 0, 0), (13, .ishr, 1, 0, 0, 0), (14, .iconst 1, 1, 0, 0, 0), (15, .iand, 1, 0, 0, 0), (16, .iadd, 1, 0, 0, 0), (17, .istore_n 1, 1, 0, 0, 0), (18, .iinc 2 1, 3, 0, 0, 0), (21, .goto (-17), 3, 4, 0, 0), (24, .iload_n 1, 1, 0, 0, 0), (25, .ireturn, 1, 0, 0, 0)]
def zr_X11_write : List am_R := [(0, .iload_n 1, 1, 0, 0, 0), (1, .i2l, 1, 0, 0, 0), (2, .lconst 0, 1, 0, 0, 0), (3, .ldc2_w 59, 3, 0, 0, 255), (6, .invokestatic 61, 3, 106, 3, 0), (9, .ifCond .ne 6, 3, 15, 0, 0), (12, .bipush (-2), 2, 0, 0, 0), (14, .ireturn, 1, 0, 0, 0), (15, .aload_n 0, 1, 0, 0, 0), (16, .getfield 65, 3, 11, 14, 0), (19, .bipush 40, 2, 0, 0, 0), (21, .if_icmp .ne 6, 3, 27, 0, 0), (24, .bipush (-4), 2, 0, 0, 0), (26, .ireturn, 1, 0, 0, 0), (27, .aload_n 0, 1, 0, 0, 0), (28, .getfield 31, 3, 11, 13, 3), (31, .aload_n 0, 1, 0, 0, 0), (32, .getfield 65, 3, 11, 14, 0), (35, .iload_n 1, 1, 0, 0, 0), (36, .iastore, 1, 0, 0, 0), (37, .aload_n 0, 1, 0, 0, 0), (38, .dup, 1, 0, 0, 0), (39, .getfield 65, 3, 11, 14, 0), (42, .iconst 1, 1, 0, 0, 0), (43, .iadd, 1, 0, 0, 0), (44, .putfield 65, 3, 11, 14, 0), (47, .aload_n 0, 1, 0, 0, 0), (48, .getfield 65, 3, 11, 14, 0), (51, .ireturn, 1, 0, 0, 0)]
def zr_X11_wipe : List am_R := [(0, .aload_n 0, 1, 0, 0, 0), (1, .getfield 65, 3, 11, 14, 0), (4, .istore_n 1, 1, 0, 0, 0), (5, .aload_n 0, 1, 0, 0, 0), (6, .iconst 0, 1, 0, 0, 0), (7, .putfield 65, 3, 11, 14, 0), (10, .iload_n 1, 1, 0, 0, 0), (11, .ireturn, 1, 0, 0, 0)]
def zr_X11_figure : List am_R := [(0, .aload_n 0, 1, 0, 0, 0), (1, .getfield 69, 3, 11, 16, 0), (4, .bipush (-9), 2, 0, 0, 0), (6, .if_icmp .ne 18, 3, 24, 0, 0), (9, .aload_n 0, 1, 0, 0, 0), (10, .getfield 72, 3, 11, 15, 0), (13, .aload_n 0, 1, 0, 0, 0), (14, .getfield 65, 3, 11, 14, 0), (17, .if_icmp .ge 7, 3, 24, 0, 0), (20, .iconst 1, 1, 0, 0, 0), (21, .goto 4, 3, 25, 0, 0), (24, .iconst 0, 1, 0, 0, 0), (25, .istore_n 2, 1, 0, 0, 0), (26, .iload_n 2, 1, 0, 0, 0), (27, .ifCond .eq 18, 3, 45, 0, 0), (30, .aload_n 0, 1, 0, 0, 0), (31, .getfield 31, 3, 11, 13, 3), (34, .aload_n 0, 1, 0, 0, 0), (35, .getfield 72, 3, 11, 15, 0), (38, .iaload, 1, 0, 0, 0), (39, .bipush 48, 2, 0, 0, 0), (41, .isub, 1, 0, 0, 0), (42, .goto 4, 3, 46, 0, 0), (45, .iconst 0, 1, 0, 0, 0), (46, .istore_n 3, 1, 0, 0, 0), (47, .iload_n 2, 1, 0, 0, 0), (48, .ifCond .eq 14, 3, 62, 0, 0), (51, .iload_n 3, 1, 0, 0, 0), (52, .i2l, 1, 0, 0, 0), (53, .lconst 0, 1, 0, 0, 0), (54, .iload_n 1, 1, 0, 0, 0), (55, .i2l, 1, 0, 0, 0), (56, .invokestatic 61, 3, 106, 3, 0), (59, .ifCond .ne 29, 3, 88, 0, 0), (62, .aload_n 0, 1, 0, 0, 0), (63, .aload_n 0, 1, 0, 0, 0), (64, .getfield 69, 3, 11, 16, 0), (67, .bipush (-9), 2, 0, 0, 0), (69, .if_icmp .ne 10, 3, 79, 0, 0), (72, .aload_n 0, 1, 0, 0, 0), (73, .getfield 72, 3, 11, 15, 0), (76, .goto 7, 3, 83, 0, 0), (79, .aload_n 0, 1, 0, 0, 0), (80, .getfield 69, 3, 11, 16, 0), (83, .putfield 69, 3, 11, 16, 0), (86, .iconst 0, 1, 0, 0, 0), (87, .ireturn, 1, 0, 0, 0), (88, .aload_n 0, 1, 0, 0, 0), (89, .dup, 1, 0, 0, 0), (90, .getfield 72, 3, 11, 15, 0), (93, .iconst 1, 1, 0, 0, 0), (94, .iadd, 1, 0, 0, 0), (95, .putfield 72, 3, 11, 15, 0), (98, .iload_n 3, 1, 0, 0, 0), (99, .ireturn, 1, 0, 0, 0)]
def zr_X11_readText : List am_R := [(0, .aload_n 0, 1, 0, 0, 0), (1, .iconst 0, 1, 0, 0, 0), (2, .putfield 72, 3, 11, 15, 0), (5, .aload_n 0, 1, 0, 0, 0), (6, .bipush (-9), 2, 0, 0, 0), (8, .putfield 69, 3, 11, 16, 0), (11, .aload_n 0, 1, 0, 0, 0), (12, .iconst 0, 1, 0, 0, 0), (13, .putfield 75, 3, 11, 11, 0), (16, .aload_n 0, 1, 0, 0, 0), (17, .iconst 0, 1, 0, 0, 0), (18, .putfield 78, 3, 11, 12, 0), (21, .aload_n 0, 1, 0, 0, 0), (22, .getfield 65, 3, 11, 14, 0), (25, .ifCond .eq 14, 3, 39, 0, 0), (28, .aload_n 0, 1, 0, 0, 0), (29, .getfield 31, 3, 11, 13, 3), (32, .iconst 0, 1, 0, 0, 0), (33, .iaload, 1, 0, 0, 0), (34, .bipush 84, 2, 0, 0, 0), (36, .if_icmp .eq 5, 3, 41, 0, 0), (39, .iconst 0, 1, 0, 0, 0), (40, .ireturn, 1, 0, 0, 0), (41, .aload_n 0, 1, 0, 0, 0), (42, .iconst 1, 1, 0, 0, 0), (43, .putfield 72, 3, 11, 15, 0), (46, .aload_n 0, 1, 0, 0, 0), (47, .bipush 9, 2, 0, 0, 0), (49, .invokevirtual 81, 3, 111, 2, 11), (52, .pop, 1, 0, 0, 0), (53, .aload_n 0, 1, 0, 0, 0), (54, .iconst 1, 1, 0, 0, 0), (55, .invokevirtual 81, 3, 111, 2, 11), (58, .pop, 1, 0, 0, 0), (59, .aload_n 0, 1, 0, 0, 0), (60, .getfield 69, 3, 11, 16, 0), (63, .bipush (-9), 2, 0, 0, 0), (65, .if_icmp .ne 184, 3, 249, 0, 0), (68, .aload_n 0, 1, 0, 0, 0), (69, .getfield 72, 3, 11, 15, 0), (72, .aload_n 0, 1, 0, 0, 0), (73, .getfield 65, 3, 11, 14, 0), (76, .if_icmp .ge 173, 3, 249, 0, 0), (79, .aload_n 0, 1, 0, 0, 0), (80, .getfield 31, 3, 11, 13, 3), (83, .aload_n 0, 1, 0, 0, 0), (84, .getfield 72, 3, 11, 15, 0), (87, .iaload, 1, 0, 0, 0), (88, .bipush 72, 2, 0, 0, 0), (90, .if_icmp .ne 89, 3, 179, 0, 0), (93, .aload_n 0, 1, 0, 0, 0), (94, .getfield 75, 3, 11, 11, 0), (97, .bipush 6, 2, 0, 0, 0), (99, .if_icmp .ge 80, 3, 179, 0, 0), (102, .aload_n 0, 1, 0, 0, 0), (103, .dup, 1, 0, 0, 0), (104, .getfield 72, 3, 11, 15, 0), (107, .iconst 1, 1, 0, 0, 0), (108, .iadd, 1, 0, 0, 0), (109, .putfield 72, 3, 11, 15, 0), (112, .aload_n 0, 1, 0, 0, 0), (113, .getfield 25, 3, 11, 9, 3), (116, .iconst 3, 1, 0, 0, 0), (117, .aload_n 0, 1, 0, 0, 0), (118, .getfield 75, 3, 11, 11, 0), (121, .imul, 1, 0, 0, 0), (122, .aload_n 0, 1, 0, 0, 0), (123, .bipush 9, 2, 0, 0, 0), (125, .invokevirtual 81, 3, 111, 2, 11), (128, .iastore, 1, 0, 0, 0), (129, .aload_n 0, 1, 0, 0, 0), (130, .getfield 25, 3, 11, 9, 3), (133, .iconst 3, 1, 0, 0, 0), (134, .aload_n 0, 1, 0, 0, 0), (135, .getfield 75, 3, 11, 11, 0), (138, .imul, 1, 0, 0, 0), (139, .iconst 1, 1, 0, 0, 0), (140, .iadd, 1, 0, 0, 0), (141, .aload_n 0, 1, 0, 0, 0), (142, .iconst 3, 1, 0, 0, 0), (143, .invokevirtual 81, 3, 111, 2, 11), (146, .iastore, 1, 0, 0, 0), (147, .aload_n 0, 1, 0, 0, 0), (148, .getfield 25, 3, 11, 9, 3), (151, .iconst 3, 1, 0, 0, 0), (152, .aload_n 0, 1, 0, 0, 0), (153, .getfield 75, 3, 11, 11, 0), (156, .imul, 1, 0, 0, 0), (157, .iconst 2, 1, 0, 0, 0), (158, .iadd, 1, 0, 0, 0), (159, .aload_n 0, 1, 0, 0, 0), (160, .bipush 9, 2, 0, 0, 0), (162, .invokevirtual 81, 3, 111, 2, 11), (165, .iastore, 1, 0, 0, 0), (166, .aload_n 0, 1, 0, 0, 0), (167, .dup, 1, 0, 0, 0), (168, .getfield 75, 3, 11, 11, 0), (171, .iconst 1, 1, 0, 0, 0), (172, .iadd, 1, 0, 0, 0), (173, .putfield 75, 3, 11, 11, 0), (176, .goto (-117), 3, 59, 0, 0), (179, .aload_n 0, 1, 0, 0, 0), (180, .getfield 31, 3, 11, 13, 3), (183, .aload_n 0, 1, 0, 0, 0), (184, .getfield 72, 3, 11, 15, 0), (187, .iaload, 1, 0, 0, 0), (188, .bipush 68, 2, 0, 0, 0), (190, .if_icmp .ne 48, 3, 238, 0, 0), (193, .aload_n 0, 1, 0, 0, 0), (194, .getfield 78, 3, 11, 12, 0), (197, .iconst 5, 1, 0, 0, 0), (198, .if_icmp .ge 40, 3, 238, 0, 0), (201, .aload_n 0, 1, 0, 0, 0), (202, .dup, 1, 0, 0, 0), (203, .getfield 72, 3, 11, 15, 0), (206, .iconst 1, 1, 0, 0, 0), (207, .iadd, 1, 0, 0, 0), (208, .putfield 72, 3, 11, 15, 0), (211, .aload_n 0, 1, 0, 0, 0), (212, .getfield 28, 3, 11, 10, 3), (215, .aload_n 0, 1, 0, 0, 0), (216, .getfield 78, 3, 11, 12, 0), (219, .aload_n 0, 1, 0, 0, 0), (220, .iconst 3, 1, 0, 0, 0), (221, .invokevirtual 81, 3, 111, 2, 11), (224, .iastore, 1, 0, 0, 0), (225, .aload_n 0, 1, 0, 0, 0), (226, .dup, 1, 0, 0, 0), (227, .getfield 78, 3, 11, 12, 0), (230, .iconst 1, 1, 0, 0, 0), (231, .iadd, 1, 0, 0, 0), (232, .putfield 78, 3, 11, 12, 0), (235, .goto (-176), 3, 59, 0, 0), (238, .aload_n 0, 1, 0, 0, 0), (239, .aload_n 0, 1, 0, 0, 0), (240, .getfield 72, 3, 11, 15, 0), (243, .putfield 69, 3, 11, 16, 0), (246, .goto (-187), 3, 59, 0, 0), (249, .aload_n 0, 1, 0, 0, 0), (250, .getfield 69, 3, 11, 16, 0), (253, .ireturn, 1, 0, 0, 0)]
def zr_X11_fault : List am_R := [(0, .aload_n 0, 1, 0, 0, 0), (1, .invokevirtual 85, 3, 112, 1, 11), (4, .ireturn, 1, 0, 0, 0)]
def zr_X11_row : List am_R := [(0, .aload_n 0, 1, 0, 0, 0), (1, .invokevirtual 85, 3, 112, 1, 11), (4, .bipush (-9), 2, 0, 0, 0), (6, .if_icmp .eq 6, 3, 12, 0, 0), (9, .bipush (-3), 2, 0, 0, 0), (11, .ireturn, 1, 0, 0, 0), (12, .aload_n 0, 1, 0, 0, 0), (13, .aload_n 0, 1, 0, 0, 0), (14, .getfield 75, 3, 11, 11, 0), (17, .putfield 89, 3, 11, 0, 0), (20, .aload_n 0, 1, 0, 0, 0), (21, .aload_n 0, 1, 0, 0, 0), (22, .getfield 78, 3, 11, 12, 0), (25, .putfield 92, 3, 11, 1, 0), (28, .aload_n 0, 1, 0, 0, 0), (29, .aload_n 0, 1, 0, 0, 0), (30, .getfield 31, 3, 11, 13, 3), (33, .iconst 1, 1, 0, 0, 0), (34, .iaload, 1, 0, 0, 0), (35, .bipush 48, 2, 0, 0, 0), (37, .isub, 1, 0, 0, 0), (38, .putfield 95, 3, 11, 2, 0), (41, .aload_n 0, 1, 0, 0, 0), (42, .aload_n 0, 1, 0, 0, 0), (43, .getfield 31, 3, 11, 13, 3), (46, .iconst 2, 1, 0, 0, 0), (47, .iaload, 1, 0, 0, 0), (48, .bipush 48, 2, 0, 0, 0), (50, .isub, 1, 0, 0, 0), (51, .putfield 98, 3, 11, 3, 0), (54, .iconst 0, 1, 0, 0, 0), (55, .istore_n 1, 1, 0, 0, 0), (56, .iload_n 1, 1, 0, 0, 0), (57, .bipush 21, 2, 0, 0, 0), (59, .if_icmp .ge 16, 3, 75, 0, 0), (62, .aload_n 0, 1, 0, 0, 0), (63, .getfield 22, 3, 11, 8, 3), (66, .iload_n 1, 1, 0, 0, 0), (67, .iconst 0, 1, 0, 0, 0), (68, .iastore, 1, 0, 0, 0), (69, .iinc 1 1, 3, 0, 0, 0), (72, .goto (-16), 3, 56, 0, 0), (75, .iconst 0, 1, 0, 0, 0), (76, .istore_n 1, 1, 0, 0, 0), (77, .iload_n 1, 1, 0, 0, 0), (78, .aload_n 0, 1, 0, 0, 0), (79, .getfield 89, 3, 11, 0, 0), (82, .if_icmp .ge 62, 3, 144, 0, 0), (85, .aload_n 0, 1, 0, 0, 0), (86, .getfield 7, 3, 11, 4, 3), (89, .iload_n 1, 1, 0, 0, 0), (90, .aload_n 0, 1, 0, 0, 0), (91, .getfield 25, 3, 11, 9, 3), (94, .iconst 3, 1, 0, 0, 0), (95, .iload_n 1, 1, 0, 0, 0), (96, .imul, 1, 0, 0, 0), (97, .iaload, 1, 0, 0, 0), (98, .iastore, 1, 0, 0, 0), (99, .aload_n 0, 1, 0, 0, 0), (100, .getfield 13, 3, 11, 5, 3), (103, .iload_n 1, 1, 0, 0, 0), (104, .aload_n 0, 1, 0, 0, 0), (105, .getfield 25, 3, 11, 9, 3), (108, .iconst 3, 1, 0, 0, 0), (109, .iload_n 1, 1, 0, 0, 0), (110, .imul, 1, 0, 0, 0), (111, .iconst 1, 1, 0, 0, 0), (112, .iadd, 1, 0, 0, 0), (113, .iaload, 1, 0, 0, 0), (114, .iastore, 1, 0, 0, 0), (115, .aload_n 0, 1, 0, 0, 0), (116, .getfield 16, 3, 11, 6, 3), (119, .iload_n 1, 1, 0, 0, 0), (120, .aload_n 0, 1, 0, 0, 0), (121, .getfield 25, 3, 11, 9, 3), (124, .iconst 3, 1, 0, 0, 0), (125, .iload_n 1, 1, 0, 0, 0), (126, .imul, 1, 0, 0, 0), (127, .iconst 2, 1, 0, 0, 0), (128, .iadd, 1, 0, 0, 0), (129, .iaload, 1, 0, 0, 0), (130, .iastore, 1, 0, 0, 0), (131, .aload_n 0, 1, 0, 0, 0), (132, .getfield 22, 3, 11, 8, 3), (135, .iload_n 1, 1, 0, 0, 0), (136, .iload_n 1, 1, 0, 0, 0), (137, .iastore, 1, 0, 0, 0), (138, .iinc 1 1, 3, 0, 0, 0), (141, .goto (-64), 3, 77, 0, 0), (144, .iconst 0, 1, 0, 0, 0), (145, .istore_n 1, 1, 0, 0, 0), (146, .iload_n 1, 1, 0, 0, 0), (147, .aload_n 0, 1, 0, 0, 0), (148, .getfield 92, 3, 11, 1, 0), (151, .if_icmp .ge 21, 3, 172, 0, 0), (154, .aload_n 0, 1, 0, 0, 0), (155, .getfield 19, 3, 11, 7, 3), (158, .iload_n 1, 1, 0, 0, 0), (159, .aload_n 0, 1, 0, 0, 0), (160, .getfield 28, 3, 11, 10, 3), (163, .iload_n 1, 1, 0, 0, 0), (164, .iaload, 1, 0, 0, 0), (165, .iastore, 1, 0, 0, 0), (166, .iinc 1 1, 3, 0, 0, 0), (169, .goto (-23), 3, 146, 0, 0), (172, .aload_n 0, 1, 0, 0, 0), (173, .iconst 0, 1, 0, 0, 0), (174, .putfield 101, 3, 11, 19, 0), (177, .aload_n 0, 1, 0, 0, 0), (178, .getfield 52, 3, 11, 28, 3), (181, .iconst 0, 1, 0, 0, 0), (182, .iconst 0, 1, 0, 0, 0), (183, .bastore, 1, 0, 0, 0), (184, .aload_n 0, 1, 0, 0, 0), (185, .getfield 52, 3, 11, 28, 3), (188, .iconst 1, 1, 0, 0, 0), (189, .iconst 0, 1, 0, 0, 0), (190, .bastore, 1, 0, 0, 0), (191, .bipush 10, 2, 0, 0, 0), (193, .aload_n 0, 1, 0, 0, 0), (194, .getfield 89, 3, 11, 0, 0), (197, .imul, 1, 0, 0, 0), (198, .aload_n 0, 1, 0, 0, 0), (199, .getfield 92, 3, 11, 1, 0), (202, .iadd, 1, 0, 0, 0), (203, .ireturn, 1, 0, 0, 0)]
def zr_X11_isHouse : List am_R := [(0, .iload_n 1, 1, 0, 0, 0), (1, .i2l, 1, 0, 0, 0), (2, .lconst 0, 1, 0, 0, 0), (3, .aload_n 0, 1, 0, 0, 0), (4, .getfield 89, 3, 11, 0, 0), (7, .iconst 1, 1, 0, 0, 0), (8, .isub, 1, 0, 0, 0), (9, .i2l, 1, 0, 0, 0), (10, .invokestatic 61, 3, 106, 3, 0), (13, .ireturn, 1, 1, 0, 0)]
def zr_X11_every : List am_R := [(0, .iconst 1, 1, 0, 0, 0), (1, .aload_n 0, 1, 0, 0, 0), (2, .getfield 89, 3, 11, 0, 0), (5, .ishl, 1, 0, 0, 0), (6, .iconst 1, 1, 0, 0, 0), (7, .isub, 1, 0, 0, 0), (8, .ireturn, 1, 0, 0, 0)]
def zr_X11_heatOn : List am_R := [(0, .aload_n 0, 1, 0, 0, 0), (1, .getfield 92, 3, 11, 1, 0), (4, .ifCond .ne 7, 3, 11, 0, 0), (7, .iconst 0, 1, 0, 0, 0), (8, .goto 25, 3, 33, 0, 0), (11, .aload_n 0, 1, 0, 0, 0), (12, .getfield 19, 3, 11, 7, 3), (15, .aload_n 0, 1, 0, 0, 0), (16, .getfield 22, 3, 11, 8, 3), (19, .bipush 21, 2, 0, 0, 0), (21, .iload_n 1, 1, 0, 0, 0), (22, .imul, 1, 0, 0, 0), (23, .bipush 20, 2, 0, 0, 0), (25, .iadd, 1, 0, 0, 0), (26, .iaload, 1, 0, 0, 0), (27, .aload_n 0, 1, 0, 0, 0), (28, .getfield 92, 3, 11, 1, 0), (31, .irem, 1, 0, 0, 0), (32, .iaload, 1, 0, 0, 0), (33, .ireturn, 1, 0, 0, 0)]
def zr_X11_wantBy : List am_R := [(0, .iload_n 0, 1, 0, 0, 0), (1, .iconst 1, 1, 0, 0, 0), (2, .if_icmp .ne 9, 3, 11, 0, 0), (5, .iload_n 1, 1, 0, 0, 0), (6, .iconst 3, 1, 0, 0, 0), (7, .iadd, 1, 0, 0, 0), (8, .goto 15, 3, 23, 0, 0), (11, .iload_n 0, 1, 0, 0, 0), (12, .iconst 2, 1, 0, 0, 0), (13, .if_icmp .ne 9, 3, 22, 0, 0), (16, .iload_n 1, 1, 0, 0, 0), (17, .iload_n 1, 1, 0, 0, 0), (18, .iadd, 1, 0, 0, 0), (19, .goto 4, 3, 23, 0, 0), (22, .iload_n 1, 1, 0, 0, 0), (23, .ireturn, 1, 0, 0, 0)]
def zr_X11_houseAt : List am_R := [(0, .iconst 0, 1, 0, 0, 0), (1, .istore_n 3, 1, 0, 0, 0), (2, .iload_n 3, 1, 0, 0, 0), (3, .aload_n 0, 1, 0, 0, 0), (4, .getfield 89, 3, 11, 0, 0), (7, .if_icmp .ge 26, 3, 33, 0, 0), (10, .aload_n 0, 1, 0, 0, 0), (11, .getfield 22, 3, 11, 8, 3), (14, .bipush 21, 2, 0, 0, 0), (16, .iload_n 1, 1, 0, 0, 0), (17, .imul, 1, 0, 0, 0), (18, .iload_n 3, 1, 0, 0, 0), (19, .iadd, 1, 0, 0, 0), (20, .iaload, 1, 0, 0, 0), (21, .iload_n 2, 1, 0, 0, 0), (22, .if_icmp .ne 5, 3, 27, 0, 0), (25, .iload_n 3, 1, 0, 0, 0), (26, .ireturn, 1, 0, 0, 0), (27, .iinc 3 1, 3, 0, 0, 0), (30, .goto (-28), 3, 2, 0, 0), (33, .bipush (-9), 2, 0, 0, 0), (35, .ireturn, 1, 0, 0, 0)]
def zr_X11_layToday : List am_R := [(0, .bipush 21, 2, 0, 0, 0), (2, .iload_n 1, 1, 0, 0, 0), (3, .imul, 1, 0, 0, 0), (4, .istore_n 2, 1, 0, 0, 0), (5, .iconst 0, 1, 0, 0, 0), (6, .istore_n 3, 1, 0, 0, 0), (7, .iload_n 3, 1, 0, 0, 0), (8, .aload_n 0, 1, 0, 0, 0), (9, .getfield 89, 3, 11, 0, 0), (12, .if_icmp .ge 140, 3, 152, 0, 0), (15, .aload_n 0, 1, 0, 0, 0), (16, .getfield 22, 3, 11, 8, 3), (19, .iload_n 2, 1, 0, 0, 0), (20, .bipush 19, 2, 0, 0, 0), (22, .iadd, 1, 0, 0, 0), (23, .iaload, 1, 0, 0, 0), (24, .iload_n 3, 1, 0, 0, 0), (25, .invokestatic 104, 3, 107, 2, 0), (28, .istore 4, 2, 0, 0, 0), (30, .aload_n 0, 1, 0, 0, 0), (31, .getfield 13, 3, 11, 5, 3), (34, .iload_n 3, 1, 0, 0, 0), (35, .iaload, 1, 0, 0, 0), (36, .aload_n 0, 1, 0, 0, 0), (37, .getfield 7, 3, 11, 4, 3), (40, .iload_n 3, 1, 0, 0, 0), (41, .iaload, 1, 0, 0, 0), (42, .invokestatic 108, 3, 118, 2, 0), (45, .aload_n 0, 1, 0, 0, 0), (46, .iload_n 1, 1, 0, 0, 0), (47, .invokevirtual 112, 3, 117, 2, 11), (50, .iadd, 1, 0, 0, 0), (51, .aload_n 0, 1, 0, 0, 0), (52, .getfield 22, 3, 11, 8, 3), (55, .iload_n 2, 1, 0, 0, 0), (56, .bipush 18, 2, 0, 0, 0), (58, .iadd, 1, 0, 0, 0), (59, .iaload, 1, 0, 0, 0), (60, .iload_n 3, 1, 0, 0, 0), (61, .invokestatic 104, 3, 107, 2, 0), (64, .ifCond .eq 7, 3, 71, 0, 0), (67, .iconst 3, 1, 0, 0, 0), (68, .goto 4, 3, 72, 0, 0), (71, .iconst 0, 1, 0, 0, 0), (72, .iadd, 1, 0, 0, 0), (73, .aload_n 0, 1, 0, 0, 0), (74, .getfield 115, 3, 11, 18, 0), (77, .iload_n 3, 1, 0, 0, 0), (78, .invokestatic 104, 3, 107, 2, 0), (81, .ifCond .eq 7, 3, 88, 0, 0), (84, .iconst 2, 1, 0, 0, 0), (85, .goto 4, 3, 89, 0, 0), (88, .iconst 0, 1, 0, 0, 0), (89, .iadd, 1, 0, 0, 0), (90, .istore 5, 2, 0, 0, 0), (92, .aload_n 0, 1, 0, 0, 0), (93, .getfield 34, 3, 11, 17, 3), (96, .iload_n 3, 1, 0, 0, 0), (97, .iload 4, 2, 0, 0, 0), (99, .ifCond .eq 7, 3, 106, 0, 0), (102, .iconst 0, 1, 0, 0, 0), (103, .goto 5, 3, 108, 0, 0), (106, .iload 5, 2, 0, 0, 0), (108, .iastore, 1, 0, 0, 0), (109, .aload_n 0, 1, 0, 0, 0), (110, .getfield 34, 3, 11, 17, 3), (113, .bipush 6, 2, 0, 0, 0), (115, .iload_n 3, 1, 0, 0, 0), (116, .iadd, 1, 0, 0, 0), (117, .iload 4, 2, 0, 0, 0), (119, .ifCond .eq 7, 3, 126, 0, 0), (122, .iconst 0, 1, 0, 0, 0), (123, .goto 22, 3, 145, 0, 0), (126, .aload_n 0, 1, 0, 0, 0), (127, .getfield 13, 3, 11, 5, 3), (130, .iload_n 3, 1, 0, 0, 0), (131, .iaload, 1, 0, 0, 0), (132, .iconst 3, 1, 0, 0, 0), (133, .if_icmp .ne 10, 3, 143, 0, 0), (136, .iload 5, 2, 0, 0, 0), (138, .iconst 2, 1, 0, 0, 0), (139, .iadd, 1, 0, 0, 0), (140, .goto 5, 3, 145, 0, 0), (143, .iload 5, 2, 0, 0, 0), (145, .iastore, 1, 0, 0, 0), (146, .iinc 3 1, 3, 0, 0, 0), (149, .goto (-142), 3, 7, 0, 0), (152, .iconst 0, 1, 0, 0, 0), (153, .istore_n 3, 1, 0, 0, 0), (154, .iload_n 3, 1, 0, 0, 0), (155, .aload_n 0, 1, 0, 0, 0), (156, .getfield 89, 3, 11, 0, 0), (159, .if_icmp .ge 208, 3, 367, 0, 0), (162, .aload_n 0, 1, 0, 0, 0), (163, .getfield 22, 3, 11, 8, 3), (166, .iload_n 2, 1, 0, 0, 0), (167, .iload_n 3, 1, 0, 0, 0), (168, .iadd, 1, 0, 0, 0), (169, .iaload, 1, 0, 0, 0), (170, .istore 4, 2, 0, 0, 0), (172, .iload 4, 2, 0, 0, 0), (174, .ifCond .le 15, 3, 189, 0, 0), (177, .aload_n 0, 1, 0, 0, 0), (178, .iload_n 1, 1, 0, 0, 0), (179, .iload 4, 2, 0, 0, 0), (181, .iconst 1, 1, 0, 0, 0), (182, .isub, 1, 0, 0, 0), (183, .invokevirtual 118, 3, 119, 3, 11), (186, .goto 27, 3, 213, 0, 0), (189, .aload_n 0, 1, 0, 0, 0), (190, .getfield 98, 3, 11, 3, 0), (193, .iconst 1, 1, 0, 0, 0), (194, .if_icmp .ne 17, 3, 211, 0, 0), (197, .aload_n 0, 1, 0, 0, 0), (198, .iload_n 1, 1, 0, 0, 0), (199, .aload_n 0, 1, 0, 0, 0), (200, .getfield 89, 3, 11, 0, 0), (203, .iconst 1, 1, 0, 0, 0), (204, .isub, 1, 0, 0, 0), (205, .invokevirtual 118, 3, 119, 3, 11), (208, .goto 5, 3, 213, 0, 0), (211, .bipush (-9), 2, 0, 0, 0), (213, .istore 5, 2, 0, 0, 0), (215, .iload 5, 2, 0, 0, 0), (217, .bipush (-9), 2, 0, 0, 0), (219, .if_icmp .ne 10, 3, 229, 0, 0), (222, .aload_n 0, 1, 0, 0, 0), (223, .getfield 95, 3, 11, 2, 0), (226, .goto 13, 3, 239, 0, 0), (229, .aload_n 0, 1, 0, 0, 0), (230, .getfield 34, 3, 11, 17, 3), (233, .bipush 6, 2, 0, 0, 0), (235, .iload 5, 2, 0, 0, 0), (237, .iadd, 1, 0, 0, 0), (238, .iaload, 1, 0, 0, 0), (239, .istore 6, 2, 0, 0, 0), (241, .iload 6, 2, 0, 0, 0), (243, .aload_n 0, 1, 0, 0, 0), (244, .getfield 22, 3, 11, 8, 3), (247, .iload_n 2, 1, 0, 0, 0), (248, .bipush 6, 2, 0, 0, 0), (250, .iadd, 1, 0, 0, 0), (251, .iload_n 3, 1, 0, 0, 0), (252, .iadd, 1, 0, 0, 0), (253, .iaload, 1, 0, 0, 0), (254, .iadd, 1, 0, 0, 0), (255, .istore 7, 2, 0, 0, 0), (257, .aload_n 0, 1, 0, 0, 0), (258, .getfield 34, 3, 11, 17, 3), (261, .iload_n 3, 1, 0, 0, 0), (262, .iaload, 1, 0, 0, 0), (263, .iload 7, 2, 0, 0, 0), (265, .if_icmp .ge 12, 3, 277, 0, 0), (268, .aload_n 0, 1, 0, 0, 0), (269, .getfield 34, 3, 11, 17, 3), (272, .iload_n 3, 1, 0, 0, 0), (273, .iaload, 1, 0, 0, 0), (274, .goto 5, 3, 279, 0, 0), (277, .iload 7, 2, 0, 0, 0), (279, .istore 8, 2, 0, 0, 0), (281, .iload 7, 2, 0, 0, 0), (283, .iload 8, 2, 0, 0, 0), (285, .isub, 1, 0, 0, 0), (286, .istore 9, 2, 0, 0, 0), (288, .aload_n 0, 1, 0, 0, 0), (289, .getfield 34, 3, 11, 17, 3), (292, .bipush 12, 2, 0, 0, 0), (294, .iload_n 3, 1, 0, 0, 0), (295, .iadd, 1, 0, 0, 0), (296, .iload 6, 2, 0, 0, 0), (298, .iastore, 1, 0, 0, 0), (299, .aload_n 0, 1, 0, 0, 0), (300, .getfield 34, 3, 11, 17, 3), (303, .bipush 18, 2, 0, 0, 0), (305, .iload_n 3, 1, 0, 0, 0), (306, .iadd, 1, 0, 0, 0), (307, .iload 8, 2, 0, 0, 0), (309, .iastore, 1, 0, 0, 0), (310, .aload_n 0, 1, 0, 0, 0), (311, .getfield 34, 3, 11, 17, 3), (314, .bipush 24, 2, 0, 0, 0), (316, .iload_n 3, 1, 0, 0, 0), (317, .iadd, 1, 0, 0, 0), (318, .aload_n 0, 1, 0, 0, 0), (319, .getfield 34, 3, 11, 17, 3), (322, .iload_n 3, 1, 0, 0, 0), (323, .iaload, 1, 0, 0, 0), (324, .iload 8, 2, 0, 0, 0), (326, .isub, 1, 0, 0, 0), (327, .iastore, 1, 0, 0, 0), (328, .aload_n 0, 1, 0, 0, 0), (329, .getfield 34, 3, 11, 17, 3), (332, .bipush 30, 2, 0, 0, 0), (334, .iload_n 3, 1, 0, 0, 0), (335, .iadd, 1, 0, 0, 0), (336, .iload 9, 2, 0, 0, 0), (338, .aload_n 0, 1, 0, 0, 0), (339, .getfield 16, 3, 11, 6, 3), (342, .iload_n 3, 1, 0, 0, 0), (343, .iaload, 1, 0, 0, 0), (344, .if_icmp .le 15, 3, 359, 0, 0), (347, .iload 9, 2, 0, 0, 0), (349, .aload_n 0, 1, 0, 0, 0), (350, .getfield 16, 3, 11, 6, 3), (353, .iload_n 3, 1, 0, 0, 0), (354, .iaload, 1, 0, 0, 0), (355, .isub, 1, 0, 0, 0), (356, .goto 4, 3, 360, 0, 0), (359, .iconst 0, 1, 0, 0, 0), (360, .iastore, 1, 0, 0, 0), (361, .iinc 3 1, 3, 0, 0, 0), (364, .goto (-210), 3, 154, 0, 0), (367, .return_, 1, 0, 0, 0)]
def zr_X11_sumOf : List am_R := [(0, .iconst 0, 1, 0, 0, 0), (1, .istore_n 2, 1, 0, 0, 0), (2, .iconst 0, 1, 0, 0, 0), (3, .istore_n 3, 1, 0, 0, 0), (4, .iload_n 3, 1, 0, 0, 0), (5, .aload_n 0, 1, 0, 0, 0), (6, .getfield 89, 3, 11, 0, 0), (9, .if_icmp .ge 23, 3, 32, 0, 0), (12, .iload_n 2, 1, 0, 0, 0), (13, .aload_n 0, 1, 0, 0, 0), (14, .getfield 34, 3, 11, 17, 3), (17, .bipush 6, 2, 0, 0, 0), (19, .iload_n 1, 1, 0, 0, 0), (20, .imul, 1, 0, 0, 0), (21, .iload_n 3, 1, 0, 0, 0), (22, .iadd, 1, 0, 0, 0), (23, .iaload, 1, 0, 0, 0), (24, .iadd, 1, 0, 0, 0), (25, .istore_n 2, 1, 0, 0, 0), (26, .iinc 3 1, 3, 0, 0, 0), (29, .goto (-25), 3, 4, 0, 0), (32, .iload_n 2, 1, 0, 0, 0), (33, .ireturn, 1, 0, 0, 0)]
def zr_X11_passOn : List am_R := [(0, .bipush 21, 2, 0, 0, 0), (2, .iload_n 1, 1, 0, 0, 0), (3, .imul, 1, 0, 0, 0), (4, .istore_n 2, 1, 0, 0, 0), (5, .aload_n 0, 1, 0, 0, 0), (6, .iload_n 1, 1, 0, 0, 0), (7, .invokevirtual 121, 3, 120, 2, 11), (10, .iconst 0, 1, 0, 0, 0), (11, .istore_n 3, 1, 0, 0, 0), (12, .iload_n 3, 1, 0, 0, 0), (13, .aload_n 0, 1, 0, 0, 0), (14, .getfield 89, 3, 11, 0, 0), (17, .if_icmp .ge 75, 3, 92, 0, 0), (20, .aload_n 0, 1, 0, 0, 0), (21, .getfield 22, 3, 11, 8, 3), (24, .iload_n 2, 1, 0, 0, 0), (25, .bipush 12, 2, 0, 0, 0), (27, .iadd, 1, 0, 0, 0), (28, .iload_n 3, 1, 0, 0, 0), (29, .iadd, 1, 0, 0, 0), (30, .dup2, 1, 0, 0, 0), (31, .iaload, 1, 0, 0, 0), (32, .aload_n 0, 1, 0, 0, 0), (33, .getfield 34, 3, 11, 17, 3), (36, .bipush 24, 2, 0, 0, 0), (38, .iload_n 3, 1, 0, 0, 0), (39, .iadd, 1, 0, 0, 0), (40, .iaload, 1, 0, 0, 0), (41, .iadd, 1, 0, 0, 0), (42, .iastore, 1, 0, 0, 0), (43, .aload_n 0, 1, 0, 0, 0), (44, .getfield 22, 3, 11, 8, 3), (47, .iload_n 2, 1, 0, 0, 0), (48, .bipush 6, 2, 0, 0, 0), (50, .iadd, 1, 0, 0, 0), (51, .iload_n 3, 1, 0, 0, 0), (52, .iadd, 1, 0, 0, 0), (53, .dup2, 1, 0, 0, 0), (54, .iaload, 1, 0, 0, 0), (55, .aload_n 0, 1, 0, 0, 0), (56, .getfield 34, 3, 11, 17, 3), (59, .bipush 12, 2, 0, 0, 0), (61, .iload_n 3, 1, 0, 0, 0), (62, .iadd, 1, 0, 0, 0), (63, .iaload, 1, 0, 0, 0), (64, .aload_n 0, 1, 0, 0, 0), (65, .getfield 34, 3, 11, 17, 3), (68, .bipush 18, 2, 0, 0, 0), (70, .iload_n 3, 1, 0, 0, 0), (71, .iadd, 1, 0, 0, 0), (72, .iaload, 1, 0, 0, 0), (73, .isub, 1, 0, 0, 0), (74, .aload_n 0, 1, 0, 0, 0), (75, .getfield 34, 3, 11, 17, 3), (78, .bipush 30, 2, 0, 0, 0), (80, .iload_n 3, 1, 0, 0, 0), (81, .iadd, 1, 0, 0, 0), (82, .iaload, 1, 0, 0, 0), (83, .isub, 1, 0, 0, 0), (84, .iadd, 1, 0, 0, 0), (85, .iastore, 1, 0, 0, 0), (86, .iinc 3 1, 3, 0, 0, 0), (89, .goto (-77), 3, 12, 0, 0), (92, .aload_n 0, 1, 0, 0, 0), (93, .getfield 22, 3, 11, 8, 3), (96, .iload_n 2, 1, 0, 0, 0), (97, .bipush 18, 2, 0, 0, 0), (99, .iadd, 1, 0, 0, 0), (100, .iconst 0, 1, 0, 0, 0), (101, .iastore, 1, 0, 0, 0), (102, .aload_n 0, 1, 0, 0, 0), (103, .getfield 22, 3, 11, 8, 3), (106, .iload_n 2, 1, 0, 0, 0), (107, .bipush 20, 2, 0, 0, 0), (109, .iadd, 1, 0, 0, 0), (110, .dup2, 1, 0, 0, 0), (111, .iaload, 1, 0, 0, 0), (112, .iconst 1, 1, 0, 0, 0), (113, .iadd, 1, 0, 0, 0), (114, .iastore, 1, 0, 0, 0), (115, .aload_n 0, 1, 0, 0, 0), (116, .iconst 4, 1, 0, 0, 0), (117, .invokevirtual 125, 3, 121, 2, 11), (120, .ireturn, 1, 0, 0, 0)]
def zr_X11_lackedOn : List am_R := [(0, .iconst 0, 1, 0, 0, 0), (1, .istore_n 2, 1, 0, 0, 0), (2, .iconst 0, 1, 0, 0, 0), (3, .istore_n 3, 1, 0, 0, 0), (4, .iload_n 3, 1, 0, 0, 0), (5, .aload_n 0, 1, 0, 0, 0), (6, .getfield 89, 3, 11, 0, 0), (9, .if_icmp .ge 26, 3, 35, 0, 0), (12, .iload_n 2, 1, 0, 0, 0), (13, .aload_n 0, 1, 0, 0, 0), (14, .getfield 22, 3, 11, 8, 3), (17, .bipush 21, 2, 0, 0, 0), (19, .iload_n 1, 1, 0, 0, 0), (20, .imul, 1, 0, 0, 0), (21, .bipush 12, 2, 0, 0, 0), (23, .iadd, 1, 0, 0, 0), (24, .iload_n 3, 1, 0, 0, 0), (25, .iadd, 1, 0, 0, 0), (26, .iaload, 1, 0, 0, 0), (27, .iadd, 1, 0, 0, 0), (28, .istore_n 2, 1, 0, 0, 0), (29, .iinc 3 1, 3, 0, 0, 0), (32, .goto (-28), 3, 4, 0, 0), (35, .iload_n 2, 1, 0, 0, 0), (36, .ireturn, 1, 0, 0, 0)]
def zr_X11_house : List am_R := [(0, .aload_n 0, 1, 0, 0, 0), (1, .iload_n 1, 1, 0, 0, 0), (2, .invokevirtual 128, 3, 115, 2, 11), (5, .ifCond .ne 5, 3, 10, 0, 0), (8, .iconst (-1), 1, 0, 0, 0), (9, .ireturn, 1, 0, 0, 0), (10, .iload_n 2, 1, 0, 0, 0), (11, .tableswitch 117 0 7 #[45, 52, 59, 66, 76, 83, 93, 105], 45, 0, 0, 0), (56, .aload_n 0, 1, 0, 0, 0), (57, .getfield 7, 3, 11, 4, 3), (60, .iload_n 1, 1, 0, 0, 0), (61, .iaload, 1, 0, 0, 0), (62, .ireturn, 1, 0, 0, 0), (63, .aload_n 0, 1, 0, 0, 0), (64, .getfield 13, 3, 11, 5, 3), (67, .iload_n 1, 1, 0, 0, 0), (68, .iaload, 1, 0, 0, 0), (69, .ireturn, 1, 0, 0, 0), (70, .aload_n 0, 1, 0, 0, 0), (71, .getfield 16, 3, 11, 6, 3), (74, .iload_n 1, 1, 0, 0, 0), (75, .iaload, 1, 0, 0, 0), (76, .ireturn, 1, 0, 0, 0), (77, .aload_n 0, 1, 0, 0, 0), (78, .getfield 22, 3, 11, 8, 3), (81, .bipush 6, 2, 0, 0, 0), (83, .iload_n 1, 1, 0, 0, 0), (84, .iadd, 1, 0, 0, 0), (85, .iaload, 1, 0, 0, 0), (86, .ireturn, 1, 0, 0, 0), (87, .aload_n 0, 1, 0, 0, 0), (88, .getfield 22, 3, 11, 8, 3), (91, .iload_n 1, 1, 0, 0, 0), (92, .iaload, 1, 0, 0, 0), (93, .ireturn, 1, 0, 0, 0), (94, .aload_n 0, 1, 0, 0, 0), (95, .getfield 22, 3, 11, 8, 3), (98, .bipush 12, 2, 0, 0, 0), (100, .iload_n 1, 1, 0, 0, 0), (101, .iadd, 1, 0, 0, 0), (102, .iaload, 1, 0, 0, 0), (103, .ireturn, 1, 0, 0, 0), (104, .aload_n 0, 1, 0, 0, 0), (105, .getfield 22, 3, 11, 8, 3), (108, .bipush 18, 2, 0, 0, 0), (110, .iaload, 1, 0, 0, 0), (111, .iload_n 1, 1, 0, 0, 0), (112, .ishr, 1, 0, 0, 0), (113, .iconst 1, 1, 0, 0, 0), (114, .iand, 1, 0, 0, 0), (115, .ireturn, 1, 0, 0, 0), (116, .aload_n 0, 1, 0, 0, 0), (117, .getfield 22, 3, 11, 8, 3), (120, .bipush 19, 2, 0, 0, 0), (122, .iaload, 1, 0, 0, 0), (123, .iload_n 1, 1, 0, 0, 0), (124, .ishr, 1, 0, 0, 0), (125, .iconst 1, 1, 0, 0, 0), (126, .iand, 1, 0, 0, 0), (127, .ireturn, 1, 0, 0, 0), (128, .bipush (-2), 2, 0, 0, 0), (130, .ireturn, 1, 0, 0, 0)]
def zr_X11_today : List am_R := [(0, .aload_n 0, 1, 0, 0, 0), (1, .iload_n 1, 1, 0, 0, 0), (2, .invokevirtual 128, 3, 115, 2, 11), (5, .ifCond .ne 5, 3, 10, 0, 0), (8, .iconst (-1), 1, 0, 0, 0), (9, .ireturn, 1, 0, 0, 0), (10, .iload_n 2, 1, 0, 0, 0), (11, .i2l, 1, 0, 0, 0), (12, .lconst 0, 1, 0, 0, 0), (13, .ldc2_w 132, 3, 0, 0, 5), (16, .invokestatic 61, 3, 106, 3, 0), (19, .ifCond .ne 6, 3, 25, 0, 0), (22, .bipush (-2), 2, 0, 0, 0), (24, .ireturn, 1, 0, 0, 0), (25, .aload_n 0, 1, 0, 0, 0), (26, .iconst 0, 1, 0, 0, 0), (27, .invokevirtual 121, 3, 120, 2, 11), (30, .aload_n 0, 1, 0, 0, 0), (31, .getfield 34, 3, 11, 17, 3), (34, .bipush 6, 2, 0, 0, 0), (36, .iload_n 2, 1, 0, 0, 0), (37, .imul, 1, 0, 0, 0), (38, .iload_n 1, 1, 0, 0, 0), (39, .iadd, 1, 0, 0, 0), (40, .iaload, 1, 0, 0, 0), (41, .ireturn, 1, 0, 0, 0)]
def zr_X11_at : List am_R := [(0, .aload_n 0, 1, 0, 0, 0), (1, .iconst 0, 1, 0, 0, 0), (2, .iload_n 1, 1, 0, 0, 0), (3, .invokevirtual 118, 3, 119, 3, 11), (6, .ireturn, 1, 0, 0, 0)]
def zr_X11_keepAct : List am_R := [(0, .iconst 0, 1, 0, 0, 0), (1, .istore_n 1, 1, 0, 0, 0), (2, .iload_n 1, 1, 0, 0, 0), (3, .bipush 21, 2, 0, 0, 0), (5, .if_icmp .ge 29, 3, 34, 0, 0), (8, .aload_n 0, 1, 0, 0, 0), (9, .getfield 37, 3, 11, 21, 3), (12, .bipush 21, 2, 0, 0, 0), (14, .aload_n 0, 1, 0, 0, 0), (15, .getfield 134, 3, 11, 20, 0), (18, .imul, 1, 0, 0, 0), (19, .iload_n 1, 1, 0, 0, 0), (20, .iadd, 1, 0, 0, 0), (21, .aload_n 0, 1, 0, 0, 0), (22, .getfield 22, 3, 11, 8, 3), (25, .iload_n 1, 1, 0, 0, 0), (26, .iaload, 1, 0, 0, 0), (27, .iastore, 1, 0, 0, 0), (28, .iinc 1 1, 3, 0, 0, 0), (31, .goto (-29), 3, 2, 0, 0), (34, .aload_n 0, 1, 0, 0, 0), (35, .aload_n 0, 1, 0, 0, 0), (36, .getfield 134, 3, 11, 20, 0), (39, .iconst 1, 1, 0, 0, 0), (40, .iadd, 1, 0, 0, 0), (41, .bipush 14, 2, 0, 0, 0), (43, .irem, 1, 0, 0, 0), (44, .putfield 134, 3, 11, 20, 0), (47, .aload_n 0, 1, 0, 0, 0), (48, .aload_n 0, 1, 0, 0, 0), (49, .getfield 101, 3, 11, 19, 0), (52, .bipush 14, 2, 0, 0, 0), (54, .if_icmp .ge 12, 3, 66, 0, 0), (57, .aload_n 0, 1, 0, 0, 0), (58, .getfield 101, 3, 11, 19, 0), (61, .iconst 1, 1, 0, 0, 0), (62, .iadd, 1, 0, 0, 0), (63, .goto 5, 3, 68, 0, 0), (66, .bipush 14, 2, 0, 0, 0), (68, .putfield 101, 3, 11, 19, 0), (71, .return_, 1, 0, 0, 0)]
def zr_X11_day : List am_R := [(0, .aload_n 0, 1, 0, 0, 0), (1, .invokevirtual 137, 3, 127, 1, 11), (4, .aload_n 0, 1, 0, 0, 0), (5, .iconst 0, 1, 0, 0, 0), (6, .invokevirtual 140, 3, 122, 2, 11), (9, .ireturn, 1, 0, 0, 0)]
def zr_X11_swapOn : List am_R := [(0, .bipush 21, 2, 0, 0, 0), (2, .iload_n 1, 1, 0, 0, 0), (3, .imul, 1, 0, 0, 0), (4, .istore 4, 2, 0, 0, 0), (6, .aload_n 0, 1, 0, 0, 0), (7, .getfield 22, 3, 11, 8, 3), (10, .iload 4, 2, 0, 0, 0), (12, .iload_n 2, 1, 0, 0, 0), (13, .iadd, 1, 0, 0, 0), (14, .iaload, 1, 0, 0, 0), (15, .istore 5, 2, 0, 0, 0), (17, .aload_n 0, 1, 0, 0, 0), (18, .getfield 22, 3, 11, 8, 3), (21, .iload 4, 2, 0, 0, 0), (23, .iload_n 2, 1, 0, 0, 0), (24, .iadd, 1, 0, 0, 0), (25, .aload_n 0, 1, 0, 0, 0), (26, .getfield 22, 3, 11, 8, 3), (29, .iload 4, 2, 0, 0, 0), (31, .iload_n 3, 1, 0, 0, 0), (32, .iadd, 1, 0, 0, 0), (33, .iaload, 1, 0, 0, 0), (34, .iastore, 1, 0, 0, 0), (35, .aload_n 0, 1, 0, 0, 0), (36, .getfield 22, 3, 11, 8, 3), (39, .iload 4, 2, 0, 0, 0), (41, .iload_n 3, 1, 0, 0, 0), (42, .iadd, 1, 0, 0, 0), (43, .iload 5, 2, 0, 0, 0), (45, .iastore, 1, 0, 0, 0), (46, .return_, 1, 0, 0, 0)]
def zr_X11_swap : List am_R := [(0, .aload_n 0, 1, 0, 0, 0), (1, .iload_n 1, 1, 0, 0, 0), (2, .invokevirtual 128, 3, 115, 2, 11), (5, .ifCond .eq 11, 3, 16, 0, 0), (8, .aload_n 0, 1, 0, 0, 0), (9, .iload_n 2, 1, 0, 0, 0), (10, .invokevirtual 128, 3, 115, 2, 11), (13, .ifCond .ne 5, 3, 18, 0, 0), (16, .iconst (-1), 1, 0, 0, 0), (17, .ireturn, 1, 0, 0, 0), (18, .iload_n 1, 1, 0, 0, 0), (19, .iload_n 2, 1, 0, 0, 0), (20, .if_icmp .ne 6, 3, 26, 0, 0), (23, .bipush (-2), 2, 0, 0, 0), (25, .ireturn, 1, 0, 0, 0), (26, .aload_n 0, 1, 0, 0, 0), (27, .invokevirtual 137, 3, 127, 1, 11), (30, .aload_n 0, 1, 0, 0, 0), (31, .iconst 0, 1, 0, 0, 0), (32, .iload_n 1, 1, 0, 0, 0), (33, .iload_n 2, 1, 0, 0, 0), (34, .invokevirtual 143, 3, 129, 4, 11), (37, .aload_n 0, 1, 0, 0, 0), (38, .getfield 22, 3, 11, 8, 3), (41, .iload_n 1, 1, 0, 0, 0), (42, .iaload, 1, 0, 0, 0), (43, .ireturn, 1, 0, 0, 0)]
def zr_X11_salt : List am_R := [(0, .aload_n 0, 1, 0, 0, 0), (1, .iload_n 1, 1, 0, 0, 0), (2, .invokevirtual 128, 3, 115, 2, 11), (5, .ifCond .ne 5, 3, 10, 0, 0), (8, .iconst (-1), 1, 0, 0, 0), (9, .ireturn, 1, 0, 0, 0), (10, .aload_n 0, 1, 0, 0, 0), (11, .getfield 22, 3, 11, 8, 3), (14, .bipush 18, 2, 0, 0, 0), (16, .iaload, 1, 0, 0, 0), (17, .iload_n 1, 1, 0, 0, 0), (18, .invokestatic 104, 3, 107, 2, 0), (21, .ifCond .eq 6, 3, 27, 0, 0), (24, .bipush (-3), 2, 0, 0, 0), (26, .ireturn, 1, 0, 0, 0), (27, .aload_n 0, 1, 0, 0, 0), (28, .invokevirtual 137, 3, 127, 1, 11), (31, .aload_n 0, 1, 0, 0, 0), (32, .getfield 22, 3, 11, 8, 3), (35, .bipush 18, 2, 0, 0, 0), (37, .dup2, 1, 0, 0, 0), (38, .iaload, 1, 0, 0, 0), (39, .iconst 1, 1, 0, 0, 0), (40, .iload_n 1, 1, 0, 0, 0), (41, .ishl, 1, 0, 0, 0), (42, .ior, 1, 0, 0, 0), (43, .iastore, 1, 0, 0, 0), (44, .aload_n 0, 1, 0, 0, 0), (45, .iconst 0, 1, 0, 0, 0), (46, .invokevirtual 121, 3, 120, 2, 11), (49, .aload_n 0, 1, 0, 0, 0), (50, .getfield 34, 3, 11, 17, 3), (53, .iload_n 1, 1, 0, 0, 0), (54, .iaload, 1, 0, 0, 0), (55, .ireturn, 1, 0, 0, 0)]
def zr_X11_away : List am_R := [(0, .aload_n 0, 1, 0, 0, 0), (1, .iload_n 1, 1, 0, 0, 0), (2, .invokevirtual 128, 3, 115, 2, 11), (5, .ifCond .ne 5, 3, 10, 0, 0), (8, .iconst (-1), 1, 0, 0, 0), (9, .ireturn, 1, 0, 0, 0), (10, .aload_n 0, 1, 0, 0, 0), (11, .invokevirtual 137, 3, 127, 1, 11), (14, .aload_n 0, 1, 0, 0, 0), (15, .getfield 22, 3, 11, 8, 3), (18, .bipush 19, 2, 0, 0, 0), (20, .dup2, 1, 0, 0, 0), (21, .iaload, 1, 0, 0, 0), (22, .iconst 1, 1, 0, 0, 0), (23, .iload_n 1, 1, 0, 0, 0), (24, .ishl, 1, 0, 0, 0), (25, .ixor, 1, 0, 0, 0), (26, .iastore, 1, 0, 0, 0), (27, .aload_n 0, 1, 0, 0, 0), (28, .getfield 22, 3, 11, 8, 3), (31, .bipush 19, 2, 0, 0, 0), (33, .iaload, 1, 0, 0, 0), (34, .iload_n 1, 1, 0, 0, 0), (35, .ishr, 1, 0, 0, 0), (36, .iconst 1, 1, 0, 0, 0), (37, .iand, 1, 0, 0, 0), (38, .ireturn, 1, 0, 0, 0)]
def zr_X11_undo : List am_R := [(0, .aload_n 0, 1, 0, 0, 0), (1, .getfield 101, 3, 11, 19, 0), (4, .ifCond .ne 6, 3, 10, 0, 0), (7, .bipush (-3), 2, 0, 0, 0), (9, .ireturn, 1, 0, 0, 0), (10, .aload_n 0, 1, 0, 0, 0), (11, .dup, 1, 0, 0, 0), (12, .getfield 101, 3, 11, 19, 0), (15, .iconst 1, 1, 0, 0, 0), (16, .isub, 1, 0, 0, 0), (17, .putfield 101, 3, 11, 19, 0), (20, .aload_n 0, 1, 0, 0, 0), (21, .aload_n 0, 1, 0, 0, 0), (22, .getfield 134, 3, 11, 20, 0), (25, .bipush 13, 2, 0, 0, 0), (27, .iadd, 1, 0, 0, 0), (28, .bipush 14, 2, 0, 0, 0), (30, .irem, 1, 0, 0, 0), (31, .putfield 134, 3, 11, 20, 0), (34, .iconst 0, 1, 0, 0, 0), (35, .istore_n 1, 1, 0, 0, 0), (36, .iload_n 1, 1, 0, 0, 0), (37, .bipush 21, 2, 0, 0, 0), (39, .if_icmp .ge 29, 3, 68, 0, 0), (42, .aload_n 0, 1, 0, 0, 0), (43, .getfield 22, 3, 11, 8, 3), (46, .iload_n 1, 1, 0, 0, 0), (47, .aload_n 0, 1, 0, 0, 0), (48, .getfield 37, 3, 11, 21, 3), (51, .bipush 21, 2, 0, 0, 0), (53, .aload_n 0, 1, 0, 0, 0), (54, .getfield 134, 3, 11, 20, 0), (57, .imul, 1, 0, 0, 0), (58, .iload_n 1, 1, 0, 0, 0), (59, .iadd, 1, 0, 0, 0), (60, .iaload, 1, 0, 0, 0), (61, .iastore, 1, 0, 0, 0), (62, .iinc 1 1, 3, 0, 0, 0), (65, .goto (-29), 3, 36, 0, 0), (68, .aload_n 0, 1, 0, 0, 0), (69, .getfield 101, 3, 11, 19, 0), (72, .ireturn, 1, 0, 0, 0)]
def zr_X11_layTrial : List am_R := [(0, .iconst 0, 1, 0, 0, 0), (1, .istore_n 1, 1, 0, 0, 0), (2, .iload_n 1, 1, 0, 0, 0), (3, .bipush 21, 2, 0, 0, 0), (5, .if_icmp .ge 24, 3, 29, 0, 0), (8, .aload_n 0, 1, 0, 0, 0), (9, .getfield 22, 3, 11, 8, 3), (12, .bipush 21, 2, 0, 0, 0), (14, .iload_n 1, 1, 0, 0, 0), (15, .iadd, 1, 0, 0, 0), (16, .aload_n 0, 1, 0, 0, 0), (17, .getfield 22, 3, 11, 8, 3), (20, .iload_n 1, 1, 0, 0, 0), (21, .iaload, 1, 0, 0, 0), (22, .iastore, 1, 0, 0, 0), (23, .iinc 1 1, 3, 0, 0, 0), (26, .goto (-24), 3, 2, 0, 0), (29, .return_, 1, 0, 0, 0)]
def zr_X11_ahead : List am_R := [(0, .iload_n 1, 1, 0, 0, 0), (1, .i2l, 1, 0, 0, 0), (2, .lconst 0, 1, 0, 0, 0), (3, .ldc2_w 147, 3, 0, 0, 20), (6, .invokestatic 61, 3, 106, 3, 0), (9, .ifCond .eq 13, 3, 22, 0, 0), (12, .iload_n 2, 1, 0, 0, 0), (13, .i2l, 1, 0, 0, 0), (14, .lconst 0, 1, 0, 0, 0), (15, .lconst 1, 1, 0, 0, 0), (16, .invokestatic 61, 3, 106, 3, 0), (19, .ifCond .ne 6, 3, 25, 0, 0), (22, .bipush (-2), 2, 0, 0, 0), (24, .ireturn, 1, 0, 0, 0), (25, .aload_n 0, 1, 0, 0, 0), (26, .invokevirtual 149, 3, 134, 1, 11), (29, .iconst 0, 1, 0, 0, 0), (30, .istore_n 3, 1, 0, 0, 0), (31, .iconst 0, 1, 0, 0, 0), (32, .istore 4, 2, 0, 0, 0), (34, .iload 4, 2, 0, 0, 0), (36, .iload_n 1, 1, 0, 0, 0), (37, .if_icmp .ge 23, 3, 60, 0, 0), (40, .aload_n 0, 1, 0, 0, 0), (41, .iconst 1, 1, 0, 0, 0), (42, .invokevirtual 140, 3, 122, 2, 11), (45, .pop, 1, 0, 0, 0), (46, .iload_n 3, 1, 0, 0, 0), (47, .aload_n 0, 1, 0, 0, 0), (48, .iconst 5, 1, 0, 0, 0), (49, .invokevirtual 125, 3, 121, 2, 11), (52, .iadd, 1, 0, 0, 0), (53, .istore_n 3, 1, 0, 0, 0), (54, .iinc 4 1, 3, 0, 0, 0), (57, .goto (-23), 3, 34, 0, 0), (60, .iload_n 2, 1, 0, 0, 0), (61, .ifCond .ne 17, 3, 78, 0, 0), (64, .aload_n 0, 1, 0, 0, 0), (65, .iconst 1, 1, 0, 0, 0), (66, .invokevirtual 152, 3, 123, 2, 11), (69, .aload_n 0, 1, 0, 0, 0), (70, .iconst 0, 1, 0, 0, 0), (71, .invokevirtual 152, 3, 123, 2, 11), (74, .isub, 1, 0, 0, 0), (75, .goto 4, 3, 79, 0, 0), (78, .iload_n 3, 1, 0, 0, 0), (79, .ireturn, 1, 0, 0, 0)]
def zr_X11_nextOrder : List am_R := [(0, .aload_n 0, 1, 0, 0, 0), (1, .getfield 89, 3, 11, 0, 0), (4, .iconst 2, 1, 0, 0, 0), (5, .isub, 1, 0, 0, 0), (6, .istore_n 1, 1, 0, 0, 0), (7, .iload_n 1, 1, 0, 0, 0), (8, .ifCond .lt 26, 3, 34, 0, 0), (11, .aload_n 0, 1, 0, 0, 0), (12, .getfield 40, 3, 11, 22, 3), (15, .iload_n 1, 1, 0, 0, 0), (16, .iaload, 1, 0, 0, 0), (17, .aload_n 0, 1, 0, 0, 0), (18, .getfield 40, 3, 11, 22, 3), (21, .iload_n 1, 1, 0, 0, 0), (22, .iconst 1, 1, 0, 0, 0), (23, .iadd, 1, 0, 0, 0), (24, .iaload, 1, 0, 0, 0), (25, .if_icmp .le 9, 3, 34, 0, 0), (28, .iinc 1 (-1), 3, 0, 0, 0), (31, .goto (-24), 3, 7, 0, 0), (34, .iload_n 1, 1, 0, 0, 0), (35, .ifCond .ge 5, 3, 40, 0, 0), (38, .iconst 0, 1, 0, 0, 0), (39, .ireturn, 1, 1, 0, 0), (40, .aload_n 0, 1, 0, 0, 0), (41, .getfield 89, 3, 11, 0, 0), (44, .iconst 1, 1, 0, 0, 0), (45, .isub, 1, 0, 0, 0), (46, .istore_n 2, 1, 0, 0, 0), (47, .aload_n 0, 1, 0, 0, 0), (48, .getfield 40, 3, 11, 22, 3), (51, .iload_n 2, 1, 0, 0, 0), (52, .iaload, 1, 0, 0, 0), (53, .aload_n 0, 1, 0, 0, 0), (54, .getfield 40, 3, 11, 22, 3), (57, .iload_n 1, 1, 0, 0, 0), (58, .iaload, 1, 0, 0, 0), (59, .if_icmp .ge 9, 3, 68, 0, 0), (62, .iinc 2 (-1), 3, 0, 0, 0), (65, .goto (-18), 3, 47, 0, 0), (68, .aload_n 0, 1, 0, 0, 0), (69, .iload_n 1, 1, 0, 0, 0), (70, .iload_n 2, 1, 0, 0, 0), (71, .invokevirtual 155, 3, 137, 3, 11), (74, .aload_n 0, 1, 0, 0, 0), (75, .getfield 89, 3, 11, 0, 0), (78, .iconst 1, 1, 0, 0, 0), (79, .isub, 1, 0, 0, 0), (80, .istore_n 3, 1, 0, 0, 0), (81, .iload_n 1, 1, 0, 0, 0), (82, .iconst 1, 1, 0, 0, 0), (83, .iadd, 1, 0, 0, 0), (84, .istore 4, 2, 0, 0, 0), (86, .iload 4, 2, 0, 0, 0), (88, .iload_n 3, 1, 0, 0, 0), (89, .if_icmp .ge 19, 3, 108, 0, 0), (92, .aload_n 0, 1, 0, 0, 0), (93, .iload 4, 2, 0, 0, 0), (95, .iload_n 3, 1, 0, 0, 0), (96, .invokevirtual 155, 3, 137, 3, 11), (99, .iinc 3 (-1), 3, 0, 0, 0), (102, .iinc 4 1, 3, 0, 0, 0), (105, .goto (-19), 3, 86, 0, 0), (108, .iconst 1, 1, 0, 0, 0), (109, .ireturn, 1, 1, 0, 0)]
def zr_X11_exchange : List am_R := [(0, .aload_n 0, 1, 0, 0, 0), (1, .getfield 40, 3, 11, 22, 3), (4, .iload_n 1, 1, 0, 0, 0), (5, .iaload, 1, 0, 0, 0), (6, .istore_n 3, 1, 0, 0, 0), (7, .aload_n 0, 1, 0, 0, 0), (8, .getfield 40, 3, 11, 22, 3), (11, .iload_n 1, 1, 0, 0, 0), (12, .aload_n 0, 1, 0, 0, 0), (13, .getfield 40, 3, 11, 22, 3), (16, .iload_n 2, 1, 0, 0, 0), (17, .iaload, 1, 0, 0, 0), (18, .iastore, 1, 0, 0, 0), (19, .aload_n 0, 1, 0, 0, 0), (20, .getfield 40, 3, 11, 22, 3), (23, .iload_n 2, 1, 0, 0, 0), (24, .iload_n 3, 1, 0, 0, 0), (25, .iastore, 1, 0, 0, 0), (26, .return_, 1, 0, 0, 0)]
def zr_X11_lackBy : List am_R := [(0, .aload_n 0, 1, 0, 0, 0), (1, .invokevirtual 149, 3, 134, 1, 11), (4, .iconst 0, 1, 0, 0, 0), (5, .istore_n 2, 1, 0, 0, 0), (6, .iload_n 2, 1, 0, 0, 0), (7, .aload_n 0, 1, 0, 0, 0), (8, .getfield 89, 3, 11, 0, 0), (11, .if_icmp .ge 24, 3, 35, 0, 0), (14, .aload_n 0, 1, 0, 0, 0), (15, .getfield 22, 3, 11, 8, 3), (18, .bipush 21, 2, 0, 0, 0), (20, .aload_n 0, 1, 0, 0, 0), (21, .getfield 40, 3, 11, 22, 3), (24, .iload_n 2, 1, 0, 0, 0), (25, .iaload, 1, 0, 0, 0), (26, .iadd, 1, 0, 0, 0), (27, .iload_n 2, 1, 0, 0, 0), (28, .iastore, 1, 0, 0, 0), (29, .iinc 2 1, 3, 0, 0, 0), (32, .goto (-26), 3, 6, 0, 0), (35, .aload_n 0, 1, 0, 0, 0), (36, .iconst 1, 1, 0, 0, 0), (37, .invokevirtual 121, 3, 120, 2, 11), (40, .iconst 0, 1, 0, 0, 0), (41, .istore_n 2, 1, 0, 0, 0), (42, .iconst 0, 1, 0, 0, 0), (43, .istore_n 3, 1, 0, 0, 0), (44, .iload_n 3, 1, 0, 0, 0), (45, .aload_n 0, 1, 0, 0, 0), (46, .getfield 89, 3, 11, 0, 0), (49, .if_icmp .ge 36, 3, 85, 0, 0), (52, .aload_n 0, 1, 0, 0, 0), (53, .getfield 34, 3, 11, 17, 3), (56, .bipush 24, 2, 0, 0, 0), (58, .iload_n 3, 1, 0, 0, 0), (59, .iadd, 1, 0, 0, 0), (60, .iaload, 1, 0, 0, 0), (61, .iload_n 2, 1, 0, 0, 0), (62, .if_icmp .le 15, 3, 77, 0, 0), (65, .aload_n 0, 1, 0, 0, 0), (66, .getfield 34, 3, 11, 17, 3), (69, .bipush 24, 2, 0, 0, 0), (71, .iload_n 3, 1, 0, 0, 0), (72, .iadd, 1, 0, 0, 0), (73, .iaload, 1, 0, 0, 0), (74, .goto 4, 3, 78, 0, 0), (77, .iload_n 2, 1, 0, 0, 0), (78, .istore_n 2, 1, 0, 0, 0), (79, .iinc 3 1, 3, 0, 0, 0), (82, .goto (-38), 3, 44, 0, 0), (85, .iload_n 1, 1, 0, 0, 0), (86, .ifCond .eq 7, 3, 93, 0, 0), (89, .iload_n 2, 1, 0, 0, 0), (90, .goto 8, 3, 98, 0, 0), (93, .aload_n 0, 1, 0, 0, 0), (94, .iconst 4, 1, 0, 0, 0), (95, .invokevirtual 125, 3, 121, 2, 11), (98, .ireturn, 1, 0, 0, 0)]
def zr_X11_figures : List am_R := [(0, .iconst 0, 1, 0, 0, 0), (1, .istore_n 1, 1, 0, 0, 0), (2, .iconst 0, 1, 0, 0, 0), (3, .istore_n 2, 1, 0, 0, 0), (4, .iload_n 2, 1, 0, 0, 0), (5, .aload_n 0, 1, 0, 0, 0), (6, .getfield 89, 3, 11, 0, 0), (9, .if_icmp .ge 23, 3, 32, 0, 0), (12, .bipush 10, 2, 0, 0, 0), (14, .iload_n 1, 1, 0, 0, 0), (15, .imul, 1, 0, 0, 0), (16, .aload_n 0, 1, 0, 0, 0), (17, .getfield 40, 3, 11, 22, 3), (20, .iload_n 2, 1, 0, 0, 0), (21, .iaload, 1, 0, 0, 0), (22, .iadd, 1, 0, 0, 0), (23, .iconst 1, 1, 0, 0, 0), (24, .iadd, 1, 0, 0, 0), (25, .istore_n 1, 1, 0, 0, 0), (26, .iinc 2 1, 3, 0, 0, 0), (29, .goto (-25), 3, 4, 0, 0), (32, .iload_n 1, 1, 0, 0, 0), (33, .ireturn, 1, 0, 0, 0)]
def zr_X11_bestOrder : List am_R := [(0, .iconst 0, 1, 0, 0, 0), (1, .istore_n 3, 1, 0, 0, 0), (2, .iload_n 3, 1, 0, 0, 0), (3, .aload_n 0, 1, 0, 0, 0), (4, .getfield 89, 3, 11, 0, 0), (7, .if_icmp .ge 16, 3, 23, 0, 0), (10, .aload_n 0, 1, 0, 0, 0), (11, .getfield 40, 3, 11, 22, 3), (14, .iload_n 3, 1, 0, 0, 0), (15, .iload_n 3, 1, 0, 0, 0), (16, .iastore, 1, 0, 0, 0), (17, .iinc 3 1, 3, 0, 0, 0), (20, .goto (-18), 3, 2, 0, 0), (23, .aload_n 0, 1, 0, 0, 0), (24, .iload_n 1, 1, 0, 0, 0), (25, .invokevirtual 159, 3, 138, 2, 11), (28, .istore_n 3, 1, 0, 0, 0), (29, .aload_n 0, 1, 0, 0, 0), (30, .invokevirtual 163, 3, 139, 1, 11), (33, .istore 4, 2, 0, 0, 0), (35, .aload_n 0, 1, 0, 0, 0), (36, .invokevirtual 166, 3, 136, 1, 11), (39, .ifCond .eq 43, 3, 82, 0, 0), (42, .aload_n 0, 1, 0, 0, 0), (43, .iload_n 1, 1, 0, 0, 0), (44, .invokevirtual 159, 3, 138, 2, 11), (47, .istore 5, 2, 0, 0, 0), (49, .iload 5, 2, 0, 0, 0), (51, .iload_n 3, 1, 0, 0, 0), (52, .if_icmp .ge 10, 3, 62, 0, 0), (55, .aload_n 0, 1, 0, 0, 0), (56, .invokevirtual 163, 3, 139, 1, 11), (59, .goto 5, 3, 64, 0, 0), (62, .iload 4, 2, 0, 0, 0), (64, .istore 4, 2, 0, 0, 0), (66, .iload 5, 2, 0, 0, 0), (68, .iload_n 3, 1, 0, 0, 0), (69, .if_icmp .ge 8, 3, 77, 0, 0), (72, .iload 5, 2, 0, 0, 0), (74, .goto 4, 3, 78, 0, 0), (77, .iload_n 3, 1, 0, 0, 0), (78, .istore_n 3, 1, 0, 0, 0), (79, .goto (-44), 3, 35, 0, 0), (82, .iload_n 2, 1, 0, 0, 0), (83, .ifCond .eq 8, 3, 91, 0, 0), (86, .iload 4, 2, 0, 0, 0), (88, .goto 4, 3, 92, 0, 0), (91, .iload_n 3, 1, 0, 0, 0), (92, .ireturn, 1, 0, 0, 0)]
def zr_X11_order : List am_R := [(0, .aload_n 0, 1, 0, 0, 0), (1, .iconst 0, 1, 0, 0, 0), (2, .iload_n 1, 1, 0, 0, 0), (3, .invokevirtual 170, 3, 140, 3, 11), (6, .ireturn, 1, 0, 0, 0)]
def zr_X11_worst : List am_R := [(0, .aload_n 0, 1, 0, 0, 0), (1, .iconst 1, 1, 0, 0, 0), (2, .iload_n 1, 1, 0, 0, 0), (3, .invokevirtual 170, 3, 140, 3, 11), (6, .ireturn, 1, 0, 0, 0)]
def zr_X11_salts : List am_R := [(0, .aload_n 0, 1, 0, 0, 0), (1, .iload_n 1, 1, 0, 0, 0), (2, .invokevirtual 128, 3, 115, 2, 11), (5, .ifCond .ne 5, 3, 10, 0, 0), (8, .iconst (-1), 1, 0, 0, 0), (9, .ireturn, 1, 0, 0, 0), (10, .bipush (-9), 2, 0, 0, 0), (12, .istore_n 2, 1, 0, 0, 0), (13, .iconst 0, 1, 0, 0, 0), (14, .istore_n 3, 1, 0, 0, 0), (15, .iload_n 3, 1, 0, 0, 0), (16, .aload_n 0, 1, 0, 0, 0), (17, .invokevirtual 174, 3, 116, 1, 11), (20, .if_icmp .gt 88, 3, 108, 0, 0), (23, .iload_n 3, 1, 0, 0, 0), (24, .aload_n 0, 1, 0, 0, 0), (25, .getfield 22, 3, 11, 8, 3), (28, .bipush 18, 2, 0, 0, 0), (30, .iaload, 1, 0, 0, 0), (31, .iand, 1, 0, 0, 0), (32, .ifCond .ne 24, 3, 56, 0, 0), (35, .iload_n 2, 1, 0, 0, 0), (36, .bipush (-9), 2, 0, 0, 0), (38, .if_icmp .eq 14, 3, 52, 0, 0), (41, .iload_n 3, 1, 0, 0, 0), (42, .invokestatic 177, 3, 108, 1, 0), (45, .iload_n 2, 1, 0, 0, 0), (46, .invokestatic 177, 3, 108, 1, 0), (49, .if_icmp .ge 7, 3, 56, 0, 0), (52, .iconst 1, 1, 0, 0, 0), (53, .goto 4, 3, 57, 0, 0), (56, .iconst 0, 1, 0, 0, 0), (57, .istore 4, 2, 0, 0, 0), (59, .iload 4, 2, 0, 0, 0), (61, .ifCond .eq 41, 3, 102, 0, 0), (64, .aload_n 0, 1, 0, 0, 0), (65, .invokevirtual 149, 3, 134, 1, 11), (68, .aload_n 0, 1, 0, 0, 0), (69, .getfield 22, 3, 11, 8, 3), (72, .bipush 39, 2, 0, 0, 0), (74, .dup2, 1, 0, 0, 0), (75, .iaload, 1, 0, 0, 0), (76, .iload_n 3, 1, 0, 0, 0), (77, .ior, 1, 0, 0, 0), (78, .iastore, 1, 0, 0, 0), (79, .aload_n 0, 1, 0, 0, 0), (80, .iconst 1, 1, 0, 0, 0), (81, .invokevirtual 121, 3, 120, 2, 11), (84, .aload_n 0, 1, 0, 0, 0), (85, .getfield 34, 3, 11, 17, 3), (88, .bipush 24, 2, 0, 0, 0), (90, .iload_n 1, 1, 0, 0, 0), (91, .iadd, 1, 0, 0, 0), (92, .iaload, 1, 0, 0, 0), (93, .ifCond .ne 7, 3, 100, 0, 0), (96, .iload_n 3, 1, 0, 0, 0), (97, .goto 4, 3, 101, 0, 0), (100, .iload_n 2, 1, 0, 0, 0), (101, .istore_n 2, 1, 0, 0, 0), (102, .iinc 3 1, 3, 0, 0, 0), (105, .goto (-90), 3, 15, 0, 0), (108, .iload_n 2, 1, 0, 0, 0), (109, .ireturn, 1, 0, 0, 0)]
def zr_X11_cask : List am_R := [(0, .aload_n 0, 1, 0, 0, 0), (1, .iload_n 1, 1, 0, 0, 0), (2, .invokevirtual 128, 3, 115, 2, 11), (5, .ifCond .ne 5, 3, 10, 0, 0), (8, .iconst (-1), 1, 0, 0, 0), (9, .ireturn, 1, 0, 0, 0), (10, .aload_n 0, 1, 0, 0, 0), (11, .getfield 16, 3, 11, 6, 3), (14, .iload_n 1, 1, 0, 0, 0), (15, .iaload, 1, 0, 0, 0), (16, .istore_n 2, 1, 0, 0, 0), (17, .bipush (-9), 2, 0, 0, 0), (19, .istore_n 3, 1, 0, 0, 0), (20, .iconst 0, 1, 0, 0, 0), (21, .istore 4, 2, 0, 0, 0), (23, .iload 4, 2, 0, 0, 0), (25, .bipush 10, 2, 0, 0, 0), (27, .if_icmp .ge 87, 3, 114, 0, 0), (30, .iload_n 3, 1, 0, 0, 0), (31, .bipush (-9), 2, 0, 0, 0), (33, .if_icmp .ne 81, 3, 114, 0, 0), (36, .aload_n 0, 1, 0, 0, 0), (37, .getfield 16, 3, 11, 6, 3), (40, .iload_n 1, 1, 0, 0, 0), (41, .iload 4, 2, 0, 0, 0), (43, .iastore, 1, 0, 0, 0), (44, .aload_n 0, 1, 0, 0, 0), (45, .invokevirtual 149, 3, 134, 1, 11), (48, .aload_n 0, 1, 0, 0, 0), (49, .getfield 22, 3, 11, 8, 3), (52, .bipush 27, 2, 0, 0, 0), (54, .iload_n 1, 1, 0, 0, 0), (55, .iadd, 1, 0, 0, 0), (56, .iconst 0, 1, 0, 0, 0), (57, .iastore, 1, 0, 0, 0), (58, .iconst 0, 1, 0, 0, 0), (59, .istore 5, 2, 0, 0, 0), (61, .iload 5, 2, 0, 0, 0), (63, .bipush 10, 2, 0, 0, 0), (65, .if_icmp .ge 15, 3, 80, 0, 0), (68, .aload_n 0, 1, 0, 0, 0), (69, .iconst 1, 1, 0, 0, 0), (70, .invokevirtual 140, 3, 122, 2, 11), (73, .pop, 1, 0, 0, 0), (74, .iinc 5 1, 3, 0, 0, 0), (77, .goto (-16), 3, 61, 0, 0), (80, .aload_n 0, 1, 0, 0, 0), (81, .getfield 22, 3, 11, 8, 3), (84, .bipush 33, 2, 0, 0, 0), (86, .iload_n 1, 1, 0, 0, 0), (87, .iadd, 1, 0, 0, 0), (88, .iaload, 1, 0, 0, 0), (89, .aload_n 0, 1, 0, 0, 0), (90, .getfield 22, 3, 11, 8, 3), (93, .bipush 12, 2, 0, 0, 0), (95, .iload_n 1, 1, 0, 0, 0), (96, .iadd, 1, 0, 0, 0), (97, .iaload, 1, 0, 0, 0), (98, .if_icmp .ne 8, 3, 106, 0, 0), (101, .iload 4, 2, 0, 0, 0), (103, .goto 4, 3, 107, 0, 0), (106, .iload_n 3, 1, 0, 0, 0), (107, .istore_n 3, 1, 0, 0, 0), (108, .iinc 4 1, 3, 0, 0, 0), (111, .goto (-88), 3, 23, 0, 0), (114, .aload_n 0, 1, 0, 0, 0), (115, .getfield 16, 3, 11, 6, 3), (118, .iload_n 1, 1, 0, 0, 0), (119, .iload_n 2, 1, 0, 0, 0), (120, .iastore, 1, 0, 0, 0), (121, .iload_n 3, 1, 0, 0, 0), (122, .ireturn, 1, 0, 0, 0)]
def zr_X11_tryThing : List am_R := [(0, .iload_n 1, 1, 0, 0, 0), (1, .tableswitch 232 0 4 #[35, 55, 98, 156, 200], 35, 0, 0, 0), (36, .aload_n 0, 1, 0, 0, 0), (37, .iconst 1, 1, 0, 0, 0), (38, .invokevirtual 140, 3, 122, 2, 11), (41, .pop, 1, 0, 0, 0), (42, .iload_n 2, 1, 0, 0, 0), (43, .ifCond .ne 11, 3, 54, 0, 0), (46, .iload_n 3, 1, 0, 0, 0), (47, .ifCond .ne 7, 3, 54, 0, 0), (50, .iconst 1, 1, 0, 0, 0), (51, .goto 4, 3, 55, 0, 0), (54, .iconst 0, 1, 0, 0, 0), (55, .ireturn, 1, 1, 0, 0), (56, .aload_n 0, 1, 0, 0, 0), (57, .iload_n 2, 1, 0, 0, 0), (58, .invokevirtual 128, 3, 115, 2, 11), (61, .ifCond .eq 20, 3, 81, 0, 0), (64, .aload_n 0, 1, 0, 0, 0), (65, .iload_n 3, 1, 0, 0, 0), (66, .invokevirtual 128, 3, 115, 2, 11), (69, .ifCond .eq 12, 3, 81, 0, 0), (72, .iload_n 2, 1, 0, 0, 0), (73, .iload_n 3, 1, 0, 0, 0), (74, .if_icmp .eq 7, 3, 81, 0, 0), (77, .iconst 1, 1, 0, 0, 0), (78, .goto 4, 3, 82, 0, 0), (81, .iconst 0, 1, 0, 0, 0), (82, .istore 4, 2, 0, 0, 0), (84, .iload 4, 2, 0, 0, 0), (86, .ifCond .eq 10, 3, 96, 0, 0), (89, .aload_n 0, 1, 0, 0, 0), (90, .iconst 1, 1, 0, 0, 0), (91, .iload_n 2, 1, 0, 0, 0), (92, .iload_n 3, 1, 0, 0, 0), (93, .invokevirtual 143, 3, 129, 4, 11), (96, .iload 4, 2, 0, 0, 0), (98, .ireturn, 1, 1, 0, 0), (99, .iload_n 2, 1, 0, 0, 0), (100, .ifCond .ne 29, 3, 129, 0, 0), (103, .aload_n 0, 1, 0, 0, 0), (104, .iload_n 3, 1, 0, 0, 0), (105, .invokevirtual 128, 3, 115, 2, 11), (108, .ifCond .eq 21, 3, 129, 0, 0), (111, .aload_n 0, 1, 0, 0, 0), (112, .getfield 22, 3, 11, 8, 3), (115, .bipush 39, 2, 0, 0, 0), (117, .iaload, 1, 0, 0, 0), (118, .iload_n 3, 1, 0, 0, 0), (119, .invokestatic 104, 3, 107, 2, 0), (122, .ifCond .ne 7, 3, 129, 0, 0), (125, .iconst 1, 1, 0, 0, 0), (126, .goto 4, 3, 130, 0, 0), (129, .iconst 0, 1, 0, 0, 0), (130, .istore 5, 2, 0, 0, 0), (132, .aload_n 0, 1, 0, 0, 0), (133, .getfield 22, 3, 11, 8, 3), (136, .bipush 39, 2, 0, 0, 0), (138, .dup2, 1, 0, 0, 0), (139, .iaload, 1, 0, 0, 0), (140, .iload 5, 2, 0, 0, 0), (142, .ifCond .eq 9, 3, 151, 0, 0), (145, .iconst 1, 1, 0, 0, 0), (146, .iload_n 3, 1, 0, 0, 0), (147, .ishl, 1, 0, 0, 0), (148, .goto 4, 3, 152, 0, 0), (151, .iconst 0, 1, 0, 0, 0), (152, .ior, 1, 0, 0, 0), (153, .iastore, 1, 0, 0, 0), (154, .iload 5, 2, 0, 0, 0), (156, .ireturn, 1, 1, 0, 0), (157, .iload_n 2, 1, 0, 0, 0), (158, .ifCond .ne 15, 3, 173, 0, 0), (161, .aload_n 0, 1, 0, 0, 0), (162, .iload_n 3, 1, 0, 0, 0), (163, .invokevirtual 128, 3, 115, 2, 11), (166, .ifCond .eq 7, 3, 173, 0, 0), (169, .iconst 1, 1, 0, 0, 0), (170, .goto 4, 3, 174, 0, 0), (173, .iconst 0, 1, 0, 0, 0), (174, .istore 6, 2, 0, 0, 0), (176, .aload_n 0, 1, 0, 0, 0), (177, .getfield 22, 3, 11, 8, 3), (180, .bipush 40, 2, 0, 0, 0), (182, .dup2, 1, 0, 0, 0), (183, .iaload, 1, 0, 0, 0), (184, .iload 6, 2, 0, 0, 0), (186, .ifCond .eq 9, 3, 195, 0, 0), (189, .iconst 1, 1, 0, 0, 0), (190, .iload_n 3, 1, 0, 0, 0), (191, .ishl, 1, 0, 0, 0), (192, .goto 4, 3, 196, 0, 0), (195, .iconst 0, 1, 0, 0, 0), (196, .ixor, 1, 0, 0, 0), (197, .iastore, 1, 0, 0, 0), (198, .iload 6, 2, 0, 0, 0), (200, .ireturn, 1, 1, 0, 0), (201, .aload_n 0, 1, 0, 0, 0), (202, .iconst 1, 1, 0, 0, 0), (203, .invokevirtual 121, 3, 120, 2, 11), (206, .aload_n 0, 1, 0, 0, 0), (207, .iload_n 3, 1, 0, 0, 0), (208, .invokevirtual 128, 3, 115, 2, 11), (211, .ifCond .eq 20, 3, 231, 0, 0), (214, .aload_n 0, 1, 0, 0, 0), (215, .getfield 34, 3, 11, 17, 3), (218, .bipush 24, 2, 0, 0, 0), (220, .iload_n 3, 1, 0, 0, 0), (221, .iadd, 1, 0, 0, 0), (222, .iaload, 1, 0, 0, 0), (223, .iload_n 2, 1, 0, 0, 0), (224, .if_icmp .gt 7, 3, 231, 0, 0), (227, .iconst 1, 1, 0, 0, 0), (228, .goto 4, 3, 232, 0, 0), (231, .iconst 0, 1, 0, 0, 0), (232, .ireturn, 1, 1, 0, 0), (233, .iconst 0, 1, 0, 0, 0), (234, .ireturn, 1, 1, 0, 0)]
def zr_X11_power : List am_R := [(0, .lconst 1, 1, 0, 0, 0), (1, .lstore_n 3, 1, 0, 0, 0), (2, .iconst 0, 1, 0, 0, 0), (3, .istore 5, 2, 0, 0, 0), (5, .iload 5, 2, 0, 0, 0), (7, .iload_n 2, 1, 0, 0, 0), (8, .if_icmp .ge 13, 3, 21, 0, 0), (11, .lload_n 3, 1, 0, 0, 0), (12, .lload_n 0, 1, 0, 0, 0), (13, .lmul, 1, 0, 0, 0), (14, .lstore_n 3, 1, 0, 0, 0), (15, .iinc 5 1, 3, 0, 0, 0), (18, .goto (-13), 3, 5, 0, 0), (21, .lload_n 3, 1, 0, 0, 0), (22, .lreturn, 1, 0, 0, 0)]
def zr_X11_judge : List am_R := [(0, .iload_n 1, 1, 0, 0, 0), (1, .i2l, 1, 0, 0, 0), (2, .lconst 1, 1, 0, 0, 0), (3, .ldc2_w 180, 3, 0, 0, 4), (6, .invokestatic 61, 3, 106, 3, 0), (9, .ifCond .eq 20, 3, 29, 0, 0), (12, .lload_n 2, 1, 0, 0, 0), (13, .lconst 0, 1, 0, 0, 0), (14, .ldc2_w 182, 3, 0, 0, 1000), (17, .iload_n 1, 1, 0, 0, 0), (18, .invokestatic 184, 3, 146, 2, 0), (21, .lconst 1, 1, 0, 0, 0), (22, .lsub, 1, 0, 0, 0), (23, .invokestatic 61, 3, 106, 3, 0), (26, .ifCond .ne 6, 3, 32, 0, 0), (29, .bipush (-2), 2, 0, 0, 0), (31, .ireturn, 1, 0, 0, 0), (32, .aload_n 0, 1, 0, 0, 0), (33, .invokevirtual 149, 3, 134, 1, 11), (36, .iconst 0, 1, 0, 0, 0), (37, .istore 4, 2, 0, 0, 0), (39, .iload 4, 2, 0, 0, 0), (41, .iload_n 1, 1, 0, 0, 0), (42, .if_icmp .ge 58, 3, 100, 0, 0), (45, .lload_n 2, 1, 0, 0, 0), (46, .ldc2_w 182, 3, 0, 0, 1000), (49, .iload_n 1, 1, 0, 0, 0), (50, .iconst 1, 1, 0, 0, 0), (51, .isub, 1, 0, 0, 0), (52, .iload 4, 2, 0, 0, 0), (54, .isub, 1, 0, 0, 0), (55, .invokestatic 184, 3, 146, 2, 0), (58, .ldiv, 1, 0, 0, 0), (59, .ldc2_w 182, 3, 0, 0, 1000), (62, .lrem, 1, 0, 0, 0), (63, .l2i, 1, 0, 0, 0), (64, .istore 5, 2, 0, 0, 0), (66, .aload_n 0, 1, 0, 0, 0), (67, .iload 5, 2, 0, 0, 0), (69, .bipush 100, 2, 0, 0, 0), (71, .idiv, 1, 0, 0, 0), (72, .iload 5, 2, 0, 0, 0), (74, .bipush 10, 2, 0, 0, 0), (76, .idiv, 1, 0, 0, 0), (77, .bipush 10, 2, 0, 0, 0), (79, .irem, 1, 0, 0, 0), (80, .iload 5, 2, 0, 0, 0), (82, .bipush 10, 2, 0, 0, 0), (84, .irem, 1, 0, 0, 0), (85, .invokevirtual 188, 3, 145, 4, 11), (88, .ifCond .ne 6, 3, 94, 0, 0), (91, .iload 4, 2, 0, 0, 0), (93, .ireturn, 1, 0, 0, 0), (94, .iinc 4 1, 3, 0, 0, 0), (97, .goto (-58), 3, 39, 0, 0), (100, .bipush (-9), 2, 0, 0, 0), (102, .ireturn, 1, 0, 0, 0)]
def zr_X11_see : List am_R := [(0, .aload_n 0, 1, 0, 0, 0), (1, .iload_n 1, 1, 0, 0, 0), (2, .invokevirtual 128, 3, 115, 2, 11), (5, .ifCond .ne 5, 3, 10, 0, 0), (8, .iconst (-1), 1, 0, 0, 0), (9, .ireturn, 1, 0, 0, 0), (10, .iload_n 2, 1, 0, 0, 0), (11, .i2l, 1, 0, 0, 0), (12, .lconst 0, 1, 0, 0, 0), (13, .ldc2_w 192, 3, 0, 0, 3), (16, .invokestatic 61, 3, 106, 3, 0), (19, .ifCond .eq 15, 3, 34, 0, 0), (22, .iload_n 3, 1, 0, 0, 0), (23, .i2l, 1, 0, 0, 0), (24, .lconst 0, 1, 0, 0, 0), (25, .ldc2_w 194, 3, 0, 0, 30), (28, .invokestatic 61, 3, 106, 3, 0), (31, .ifCond .ne 6, 3, 37, 0, 0), (34, .bipush (-2), 2, 0, 0, 0), (36, .ireturn, 1, 0, 0, 0), (37, .aload_n 0, 1, 0, 0, 0), (38, .getfield 196, 3, 11, 23, 0), (41, .bipush 6, 2, 0, 0, 0), (43, .if_icmp .ne 6, 3, 49, 0, 0), (46, .bipush (-4), 2, 0, 0, 0), (48, .ireturn, 1, 0, 0, 0), (49, .aload_n 0, 1, 0, 0, 0), (50, .getfield 43, 3, 11, 24, 3), (53, .aload_n 0, 1, 0, 0, 0), (54, .getfield 196, 3, 11, 23, 0), (57, .iload_n 1, 1, 0, 0, 0), (58, .iastore, 1, 0, 0, 0), (59, .aload_n 0, 1, 0, 0, 0), (60, .getfield 46, 3, 11, 25, 3), (63, .aload_n 0, 1, 0, 0, 0), (64, .getfield 196, 3, 11, 23, 0), (67, .iload_n 2, 1, 0, 0, 0), (68, .iastore, 1, 0, 0, 0), (69, .aload_n 0, 1, 0, 0, 0), (70, .getfield 49, 3, 11, 26, 3), (73, .aload_n 0, 1, 0, 0, 0), (74, .getfield 196, 3, 11, 23, 0), (77, .iload_n 3, 1, 0, 0, 0), (78, .iastore, 1, 0, 0, 0), (79, .aload_n 0, 1, 0, 0, 0), (80, .dup, 1, 0, 0, 0), (81, .getfield 196, 3, 11, 23, 0), (84, .iconst 1, 1, 0, 0, 0), (85, .iadd, 1, 0, 0, 0), (86, .putfield 196, 3, 11, 23, 0), (89, .aload_n 0, 1, 0, 0, 0), (90, .getfield 196, 3, 11, 23, 0), (93, .ireturn, 1, 0, 0, 0)]
def zr_X11_unsee : List am_R := [(0, .aload_n 0, 1, 0, 0, 0), (1, .getfield 196, 3, 11, 23, 0), (4, .istore_n 1, 1, 0, 0, 0), (5, .aload_n 0, 1, 0, 0, 0), (6, .iconst 0, 1, 0, 0, 0), (7, .putfield 196, 3, 11, 23, 0), (10, .iload_n 1, 1, 0, 0, 0), (11, .ireturn, 1, 0, 0, 0)]
def zr_X11_wants : List am_R := [(0, .aload_n 0, 1, 0, 0, 0), (1, .iload_n 1, 1, 0, 0, 0), (2, .invokevirtual 128, 3, 115, 2, 11), (5, .ifCond .ne 5, 3, 10, 0, 0), (8, .iconst (-1), 1, 0, 0, 0), (9, .ireturn, 1, 0, 0, 0), (10, .iconst 0, 1, 0, 0, 0), (11, .istore_n 2, 1, 0, 0, 0), (12, .iconst 0, 1, 0, 0, 0), (13, .istore_n 3, 1, 0, 0, 0), (14, .iload_n 3, 1, 0, 0, 0), (15, .bipush 10, 2, 0, 0, 0), (17, .if_icmp .ge 116, 3, 133, 0, 0), (20, .aload_n 0, 1, 0, 0, 0), (21, .getfield 13, 3, 11, 5, 3), (24, .iload_n 1, 1, 0, 0, 0), (25, .iaload, 1, 0, 0, 0), (26, .iload_n 3, 1, 0, 0, 0), (27, .invokestatic 108, 3, 118, 2, 0), (30, .aload_n 0, 1, 0, 0, 0), (31, .getfield 13, 3, 11, 5, 3), (34, .iload_n 1, 1, 0, 0, 0), (35, .iaload, 1, 0, 0, 0), (36, .iconst 3, 1, 0, 0, 0), (37, .if_icmp .ne 7, 3, 44, 0, 0), (40, .iconst 2, 1, 0, 0, 0), (41, .goto 4, 3, 45, 0, 0), (44, .iconst 0, 1, 0, 0, 0), (45, .iadd, 1, 0, 0, 0), (46, .istore 4, 2, 0, 0, 0), (48, .iconst 1, 1, 0, 0, 0), (49, .istore 5, 2, 0, 0, 0), (51, .iconst 0, 1, 0, 0, 0), (52, .istore 6, 2, 0, 0, 0), (54, .iload 6, 2, 0, 0, 0), (56, .aload_n 0, 1, 0, 0, 0), (57, .getfield 196, 3, 11, 23, 0), (60, .if_icmp .ge 52, 3, 112, 0, 0), (63, .iload 5, 2, 0, 0, 0), (65, .ifCond .eq 38, 3, 103, 0, 0), (68, .aload_n 0, 1, 0, 0, 0), (69, .getfield 43, 3, 11, 24, 3), (72, .iload 6, 2, 0, 0, 0), (74, .iaload, 1, 0, 0, 0), (75, .iload_n 1, 1, 0, 0, 0), (76, .if_icmp .ne 23, 3, 99, 0, 0), (79, .iload 4, 2, 0, 0, 0), (81, .aload_n 0, 1, 0, 0, 0), (82, .getfield 46, 3, 11, 25, 3), (85, .iload 6, 2, 0, 0, 0), (87, .iaload, 1, 0, 0, 0), (88, .iadd, 1, 0, 0, 0), (89, .aload_n 0, 1, 0, 0, 0), (90, .getfield 49, 3, 11, 26, 3), (93, .iload 6, 2, 0, 0, 0), (95, .iaload, 1, 0, 0, 0), (96, .if_icmp .ne 7, 3, 103, 0, 0), (99, .iconst 1, 1, 0, 0, 0), (100, .goto 4, 3, 104, 0, 0), (103, .iconst 0, 1, 0, 0, 0), (104, .istore 5, 2, 0, 0, 0), (106, .iinc 6 1, 3, 0, 0, 0), (109, .goto (-55), 3, 54, 0, 0), (112, .iload_n 2, 1, 0, 0, 0), (113, .iload 5, 2, 0, 0, 0), (115, .ifCond .eq 9, 3, 124, 0, 0), (118, .iconst 1, 1, 0, 0, 0), (119, .iload_n 3, 1, 0, 0, 0), (120, .ishl, 1, 0, 0, 0), (121, .goto 4, 3, 125, 0, 0), (124, .iconst 0, 1, 0, 0, 0), (125, .ior, 1, 0, 0, 0), (126, .istore_n 2, 1, 0, 0, 0), (127, .iinc 3 1, 3, 0, 0, 0), (130, .goto (-116), 3, 14, 0, 0), (133, .iload_n 2, 1, 0, 0, 0), (134, .ireturn, 1, 0, 0, 0)]
def zr_X11_factorial : List am_R := [(0, .iconst 1, 1, 0, 0, 0), (1, .istore_n 1, 1, 0, 0, 0), (2, .iconst 2, 1, 0, 0, 0), (3, .istore_n 2, 1, 0, 0, 0), (4, .iload_n 2, 1, 0, 0, 0), (5, .iload_n 0, 1, 0, 0, 0), (6, .if_icmp .gt 13, 3, 19, 0, 0), (9, .iload_n 1, 1, 0, 0, 0), (10, .iload_n 2, 1, 0, 0, 0), (11, .imul, 1, 0, 0, 0), (12, .istore_n 1, 1, 0, 0, 0), (13, .iinc 2 1, 3, 0, 0, 0), (16, .goto (-12), 3, 4, 0, 0), (19, .iload_n 1, 1, 0, 0, 0), (20, .ireturn, 1, 0, 0, 0)]
def zr_X11_common : List am_R := [(0, .iload_n 0, 1, 0, 0, 0), (1, .ifCond .ge 8, 3, 9, 0, 0), (4, .iload_n 0, 1, 0, 0, 0), (5, .ineg, 1, 0, 0, 0), (6, .goto 4, 3, 10, 0, 0), (9, .iload_n 0, 1, 0, 0, 0), (10, .istore_n 2, 1, 0, 0, 0), (11, .iload_n 1, 1, 0, 0, 0), (12, .istore_n 3, 1, 0, 0, 0), (13, .iload_n 3, 1, 0, 0, 0), (14, .ifCond .eq 16, 3, 30, 0, 0), (17, .iload_n 2, 1, 0, 0, 0), (18, .iload_n 3, 1, 0, 0, 0), (19, .irem, 1, 0, 0, 0), (20, .istore 4, 2, 0, 0, 0), (22, .iload_n 3, 1, 0, 0, 0), (23, .istore_n 2, 1, 0, 0, 0), (24, .iload 4, 2, 0, 0, 0), (26, .istore_n 3, 1, 0, 0, 0), (27, .goto (-14), 3, 13, 0, 0), (30, .iload_n 2, 1, 0, 0, 0), (31, .ireturn, 1, 0, 0, 0)]
def zr_X11_drawnBy : List am_R := [(0, .aload_n 0, 1, 0, 0, 0), (1, .invokevirtual 149, 3, 134, 1, 11), (4, .aload_n 0, 1, 0, 0, 0), (5, .getfield 22, 3, 11, 8, 3), (8, .bipush 40, 2, 0, 0, 0), (10, .dup2, 1, 0, 0, 0), (11, .iaload, 1, 0, 0, 0), (12, .aload_n 0, 1, 0, 0, 0), (13, .invokevirtual 174, 3, 116, 1, 11), (16, .iload_n 1, 1, 0, 0, 0), (17, .iconst (-1), 1, 0, 0, 0), (18, .ixor, 1, 0, 0, 0), (19, .iand, 1, 0, 0, 0), (20, .ior, 1, 0, 0, 0), (21, .iastore, 1, 0, 0, 0), (22, .aload_n 0, 1, 0, 0, 0), (23, .iconst 1, 1, 0, 0, 0), (24, .invokevirtual 121, 3, 120, 2, 11), (27, .aload_n 0, 1, 0, 0, 0), (28, .iconst 3, 1, 0, 0, 0), (29, .invokevirtual 125, 3, 121, 2, 11), (32, .ireturn, 1, 0, 0, 0)]
def zr_X11_share : List am_R := [(0, .aload_n 0, 1, 0, 0, 0), (1, .iload_n 1, 1, 0, 0, 0), (2, .invokevirtual 128, 3, 115, 2, 11), (5, .ifCond .ne 5, 3, 10, 0, 0), (8, .iconst (-1), 1, 0, 0, 0), (9, .ireturn, 1, 0, 0, 0), (10, .iconst 0, 1, 0, 0, 0), (11, .istore_n 3, 1, 0, 0, 0), (12, .iconst 0, 1, 0, 0, 0), (13, .istore 4, 2, 0, 0, 0), (15, .iload 4, 2, 0, 0, 0), (17, .aload_n 0, 1, 0, 0, 0), (18, .invokevirtual 174, 3, 116, 1, 11), (21, .if_icmp .gt 67, 3, 88, 0, 0), (24, .iload 4, 2, 0, 0, 0), (26, .iload_n 1, 1, 0, 0, 0), (27, .invokestatic 104, 3, 107, 2, 0), (30, .ifCond .ne 52, 3, 82, 0, 0), (33, .iload 4, 2, 0, 0, 0), (35, .invokestatic 177, 3, 108, 1, 0), (38, .invokestatic 199, 3, 151, 1, 0), (41, .aload_n 0, 1, 0, 0, 0), (42, .getfield 89, 3, 11, 0, 0), (45, .iconst 1, 1, 0, 0, 0), (46, .isub, 1, 0, 0, 0), (47, .iload 4, 2, 0, 0, 0), (49, .invokestatic 177, 3, 108, 1, 0), (52, .isub, 1, 0, 0, 0), (53, .invokestatic 199, 3, 151, 1, 0), (56, .imul, 1, 0, 0, 0), (57, .istore 5, 2, 0, 0, 0), (59, .iload_n 3, 1, 0, 0, 0), (60, .iload 5, 2, 0, 0, 0), (62, .aload_n 0, 1, 0, 0, 0), (63, .iload 4, 2, 0, 0, 0), (65, .iconst 1, 1, 0, 0, 0), (66, .iload_n 1, 1, 0, 0, 0), (67, .ishl, 1, 0, 0, 0), (68, .ior, 1, 0, 0, 0), (69, .invokevirtual 202, 3, 153, 2, 11), (72, .aload_n 0, 1, 0, 0, 0), (73, .iload 4, 2, 0, 0, 0), (75, .invokevirtual 202, 3, 153, 2, 11), (78, .isub, 1, 0, 0, 0), (79, .imul, 1, 0, 0, 0), (80, .iadd, 1, 0, 0, 0), (81, .istore_n 3, 1, 0, 0, 0), (82, .iinc 4 1, 3, 0, 0, 0), (85, .goto (-70), 3, 15, 0, 0), (88, .iload_n 3, 1, 0, 0, 0), (89, .aload_n 0, 1, 0, 0, 0), (90, .getfield 89, 3, 11, 0, 0), (93, .invokestatic 199, 3, 151, 1, 0), (96, .invokestatic 205, 3, 152, 2, 0), (99, .istore 4, 2, 0, 0, 0), (101, .iload_n 2, 1, 0, 0, 0), (102, .ifCond .eq 10, 3, 112, 0, 0), (105, .iload_n 3, 1, 0, 0, 0), (106, .iload 4, 2, 0, 0, 0), (108, .idiv, 1, 0, 0, 0), (109, .goto 13, 3, 122, 0, 0), (112, .aload_n 0, 1, 0, 0, 0), (113, .getfield 89, 3, 11, 0, 0), (116, .invokestatic 199, 3, 151, 1, 0), (119, .iload 4, 2, 0, 0, 0), (121, .idiv, 1, 0, 0, 0), (122, .ireturn, 1, 0, 0, 0)]
def zr_X11_gain : List am_R := [(0, .aload_n 0, 1, 0, 0, 0), (1, .invokevirtual 149, 3, 134, 1, 11), (4, .aload_n 0, 1, 0, 0, 0), (5, .getfield 22, 3, 11, 8, 3), (8, .bipush 39, 2, 0, 0, 0), (10, .dup2, 1, 0, 0, 0), (11, .iaload, 1, 0, 0, 0), (12, .iload_n 3, 1, 0, 0, 0), (13, .iconst 1, 1, 0, 0, 0), (14, .if_icmp .ne 9, 3, 23, 0, 0), (17, .iconst 1, 1, 0, 0, 0), (18, .iload_n 1, 1, 0, 0, 0), (19, .ishl, 1, 0, 0, 0), (20, .goto 4, 3, 24, 0, 0), (23, .iconst 0, 1, 0, 0, 0), (24, .iload 4, 2, 0, 0, 0), (26, .iconst 1, 1, 0, 0, 0), (27, .if_icmp .ne 9, 3, 36, 0, 0), (30, .iconst 1, 1, 0, 0, 0), (31, .iload_n 2, 1, 0, 0, 0), (32, .ishl, 1, 0, 0, 0), (33, .goto 4, 3, 37, 0, 0), (36, .iconst 0, 1, 0, 0, 0), (37, .ior, 1, 0, 0, 0), (38, .ior, 1, 0, 0, 0), (39, .iastore, 1, 0, 0, 0), (40, .aload_n 0, 1, 0, 0, 0), (41, .iconst 1, 1, 0, 0, 0), (42, .invokevirtual 121, 3, 120, 2, 11), (45, .aload_n 0, 1, 0, 0, 0), (46, .getfield 22, 3, 11, 8, 3), (49, .bipush 39, 2, 0, 0, 0), (51, .iaload, 1, 0, 0, 0), (52, .iload_n 1, 1, 0, 0, 0), (53, .invokestatic 104, 3, 107, 2, 0), (56, .ifCond .eq 7, 3, 63, 0, 0), (59, .iconst 2, 1, 0, 0, 0), (60, .goto 4, 3, 64, 0, 0), (63, .iconst 0, 1, 0, 0, 0), (64, .aload_n 0, 1, 0, 0, 0), (65, .getfield 34, 3, 11, 17, 3), (68, .bipush 24, 2, 0, 0, 0), (70, .iload_n 1, 1, 0, 0, 0), (71, .iadd, 1, 0, 0, 0), (72, .iaload, 1, 0, 0, 0), (73, .isub, 1, 0, 0, 0), (74, .ireturn, 1, 0, 0, 0)]
def zr_X11_rests : List am_R := [(0, .aload_n 0, 1, 0, 0, 0), (1, .iload_n 1, 1, 0, 0, 0), (2, .invokevirtual 128, 3, 115, 2, 11), (5, .ifCond .eq 11, 3, 16, 0, 0), (8, .aload_n 0, 1, 0, 0, 0), (9, .iload_n 2, 1, 0, 0, 0), (10, .invokevirtual 128, 3, 115, 2, 11), (13, .ifCond .ne 5, 3, 18, 0, 0), (16, .iconst (-1), 1, 0, 0, 0), (17, .ireturn, 1, 0, 0, 0), (18, .iload_n 1, 1, 0, 0, 0), (19, .iload_n 2, 1, 0, 0, 0), (20, .if_icmp .eq 13, 3, 33, 0, 0), (23, .iload_n 3, 1, 0, 0, 0), (24, .i2l, 1, 0, 0, 0), (25, .lconst 0, 1, 0, 0, 0), (26, .lconst 1, 1, 0, 0, 0), (27, .invokestatic 61, 3, 106, 3, 0), (30, .ifCond .ne 6, 3, 36, 0, 0), (33, .bipush (-2), 2, 0, 0, 0), (35, .ireturn, 1, 0, 0, 0), (36, .iconst 0, 1, 0, 0, 0), (37, .istore 4, 2, 0, 0, 0), (39, .bipush (-9), 2, 0, 0, 0), (41, .istore 5, 2, 0, 0, 0), (43, .iconst 0, 1, 0, 0, 0), (44, .istore 6, 2, 0, 0, 0), (46, .iload 6, 2, 0, 0, 0), (48, .iconst 4, 1, 0, 0, 0), (49, .if_icmp .ge 118, 3, 167, 0, 0), (52, .iload 6, 2, 0, 0, 0), (54, .iconst 2, 1, 0, 0, 0), (55, .idiv, 1, 0, 0, 0), (56, .istore 7, 2, 0, 0, 0), (58, .iload 6, 2, 0, 0, 0), (60, .iconst 2, 1, 0, 0, 0), (61, .irem, 1, 0, 0, 0), (62, .istore 8, 2, 0, 0, 0), (64, .aload_n 0, 1, 0, 0, 0), (65, .iload_n 1, 1, 0, 0, 0), (66, .iload_n 2, 1, 0, 0, 0), (67, .iconst 1, 1, 0, 0, 0), (68, .iload 7, 2, 0, 0, 0), (70, .isub, 1, 0, 0, 0), (71, .iload 8, 2, 0, 0, 0), (73, .invokevirtual 208, 3, 155, 5, 11), (76, .aload_n 0, 1, 0, 0, 0), (77, .iload_n 1, 1, 0, 0, 0), (78, .iload_n 2, 1, 0, 0, 0), (79, .iload 7, 2, 0, 0, 0), (81, .iload 8, 2, 0, 0, 0), (83, .invokevirtual 208, 3, 155, 5, 11), (86, .if_icmp .gt 32, 3, 118, 0, 0), (89, .aload_n 0, 1, 0, 0, 0), (90, .iload_n 2, 1, 0, 0, 0), (91, .iload_n 1, 1, 0, 0, 0), (92, .iconst 1, 1, 0, 0, 0), (93, .iload 8, 2, 0, 0, 0), (95, .isub, 1, 0, 0, 0), (96, .iload 7, 2, 0, 0, 0), (98, .invokevirtual 208, 3, 155, 5, 11), (101, .aload_n 0, 1, 0, 0, 0), (102, .iload_n 2, 1, 0, 0, 0), (103, .iload_n 1, 1, 0, 0, 0), (104, .iload 8, 2, 0, 0, 0), (106, .iload 7, 2, 0, 0, 0), (108, .invokevirtual 208, 3, 155, 5, 11), (111, .if_icmp .gt 7, 3, 118, 0, 0), (114, .iconst 1, 1, 0, 0, 0), (115, .goto 4, 3, 119, 0, 0), (118, .iconst 0, 1, 0, 0, 0), (119, .istore 9, 2, 0, 0, 0), (121, .iload 9, 2, 0, 0, 0), (123, .ifCond .eq 19, 3, 142, 0, 0), (126, .iload 4, 2, 0, 0, 0), (128, .ifCond .ne 14, 3, 142, 0, 0), (131, .bipush 10, 2, 0, 0, 0), (133, .iload 7, 2, 0, 0, 0), (135, .imul, 1, 0, 0, 0), (136, .iload 8, 2, 0, 0, 0), (138, .iadd, 1, 0, 0, 0), (139, .goto 5, 3, 144, 0, 0), (142, .iload 5, 2, 0, 0, 0), (144, .istore 5, 2, 0, 0, 0), (146, .iload 4, 2, 0, 0, 0), (148, .iload 9, 2, 0, 0, 0), (150, .ifCond .eq 7, 3, 157, 0, 0), (153, .iconst 1, 1, 0, 0, 0), (154, .goto 4, 3, 158, 0, 0), (157, .iconst 0, 1, 0, 0, 0), (158, .iadd, 1, 0, 0, 0), (159, .istore 4, 2, 0, 0, 0), (161, .iinc 6 1, 3, 0, 0, 0), (164, .goto (-118), 3, 46, 0, 0), (167, .iload_n 3, 1, 0, 0, 0), (168, .ifCond .ne 8, 3, 176, 0, 0), (171, .iload 4, 2, 0, 0, 0), (173, .goto 5, 3, 178, 0, 0), (176, .iload 5, 2, 0, 0, 0), (178, .ireturn, 1, 0, 0, 0)]
def zr_X11_guests : List am_R := [(0, .iload_n 1, 1, 0, 0, 0), (1, .i2l, 1, 0, 0, 0), (2, .lconst 0, 1, 0, 0, 0), (3, .ldc2_w 212, 3, 0, 0, 60), (6, .invokestatic 61, 3, 106, 3, 0), (9, .ifCond .eq 15, 3, 24, 0, 0), (12, .iload_n 2, 1, 0, 0, 0), (13, .i2l, 1, 0, 0, 0), (14, .lconst 0, 1, 0, 0, 0), (15, .ldc2_w 214, 3, 0, 0, 10), (18, .invokestatic 61, 3, 106, 3, 0), (21, .ifCond .ne 6, 3, 27, 0, 0), (24, .bipush (-2), 2, 0, 0, 0), (26, .ireturn, 1, 0, 0, 0), (27, .iconst 0, 1, 0, 0, 0), (28, .istore 4, 2, 0, 0, 0), (30, .iconst 0, 1, 0, 0, 0), (31, .istore 5, 2, 0, 0, 0), (33, .iconst 0, 1, 0, 0, 0), (34, .istore 6, 2, 0, 0, 0), (36, .iload 6, 2, 0, 0, 0), (38, .aload_n 0, 1, 0, 0, 0), (39, .invokevirtual 174, 3, 116, 1, 11), (42, .if_icmp .gt 79, 3, 121, 0, 0), (45, .iload_n 2, 1, 0, 0, 0), (46, .i2l, 1, 0, 0, 0), (47, .iload 6, 2, 0, 0, 0), (49, .invokestatic 177, 3, 108, 1, 0), (52, .invokestatic 184, 3, 146, 2, 0), (55, .bipush 10, 2, 0, 0, 0), (57, .iload_n 2, 1, 0, 0, 0), (58, .isub, 1, 0, 0, 0), (59, .i2l, 1, 0, 0, 0), (60, .aload_n 0, 1, 0, 0, 0), (61, .getfield 89, 3, 11, 0, 0), (64, .iload 6, 2, 0, 0, 0), (66, .invokestatic 177, 3, 108, 1, 0), (69, .isub, 1, 0, 0, 0), (70, .invokestatic 184, 3, 146, 2, 0), (73, .lmul, 1, 0, 0, 0), (74, .l2i, 1, 0, 0, 0), (75, .istore 7, 2, 0, 0, 0), (77, .aload_n 0, 1, 0, 0, 0), (78, .iload 6, 2, 0, 0, 0), (80, .putfield 115, 3, 11, 18, 0), (83, .aload_n 0, 1, 0, 0, 0), (84, .iconst 0, 1, 0, 0, 0), (85, .invokevirtual 121, 3, 120, 2, 11), (88, .iload 5, 2, 0, 0, 0), (90, .iload 7, 2, 0, 0, 0), (92, .iadd, 1, 0, 0, 0), (93, .istore 5, 2, 0, 0, 0), (95, .iload 4, 2, 0, 0, 0), (97, .aload_n 0, 1, 0, 0, 0), (98, .iconst 4, 1, 0, 0, 0), (99, .invokevirtual 125, 3, 121, 2, 11), (102, .iload_n 1, 1, 0, 0, 0), (103, .if_icmp .lt 8, 3, 111, 0, 0), (106, .iload 7, 2, 0, 0, 0), (108, .goto 4, 3, 112, 0, 0), (111, .iconst 0, 1, 0, 0, 0), (112, .iadd, 1, 0, 0, 0), (113, .istore 4, 2, 0, 0, 0), (115, .iinc 6 1, 3, 0, 0, 0), (118, .goto (-82), 3, 36, 0, 0), (121, .aload_n 0, 1, 0, 0, 0), (122, .iconst 0, 1, 0, 0, 0), (123, .putfield 115, 3, 11, 18, 0), (126, .iload 4, 2, 0, 0, 0), (128, .iload 5, 2, 0, 0, 0), (130, .invokestatic 205, 3, 152, 2, 0), (133, .istore 6, 2, 0, 0, 0), (135, .iload_n 3, 1, 0, 0, 0), (136, .ifCond .eq 11, 3, 147, 0, 0), (139, .iload 4, 2, 0, 0, 0), (141, .iload 6, 2, 0, 0, 0), (143, .idiv, 1, 0, 0, 0), (144, .goto 8, 3, 152, 0, 0), (147, .iload 5, 2, 0, 0, 0), (149, .iload 6, 2, 0, 0, 0), (151, .idiv, 1, 0, 0, 0), (152, .ireturn, 1, 0, 0, 0)]
def zr_X11_seed : List am_R := [(0, .aload_n 0, 1, 0, 0, 0), (1, .getfield 216, 3, 11, 27, 2), (4, .lstore_n 3, 1, 0, 0, 0), (5, .aload_n 0, 1, 0, 0, 0), (6, .lload_n 1, 1, 0, 0, 0), (7, .putfield 216, 3, 11, 27, 2), (10, .lload_n 3, 1, 0, 0, 0), (11, .lreturn, 1, 0, 0, 0)]
def zr_X11_weeks : List am_R := [(0, .iload_n 1, 1, 0, 0, 0), (1, .i2l, 1, 0, 0, 0), (2, .lconst 1, 1, 0, 0, 0), (3, .ldc2_w 194, 3, 0, 0, 30), (6, .invokestatic 61, 3, 106, 3, 0), (9, .ifCond .ne 6, 3, 15, 0, 0), (12, .bipush (-2), 2, 0, 0, 0), (14, .ireturn, 1, 0, 0, 0), (15, .aload_n 0, 1, 0, 0, 0), (16, .invokevirtual 149, 3, 134, 1, 11), (19, .iconst 0, 1, 0, 0, 0), (20, .istore_n 2, 1, 0, 0, 0), (21, .iload_n 2, 1, 0, 0, 0), (22, .iload_n 1, 1, 0, 0, 0), (23, .if_icmp .ge 117, 3, 140, 0, 0), (26, .aload_n 0, 1, 0, 0, 0), (27, .aload_n 0, 1, 0, 0, 0), (28, .getfield 216, 3, 11, 27, 2), (31, .ldc2_w 220, 3, 0, 0, 6364136223846793005), (34, .lmul, 1, 0, 0, 0), (35, .ldc2_w 222, 3, 0, 0, 1442695040888963407), (38, .ladd, 1, 0, 0, 0), (39, .putfield 216, 3, 11, 27, 2), (42, .aload_n 0, 1, 0, 0, 0), (43, .getfield 216, 3, 11, 27, 2), (46, .bipush 33, 2, 0, 0, 0), (48, .lushr, 1, 0, 0, 0), (49, .ldc2_w 224, 3, 0, 0, 18), (52, .lrem, 1, 0, 0, 0), (53, .l2i, 1, 0, 0, 0), (54, .istore_n 3, 1, 0, 0, 0), (55, .iload_n 3, 1, 0, 0, 0), (56, .bipush 11, 2, 0, 0, 0), (58, .if_icmp .le 12, 3, 70, 0, 0), (61, .aload_n 0, 1, 0, 0, 0), (62, .iconst 1, 1, 0, 0, 0), (63, .invokevirtual 140, 3, 122, 2, 11), (66, .pop, 1, 0, 0, 0), (67, .goto 67, 3, 134, 0, 0), (70, .iload_n 3, 1, 0, 0, 0), (71, .iconst 5, 1, 0, 0, 0), (72, .if_icmp .le 37, 3, 109, 0, 0), (75, .aload_n 0, 1, 0, 0, 0), (76, .getfield 22, 3, 11, 8, 3), (79, .bipush 40, 2, 0, 0, 0), (81, .dup2, 1, 0, 0, 0), (82, .iaload, 1, 0, 0, 0), (83, .aload_n 0, 1, 0, 0, 0), (84, .iload_n 3, 1, 0, 0, 0), (85, .bipush 6, 2, 0, 0, 0), (87, .isub, 1, 0, 0, 0), (88, .invokevirtual 128, 3, 115, 2, 11), (91, .ifCond .eq 12, 3, 103, 0, 0), (94, .iconst 1, 1, 0, 0, 0), (95, .iload_n 3, 1, 0, 0, 0), (96, .bipush 6, 2, 0, 0, 0), (98, .isub, 1, 0, 0, 0), (99, .ishl, 1, 0, 0, 0), (100, .goto 4, 3, 104, 0, 0), (103, .iconst 0, 1, 0, 0, 0), (104, .ixor, 1, 0, 0, 0), (105, .iastore, 1, 0, 0, 0), (106, .goto 28, 3, 134, 0, 0), (109, .aload_n 0, 1, 0, 0, 0), (110, .getfield 22, 3, 11, 8, 3), (113, .bipush 39, 2, 0, 0, 0), (115, .dup2, 1, 0, 0, 0), (116, .iaload, 1, 0, 0, 0), (117, .aload_n 0, 1, 0, 0, 0), (118, .iload_n 3, 1, 0, 0, 0), (119, .invokevirtual 128, 3, 115, 2, 11), (122, .ifCond .eq 9, 3, 131, 0, 0), (125, .iconst 1, 1, 0, 0, 0), (126, .iload_n 3, 1, 0, 0, 0), (127, .ishl, 1, 0, 0, 0), (128, .goto 4, 3, 132, 0, 0), (131, .iconst 0, 1, 0, 0, 0), (132, .ior, 1, 0, 0, 0), (133, .iastore, 1, 0, 0, 0), (134, .iinc 2 1, 3, 0, 0, 0), (137, .goto (-116), 3, 21, 0, 0), (140, .aload_n 0, 1, 0, 0, 0), (141, .iconst 1, 1, 0, 0, 0), (142, .invokevirtual 152, 3, 123, 2, 11), (145, .aload_n 0, 1, 0, 0, 0), (146, .iconst 0, 1, 0, 0, 0), (147, .invokevirtual 152, 3, 123, 2, 11), (150, .isub, 1, 0, 0, 0), (151, .ireturn, 1, 0, 0, 0)]
def zr_X11_keep : List am_R := [(0, .iload_n 1, 1, 0, 0, 0), (1, .i2l, 1, 0, 0, 0), (2, .lconst 0, 1, 0, 0, 0), (3, .lconst 1, 1, 0, 0, 0), (4, .invokestatic 61, 3, 106, 3, 0), (7, .ifCond .ne 5, 3, 12, 0, 0), (10, .iconst (-1), 1, 0, 0, 0), (11, .ireturn, 1, 0, 0, 0), (12, .aload_n 0, 1, 0, 0, 0), (13, .getfield 52, 3, 11, 28, 3), (16, .iload_n 1, 1, 0, 0, 0), (17, .iconst 1, 1, 0, 0, 0), (18, .bastore, 1, 0, 0, 0), (19, .iconst 0, 1, 0, 0, 0), (20, .istore_n 2, 1, 0, 0, 0), (21, .iload_n 2, 1, 0, 0, 0), (22, .bipush 21, 2, 0, 0, 0), (24, .if_icmp .ge 26, 3, 50, 0, 0), (27, .aload_n 0, 1, 0, 0, 0), (28, .getfield 56, 3, 11, 29, 3), (31, .bipush 21, 2, 0, 0, 0), (33, .iload_n 1, 1, 0, 0, 0), (34, .imul, 1, 0, 0, 0), (35, .iload_n 2, 1, 0, 0, 0), (36, .iadd, 1, 0, 0, 0), (37, .aload_n 0, 1, 0, 0, 0), (38, .getfield 22, 3, 11, 8, 3), (41, .iload_n 2, 1, 0, 0, 0), (42, .iaload, 1, 0, 0, 0), (43, .iastore, 1, 0, 0, 0), (44, .iinc 2 1, 3, 0, 0, 0), (47, .goto (-26), 3, 21, 0, 0), (50, .aload_n 0, 1, 0, 0, 0), (51, .getfield 22, 3, 11, 8, 3), (54, .bipush 20, 2, 0, 0, 0), (56, .iaload, 1, 0, 0, 0), (57, .ireturn, 1, 0, 0, 0)]
def zr_X11_again : List am_R := [(0, .iload_n 1, 1, 0, 0, 0), (1, .i2l, 1, 0, 0, 0), (2, .lconst 0, 1, 0, 0, 0), (3, .lconst 1, 1, 0, 0, 0), (4, .invokestatic 61, 3, 106, 3, 0), (7, .ifCond .ne 5, 3, 12, 0, 0), (10, .iconst (-1), 1, 0, 0, 0), (11, .ireturn, 1, 0, 0, 0), (12, .aload_n 0, 1, 0, 0, 0), (13, .getfield 52, 3, 11, 28, 3), (16, .iload_n 1, 1, 0, 0, 0), (17, .baload, 1, 0, 0, 0), (18, .ifCond .ne 6, 3, 24, 0, 0), (21, .bipush (-3), 2, 0, 0, 0), (23, .ireturn, 1, 0, 0, 0), (24, .iconst 0, 1, 0, 0, 0), (25, .istore_n 2, 1, 0, 0, 0), (26, .iload_n 2, 1, 0, 0, 0), (27, .bipush 21, 2, 0, 0, 0), (29, .if_icmp .ge 26, 3, 55, 0, 0), (32, .aload_n 0, 1, 0, 0, 0), (33, .getfield 22, 3, 11, 8, 3), (36, .iload_n 2, 1, 0, 0, 0), (37, .aload_n 0, 1, 0, 0, 0), (38, .getfield 56, 3, 11, 29, 3), (41, .bipush 21, 2, 0, 0, 0), (43, .iload_n 1, 1, 0, 0, 0), (44, .imul, 1, 0, 0, 0), (45, .iload_n 2, 1, 0, 0, 0), (46, .iadd, 1, 0, 0, 0), (47, .iaload, 1, 0, 0, 0), (48, .iastore, 1, 0, 0, 0), (49, .iinc 2 1, 3, 0, 0, 0), (52, .goto (-26), 3, 26, 0, 0), (55, .aload_n 0, 1, 0, 0, 0), (56, .iconst 0, 1, 0, 0, 0), (57, .putfield 101, 3, 11, 19, 0), (60, .aload_n 0, 1, 0, 0, 0), (61, .getfield 22, 3, 11, 8, 3), (64, .bipush 20, 2, 0, 0, 0), (66, .iaload, 1, 0, 0, 0), (67, .ireturn, 1, 0, 0, 0)]
def zr_X11_count : List am_R := [(0, .aload_n 0, 1, 0, 0, 0), (1, .iconst 0, 1, 0, 0, 0), (2, .invokevirtual 121, 3, 120, 2, 11), (5, .iload_n 1, 1, 0, 0, 0), (6, .tableswitch 125 0 10 #[58, 63, 68, 73, 81, 87, 93, 99, 107, 115, 120], 58, 0, 0, 0), (64, .aload_n 0, 1, 0, 0, 0), (65, .getfield 65, 3, 11, 14, 0), (68, .ireturn, 1, 0, 0, 0), (69, .aload_n 0, 1, 0, 0, 0), (70, .getfield 89, 3, 11, 0, 0), (73, .ireturn, 1, 0, 0, 0), (74, .aload_n 0, 1, 0, 0, 0), (75, .getfield 92, 3, 11, 1, 0), (78, .ireturn, 1, 0, 0, 0), (79, .aload_n 0, 1, 0, 0, 0), (80, .getfield 22, 3, 11, 8, 3), (83, .bipush 20, 2, 0, 0, 0), (85, .iaload, 1, 0, 0, 0), (86, .ireturn, 1, 0, 0, 0), (87, .aload_n 0, 1, 0, 0, 0), (88, .iconst 0, 1, 0, 0, 0), (89, .invokevirtual 112, 3, 117, 2, 11), (92, .ireturn, 1, 0, 0, 0), (93, .aload_n 0, 1, 0, 0, 0), (94, .iconst 4, 1, 0, 0, 0), (95, .invokevirtual 125, 3, 121, 2, 11), (98, .ireturn, 1, 0, 0, 0), (99, .aload_n 0, 1, 0, 0, 0), (100, .iconst 0, 1, 0, 0, 0), (101, .invokevirtual 152, 3, 123, 2, 11), (104, .ireturn, 1, 0, 0, 0), (105, .aload_n 0, 1, 0, 0, 0), (106, .getfield 22, 3, 11, 8, 3), (109, .bipush 18, 2, 0, 0, 0), (111, .iaload, 1, 0, 0, 0), (112, .ireturn, 1, 0, 0, 0), (113, .aload_n 0, 1, 0, 0, 0), (114, .getfield 22, 3, 11, 8, 3), (117, .bipush 19, 2, 0, 0, 0), (119, .iaload, 1, 0, 0, 0), (120, .ireturn, 1, 0, 0, 0), (121, .aload_n 0, 1, 0, 0, 0), (122, .getfield 101, 3, 11, 19, 0), (125, .ireturn, 1, 0, 0, 0), (126, .aload_n 0, 1, 0, 0, 0), (127, .getfield 196, 3, 11, 23, 0), (130, .ireturn, 1, 0, 0, 0), (131, .bipush (-2), 2, 0, 0, 0), (133, .ireturn, 1, 0, 0, 0)]
def zr_J6_bitCount_0f7a4 : List am_R := [(0, .iload_n 0, 1, 0, 0, 0), (1, .iload_n 0, 1, 0, 0, 0), (2, .iconst 1, 1, 0, 0, 0), (3, .iushr, 1, 0, 0, 0), (4, .ldc_w 265, 3, 0, 0, 1431655765), (7, .iand, 1, 0, 0, 0), (8, .isub, 1, 0, 0, 0), (9, .istore_n 0, 1, 0, 0, 0), (10, .iload_n 0, 1, 0, 0, 0), (11, .ldc_w 266, 3, 0, 0, 858993459), (14, .iand, 1, 0, 0, 0), (15, .iload_n 0, 1, 0, 0, 0), (16, .iconst 2, 1, 0, 0, 0), (17, .iushr, 1, 0, 0, 0), (18, .ldc_w 266, 3, 0, 0, 858993459), (21, .iand, 1, 0, 0, 0), (22, .iadd, 1, 0, 0, 0), (23, .istore_n 0, 1, 0, 0, 0), (24, .iload_n 0, 1, 0, 0, 0), (25, .iload_n 0, 1, 0, 0, 0), (26, .iconst 4, 1, 0, 0, 0), (27, .iushr, 1, 0, 0, 0), (28, .iadd, 1, 0, 0, 0), (29, .ldc_w 267, 3, 0, 0, 252645135), (32, .iand, 1, 0, 0, 0), (33, .istore_n 0, 1, 0, 0, 0), (34, .iload_n 0, 1, 0, 0, 0), (35, .iload_n 0, 1, 0, 0, 0), (36, .bipush 8, 2, 0, 0, 0), (38, .iushr, 1, 0, 0, 0), (39, .iadd, 1, 0, 0, 0), (40, .istore_n 0, 1, 0, 0, 0), (41, .iload_n 0, 1, 0, 0, 0), (42, .iload_n 0, 1, 0, 0, 0), (43, .bipush 16, 2, 0, 0, 0), (45, .iushr, 1, 0, 0, 0), (46, .iadd, 1, 0, 0, 0), (47, .istore_n 0, 1, 0, 0, 0), (48, .iload_n 0, 1, 0, 0, 0), (49, .bipush 63, 2, 0, 0, 0), (51, .iand, 1, 0, 0, 0), (52, .ireturn, 1, 0, 0, 0)]
def zr_J9_floorMod_7cf53 : List am_R := [(0, .iload_n 0, 1, 0, 0, 0), (1, .iload_n 1, 1, 0, 0, 0), (2, .irem, 1, 0, 0, 0), (3, .istore_n 2, 1, 0, 0, 0), (4, .iload_n 0, 1, 0, 0, 0), (5, .iload_n 1, 1, 0, 0, 0), (6, .ixor, 1, 0, 0, 0), (7, .ifCond .ge 11, 3, 18, 0, 0), (10, .iload_n 2, 1, 0, 0, 0), (11, .ifCond .eq 7, 3, 18, 0, 0), (14, .iload_n 2, 1, 0, 0, 0), (15, .iload_n 1, 1, 0, 0, 0), (16, .iadd, 1, 0, 0, 0), (17, .ireturn, 1, 0, 0, 0), (18, .iload_n 2, 1, 0, 0, 0), (19, .ireturn, 1, 0, 0, 0)]
def zr_J9_abs_0f7a4 : List am_R := [(0, .iload_n 0, 1, 0, 0, 0), (1, .ifCond .ge 8, 3, 9, 0, 0), (4, .iload_n 0, 1, 0, 0, 0), (5, .ineg, 1, 0, 0, 0), (6, .goto 4, 3, 10, 0, 0), (9, .iload_n 0, 1, 0, 0, 0), (10, .ireturn, 1, 0, 0, 0)]
def zr_J9_max_7cf53 : List am_R := [(0, .iload_n 0, 1, 0, 0, 0), (1, .iload_n 1, 1, 0, 0, 0), (2, .if_icmp .lt 7, 3, 9, 0, 0), (5, .iload_n 0, 1, 0, 0, 0), (6, .goto 4, 3, 10, 0, 0), (9, .iload_n 1, 1, 0, 0, 0), (10, .ireturn, 1, 0, 0, 0)]
def zr_J9_min_7cf53 : List am_R := [(0, .iload_n 0, 1, 0, 0, 0), (1, .iload_n 1, 1, 0, 0, 0), (2, .if_icmp .gt 7, 3, 9, 0, 0), (5, .iload_n 0, 1, 0, 0, 0), (6, .goto 4, 3, 10, 0, 0), (9, .iload_n 1, 1, 0, 0, 0), (10, .ireturn, 1, 0, 0, 0)]
def zr_L_law : List am_R := [(0, .new 7, 3, 10, 0, 0), (3, .dup, 1, 0, 0, 0), (4, .invokespecial 9, 3, 63, 1, 0), (7, .astore_n 1, 1, 0, 0, 0), (8, .new 10, 3, 11, 0, 0), (11, .dup, 1, 0, 0, 0), (12, .invokespecial 12, 3, 105, 1, 0), (15, .astore_n 2, 1, 0, 0, 0), (16, .iconst 0, 1, 0, 0, 0), (17, .istore_n 3, 1, 0, 0, 0), (18, .iload_n 3, 1, 0, 0, 0), (19, .aload_n 0, 1, 0, 0, 0), (20, .arraylength, 1, 0, 0, 0), (21, .iconst 4, 1, 0, 0, 0), (22, .isub, 1, 0, 0, 0), (23, .if_icmp .gt 999, 3, 1022, 0, 0), (26, .aload_n 0, 1, 0, 0, 0), (27, .iload_n 3, 1, 0, 0, 0), (28, .iaload, 1, 0, 0, 0), (29, .bipush 31, 2, 0, 0, 0), (31, .iand, 1, 0, 0, 0), (32, .tableswitch 984 0 28 #[132, 155, 168, 181, 194, 227, 260, 283, 296, 329, 352, 375, 388, 421, 460, 499, 522, 545, 608, 651, 664, 687, 736, 779, 838, 892, 915, 938, 961], 132, 0, 0, 0), (164, .aload_n 1, 1, 0, 0, 0), (165, .aload_n 0, 1, 0, 0, 0), (166, .iload_n 3, 1, 0, 0, 0), (167, .iconst 1, 1, 0, 0, 0), (168, .iadd, 1, 0, 0, 0), (169, .iaload, 1, 0, 0, 0), (170, .invokevirtual 13, 3, 64, 2, 10), (173, .aload_n 2, 1, 0, 0, 0), (174, .aload_n 0, 1, 0, 0, 0), (175, .iload_n 3, 1, 0, 0, 0), (176, .iconst 1, 1, 0, 0, 0), (177, .iadd, 1, 0, 0, 0), (178, .iaload, 1, 0, 0, 0), (179, .invokevirtual 17, 3, 109, 2, 11), (182, .if_icmp .eq 834, 3, 1016, 0, 0), (185, .iconst 0, 1, 0, 0, 0), (186, .ireturn, 1, 1, 0, 0), (187, .aload_n 1, 1, 0, 0, 0), (188, .invokevirtual 18, 3, 65, 1, 10), (191, .aload_n 2, 1, 0, 0, 0), (192, .invokevirtual 22, 3, 110, 1, 11), (195, .if_icmp .eq 821, 3, 1016, 0, 0), (198, .iconst 0, 1, 0, 0, 0), (199, .ireturn, 1, 1, 0, 0), (200, .aload_n 1, 1, 0, 0, 0), (201, .invokevirtual 23, 3, 66, 1, 10), (204, .aload_n 2, 1, 0, 0, 0), (205, .invokevirtual 26, 3, 113, 1, 11), (208, .if_icmp .eq 808, 3, 1016, 0, 0), (211, .iconst 0, 1, 0, 0, 0), (212, .ireturn, 1, 1, 0, 0), (213, .aload_n 1, 1, 0, 0, 0), (214, .invokevirtual 27, 3, 67, 1, 10), (217, .aload_n 2, 1, 0, 0, 0), (218, .invokevirtual 30, 3, 114, 1, 11), (221, .if_icmp .eq 795, 3, 1016, 0, 0), (224, .iconst 0, 1, 0, 0, 0), (225, .ireturn, 1, 1, 0, 0), (226, .aload_n 1, 1, 0, 0, 0), (227, .aload_n 0, 1, 0, 0, 0), (228, .iload_n 3, 1, 0, 0, 0), (229, .iconst 1, 1, 0, 0, 0), (230, .iadd, 1, 0, 0, 0), (231, .iaload, 1, 0, 0, 0), (232, .aload_n 0, 1, 0, 0, 0), (233, .iload_n 3, 1, 0, 0, 0), (234, .iconst 2, 1, 0, 0, 0), (235, .iadd, 1, 0, 0, 0), (236, .iaload, 1, 0, 0, 0), (237, .invokevirtual 31, 3, 68, 3, 10), (240, .aload_n 2, 1, 0, 0, 0), (241, .aload_n 0, 1, 0, 0, 0), (242, .iload_n 3, 1, 0, 0, 0), (243, .iconst 1, 1, 0, 0, 0), (244, .iadd, 1, 0, 0, 0), (245, .iaload, 1, 0, 0, 0), (246, .aload_n 0, 1, 0, 0, 0), (247, .iload_n 3, 1, 0, 0, 0), (248, .iconst 2, 1, 0, 0, 0), (249, .iadd, 1, 0, 0, 0), (250, .iaload, 1, 0, 0, 0), (251, .invokevirtual 35, 3, 124, 3, 11), (254, .if_icmp .eq 762, 3, 1016, 0, 0), (257, .iconst 0, 1, 0, 0, 0), (258, .ireturn, 1, 1, 0, 0), (259, .aload_n 1, 1, 0, 0, 0), (260, .aload_n 0, 1, 0, 0, 0), (261, .iload_n 3, 1, 0, 0, 0), (262, .iconst 1, 1, 0, 0, 0), (263, .iadd, 1, 0, 0, 0), (264, .iaload, 1, 0, 0, 0), (265, .aload_n 0, 1, 0, 0, 0), (266, .iload_n 3, 1, 0, 0, 0), (267, .iconst 2, 1, 0, 0, 0), (268, .iadd, 1, 0, 0, 0), (269, .iaload, 1, 0, 0, 0), (270, .invokevirtual 36, 3, 69, 3, 10), (273, .aload_n 2, 1, 0, 0, 0), (274, .aload_n 0, 1, 0, 0, 0), (275, .iload_n 3, 1, 0, 0, 0), (276, .iconst 1, 1, 0, 0, 0), (277, .iadd, 1, 0, 0, 0), (278, .iaload, 1, 0, 0, 0), (279, .aload_n 0, 1, 0, 0, 0), (280, .iload_n 3, 1, 0, 0, 0), (281, .iconst 2, 1, 0, 0, 0), (282, .iadd, 1, 0, 0, 0), (283, .iaload, 1, 0, 0, 0), (284, .invokevirtual 39, 3, 125, 3, 11), (287, .if_icmp .eq 729, 3, 1016, 0, 0), (290, .iconst 0, 1, 0, 0, 0), (291, .ireturn, 1, 1, 0, 0), (292, .aload_n 1, 1, 0, 0, 0), (293, .aload_n 0, 1, 0, 0, 0), (294, .iload_n 3, 1, 0, 0, 0), (295, .iconst 1, 1, 0, 0, 0), (296, .iadd, 1, 0, 0, 0), (297, .iaload, 1, 0, 0, 0), (298, .invokevirtual 40, 3, 70, 2, 10), (301, .aload_n 2, 1, 0, 0, 0), (302, .aload_n 0, 1, 0, 0, 0), (303, .iload_n 3, 1, 0, 0, 0), (304, .iconst 1, 1, 0, 0, 0), (305, .iadd, 1, 0, 0, 0), (306, .iaload, 1, 0, 0, 0), (307, .invokevirtual 43, 3, 126, 2, 11), (310, .if_icmp .eq 706, 3, 1016, 0, 0), (313, .iconst 0, 1, 0, 0, 0), (314, .ireturn, 1, 1, 0, 0), (315, .aload_n 1, 1, 0, 0, 0), (316, .invokevirtual 44, 3, 71, 1, 10), (319, .aload_n 2, 1, 0, 0, 0), (320, .invokevirtual 47, 3, 128, 1, 11), (323, .if_icmp .eq 693, 3, 1016, 0, 0), (326, .iconst 0, 1, 0, 0, 0), (327, .ireturn, 1, 1, 0, 0), (328, .aload_n 1, 1, 0, 0, 0), (329, .aload_n 0, 1, 0, 0, 0), (330, .iload_n 3, 1, 0, 0, 0), (331, .iconst 1, 1, 0, 0, 0), (332, .iadd, 1, 0, 0, 0), (333, .iaload, 1, 0, 0, 0), (334, .aload_n 0, 1, 0, 0, 0), (335, .iload_n 3, 1, 0, 0, 0), (336, .iconst 2, 1, 0, 0, 0), (337, .iadd, 1, 0, 0, 0), (338, .iaload, 1, 0, 0, 0), (339, .invokevirtual 48, 3, 72, 3, 10), (342, .aload_n 2, 1, 0, 0, 0), (343, .aload_n 0, 1, 0, 0, 0), (344, .iload_n 3, 1, 0, 0, 0), (345, .iconst 1, 1, 0, 0, 0), (346, .iadd, 1, 0, 0, 0), (347, .iaload, 1, 0, 0, 0), (348, .aload_n 0, 1, 0, 0, 0), (349, .iload_n 3, 1, 0, 0, 0), (350, .iconst 2, 1, 0, 0, 0), (351, .iadd, 1, 0, 0, 0), (352, .iaload, 1, 0, 0, 0), (353, .invokevirtual 51, 3, 130, 3, 11), (356, .if_icmp .eq 660, 3, 1016, 0, 0), (359, .iconst 0, 1, 0, 0, 0), (360, .ireturn, 1, 1, 0, 0), (361, .aload_n 1, 1, 0, 0, 0), (362, .aload_n 0, 1, 0, 0, 0), (363, .iload_n 3, 1, 0, 0, 0), (364, .iconst 1, 1, 0, 0, 0), (365, .iadd, 1, 0, 0, 0), (366, .iaload, 1, 0, 0, 0), (367, .invokevirtual 52, 3, 73, 2, 10), (370, .aload_n 2, 1, 0, 0, 0), (371, .aload_n 0, 1, 0, 0, 0), (372, .iload_n 3, 1, 0, 0, 0), (373, .iconst 1, 1, 0, 0, 0), (374, .iadd, 1, 0, 0, 0), (375, .iaload, 1, 0, 0, 0), (376, .invokevirtual 55, 3, 131, 2, 11), (379, .if_icmp .eq 637, 3, 1016, 0, 0), (382, .iconst 0, 1, 0, 0, 0), (383, .ireturn, 1, 1, 0, 0), (384, .aload_n 1, 1, 0, 0, 0), (385, .aload_n 0, 1, 0, 0, 0), (386, .iload_n 3, 1, 0, 0, 0), (387, .iconst 1, 1, 0, 0, 0), (388, .iadd, 1, 0, 0, 0), (389, .iaload, 1, 0, 0, 0), (390, .invokevirtual 56, 3, 74, 2, 10), (393, .aload_n 2, 1, 0, 0, 0), (394, .aload_n 0, 1, 0, 0, 0), (395, .iload_n 3, 1, 0, 0, 0), (396, .iconst 1, 1, 0, 0, 0), (397, .iadd, 1, 0, 0, 0), (398, .iaload, 1, 0, 0, 0), (399, .invokevirtual 59, 3, 132, 2, 11), (402, .if_icmp .eq 614, 3, 1016, 0, 0), (405, .iconst 0, 1, 0, 0, 0), (406, .ireturn, 1, 1, 0, 0), (407, .aload_n 1, 1, 0, 0, 0), (408, .invokevirtual 60, 3, 75, 1, 10), (411, .aload_n 2, 1, 0, 0, 0), (412, .invokevirtual 63, 3, 133, 1, 11), (415, .if_icmp .eq 601, 3, 1016, 0, 0), (418, .iconst 0, 1, 0, 0, 0), (419, .ireturn, 1, 1, 0, 0), (420, .aload_n 1, 1, 0, 0, 0), (421, .aload_n 0, 1, 0, 0, 0), (422, .iload_n 3, 1, 0, 0, 0), (423, .iconst 1, 1, 0, 0, 0), (424, .iadd, 1, 0, 0, 0), (425, .iaload, 1, 0, 0, 0), (426, .aload_n 0, 1, 0, 0, 0), (427, .iload_n 3, 1, 0, 0, 0), (428, .iconst 2, 1, 0, 0, 0), (429, .iadd, 1, 0, 0, 0), (430, .iaload, 1, 0, 0, 0), (431, .invokevirtual 64, 3, 76, 3, 10), (434, .aload_n 2, 1, 0, 0, 0), (435, .aload_n 0, 1, 0, 0, 0), (436, .iload_n 3, 1, 0, 0, 0), (437, .iconst 1, 1, 0, 0, 0), (438, .iadd, 1, 0, 0, 0), (439, .iaload, 1, 0, 0, 0), (440, .aload_n 0, 1, 0, 0, 0), (441, .iload_n 3, 1, 0, 0, 0), (442, .iconst 2, 1, 0, 0, 0), (443, .iadd, 1, 0, 0, 0), (444, .iaload, 1, 0, 0, 0), (445, .invokevirtual 67, 3, 135, 3, 11), (448, .if_icmp .eq 568, 3, 1016, 0, 0), (451, .iconst 0, 1, 0, 0, 0), (452, .ireturn, 1, 1, 0, 0), (453, .aload_n 1, 1, 0, 0, 0), (454, .aload_n 0, 1, 0, 0, 0), (455, .iload_n 3, 1, 0, 0, 0), (456, .iconst 1, 1, 0, 0, 0), (457, .iadd, 1, 0, 0, 0), (458, .iaload, 1, 0, 0, 0), (459, .ifCond .eq 7, 3, 466, 0, 0), (462, .iconst 1, 1, 0, 0, 0), (463, .goto 4, 3, 467, 0, 0), (466, .iconst 0, 1, 0, 0, 0), (467, .invokevirtual 68, 3, 77, 2, 10), (470, .aload_n 2, 1, 0, 0, 0), (471, .aload_n 0, 1, 0, 0, 0), (472, .iload_n 3, 1, 0, 0, 0), (473, .iconst 1, 1, 0, 0, 0), (474, .iadd, 1, 0, 0, 0), (475, .iaload, 1, 0, 0, 0), (476, .ifCond .eq 7, 3, 483, 0, 0), (479, .iconst 1, 1, 0, 0, 0), (480, .goto 4, 3, 484, 0, 0), (483, .iconst 0, 1, 0, 0, 0), (484, .invokevirtual 72, 3, 141, 2, 11), (487, .if_icmp .eq 529, 3, 1016, 0, 0), (490, .iconst 0, 1, 0, 0, 0), (491, .ireturn, 1, 1, 0, 0), (492, .aload_n 1, 1, 0, 0, 0), (493, .aload_n 0, 1, 0, 0, 0), (494, .iload_n 3, 1, 0, 0, 0), (495, .iconst 1, 1, 0, 0, 0), (496, .iadd, 1, 0, 0, 0), (497, .iaload, 1, 0, 0, 0), (498, .ifCond .eq 7, 3, 505, 0, 0), (501, .iconst 1, 1, 0, 0, 0), (502, .goto 4, 3, 506, 0, 0), (505, .iconst 0, 1, 0, 0, 0), (506, .invokevirtual 73, 3, 78, 2, 10), (509, .aload_n 2, 1, 0, 0, 0), (510, .aload_n 0, 1, 0, 0, 0), (511, .iload_n 3, 1, 0, 0, 0), (512, .iconst 1, 1, 0, 0, 0), (513, .iadd, 1, 0, 0, 0), (514, .iaload, 1, 0, 0, 0), (515, .ifCond .eq 7, 3, 522, 0, 0), (518, .iconst 1, 1, 0, 0, 0), (519, .goto 4, 3, 523, 0, 0), (522, .iconst 0, 1, 0, 0, 0), (523, .invokevirtual 76, 3, 142, 2, 11), (526, .if_icmp .eq 490, 3, 1016, 0, 0), (529, .iconst 0, 1, 0, 0, 0), (530, .ireturn, 1, 1, 0, 0), (531, .aload_n 1, 1, 0, 0, 0), (532, .aload_n 0, 1, 0, 0, 0), (533, .iload_n 3, 1, 0, 0, 0), (534, .iconst 1, 1, 0, 0, 0), (535, .iadd, 1, 0, 0, 0), (536, .iaload, 1, 0, 0, 0), (537, .invokevirtual 77, 3, 79, 2, 10), (540, .aload_n 2, 1, 0, 0, 0), (541, .aload_n 0, 1, 0, 0, 0), (542, .iload_n 3, 1, 0, 0, 0), (543, .iconst 1, 1, 0, 0, 0), (544, .iadd, 1, 0, 0, 0), (545, .iaload, 1, 0, 0, 0), (546, .invokevirtual 80, 3, 143, 2, 11), (549, .if_icmp .eq 467, 3, 1016, 0, 0), (552, .iconst 0, 1, 0, 0, 0), (553, .ireturn, 1, 1, 0, 0), (554, .aload_n 1, 1, 0, 0, 0), (555, .aload_n 0, 1, 0, 0, 0), (556, .iload_n 3, 1, 0, 0, 0), (557, .iconst 1, 1, 0, 0, 0), (558, .iadd, 1, 0, 0, 0), (559, .iaload, 1, 0, 0, 0), (560, .invokevirtual 81, 3, 80, 2, 10), (563, .aload_n 2, 1, 0, 0, 0), (564, .aload_n 0, 1, 0, 0, 0), (565, .iload_n 3, 1, 0, 0, 0), (566, .iconst 1, 1, 0, 0, 0), (567, .iadd, 1, 0, 0, 0), (568, .iaload, 1, 0, 0, 0), (569, .invokevirtual 84, 3, 144, 2, 11), (572, .if_icmp .eq 444, 3, 1016, 0, 0), (575, .iconst 0, 1, 0, 0, 0), (576, .ireturn, 1, 1, 0, 0), (577, .aload_n 1, 1, 0, 0, 0), (578, .aload_n 0, 1, 0, 0, 0), (579, .iload_n 3, 1, 0, 0, 0), (580, .iconst 1, 1, 0, 0, 0), (581, .iadd, 1, 0, 0, 0), (582, .iaload, 1, 0, 0, 0), (583, .aload_n 0, 1, 0, 0, 0), (584, .iload_n 3, 1, 0, 0, 0), (585, .iconst 2, 1, 0, 0, 0), (586, .iadd, 1, 0, 0, 0), (587, .iaload, 1, 0, 0, 0), (588, .i2l, 1, 0, 0, 0), (589, .bipush 32, 2, 0, 0, 0), (591, .lshl, 1, 0, 0, 0), (592, .aload_n 0, 1, 0, 0, 0), (593, .iload_n 3, 1, 0, 0, 0), (594, .iconst 3, 1, 0, 0, 0), (595, .iadd, 1, 0, 0, 0), (596, .iaload, 1, 0, 0, 0), (597, .i2l, 1, 0, 0, 0), (598, .ldc2_w 85, 3, 0, 0, 4294967295), (601, .land, 1, 0, 0, 0), (602, .lor, 1, 0, 0, 0), (603, .invokevirtual 87, 3, 81, 3, 10), (606, .aload_n 2, 1, 0, 0, 0), (607, .aload_n 0, 1, 0, 0, 0), (608, .iload_n 3, 1, 0, 0, 0), (609, .iconst 1, 1, 0, 0, 0), (610, .iadd, 1, 0, 0, 0), (611, .iaload, 1, 0, 0, 0), (612, .aload_n 0, 1, 0, 0, 0), (613, .iload_n 3, 1, 0, 0, 0), (614, .iconst 2, 1, 0, 0, 0), (615, .iadd, 1, 0, 0, 0), (616, .iaload, 1, 0, 0, 0), (617, .i2l, 1, 0, 0, 0), (618, .bipush 32, 2, 0, 0, 0), (620, .lshl, 1, 0, 0, 0), (621, .aload_n 0, 1, 0, 0, 0), (622, .iload_n 3, 1, 0, 0, 0), (623, .iconst 3, 1, 0, 0, 0), (624, .iadd, 1, 0, 0, 0), (625, .iaload, 1, 0, 0, 0), (626, .i2l, 1, 0, 0, 0), (627, .ldc2_w 85, 3, 0, 0, 4294967295), (630, .land, 1, 0, 0, 0), (631, .lor, 1, 0, 0, 0), (632, .invokevirtual 91, 3, 147, 3, 11), (635, .if_icmp .eq 381, 3, 1016, 0, 0), (638, .iconst 0, 1, 0, 0, 0), (639, .ireturn, 1, 1, 0, 0), (640, .aload_n 1, 1, 0, 0, 0), (641, .aload_n 0, 1, 0, 0, 0), (642, .iload_n 3, 1, 0, 0, 0), (643, .iconst 1, 1, 0, 0, 0), (644, .iadd, 1, 0, 0, 0), (645, .iaload, 1, 0, 0, 0), (646, .aload_n 0, 1, 0, 0, 0), (647, .iload_n 3, 1, 0, 0, 0), (648, .iconst 2, 1, 0, 0, 0), (649, .iadd, 1, 0, 0, 0), (650, .iaload, 1, 0, 0, 0), (651, .aload_n 0, 1, 0, 0, 0), (652, .iload_n 3, 1, 0, 0, 0), (653, .iconst 3, 1, 0, 0, 0), (654, .iadd, 1, 0, 0, 0), (655, .iaload, 1, 0, 0, 0), (656, .invokevirtual 92, 3, 82, 4, 10), (659, .aload_n 2, 1, 0, 0, 0), (660, .aload_n 0, 1, 0, 0, 0), (661, .iload_n 3, 1, 0, 0, 0), (662, .iconst 1, 1, 0, 0, 0), (663, .iadd, 1, 0, 0, 0), (664, .iaload, 1, 0, 0, 0), (665, .aload_n 0, 1, 0, 0, 0), (666, .iload_n 3, 1, 0, 0, 0), (667, .iconst 2, 1, 0, 0, 0), (668, .iadd, 1, 0, 0, 0), (669, .iaload, 1, 0, 0, 0), (670, .aload_n 0, 1, 0, 0, 0), (671, .iload_n 3, 1, 0, 0, 0), (672, .iconst 3, 1, 0, 0, 0), (673, .iadd, 1, 0, 0, 0), (674, .iaload, 1, 0, 0, 0), (675, .invokevirtual 96, 3, 148, 4, 11), (678, .if_icmp .eq 338, 3, 1016, 0, 0), (681, .iconst 0, 1, 0, 0, 0), (682, .ireturn, 1, 1, 0, 0), (683, .aload_n 1, 1, 0, 0, 0), (684, .invokevirtual 97, 3, 83, 1, 10), (687, .aload_n 2, 1, 0, 0, 0), (688, .invokevirtual 100, 3, 149, 1, 11), (691, .if_icmp .eq 325, 3, 1016, 0, 0), (694, .iconst 0, 1, 0, 0, 0), (695, .ireturn, 1, 1, 0, 0), (696, .aload_n 1, 1, 0, 0, 0), (697, .aload_n 0, 1, 0, 0, 0), (698, .iload_n 3, 1, 0, 0, 0), (699, .iconst 1, 1, 0, 0, 0), (700, .iadd, 1, 0, 0, 0), (701, .iaload, 1, 0, 0, 0), (702, .invokevirtual 101, 3, 84, 2, 10), (705, .aload_n 2, 1, 0, 0, 0), (706, .aload_n 0, 1, 0, 0, 0), (707, .iload_n 3, 1, 0, 0, 0), (708, .iconst 1, 1, 0, 0, 0), (709, .iadd, 1, 0, 0, 0), (710, .iaload, 1, 0, 0, 0), (711, .invokevirtual 104, 3, 150, 2, 11), (714, .if_icmp .eq 302, 3, 1016, 0, 0), (717, .iconst 0, 1, 0, 0, 0), (718, .ireturn, 1, 1, 0, 0), (719, .aload_n 1, 1, 0, 0, 0), (720, .aload_n 0, 1, 0, 0, 0), (721, .iload_n 3, 1, 0, 0, 0), (722, .iconst 1, 1, 0, 0, 0), (723, .iadd, 1, 0, 0, 0), (724, .iaload, 1, 0, 0, 0), (725, .aload_n 0, 1, 0, 0, 0), (726, .iload_n 3, 1, 0, 0, 0), (727, .iconst 2, 1, 0, 0, 0), (728, .iadd, 1, 0, 0, 0), (729, .iaload, 1, 0, 0, 0), (730, .ifCond .eq 7, 3, 737, 0, 0), (733, .iconst 1, 1, 0, 0, 0), (734, .goto 4, 3, 738, 0, 0), (737, .iconst 0, 1, 0, 0, 0), (738, .invokevirtual 105, 3, 85, 3, 10), (741, .aload_n 2, 1, 0, 0, 0), (742, .aload_n 0, 1, 0, 0, 0), (743, .iload_n 3, 1, 0, 0, 0), (744, .iconst 1, 1, 0, 0, 0), (745, .iadd, 1, 0, 0, 0), (746, .iaload, 1, 0, 0, 0), (747, .aload_n 0, 1, 0, 0, 0), (748, .iload_n 3, 1, 0, 0, 0), (749, .iconst 2, 1, 0, 0, 0), (750, .iadd, 1, 0, 0, 0), (751, .iaload, 1, 0, 0, 0), (752, .ifCond .eq 7, 3, 759, 0, 0), (755, .iconst 1, 1, 0, 0, 0), (756, .goto 4, 3, 760, 0, 0), (759, .iconst 0, 1, 0, 0, 0), (760, .invokevirtual 109, 3, 154, 3, 11), (763, .if_icmp .eq 253, 3, 1016, 0, 0), (766, .iconst 0, 1, 0, 0, 0), (767, .ireturn, 1, 1, 0, 0), (768, .aload_n 1, 1, 0, 0, 0), (769, .aload_n 0, 1, 0, 0, 0), (770, .iload_n 3, 1, 0, 0, 0), (771, .iconst 1, 1, 0, 0, 0), (772, .iadd, 1, 0, 0, 0), (773, .iaload, 1, 0, 0, 0), (774, .aload_n 0, 1, 0, 0, 0), (775, .iload_n 3, 1, 0, 0, 0), (776, .iconst 2, 1, 0, 0, 0), (777, .iadd, 1, 0, 0, 0), (778, .iaload, 1, 0, 0, 0), (779, .aload_n 0, 1, 0, 0, 0), (780, .iload_n 3, 1, 0, 0, 0), (781, .iconst 3, 1, 0, 0, 0), (782, .iadd, 1, 0, 0, 0), (783, .iaload, 1, 0, 0, 0), (784, .invokevirtual 110, 3, 86, 4, 10), (787, .aload_n 2, 1, 0, 0, 0), (788, .aload_n 0, 1, 0, 0, 0), (789, .iload_n 3, 1, 0, 0, 0), (790, .iconst 1, 1, 0, 0, 0), (791, .iadd, 1, 0, 0, 0), (792, .iaload, 1, 0, 0, 0), (793, .aload_n 0, 1, 0, 0, 0), (794, .iload_n 3, 1, 0, 0, 0), (795, .iconst 2, 1, 0, 0, 0), (796, .iadd, 1, 0, 0, 0), (797, .iaload, 1, 0, 0, 0), (798, .aload_n 0, 1, 0, 0, 0), (799, .iload_n 3, 1, 0, 0, 0), (800, .iconst 3, 1, 0, 0, 0), (801, .iadd, 1, 0, 0, 0), (802, .iaload, 1, 0, 0, 0), (803, .invokevirtual 113, 3, 156, 4, 11), (806, .if_icmp .eq 210, 3, 1016, 0, 0), (809, .iconst 0, 1, 0, 0, 0), (810, .ireturn, 1, 1, 0, 0), (811, .aload_n 1, 1, 0, 0, 0), (812, .aload_n 0, 1, 0, 0, 0), (813, .iload_n 3, 1, 0, 0, 0), (814, .iconst 1, 1, 0, 0, 0), (815, .iadd, 1, 0, 0, 0), (816, .iaload, 1, 0, 0, 0), (817, .aload_n 0, 1, 0, 0, 0), (818, .iload_n 3, 1, 0, 0, 0), (819, .iconst 2, 1, 0, 0, 0), (820, .iadd, 1, 0, 0, 0), (821, .iaload, 1, 0, 0, 0), (822, .aload_n 0, 1, 0, 0, 0), (823, .iload_n 3, 1, 0, 0, 0), (824, .iconst 3, 1, 0, 0, 0), (825, .iadd, 1, 0, 0, 0), (826, .iaload, 1, 0, 0, 0), (827, .ifCond .eq 7, 3, 834, 0, 0), (830, .iconst 1, 1, 0, 0, 0), (831, .goto 4, 3, 835, 0, 0), (834, .iconst 0, 1, 0, 0, 0), (835, .invokevirtual 114, 3, 87, 4, 10), (838, .aload_n 2, 1, 0, 0, 0), (839, .aload_n 0, 1, 0, 0, 0), (840, .iload_n 3, 1, 0, 0, 0), (841, .iconst 1, 1, 0, 0, 0), (842, .iadd, 1, 0, 0, 0), (843, .iaload, 1, 0, 0, 0), (844, .aload_n 0, 1, 0, 0, 0), (845, .iload_n 3, 1, 0, 0, 0), (846, .iconst 2, 1, 0, 0, 0), (847, .iadd, 1, 0, 0, 0), (848, .iaload, 1, 0, 0, 0), (849, .aload_n 0, 1, 0, 0, 0), (850, .iload_n 3, 1, 0, 0, 0), (851, .iconst 3, 1, 0, 0, 0), (852, .iadd, 1, 0, 0, 0), (853, .iaload, 1, 0, 0, 0), (854, .ifCond .eq 7, 3, 861, 0, 0), (857, .iconst 1, 1, 0, 0, 0), (858, .goto 4, 3, 862, 0, 0), (861, .iconst 0, 1, 0, 0, 0), (862, .invokevirtual 118, 3, 157, 4, 11), (865, .if_icmp .eq 151, 3, 1016, 0, 0), (868, .iconst 0, 1, 0, 0, 0), (869, .ireturn, 1, 1, 0, 0), (870, .aload_n 1, 1, 0, 0, 0), (871, .aload_n 0, 1, 0, 0, 0), (872, .iload_n 3, 1, 0, 0, 0), (873, .iconst 1, 1, 0, 0, 0), (874, .iadd, 1, 0, 0, 0), (875, .iaload, 1, 0, 0, 0), (876, .i2l, 1, 0, 0, 0), (877, .bipush 32, 2, 0, 0, 0), (879, .lshl, 1, 0, 0, 0), (880, .aload_n 0, 1, 0, 0, 0), (881, .iload_n 3, 1, 0, 0, 0), (882, .iconst 2, 1, 0, 0, 0), (883, .iadd, 1, 0, 0, 0), (884, .iaload, 1, 0, 0, 0), (885, .i2l, 1, 0, 0, 0), (886, .ldc2_w 85, 3, 0, 0, 4294967295), (889, .land, 1, 0, 0, 0), (890, .lor, 1, 0, 0, 0), (891, .invokevirtual 119, 3, 88, 2, 10), (894, .aload_n 2, 1, 0, 0, 0), (895, .aload_n 0, 1, 0, 0, 0), (896, .iload_n 3, 1, 0, 0, 0), (897, .iconst 1, 1, 0, 0, 0), (898, .iadd, 1, 0, 0, 0), (899, .iaload, 1, 0, 0, 0), (900, .i2l, 1, 0, 0, 0), (901, .bipush 32, 2, 0, 0, 0), (903, .lshl, 1, 0, 0, 0), (904, .aload_n 0, 1, 0, 0, 0), (905, .iload_n 3, 1, 0, 0, 0), (906, .iconst 2, 1, 0, 0, 0), (907, .iadd, 1, 0, 0, 0), (908, .iaload, 1, 0, 0, 0), (909, .i2l, 1, 0, 0, 0), (910, .ldc2_w 85, 3, 0, 0, 4294967295), (913, .land, 1, 0, 0, 0), (914, .lor, 1, 0, 0, 0), (915, .invokevirtual 123, 3, 158, 2, 11), (918, .lcmp, 1, 0, 0, 0), (919, .ifCond .eq 97, 3, 1016, 0, 0), (922, .iconst 0, 1, 0, 0, 0), (923, .ireturn, 1, 1, 0, 0), (924, .aload_n 1, 1, 0, 0, 0), (925, .aload_n 0, 1, 0, 0, 0), (926, .iload_n 3, 1, 0, 0, 0), (927, .iconst 1, 1, 0, 0, 0), (928, .iadd, 1, 0, 0, 0), (929, .iaload, 1, 0, 0, 0), (930, .invokevirtual 124, 3, 89, 2, 10), (933, .aload_n 2, 1, 0, 0, 0), (934, .aload_n 0, 1, 0, 0, 0), (935, .iload_n 3, 1, 0, 0, 0), (936, .iconst 1, 1, 0, 0, 0), (937, .iadd, 1, 0, 0, 0), (938, .iaload, 1, 0, 0, 0), (939, .invokevirtual 127, 3, 159, 2, 11), (942, .if_icmp .eq 74, 3, 1016, 0, 0), (945, .iconst 0, 1, 0, 0, 0), (946, .ireturn, 1, 1, 0, 0), (947, .aload_n 1, 1, 0, 0, 0), (948, .aload_n 0, 1, 0, 0, 0), (949, .iload_n 3, 1, 0, 0, 0), (950, .iconst 1, 1, 0, 0, 0), (951, .iadd, 1, 0, 0, 0), (952, .iaload, 1, 0, 0, 0), (953, .invokevirtual 128, 3, 90, 2, 10), (956, .aload_n 2, 1, 0, 0, 0), (957, .aload_n 0, 1, 0, 0, 0), (958, .iload_n 3, 1, 0, 0, 0), (959, .iconst 1, 1, 0, 0, 0), (960, .iadd, 1, 0, 0, 0), (961, .iaload, 1, 0, 0, 0), (962, .invokevirtual 131, 3, 160, 2, 11), (965, .if_icmp .eq 51, 3, 1016, 0, 0), (968, .iconst 0, 1, 0, 0, 0), (969, .ireturn, 1, 1, 0, 0), (970, .aload_n 1, 1, 0, 0, 0), (971, .aload_n 0, 1, 0, 0, 0), (972, .iload_n 3, 1, 0, 0, 0), (973, .iconst 1, 1, 0, 0, 0), (974, .iadd, 1, 0, 0, 0), (975, .iaload, 1, 0, 0, 0), (976, .invokevirtual 132, 3, 91, 2, 10), (979, .aload_n 2, 1, 0, 0, 0), (980, .aload_n 0, 1, 0, 0, 0), (981, .iload_n 3, 1, 0, 0, 0), (982, .iconst 1, 1, 0, 0, 0), (983, .iadd, 1, 0, 0, 0), (984, .iaload, 1, 0, 0, 0), (985, .invokevirtual 135, 3, 161, 2, 11), (988, .if_icmp .eq 28, 3, 1016, 0, 0), (991, .iconst 0, 1, 0, 0, 0), (992, .ireturn, 1, 1, 0, 0), (993, .aload_n 1, 1, 0, 0, 0), (994, .aload_n 0, 1, 0, 0, 0), (995, .iload_n 3, 1, 0, 0, 0), (996, .iconst 1, 1, 0, 0, 0), (997, .iadd, 1, 0, 0, 0), (998, .iaload, 1, 0, 0, 0), (999, .invokevirtual 136, 3, 92, 2, 10), (1002, .aload_n 2, 1, 0, 0, 0), (1003, .aload_n 0, 1, 0, 0, 0), (1004, .iload_n 3, 1, 0, 0, 0), (1005, .iconst 1, 1, 0, 0, 0), (1006, .iadd, 1, 0, 0, 0), (1007, .iaload, 1, 0, 0, 0), (1008, .invokevirtual 139, 3, 162, 2, 11), (1011, .if_icmp .eq 5, 3, 1016, 0, 0), (1014, .iconst 0, 1, 0, 0, 0), (1015, .ireturn, 1, 1, 0, 0), (1016, .iinc 3 4, 3, 0, 0, 0), (1019, .goto (-1001), 3, 18, 0, 0), (1022, .iconst 1, 1, 0, 0, 0), (1023, .ireturn, 1, 1, 0, 0)]
def zm_X0_init : am_M := (zr_X0_init, 2, 57, 350)
def zm_X0_clear : am_M := (zr_X0_clear, 1, 0, 0)
def zm_X0_remember : am_M := (zr_X0_remember, 2, 0, 0)
def zm_X0_takeBack : am_M := (zr_X0_takeBack, 2, 0, 0)
def zm_X1_init : am_M := (zr_X1_init, 1, 14, 81)
def zm_X1_addedInAllOrders : am_M := (zr_X1_addedInAllOrders, 9, 0, 0)
def zm_X1_drawnBy : am_M := (zr_X1_drawnBy, 5, 0, 0)
def zm_X1_seekRests : am_M := (zr_X1_seekRests, 6, 0, 0)
def zm_X1_has : am_M := (zr_X1_has, 2, 0, 0)
def zm_X1_waysToLack : am_M := (zr_X1_waysToLack, 9, 0, 0)
def zm_X1_lackedByChance : am_M := (zr_X1_lackedByChance, 8, 0, 0)
def zm_X1_happen : am_M := (zr_X1_happen, 4, 0, 0)
def zm_X2_init : am_M := (zr_X2_init, 1, 17, 104)
def zm_X2_inDays : am_M := (zr_X2_inDays, 7, 0, 0)
def zm_X2_seekOrder : am_M := (zr_X2_seekOrder, 7, 0, 0)
def zm_X2_figures : am_M := (zr_X2_figures, 4, 0, 0)
def zm_X2_toNextOrder : am_M := (zr_X2_toNextOrder, 7, 0, 0)
def zm_X2_exchangePlaces : am_M := (zr_X2_exchangePlaces, 4, 0, 0)
def zm_X2_fewestSalts : am_M := (zr_X2_fewestSalts, 8, 0, 0)
def zm_X2_leastBarrel : am_M := (zr_X2_leastBarrel, 6, 0, 0)
def zm_X2_firstNotSo : am_M := (zr_X2_firstNotSo, 11, 0, 0)
def zm_X2_canBe : am_M := (zr_X2_canBe, 6, 0, 0)
def zm_X2_lackOf : am_M := (zr_X2_lackOf, 3, 0, 0)
def zm_X2_carryOut : am_M := (zr_X2_carryOut, 5, 0, 0)
def zm_X3_init : am_M := (zr_X3_init, 1, 5, 31)
def zm_X3_read : am_M := (zr_X3_read, 4, 0, 0)
def zm_X3_take : am_M := (zr_X3_take, 3, 0, 0)
def zm_X3_takePart : am_M := (zr_X3_takePart, 2, 0, 0)
def zm_X3_takeFigure : am_M := (zr_X3_takeFigure, 4, 0, 0)
def zm_X3_putLast : am_M := (zr_X3_putLast, 4, 0, 0)
def zm_X4_init : am_M := (zr_X4_init, 1, 3, 18)
def zm_X4_add : am_M := (zr_X4_add, 4, 0, 0)
def zm_X4_clear : am_M := (zr_X4_clear, 2, 0, 0)
def zm_X4_possibleWants : am_M := (zr_X4_possibleWants, 5, 0, 0)
def zm_X4_agrees : am_M := (zr_X4_agrees, 4, 0, 0)
def zm_X5_init : am_M := (zr_X5_init, 2, 9, 50)
def zm_X5_clear : am_M := (zr_X5_clear, 1, 0, 0)
def zm_X5_put : am_M := (zr_X5_put, 3, 0, 0)
def zm_X5_fetch : am_M := (zr_X5_fetch, 3, 0, 0)
def zm_X6_init : am_M := (zr_X6_init, 1, 3, 18)
def zm_X6_clear : am_M := (zr_X6_clear, 2, 0, 0)
def zm_X6_standAsTold : am_M := (zr_X6_standAsTold, 2, 0, 0)
def zm_X6_copyFrom : am_M := (zr_X6_copyFrom, 2, 0, 0)
def zm_X6_placeOf : am_M := (zr_X6_placeOf, 3, 0, 0)
def zm_X6_exchange : am_M := (zr_X6_exchange, 4, 0, 0)
def zm_X6_isSalted : am_M := (zr_X6_isSalted, 2, 0, 0)
def zm_X6_giveSalt : am_M := (zr_X6_giveSalt, 2, 0, 0)
def zm_X6_isAway : am_M := (zr_X6_isAway, 2, 0, 0)
def zm_X6_turnAway : am_M := (zr_X6_turnAway, 2, 0, 0)
def zm_X6_countPresent : am_M := (zr_X6_countPresent, 2, 0, 0)
def zm_X7_init : am_M := (zr_X7_init, 1, 1, 40)
def zm_X7_append : am_M := (zr_X7_append, 2, 0, 0)
def zm_X7_clear : am_M := (zr_X7_clear, 2, 0, 0)
def zm_X8_init : am_M := (zr_X8_init, 1, 7, 42)
def zm_X8_lookAt : am_M := (zr_X8_lookAt, 3, 0, 0)
def zm_X8_hear : am_M := (zr_X8_hear, 8, 0, 0)
def zm_X8_pour : am_M := (zr_X8_pour, 6, 0, 0)
def zm_X8_serve : am_M := (zr_X8_serve, 6, 0, 0)
def zm_X8_pass : am_M := (zr_X8_pass, 4, 0, 0)
def zm_X9_init : am_M := (zr_X9_init, 1, 4, 23)
def zm_X9_clear : am_M := (zr_X9_clear, 1, 0, 0)
def zm_X9_copyFrom : am_M := (zr_X9_copyFrom, 2, 0, 0)
def zm_X9_heatOn : am_M := (zr_X9_heatOn, 2, 0, 0)
def zm_X10_init : am_M := (zr_X10_init, 1, 130, 802)
def zm_X10_write : am_M := (zr_X10_write, 2, 0, 0)
def zm_X10_wipe : am_M := (zr_X10_wipe, 1, 0, 0)
def zm_X10_fault : am_M := (zr_X10_fault, 1, 0, 0)
def zm_X10_row : am_M := (zr_X10_row, 1, 0, 0)
def zm_X10_house : am_M := (zr_X10_house, 3, 0, 0)
def zm_X10_today : am_M := (zr_X10_today, 3, 0, 0)
def zm_X10_at : am_M := (zr_X10_at, 2, 0, 0)
def zm_X10_day : am_M := (zr_X10_day, 1, 0, 0)
def zm_X10_swap : am_M := (zr_X10_swap, 3, 0, 0)
def zm_X10_salt : am_M := (zr_X10_salt, 2, 0, 0)
def zm_X10_away : am_M := (zr_X10_away, 2, 0, 0)
def zm_X10_undo : am_M := (zr_X10_undo, 1, 0, 0)
def zm_X10_ahead : am_M := (zr_X10_ahead, 3, 0, 0)
def zm_X10_order : am_M := (zr_X10_order, 2, 0, 0)
def zm_X10_worst : am_M := (zr_X10_worst, 2, 0, 0)
def zm_X10_salts : am_M := (zr_X10_salts, 2, 0, 0)
def zm_X10_cask : am_M := (zr_X10_cask, 2, 0, 0)
def zm_X10_judge : am_M := (zr_X10_judge, 4, 0, 0)
def zm_X10_see : am_M := (zr_X10_see, 4, 0, 0)
def zm_X10_unsee : am_M := (zr_X10_unsee, 1, 0, 0)
def zm_X10_wants : am_M := (zr_X10_wants, 2, 0, 0)
def zm_X10_share : am_M := (zr_X10_share, 4, 0, 0)
def zm_X10_rests : am_M := (zr_X10_rests, 4, 0, 0)
def zm_X10_guests : am_M := (zr_X10_guests, 5, 0, 0)
def zm_X10_seed : am_M := (zr_X10_seed, 5, 0, 0)
def zm_X10_weeks : am_M := (zr_X10_weeks, 3, 0, 0)
def zm_X10_keep : am_M := (zr_X10_keep, 2, 0, 0)
def zm_X10_again : am_M := (zr_X10_again, 2, 0, 0)
def zm_X10_count : am_M := (zr_X10_count, 2, 0, 0)
def zm_X10_isHouse : am_M := (zr_X10_isHouse, 2, 0, 0)
def zm_X10_lackingToday : am_M := (zr_X10_lackingToday, 1, 0, 0)
def zm_X10_within : am_M := (zr_X10_within, 3, 0, 0)
def zm_X10_sum : am_M := (zr_X10_sum, 4, 0, 0)
def zm_X10_greatest : am_M := (zr_X10_greatest, 4, 0, 0)
def zm_X10_ordersOf : am_M := (zr_X10_ordersOf, 1, 0, 0)
def zm_X10_power : am_M := (zr_X10_power, 4, 0, 0)
def zm_X10_wantByKind : am_M := (zr_X10_wantByKind, 2, 0, 0)
def zm_X10_lieOf : am_M := (zr_X10_lieOf, 1, 0, 0)
def zm_X10_withoutDoings : am_M := (zr_X10_withoutDoings, 6, 0, 0)
def zm_X10_inLeastTerms : am_M := (zr_X10_inLeastTerms, 4, 0, 0)
def zm_X10_commonDivisor : am_M := (zr_X10_commonDivisor, 6, 0, 0)
def zm_X11_init : am_M := (zr_X11_init, 1, 16, 526)
def zm_X11_in : am_M := (zr_X11_in, 6, 0, 0)
def zm_X11_has : am_M := (zr_X11_has, 2, 0, 0)
def zm_X11_ones : am_M := (zr_X11_ones, 3, 0, 0)
def zm_X11_write : am_M := (zr_X11_write, 2, 0, 0)
def zm_X11_wipe : am_M := (zr_X11_wipe, 2, 0, 0)
def zm_X11_figure : am_M := (zr_X11_figure, 4, 0, 0)
def zm_X11_readText : am_M := (zr_X11_readText, 1, 0, 0)
def zm_X11_fault : am_M := (zr_X11_fault, 1, 0, 0)
def zm_X11_row : am_M := (zr_X11_row, 2, 0, 0)
def zm_X11_isHouse : am_M := (zr_X11_isHouse, 2, 0, 0)
def zm_X11_every : am_M := (zr_X11_every, 1, 0, 0)
def zm_X11_heatOn : am_M := (zr_X11_heatOn, 2, 0, 0)
def zm_X11_wantBy : am_M := (zr_X11_wantBy, 2, 0, 0)
def zm_X11_houseAt : am_M := (zr_X11_houseAt, 4, 0, 0)
def zm_X11_layToday : am_M := (zr_X11_layToday, 10, 0, 0)
def zm_X11_sumOf : am_M := (zr_X11_sumOf, 4, 0, 0)
def zm_X11_passOn : am_M := (zr_X11_passOn, 4, 0, 0)
def zm_X11_lackedOn : am_M := (zr_X11_lackedOn, 4, 0, 0)
def zm_X11_house : am_M := (zr_X11_house, 3, 0, 0)
def zm_X11_today : am_M := (zr_X11_today, 3, 0, 0)
def zm_X11_at : am_M := (zr_X11_at, 2, 0, 0)
def zm_X11_keepAct : am_M := (zr_X11_keepAct, 2, 0, 0)
def zm_X11_day : am_M := (zr_X11_day, 1, 0, 0)
def zm_X11_swapOn : am_M := (zr_X11_swapOn, 6, 0, 0)
def zm_X11_swap : am_M := (zr_X11_swap, 3, 0, 0)
def zm_X11_salt : am_M := (zr_X11_salt, 2, 0, 0)
def zm_X11_away : am_M := (zr_X11_away, 2, 0, 0)
def zm_X11_undo : am_M := (zr_X11_undo, 2, 0, 0)
def zm_X11_layTrial : am_M := (zr_X11_layTrial, 2, 0, 0)
def zm_X11_ahead : am_M := (zr_X11_ahead, 5, 0, 0)
def zm_X11_nextOrder : am_M := (zr_X11_nextOrder, 5, 0, 0)
def zm_X11_exchange : am_M := (zr_X11_exchange, 4, 0, 0)
def zm_X11_lackBy : am_M := (zr_X11_lackBy, 4, 0, 0)
def zm_X11_figures : am_M := (zr_X11_figures, 3, 0, 0)
def zm_X11_bestOrder : am_M := (zr_X11_bestOrder, 6, 0, 0)
def zm_X11_order : am_M := (zr_X11_order, 2, 0, 0)
def zm_X11_worst : am_M := (zr_X11_worst, 2, 0, 0)
def zm_X11_salts : am_M := (zr_X11_salts, 5, 0, 0)
def zm_X11_cask : am_M := (zr_X11_cask, 6, 0, 0)
def zm_X11_tryThing : am_M := (zr_X11_tryThing, 7, 0, 0)
def zm_X11_power : am_M := (zr_X11_power, 6, 0, 0)
def zm_X11_judge : am_M := (zr_X11_judge, 6, 0, 0)
def zm_X11_see : am_M := (zr_X11_see, 4, 0, 0)
def zm_X11_unsee : am_M := (zr_X11_unsee, 2, 0, 0)
def zm_X11_wants : am_M := (zr_X11_wants, 7, 0, 0)
def zm_X11_factorial : am_M := (zr_X11_factorial, 3, 0, 0)
def zm_X11_common : am_M := (zr_X11_common, 5, 0, 0)
def zm_X11_drawnBy : am_M := (zr_X11_drawnBy, 2, 0, 0)
def zm_X11_share : am_M := (zr_X11_share, 6, 0, 0)
def zm_X11_gain : am_M := (zr_X11_gain, 5, 0, 0)
def zm_X11_rests : am_M := (zr_X11_rests, 10, 0, 0)
def zm_X11_guests : am_M := (zr_X11_guests, 8, 0, 0)
def zm_X11_seed : am_M := (zr_X11_seed, 5, 0, 0)
def zm_X11_weeks : am_M := (zr_X11_weeks, 4, 0, 0)
def zm_X11_keep : am_M := (zr_X11_keep, 3, 0, 0)
def zm_X11_again : am_M := (zr_X11_again, 3, 0, 0)
def zm_X11_count : am_M := (zr_X11_count, 2, 0, 0)
def zm_J6_bitCount_0f7a4 : am_M := (zr_J6_bitCount_0f7a4, 1, 0, 0)
def zm_J9_floorMod_7cf53 : am_M := (zr_J9_floorMod_7cf53, 3, 0, 0)
def zm_J9_abs_0f7a4 : am_M := (zr_J9_abs_0f7a4, 1, 0, 0)
def zm_J9_max_7cf53 : am_M := (zr_J9_max_7cf53, 2, 0, 0)
def zm_J9_min_7cf53 : am_M := (zr_J9_min_7cf53, 2, 0, 0)
def zm_L_law : am_M := (zr_L_law, 4, 600000, 7302250)
def am_P : List am_M := [zm_X0_init, zm_X0_clear, zm_X0_remember, zm_X0_takeBack, zm_X1_init, zm_X1_addedInAllOrders, zm_X1_drawnBy, zm_X1_seekRests, zm_X1_has, zm_X1_waysToLack, zm_X1_lackedByChance, zm_X1_happen, zm_X2_init, zm_X2_inDays, zm_X2_seekOrder, zm_X2_figures, zm_X2_toNextOrder, zm_X2_exchangePlaces, zm_X2_fewestSalts, zm_X2_leastBarrel, zm_X2_firstNotSo, zm_X2_canBe, zm_X2_lackOf, zm_X2_carryOut, zm_X3_init, zm_X3_read, zm_X3_take, zm_X3_takePart, zm_X3_takeFigure, zm_X3_putLast, zm_X4_init, zm_X4_add, zm_X4_clear, zm_X4_possibleWants, zm_X4_agrees, zm_X5_init, zm_X5_clear, zm_X5_put, zm_X5_fetch, zm_X6_init, zm_X6_clear, zm_X6_standAsTold, zm_X6_copyFrom, zm_X6_placeOf, zm_X6_exchange, zm_X6_isSalted, zm_X6_giveSalt, zm_X6_isAway, zm_X6_turnAway, zm_X6_countPresent, zm_X7_init, zm_X7_append, zm_X7_clear, zm_X8_init, zm_X8_lookAt, zm_X8_hear, zm_X8_pour, zm_X8_serve, zm_X8_pass, zm_X9_init, zm_X9_clear, zm_X9_copyFrom, zm_X9_heatOn, zm_X10_init, zm_X10_write, zm_X10_wipe, zm_X10_fault, zm_X10_row, zm_X10_house, zm_X10_today, zm_X10_at, zm_X10_day, zm_X10_swap, zm_X10_salt, zm_X10_away, zm_X10_undo, zm_X10_ahead, zm_X10_order, zm_X10_worst, zm_X10_salts, zm_X10_cask, zm_X10_judge, zm_X10_see, zm_X10_unsee, zm_X10_wants, zm_X10_share, zm_X10_rests, zm_X10_guests, zm_X10_seed, zm_X10_weeks, zm_X10_keep, zm_X10_again, zm_X10_count, zm_X10_isHouse, zm_X10_lackingToday, zm_X10_within, zm_X10_sum, zm_X10_greatest, zm_X10_ordersOf, zm_X10_power, zm_X10_wantByKind, zm_X10_lieOf, zm_X10_withoutDoings, zm_X10_inLeastTerms, zm_X10_commonDivisor, zm_X11_init, zm_X11_in, zm_X11_has, zm_X11_ones, zm_X11_write, zm_X11_wipe, zm_X11_figure, zm_X11_readText, zm_X11_fault, zm_X11_row, zm_X11_isHouse, zm_X11_every, zm_X11_heatOn, zm_X11_wantBy, zm_X11_houseAt, zm_X11_layToday, zm_X11_sumOf, zm_X11_passOn, zm_X11_lackedOn, zm_X11_house, zm_X11_today, zm_X11_at, zm_X11_keepAct, zm_X11_day, zm_X11_swapOn, zm_X11_swap, zm_X11_salt, zm_X11_away, zm_X11_undo, zm_X11_layTrial, zm_X11_ahead, zm_X11_nextOrder, zm_X11_exchange, zm_X11_lackBy, zm_X11_figures, zm_X11_bestOrder, zm_X11_order, zm_X11_worst, zm_X11_salts, zm_X11_cask, zm_X11_tryThing, zm_X11_power, zm_X11_judge, zm_X11_see, zm_X11_unsee, zm_X11_wants, zm_X11_factorial, zm_X11_common, zm_X11_drawnBy, zm_X11_share, zm_X11_gain, zm_X11_rests, zm_X11_guests, zm_X11_seed, zm_X11_weeks, zm_X11_keep, zm_X11_again, zm_X11_count, zm_J6_bitCount_0f7a4, zm_J9_floorMod_7cf53, zm_J9_abs_0f7a4, zm_J9_max_7cf53, zm_J9_min_7cf53, zm_L_law]
abbrev am_Inf : Type := MethodName × ByteArray × Nat × Option FieldType × Room
def zi_X0_init : am_Inf := (yX0_init, cX0_init, 2, none, { frames := 3, cells := 57, slots := 350, locals := 62 })
def zi_X0_clear : am_Inf := (yX0_clear, cX0_clear, 1, none, { frames := 0, cells := 0, slots := 0, locals := 0 })
def zi_X0_remember : am_Inf := (yX0_remember, cX0_remember, 2, none, { frames := 2, cells := 0, slots := 0, locals := 47 })
def zi_X0_takeBack : am_Inf := (yX0_takeBack, cX0_takeBack, 2, some .boolean, { frames := 2, cells := 0, slots := 0, locals := 47 })
def zi_X1_init : am_Inf := (yX1_init, cX1_init, 1, none, { frames := 3, cells := 14, slots := 81, locals := 62 })
def zi_X1_addedInAllOrders : am_Inf := (yX1_addedInAllOrders, cX1_addedInAllOrders, 9, some .int, { frames := 5, cells := 0, slots := 0, locals := 117 })
def zi_X1_drawnBy : am_Inf := (yX1_drawnBy, cX1_drawnBy, 5, some .int, { frames := 4, cells := 0, slots := 0, locals := 93 })
def zi_X1_seekRests : am_Inf := (yX1_seekRests, cX1_seekRests, 6, none, { frames := 4, cells := 0, slots := 0, locals := 93 })
def zi_X1_has : am_Inf := (yX1_has, cX1_has, 2, some .int, { frames := 1, cells := 0, slots := 0, locals := 21 })
def zi_X1_waysToLack : am_Inf := (yX1_waysToLack, cX1_waysToLack, 9, some .int, { frames := 3, cells := 0, slots := 0, locals := 71 })
def zi_X1_lackedByChance : am_Inf := (yX1_lackedByChance, cX1_lackedByChance, 8, some .int, { frames := 6, cells := 0, slots := 0, locals := 139 })
def zi_X1_happen : am_Inf := (yX1_happen, cX1_happen, 4, some .int, { frames := 5, cells := 0, slots := 0, locals := 116 })
def zi_X2_init : am_Inf := (yX2_init, cX2_init, 1, none, { frames := 3, cells := 17, slots := 104, locals := 62 })
def zi_X2_inDays : am_Inf := (yX2_inDays, cX2_inDays, 7, some .int, { frames := 5, cells := 0, slots := 0, locals := 116 })
def zi_X2_seekOrder : am_Inf := (yX2_seekOrder, cX2_seekOrder, 7, none, { frames := 3, cells := 0, slots := 0, locals := 71 })
def zi_X2_figures : am_Inf := (yX2_figures, cX2_figures, 4, some .int, { frames := 0, cells := 0, slots := 0, locals := 0 })
def zi_X2_toNextOrder : am_Inf := (yX2_toNextOrder, cX2_toNextOrder, 7, some .boolean, { frames := 1, cells := 0, slots := 0, locals := 23 })
def zi_X2_exchangePlaces : am_Inf := (yX2_exchangePlaces, cX2_exchangePlaces, 4, none, { frames := 0, cells := 0, slots := 0, locals := 0 })
def zi_X2_fewestSalts : am_Inf := (yX2_fewestSalts, cX2_fewestSalts, 8, some .int, { frames := 4, cells := 0, slots := 0, locals := 93 })
def zi_X2_leastBarrel : am_Inf := (yX2_leastBarrel, cX2_leastBarrel, 6, some .int, { frames := 5, cells := 0, slots := 0, locals := 116 })
def zi_X2_firstNotSo : am_Inf := (yX2_firstNotSo, cX2_firstNotSo, 11, some .int, { frames := 6, cells := 0, slots := 0, locals := 140 })
def zi_X2_canBe : am_Inf := (yX2_canBe, cX2_canBe, 6, some .boolean, { frames := 5, cells := 0, slots := 0, locals := 115 })
def zi_X2_lackOf : am_Inf := (yX2_lackOf, cX2_lackOf, 3, some .int, { frames := 4, cells := 0, slots := 0, locals := 93 })
def zi_X2_carryOut : am_Inf := (yX2_carryOut, cX2_carryOut, 5, none, { frames := 5, cells := 0, slots := 0, locals := 116 })
def zi_X3_init : am_Inf := (yX3_init, cX3_init, 1, none, { frames := 2, cells := 5, slots := 31, locals := 40 })
def zi_X3_read : am_Inf := (yX3_read, cX3_read, 4, some .int, { frames := 4, cells := 0, slots := 0, locals := 90 })
def zi_X3_take : am_Inf := (yX3_take, cX3_take, 3, some .int, { frames := 3, cells := 0, slots := 0, locals := 68 })
def zi_X3_takePart : am_Inf := (yX3_takePart, cX3_takePart, 2, some .int, { frames := 0, cells := 0, slots := 0, locals := 0 })
def zi_X3_takeFigure : am_Inf := (yX3_takeFigure, cX3_takeFigure, 4, some .int, { frames := 2, cells := 0, slots := 0, locals := 45 })
def zi_X3_putLast : am_Inf := (yX3_putLast, cX3_putLast, 4, some .int, { frames := 1, cells := 0, slots := 0, locals := 22 })
def zi_X4_init : am_Inf := (yX4_init, cX4_init, 1, none, { frames := 1, cells := 3, slots := 18, locals := 20 })
def zi_X4_add : am_Inf := (yX4_add, cX4_add, 4, some .int, { frames := 0, cells := 0, slots := 0, locals := 0 })
def zi_X4_clear : am_Inf := (yX4_clear, cX4_clear, 2, some .int, { frames := 0, cells := 0, slots := 0, locals := 0 })
def zi_X4_possibleWants : am_Inf := (yX4_possibleWants, cX4_possibleWants, 5, some .int, { frames := 1, cells := 0, slots := 0, locals := 23 })
def zi_X4_agrees : am_Inf := (yX4_agrees, cX4_agrees, 4, some .boolean, { frames := 0, cells := 0, slots := 0, locals := 0 })
def zi_X5_init : am_Inf := (yX5_init, cX5_init, 2, none, { frames := 3, cells := 9, slots := 50, locals := 62 })
def zi_X5_clear : am_Inf := (yX5_clear, cX5_clear, 1, none, { frames := 0, cells := 0, slots := 0, locals := 0 })
def zi_X5_put : am_Inf := (yX5_put, cX5_put, 3, none, { frames := 2, cells := 0, slots := 0, locals := 47 })
def zi_X5_fetch : am_Inf := (yX5_fetch, cX5_fetch, 3, some .boolean, { frames := 2, cells := 0, slots := 0, locals := 47 })
def zi_X6_init : am_Inf := (yX6_init, cX6_init, 1, none, { frames := 2, cells := 3, slots := 18, locals := 42 })
def zi_X6_clear : am_Inf := (yX6_clear, cX6_clear, 2, none, { frames := 1, cells := 0, slots := 0, locals := 21 })
def zi_X6_standAsTold : am_Inf := (yX6_standAsTold, cX6_standAsTold, 2, none, { frames := 0, cells := 0, slots := 0, locals := 0 })
def zi_X6_copyFrom : am_Inf := (yX6_copyFrom, cX6_copyFrom, 2, none, { frames := 1, cells := 0, slots := 0, locals := 26 })
def zi_X6_placeOf : am_Inf := (yX6_placeOf, cX6_placeOf, 3, some .int, { frames := 0, cells := 0, slots := 0, locals := 0 })
def zi_X6_exchange : am_Inf := (yX6_exchange, cX6_exchange, 4, none, { frames := 0, cells := 0, slots := 0, locals := 0 })
def zi_X6_isSalted : am_Inf := (yX6_isSalted, cX6_isSalted, 2, some .boolean, { frames := 0, cells := 0, slots := 0, locals := 0 })
def zi_X6_giveSalt : am_Inf := (yX6_giveSalt, cX6_giveSalt, 2, none, { frames := 0, cells := 0, slots := 0, locals := 0 })
def zi_X6_isAway : am_Inf := (yX6_isAway, cX6_isAway, 2, some .boolean, { frames := 0, cells := 0, slots := 0, locals := 0 })
def zi_X6_turnAway : am_Inf := (yX6_turnAway, cX6_turnAway, 2, none, { frames := 0, cells := 0, slots := 0, locals := 0 })
def zi_X6_countPresent : am_Inf := (yX6_countPresent, cX6_countPresent, 2, some .int, { frames := 1, cells := 0, slots := 0, locals := 20 })
def zi_X7_init : am_Inf := (yX7_init, cX7_init, 1, none, { frames := 1, cells := 1, slots := 40, locals := 20 })
def zi_X7_append : am_Inf := (yX7_append, cX7_append, 2, some .int, { frames := 0, cells := 0, slots := 0, locals := 0 })
def zi_X7_clear : am_Inf := (yX7_clear, cX7_clear, 2, some .int, { frames := 0, cells := 0, slots := 0, locals := 0 })
def zi_X8_init : am_Inf := (yX8_init, cX8_init, 1, none, { frames := 1, cells := 7, slots := 42, locals := 20 })
def zi_X8_lookAt : am_Inf := (yX8_lookAt, cX8_lookAt, 3, none, { frames := 3, cells := 0, slots := 0, locals := 71 })
def zi_X8_hear : am_Inf := (yX8_hear, cX8_hear, 8, none, { frames := 2, cells := 0, slots := 0, locals := 43 })
def zi_X8_pour : am_Inf := (yX8_pour, cX8_pour, 6, none, { frames := 2, cells := 0, slots := 0, locals := 46 })
def zi_X8_serve : am_Inf := (yX8_serve, cX8_serve, 6, none, { frames := 1, cells := 0, slots := 0, locals := 21 })
def zi_X8_pass : am_Inf := (yX8_pass, cX8_pass, 4, none, { frames := 4, cells := 0, slots := 0, locals := 93 })
def zi_X9_init : am_Inf := (yX9_init, cX9_init, 1, none, { frames := 1, cells := 4, slots := 23, locals := 20 })
def zi_X9_clear : am_Inf := (yX9_clear, cX9_clear, 1, none, { frames := 0, cells := 0, slots := 0, locals := 0 })
def zi_X9_copyFrom : am_Inf := (yX9_copyFrom, cX9_copyFrom, 2, none, { frames := 1, cells := 0, slots := 0, locals := 26 })
def zi_X9_heatOn : am_Inf := (yX9_heatOn, cX9_heatOn, 2, some .int, { frames := 1, cells := 0, slots := 0, locals := 22 })
def zi_X10_init : am_Inf := (yX10_init, cX10_init, 1, none, { frames := 4, cells := 130, slots := 802, locals := 83 })
def zi_X10_write : am_Inf := (yX10_write, cX10_write, 2, some .int, { frames := 1, cells := 0, slots := 0, locals := 22 })
def zi_X10_wipe : am_Inf := (yX10_wipe, cX10_wipe, 1, some .int, { frames := 1, cells := 0, slots := 0, locals := 21 })
def zi_X10_fault : am_Inf := (yX10_fault, cX10_fault, 1, some .int, { frames := 5, cells := 0, slots := 0, locals := 113 })
def zi_X10_row : am_Inf := (yX10_row, cX10_row, 1, some .int, { frames := 5, cells := 0, slots := 0, locals := 113 })
def zi_X10_house : am_Inf := (yX10_house, cX10_house, 3, some .int, { frames := 2, cells := 0, slots := 0, locals := 43 })
def zi_X10_today : am_Inf := (yX10_today, cX10_today, 3, some .int, { frames := 4, cells := 0, slots := 0, locals := 93 })
def zi_X10_at : am_Inf := (yX10_at, cX10_at, 2, some .int, { frames := 1, cells := 0, slots := 0, locals := 22 })
def zi_X10_day : am_Inf := (yX10_day, cX10_day, 1, some .int, { frames := 5, cells := 0, slots := 0, locals := 116 })
def zi_X10_swap : am_Inf := (yX10_swap, cX10_swap, 3, some .int, { frames := 3, cells := 0, slots := 0, locals := 68 })
def zi_X10_salt : am_Inf := (yX10_salt, cX10_salt, 2, some .int, { frames := 4, cells := 0, slots := 0, locals := 93 })
def zi_X10_away : am_Inf := (yX10_away, cX10_away, 2, some .int, { frames := 3, cells := 0, slots := 0, locals := 68 })
def zi_X10_undo : am_Inf := (yX10_undo, cX10_undo, 1, some .int, { frames := 3, cells := 0, slots := 0, locals := 68 })
def zi_X10_ahead : am_Inf := (yX10_ahead, cX10_ahead, 3, some .int, { frames := 6, cells := 0, slots := 0, locals := 142 })
def zi_X10_order : am_Inf := (yX10_order, cX10_order, 2, some .int, { frames := 4, cells := 0, slots := 0, locals := 97 })
def zi_X10_worst : am_Inf := (yX10_worst, cX10_worst, 2, some .int, { frames := 4, cells := 0, slots := 0, locals := 97 })
def zi_X10_salts : am_Inf := (yX10_salts, cX10_salts, 2, some .int, { frames := 5, cells := 0, slots := 0, locals := 120 })
def zi_X10_cask : am_Inf := (yX10_cask, cX10_cask, 2, some .int, { frames := 6, cells := 0, slots := 0, locals := 141 })
def zi_X10_judge : am_Inf := (yX10_judge, cX10_judge, 4, some .int, { frames := 7, cells := 0, slots := 0, locals := 170 })
def zi_X10_see : am_Inf := (yX10_see, cX10_see, 4, some .int, { frames := 2, cells := 0, slots := 0, locals := 43 })
def zi_X10_unsee : am_Inf := (yX10_unsee, cX10_unsee, 1, some .int, { frames := 1, cells := 0, slots := 0, locals := 21 })
def zi_X10_wants : am_Inf := (yX10_wants, cX10_wants, 2, some .int, { frames := 2, cells := 0, slots := 0, locals := 47 })
def zi_X10_share : am_Inf := (yX10_share, cX10_share, 4, some .int, { frames := 6, cells := 0, slots := 0, locals := 145 })
def zi_X10_rests : am_Inf := (yX10_rests, cX10_rests, 4, some .int, { frames := 5, cells := 0, slots := 0, locals := 118 })
def zi_X10_guests : am_Inf := (yX10_guests, cX10_guests, 5, some .int, { frames := 4, cells := 0, slots := 0, locals := 99 })
def zi_X10_seed : am_Inf := (yX10_seed, cX10_seed, 5, some .long, { frames := 0, cells := 0, slots := 0, locals := 0 })
def zi_X10_weeks : am_Inf := (yX10_weeks, cX10_weeks, 3, some .int, { frames := 7, cells := 0, slots := 0, locals := 166 })
def zi_X10_keep : am_Inf := (yX10_keep, cX10_keep, 2, some .int, { frames := 3, cells := 0, slots := 0, locals := 69 })
def zi_X10_again : am_Inf := (yX10_again, cX10_again, 2, some .int, { frames := 3, cells := 0, slots := 0, locals := 69 })
def zi_X10_count : am_Inf := (yX10_count, cX10_count, 2, some .int, { frames := 5, cells := 0, slots := 0, locals := 113 })
def zi_X10_isHouse : am_Inf := (yX10_isHouse, cX10_isHouse, 2, some .boolean, { frames := 1, cells := 0, slots := 0, locals := 22 })
def zi_X10_lackingToday : am_Inf := (yX10_lackingToday, cX10_lackingToday, 1, some .int, { frames := 4, cells := 0, slots := 0, locals := 93 })
def zi_X10_within : am_Inf := (yX10_within, cX10_within, 3, some .boolean, { frames := 0, cells := 0, slots := 0, locals := 0 })
def zi_X10_sum : am_Inf := (yX10_sum, cX10_sum, 4, some .int, { frames := 0, cells := 0, slots := 0, locals := 0 })
def zi_X10_greatest : am_Inf := (yX10_greatest, cX10_greatest, 4, some .int, { frames := 1, cells := 0, slots := 0, locals := 21 })
def zi_X10_ordersOf : am_Inf := (yX10_ordersOf, cX10_ordersOf, 1, some .int, { frames := 1, cells := 0, slots := 0, locals := 22 })
def zi_X10_power : am_Inf := (yX10_power, cX10_power, 4, some .int, { frames := 0, cells := 0, slots := 0, locals := 0 })
def zi_X10_wantByKind : am_Inf := (yX10_wantByKind, cX10_wantByKind, 2, some .int, { frames := 0, cells := 0, slots := 0, locals := 0 })
def zi_X10_lieOf : am_Inf := (yX10_lieOf, cX10_lieOf, 1, some .int, { frames := 0, cells := 0, slots := 0, locals := 0 })
def zi_X10_withoutDoings : am_Inf := (yX10_withoutDoings, cX10_withoutDoings, 6, some .long, { frames := 0, cells := 0, slots := 0, locals := 0 })
def zi_X10_inLeastTerms : am_Inf := (yX10_inLeastTerms, cX10_inLeastTerms, 4, some .int, { frames := 1, cells := 0, slots := 0, locals := 25 })
def zi_X10_commonDivisor : am_Inf := (yX10_commonDivisor, cX10_commonDivisor, 6, some .int, { frames := 0, cells := 0, slots := 0, locals := 0 })
def zi_X11_init : am_Inf := (yX11_init, cX11_init, 1, none, { frames := 1, cells := 16, slots := 526, locals := 20 })
def zi_X11_in : am_Inf := (yX11_in, cX11_in, 6, some .boolean, { frames := 0, cells := 0, slots := 0, locals := 0 })
def zi_X11_has : am_Inf := (yX11_has, cX11_has, 2, some .boolean, { frames := 0, cells := 0, slots := 0, locals := 0 })
def zi_X11_ones : am_Inf := (yX11_ones, cX11_ones, 3, some .int, { frames := 0, cells := 0, slots := 0, locals := 0 })
def zi_X11_write : am_Inf := (yX11_write, cX11_write, 2, some .int, { frames := 1, cells := 0, slots := 0, locals := 25 })
def zi_X11_wipe : am_Inf := (yX11_wipe, cX11_wipe, 2, some .int, { frames := 0, cells := 0, slots := 0, locals := 0 })
def zi_X11_figure : am_Inf := (yX11_figure, cX11_figure, 4, some .int, { frames := 1, cells := 0, slots := 0, locals := 25 })
def zi_X11_readText : am_Inf := (yX11_readText, cX11_readText, 1, some .int, { frames := 2, cells := 0, slots := 0, locals := 48 })
def zi_X11_fault : am_Inf := (yX11_fault, cX11_fault, 1, some .int, { frames := 3, cells := 0, slots := 0, locals := 68 })
def zi_X11_row : am_Inf := (yX11_row, cX11_row, 2, some .int, { frames := 3, cells := 0, slots := 0, locals := 68 })
def zi_X11_isHouse : am_Inf := (yX11_isHouse, cX11_isHouse, 2, some .boolean, { frames := 1, cells := 0, slots := 0, locals := 25 })
def zi_X11_every : am_Inf := (yX11_every, cX11_every, 1, some .int, { frames := 0, cells := 0, slots := 0, locals := 0 })
def zi_X11_heatOn : am_Inf := (yX11_heatOn, cX11_heatOn, 2, some .int, { frames := 0, cells := 0, slots := 0, locals := 0 })
def zi_X11_wantBy : am_Inf := (yX11_wantBy, cX11_wantBy, 2, some .int, { frames := 0, cells := 0, slots := 0, locals := 0 })
def zi_X11_houseAt : am_Inf := (yX11_houseAt, cX11_houseAt, 4, some .int, { frames := 0, cells := 0, slots := 0, locals := 0 })
def zi_X11_layToday : am_Inf := (yX11_layToday, cX11_layToday, 10, none, { frames := 1, cells := 0, slots := 0, locals := 23 })
def zi_X11_sumOf : am_Inf := (yX11_sumOf, cX11_sumOf, 4, some .int, { frames := 0, cells := 0, slots := 0, locals := 0 })
def zi_X11_passOn : am_Inf := (yX11_passOn, cX11_passOn, 4, some .int, { frames := 2, cells := 0, slots := 0, locals := 52 })
def zi_X11_lackedOn : am_Inf := (yX11_lackedOn, cX11_lackedOn, 4, some .int, { frames := 0, cells := 0, slots := 0, locals := 0 })
def zi_X11_house : am_Inf := (yX11_house, cX11_house, 3, some .int, { frames := 2, cells := 0, slots := 0, locals := 46 })
def zi_X11_today : am_Inf := (yX11_today, cX11_today, 3, some .int, { frames := 2, cells := 0, slots := 0, locals := 52 })
def zi_X11_at : am_Inf := (yX11_at, cX11_at, 2, some .int, { frames := 1, cells := 0, slots := 0, locals := 23 })
def zi_X11_keepAct : am_Inf := (yX11_keepAct, cX11_keepAct, 2, none, { frames := 0, cells := 0, slots := 0, locals := 0 })
def zi_X11_day : am_Inf := (yX11_day, cX11_day, 1, some .int, { frames := 3, cells := 0, slots := 0, locals := 75 })
def zi_X11_swapOn : am_Inf := (yX11_swapOn, cX11_swapOn, 6, none, { frames := 0, cells := 0, slots := 0, locals := 0 })
def zi_X11_swap : am_Inf := (yX11_swap, cX11_swap, 3, some .int, { frames := 2, cells := 0, slots := 0, locals := 46 })
def zi_X11_salt : am_Inf := (yX11_salt, cX11_salt, 2, some .int, { frames := 2, cells := 0, slots := 0, locals := 52 })
def zi_X11_away : am_Inf := (yX11_away, cX11_away, 2, some .int, { frames := 2, cells := 0, slots := 0, locals := 46 })
def zi_X11_undo : am_Inf := (yX11_undo, cX11_undo, 2, some .int, { frames := 0, cells := 0, slots := 0, locals := 0 })
def zi_X11_layTrial : am_Inf := (yX11_layTrial, cX11_layTrial, 2, none, { frames := 0, cells := 0, slots := 0, locals := 0 })
def zi_X11_ahead : am_Inf := (yX11_ahead, cX11_ahead, 5, some .int, { frames := 3, cells := 0, slots := 0, locals := 75 })
def zi_X11_nextOrder : am_Inf := (yX11_nextOrder, cX11_nextOrder, 5, some .boolean, { frames := 1, cells := 0, slots := 0, locals := 23 })
def zi_X11_exchange : am_Inf := (yX11_exchange, cX11_exchange, 4, none, { frames := 0, cells := 0, slots := 0, locals := 0 })
def zi_X11_lackBy : am_Inf := (yX11_lackBy, cX11_lackBy, 4, some .int, { frames := 2, cells := 0, slots := 0, locals := 52 })
def zi_X11_figures : am_Inf := (yX11_figures, cX11_figures, 3, some .int, { frames := 0, cells := 0, slots := 0, locals := 0 })
def zi_X11_bestOrder : am_Inf := (yX11_bestOrder, cX11_bestOrder, 6, some .int, { frames := 3, cells := 0, slots := 0, locals := 75 })
def zi_X11_order : am_Inf := (yX11_order, cX11_order, 2, some .int, { frames := 4, cells := 0, slots := 0, locals := 100 })
def zi_X11_worst : am_Inf := (yX11_worst, cX11_worst, 2, some .int, { frames := 4, cells := 0, slots := 0, locals := 100 })
def zi_X11_salts : am_Inf := (yX11_salts, cX11_salts, 5, some .int, { frames := 2, cells := 0, slots := 0, locals := 52 })
def zi_X11_cask : am_Inf := (yX11_cask, cX11_cask, 6, some .int, { frames := 3, cells := 0, slots := 0, locals := 75 })
def zi_X11_tryThing : am_Inf := (yX11_tryThing, cX11_tryThing, 7, some .boolean, { frames := 3, cells := 0, slots := 0, locals := 75 })
def zi_X11_power : am_Inf := (yX11_power, cX11_power, 6, some .long, { frames := 0, cells := 0, slots := 0, locals := 0 })
def zi_X11_judge : am_Inf := (yX11_judge, cX11_judge, 6, some .int, { frames := 4, cells := 0, slots := 0, locals := 101 })
def zi_X11_see : am_Inf := (yX11_see, cX11_see, 4, some .int, { frames := 2, cells := 0, slots := 0, locals := 46 })
def zi_X11_unsee : am_Inf := (yX11_unsee, cX11_unsee, 2, some .int, { frames := 0, cells := 0, slots := 0, locals := 0 })
def zi_X11_wants : am_Inf := (yX11_wants, cX11_wants, 7, some .int, { frames := 2, cells := 0, slots := 0, locals := 46 })
def zi_X11_factorial : am_Inf := (yX11_factorial, cX11_factorial, 3, some .int, { frames := 0, cells := 0, slots := 0, locals := 0 })
def zi_X11_common : am_Inf := (yX11_common, cX11_common, 5, some .int, { frames := 0, cells := 0, slots := 0, locals := 0 })
def zi_X11_drawnBy : am_Inf := (yX11_drawnBy, cX11_drawnBy, 2, some .int, { frames := 2, cells := 0, slots := 0, locals := 52 })
def zi_X11_share : am_Inf := (yX11_share, cX11_share, 6, some .int, { frames := 3, cells := 0, slots := 0, locals := 73 })
def zi_X11_gain : am_Inf := (yX11_gain, cX11_gain, 5, some .int, { frames := 2, cells := 0, slots := 0, locals := 52 })
def zi_X11_rests : am_Inf := (yX11_rests, cX11_rests, 10, some .int, { frames := 3, cells := 0, slots := 0, locals := 76 })
def zi_X11_guests : am_Inf := (yX11_guests, cX11_guests, 8, some .int, { frames := 2, cells := 0, slots := 0, locals := 52 })
def zi_X11_seed : am_Inf := (yX11_seed, cX11_seed, 5, some .long, { frames := 0, cells := 0, slots := 0, locals := 0 })
def zi_X11_weeks : am_Inf := (yX11_weeks, cX11_weeks, 4, some .int, { frames := 3, cells := 0, slots := 0, locals := 75 })
def zi_X11_keep : am_Inf := (yX11_keep, cX11_keep, 3, some .int, { frames := 1, cells := 0, slots := 0, locals := 25 })
def zi_X11_again : am_Inf := (yX11_again, cX11_again, 3, some .int, { frames := 1, cells := 0, slots := 0, locals := 25 })
def zi_X11_count : am_Inf := (yX11_count, cX11_count, 2, some .int, { frames := 2, cells := 0, slots := 0, locals := 52 })
def zi_J6_bitCount_0f7a4 : am_Inf := (yJ6_bitCount_0f7a4, cJ6_bitCount_0f7a4, 1, some .int, { frames := 0, cells := 0, slots := 0, locals := 0 })
def zi_J9_floorMod_7cf53 : am_Inf := (yJ9_floorMod_7cf53, cJ9_floorMod_7cf53, 3, some .int, { frames := 0, cells := 0, slots := 0, locals := 0 })
def zi_J9_abs_0f7a4 : am_Inf := (yJ9_abs_0f7a4, cJ9_abs_0f7a4, 1, some .int, { frames := 0, cells := 0, slots := 0, locals := 0 })
def zi_J9_max_7cf53 : am_Inf := (yJ9_max_7cf53, cJ9_max_7cf53, 2, some .int, { frames := 0, cells := 0, slots := 0, locals := 0 })
def zi_J9_min_7cf53 : am_Inf := (yJ9_min_7cf53, cJ9_min_7cf53, 2, some .int, { frames := 0, cells := 0, slots := 0, locals := 0 })
def zi_L_law : am_Inf := (x, cL_law, 4, some .boolean, { frames := 10, cells := 600000, slots := 7302250, locals := 388 })
def am_I : List am_Inf := [zi_X0_init, zi_X0_clear, zi_X0_remember, zi_X0_takeBack, zi_X1_init, zi_X1_addedInAllOrders, zi_X1_drawnBy, zi_X1_seekRests, zi_X1_has, zi_X1_waysToLack, zi_X1_lackedByChance, zi_X1_happen, zi_X2_init, zi_X2_inDays, zi_X2_seekOrder, zi_X2_figures, zi_X2_toNextOrder, zi_X2_exchangePlaces, zi_X2_fewestSalts, zi_X2_leastBarrel, zi_X2_firstNotSo, zi_X2_canBe, zi_X2_lackOf, zi_X2_carryOut, zi_X3_init, zi_X3_read, zi_X3_take, zi_X3_takePart, zi_X3_takeFigure, zi_X3_putLast, zi_X4_init, zi_X4_add, zi_X4_clear, zi_X4_possibleWants, zi_X4_agrees, zi_X5_init, zi_X5_clear, zi_X5_put, zi_X5_fetch, zi_X6_init, zi_X6_clear, zi_X6_standAsTold, zi_X6_copyFrom, zi_X6_placeOf, zi_X6_exchange, zi_X6_isSalted, zi_X6_giveSalt, zi_X6_isAway, zi_X6_turnAway, zi_X6_countPresent, zi_X7_init, zi_X7_append, zi_X7_clear, zi_X8_init, zi_X8_lookAt, zi_X8_hear, zi_X8_pour, zi_X8_serve, zi_X8_pass, zi_X9_init, zi_X9_clear, zi_X9_copyFrom, zi_X9_heatOn, zi_X10_init, zi_X10_write, zi_X10_wipe, zi_X10_fault, zi_X10_row, zi_X10_house, zi_X10_today, zi_X10_at, zi_X10_day, zi_X10_swap, zi_X10_salt, zi_X10_away, zi_X10_undo, zi_X10_ahead, zi_X10_order, zi_X10_worst, zi_X10_salts, zi_X10_cask, zi_X10_judge, zi_X10_see, zi_X10_unsee, zi_X10_wants, zi_X10_share, zi_X10_rests, zi_X10_guests, zi_X10_seed, zi_X10_weeks, zi_X10_keep, zi_X10_again, zi_X10_count, zi_X10_isHouse, zi_X10_lackingToday, zi_X10_within, zi_X10_sum, zi_X10_greatest, zi_X10_ordersOf, zi_X10_power, zi_X10_wantByKind, zi_X10_lieOf, zi_X10_withoutDoings, zi_X10_inLeastTerms, zi_X10_commonDivisor, zi_X11_init, zi_X11_in, zi_X11_has, zi_X11_ones, zi_X11_write, zi_X11_wipe, zi_X11_figure, zi_X11_readText, zi_X11_fault, zi_X11_row, zi_X11_isHouse, zi_X11_every, zi_X11_heatOn, zi_X11_wantBy, zi_X11_houseAt, zi_X11_layToday, zi_X11_sumOf, zi_X11_passOn, zi_X11_lackedOn, zi_X11_house, zi_X11_today, zi_X11_at, zi_X11_keepAct, zi_X11_day, zi_X11_swapOn, zi_X11_swap, zi_X11_salt, zi_X11_away, zi_X11_undo, zi_X11_layTrial, zi_X11_ahead, zi_X11_nextOrder, zi_X11_exchange, zi_X11_lackBy, zi_X11_figures, zi_X11_bestOrder, zi_X11_order, zi_X11_worst, zi_X11_salts, zi_X11_cask, zi_X11_tryThing, zi_X11_power, zi_X11_judge, zi_X11_see, zi_X11_unsee, zi_X11_wants, zi_X11_factorial, zi_X11_common, zi_X11_drawnBy, zi_X11_share, zi_X11_gain, zi_X11_rests, zi_X11_guests, zi_X11_seed, zi_X11_weeks, zi_X11_keep, zi_X11_again, zi_X11_count, zi_J6_bitCount_0f7a4, zi_J9_floorMod_7cf53, zi_J9_abs_0f7a4, zi_J9_max_7cf53, zi_J9_min_7cf53, zi_L_law]
end
section
/-! what each row of code must be checked for, and that every row is -/
/-- the words of the tables that a row needs -/
def am_wf (own : String) (r : am_R) : List Cond := match r with
  | (_, i, _, a, b, v) => match i with
    | .getfield idx => match am_cl[a]? with
      | some q => [.fieldLink own idx q.1 (q.2.1 b).2.1 (q.2.1 b).2.2.1]
      | none => []
    | .putfield idx => match am_cl[a]? with
      | some q => [.fieldLink own idx q.1 (q.2.1 b).2.1 (q.2.1 b).2.2.1]
      | none => []
    | .getstatic idx => [.fieldLink own idx "ThirstRow" "FACTORIALS" "[I"]
    | .new idx => match am_cl[a]? with
      | some q => [.classLink own idx q.1, .instantiable q.1 q.2.2, .initialized q.1]
      | none => []
    | .anewarray idx => [.classLink own idx RX6]
    | .newarray t => [.arrayClass (newarray.typeOf t)]
    | .ldc idx => [.constant own idx (Int32.ofInt v)]
    | .ldc_w idx => [.constant own idx (Int32.ofInt v)]
    | .ldc2_w idx => [.constantLong own idx (Int64.ofInt v)]
    | .invokespecial idx => if a = 1000 then [.methodLink own idx objectInit, .instanceMethod objectInit, .code objectInit ⟨#[0xb1]⟩ 1 none] else match am_I[a]? with
      | some n => [.methodLink own idx n.1, .instanceMethod n.1, .initialized n.1.cls, .code n.1 n.2.1 n.2.2.1 n.2.2.2.1]
      | none => []
    | .invokestatic idx => if a = 1001 then [.methodLink own idx arraycopyName, .native arraycopyName, .static arraycopyName, .initialized "java/lang/System"] else match am_I[a]? with
      | some n => if v = 1 then [.static n.1, .initialized n.1.cls, .code n.1 n.2.1 n.2.2.1 n.2.2.2.1] else [.methodLink own idx n.1, .static n.1, .initialized n.1.cls, .code n.1 n.2.1 n.2.2.1 n.2.2.2.1]
      | none => []
    | .invokevirtual idx => match am_I[a]? with
      | some n => [.methodLink own idx n.1, .instanceMethod n.1, .selects n.1.cls n.1 n.1, .initialized n.1.cls, .code n.1 n.2.1 n.2.2.1 n.2.2.2.1]
      | none => []
    | _ => []
/-- the word that a call of a nest mate needs -/
def am_nest (own : String) (r : am_R) : Option Cond := match r with
  | (_, .invokestatic idx, _, a, _, v) => if a = 1001 then none else if v = 1 then (match am_I[a]? with
      | some n => some (.methodLinkNest own idx n.1 "ThirstRow")
      | none => none) else none
  | _ => none
def am_len (i : Instr) : Nat := match i with
  | .bipush _ | .ldc _ | .iload _ | .lload _ | .aload _ | .istore _ | .lstore _ | .astore _ | .newarray _ => 2
  | .sipush _ | .ldc_w _ | .ldc2_w _ | .iinc _ _ | .goto _ | .if_icmp _ _ | .ifCond _ _ | .getfield _ | .putfield _ | .getstatic _ | .new _ | .anewarray _ | .invokespecial _ | .invokestatic _ | .invokevirtual _ => 3
  | _ => 1
def am_tyc (v : Int) (ty : FieldType) : Bool := match ty with
  | .int => decide (v = 0)
  | .boolean => decide (v = 1)
  | .long => decide (v = 2)
  | .object _ => decide (v = 3)
  | .array _ => decide (v = 3)
  | _ => false
/-- a callee: its room within the caller's, its cells and slots as its room says, the number of its arguments -/
def am_cal (inf n : am_Inf) (N : am_M) (args : Nat) : Bool :=
  decide (n.2.2.2.2.frames + 1 ≤ inf.2.2.2.2.frames) && decide (8 + (n.2.2.1 + 11) + n.2.2.2.2.locals ≤ inf.2.2.2.2.locals) && decide (n.2.2.2.2.cells = N.2.2.1) && decide (n.2.2.2.2.slots = N.2.2.2) && decide (n.2.2.1 = N.2.1) &&
  decide (n.1.cls ≠ "java/lang/invoke/MethodHandle") && decide (n.1.cls ≠ "java/lang/invoke/VarHandle") && decide ((parseMethodDescriptor n.1.desc).map (fun d => d.parameters.length) = some args)
def am_chk (inf : am_Inf) (r : am_R) : Bool := match r with
  | (pc, i, len, a, b, v) => decide (decode inf.2.1 pc = .ok (i, len)) && (match i with
    | .tableswitch d _ _ offs => decide (0 ≤ (pc : Int) + d) && offs.toList.all (fun o => decide (0 ≤ (pc : Int) + o))
    | .lookupswitch d ps => decide (0 ≤ (pc : Int) + d) && ps.toList.all (fun o => decide (0 ≤ (pc : Int) + o.2)) && (ps.toList.zip (ps.toList.drop 1)).all (fun (a, next) => a.1 < next.1)
    | _ => decide (len = am_len i)) && (match i with
    | .goto off => decide ((pc : Int) + off = (a : Int))
    | .if_icmp _ off => decide ((pc : Int) + off = (a : Int))
    | .ifCond _ off => decide ((pc : Int) + off = (a : Int))
    | .getfield _ => match am_cl[a]? with
      | some q => decide (b < q.2.2) && decide ((q.2.1 b).1 = q.1)
      | none => false
    | .putfield _ => match am_cl[a]? with
      | some q => decide (b < q.2.2) && decide ((q.2.1 b).1 = q.1) && (match parseFieldDescriptor (q.2.1 b).2.2.1 with
        | some ty => am_tyc v ty
        | none => false) && (bif (q.2.1 b).2.2.2 then decide (inf.1.name = "<init>") && decide (q.1 = inf.1.cls) else true)
      | none => false
    | .new _ => decide (a < 12)
    | .newarray t => decide (t = .int) || decide (t = .boolean)
    | .invokespecial _ => if a = 1000 then decide (1 ≤ inf.2.2.2.2.frames) && decide (20 ≤ inf.2.2.2.2.locals) else match am_I[a]?, am_P[a]? with
      | some n, some N => am_cal inf n N (b - 1) && decide (1 ≤ b) && decide (n.1.name = "<init>") && decide (n.2.2.2.1 = none)
      | _, _ => false
    | .invokestatic _ => if a = 1001 then decide (1 ≤ inf.2.2.2.2.frames) && decide (26 ≤ inf.2.2.2.2.locals) else match am_I[a]?, am_P[a]? with
      | some n, some N => am_cal inf n N b && (decide (v = 0) || decide (v = 1))
      | _, _ => false
    | .invokevirtual _ => match am_I[a]?, am_P[a]? with
      | some n, some N => am_cal inf n N (b - 1) && decide (1 ≤ b) && (match am_cl[v.toNat]? with
        | some q => decide (q.1 = n.1.cls) && decide (0 ≤ v)
        | none => false)
      | _, _ => false
    | .ireturn => (decide (a = 0) && decide (inf.2.2.2.1 = some .int)) || (decide (a = 1) && decide (inf.2.2.2.1 = some .boolean))
    | .lreturn => decide (inf.2.2.2.1 = some .long)
    | .return_ => decide (inf.2.2.2.1 = none)
    | _ => true)
def am_nests : List Cond := [.methodLinkNest "ThirstRow$Reader" 49 yX10_within "ThirstRow", .methodLinkNest "ThirstRow$Today" 69 yX10_wantByKind "ThirstRow", .methodLinkNest "ThirstRow$Today" 73 yX10_lieOf "ThirstRow", .methodLinkNest "ThirstRow$Outlook" 51 yX10_sum "ThirstRow", .methodLinkNest "ThirstRow$Outlook" 74 yX10_greatest "ThirstRow", .methodLinkNest "ThirstRow$Outlook" 113 yX10_withoutDoings "ThirstRow", .methodLinkNest "ThirstRow$Seen" 25 yX10_wantByKind "ThirstRow", .methodLinkNest "ThirstRow$Seen" 29 yX10_lieOf "ThirstRow", .methodLinkNest "ThirstRow$Chances" 65 yX10_sum "ThirstRow", .methodLinkNest "ThirstRow$Chances" 52 yX10_ordersOf "ThirstRow", .methodLinkNest "ThirstRow$Chances" 98 yX10_power "ThirstRow"]
set_option maxRecDepth 100000 in
theorem am_nests_in : am_nests = ([428, 493, 496, 577, 590, 647, 689, 690, 710, 711, 754] : List Nat).filterMap (fun i => lw_tbl[i]?) := by decide +kernel
/-- what holds of a checked method -/
def am_okm (q : am_M × am_Inf) : Prop := q.1.1.all (am_chk q.2) = true ∧ (∀ r ∈ q.1.1, ∀ w ∈ am_wf q.2.1.cls r, w ∈ lw_tbl ∧ goodWord w = true) ∧ (∀ r ∈ q.1.1, ∀ w, am_nest q.2.1.cls r = some w → w ∈ am_nests) ∧ q.1.2.1 = q.2.2.2.1 ∧ q.1.2.2.1 = q.2.2.2.2.2.cells ∧ q.1.2.2.2 = q.2.2.2.2.2.slots ∧ plainFor q.2.1 = true ∧ Cond.code q.2.1 q.2.2.1 q.2.2.2.1 q.2.2.2.2.1 ∈ (Cond.code x code maxLocals ret :: lw_tbl)
theorem am_okm_of {M : am_M} {inf : am_Inf} (ps : List Nat) (h1 : M.1.all (am_chk inf) = true) (h2 : M.1.flatMap (am_wf inf.1.cls) = ps.filterMap (fun i => lw_tbl[i]?)) (h3 : (M.1.flatMap (am_wf inf.1.cls)).all goodWord = true) (h4 : (M.1.filterMap (am_nest inf.1.cls)).all (fun w => decide (w ∈ am_nests)) = true)
    (h5 : (decide (M.2.1 = inf.2.2.1) && decide (M.2.2.1 = inf.2.2.2.2.cells) && decide (M.2.2.2 = inf.2.2.2.2.slots) && plainFor inf.1) = true) (h6 : Cond.code inf.1 inf.2.1 inf.2.2.1 inf.2.2.2.1 ∈ (Cond.code x code maxLocals ret :: lw_tbl)) : am_okm (M, inf) := by
  simp only [Bool.and_eq_true, decide_eq_true_eq] at h5
  refine ⟨h1, fun r hr w hw => ?_, fun r hr w hw => ?_, h5.1.1.1, h5.1.1.2, h5.1.2, h5.2, h6⟩
  · have hm : w ∈ M.1.flatMap (am_wf inf.1.cls) := List.mem_flatMap.mpr ⟨r, hr, hw⟩
    refine ⟨?_, List.all_eq_true.mp h3 w hm⟩
    rw [h2] at hm
    obtain ⟨i, -, hi⟩ := List.mem_filterMap.mp hm
    exact List.mem_of_getElem? hi
  · have hm : w ∈ M.1.filterMap (am_nest inf.1.cls) := List.mem_filterMap.mpr ⟨r, hr, hw⟩
    exact of_decide_eq_true (List.all_eq_true.mp h4 w hm)
end
section
/-! every method, checked -/
set_option maxRecDepth 100000 in
set_option maxHeartbeats 4000000 in
theorem zk_X0_init : am_okm (zm_X0_init, zi_X0_init) := am_okm_of [198, 58, 59, 199, 202, 202, 199, 144, 41, 201, 146, 41, 147, 203, 204] (by decide +kernel) (by decide +kernel) (by decide +kernel) (by decide +kernel) (by decide +kernel) (List.mem_cons_of_mem _ (List.mem_of_getElem? (i := 197) (by decide +kernel)))
set_option maxRecDepth 100000 in
set_option maxHeartbeats 4000000 in
theorem zk_X0_clear : am_okm (zm_X0_clear, zi_X0_clear) := am_okm_of [203, 204] (by decide +kernel) (by decide +kernel) (by decide +kernel) (by decide +kernel) (by decide +kernel) (List.mem_cons_of_mem _ (List.mem_of_getElem? (i := 447) (by decide +kernel)))
set_option maxRecDepth 100000 in
set_option maxHeartbeats 4000000 in
theorem zk_X0_remember : am_okm (zm_X0_remember, zi_X0_remember) := am_okm_of [204, 203, 203, 204, 202, 203, 204, 522, 523, 524, 41, 525, 204, 204] (by decide +kernel) (by decide +kernel) (by decide +kernel) (by decide +kernel) (by decide +kernel) (List.mem_cons_of_mem _ (List.mem_of_getElem? (i := 521) (by decide +kernel)))
set_option maxRecDepth 100000 in
set_option maxHeartbeats 4000000 in
theorem zk_X0_takeBack : am_okm (zm_X0_takeBack, zi_X0_takeBack) := am_okm_of [204, 204, 204, 202, 203, 204, 522, 523, 524, 41, 525] (by decide +kernel) (by decide +kernel) (by decide +kernel) (by decide +kernel) (by decide +kernel) (List.mem_cons_of_mem _ (List.mem_of_getElem? (i := 566) (by decide +kernel)))
set_option maxRecDepth 100000 in
set_option maxHeartbeats 4000000 in
theorem zk_X1_init : am_okm (zm_X1_init, zi_X1_init) := am_okm_of [321, 58, 59, 322, 144, 41, 323, 146, 41, 147, 326, 324, 249, 45, 325, 251, 45, 252, 327, 76, 328, 76, 329] (by decide +kernel) (by decide +kernel) (by decide +kernel) (by decide +kernel) (by decide +kernel) (List.mem_cons_of_mem _ (List.mem_of_getElem? (i := 320) (by decide +kernel)))
set_option maxRecDepth 100000 in
set_option maxHeartbeats 4000000 in
theorem zk_X1_addedInAllOrders : am_okm (zm_X1_addedInAllOrders, zi_X1_addedInAllOrders) := am_okm_of [326, 703, 523, 524, 41, 525, 96, 704, 620, 51, 621, 96, 705, 707, 11, 47, 708, 705, 707, 11, 47, 708, 712, 37, 713, 712, 37, 713] (by decide +kernel) (by decide +kernel) (by decide +kernel) (by decide +kernel) (by decide +kernel) (List.mem_cons_of_mem _ (List.mem_of_getElem? (i := 702) (by decide +kernel)))
set_option maxRecDepth 100000 in
set_option maxHeartbeats 4000000 in
theorem zk_X1_drawnBy : am_okm (zm_X1_drawnBy, zi_X1_drawnBy) := am_okm_of [96, 326, 175, 175, 327, 326, 709, 477, 478, 45, 479, 327, 261, 96, 533, 37, 534] (by decide +kernel) (by decide +kernel) (by decide +kernel) (by decide +kernel) (by decide +kernel) (List.mem_cons_of_mem _ (List.mem_of_getElem? (i := 708) (by decide +kernel)))
set_option maxRecDepth 100000 in
set_option maxHeartbeats 4000000 in
theorem zk_X1_seekRests : am_okm (zm_X1_seekRests, zi_X1_seekRests) := am_okm_of [326, 703, 523, 524, 41, 525, 326, 170, 170, 327, 326, 709, 477, 478, 45, 479, 328, 734, 736, 12, 47, 737, 329, 734, 736, 12, 47, 737, 330, 332, 328, 328, 329, 329, 330, 330, 332] (by decide +kernel) (by decide +kernel) (by decide +kernel) (by decide +kernel) (by decide +kernel) (List.mem_cons_of_mem _ (List.mem_of_getElem? (i := 733) (by decide +kernel)))
set_option maxRecDepth 100000 in
set_option maxHeartbeats 4000000 in
theorem zk_X1_has : am_okm (zm_X1_has, zi_X1_has) := am_okm_of [326, 738, 465, 466, 41, 467, 327, 265] (by decide +kernel) (by decide +kernel) (by decide +kernel) (by decide +kernel) (by decide +kernel) (List.mem_cons_of_mem _ (List.mem_of_getElem? (i := 737) (by decide +kernel)))
set_option maxRecDepth 100000 in
set_option maxHeartbeats 4000000 in
theorem zk_X1_waysToLack : am_okm (zm_X1_waysToLack, zi_X1_waysToLack) := am_okm_of [96, 747, 748, 749, 41, 750, 96, 175, 327, 752, 481, 482, 45, 483, 327, 753, 500, 501, 45, 502, 327, 265, 96, 533, 37, 534, 704, 620, 51, 621, 755, 37, 756, 755, 37, 756] (by decide +kernel) (by decide +kernel) (by decide +kernel) (by decide +kernel) (by decide +kernel) (List.mem_cons_of_mem _ (List.mem_of_getElem? (i := 746) (by decide +kernel)))
set_option maxRecDepth 100000 in
set_option maxHeartbeats 4000000 in
theorem zk_X1_lackedByChance : am_okm (zm_X1_lackedByChance, zi_X1_lackedByChance) := am_okm_of [326, 703, 523, 524, 41, 525, 334, 334, 771, 772, 334, 334, 773, 774, 776, 13, 47, 777] (by decide +kernel) (by decide +kernel) (by decide +kernel) (by decide +kernel) (by decide +kernel) (List.mem_cons_of_mem _ (List.mem_of_getElem? (i := 770) (by decide +kernel)))
set_option maxRecDepth 100000 in
set_option maxHeartbeats 4000000 in
theorem zk_X1_happen : am_okm (zm_X1_happen, zi_X1_happen) := am_okm_of [327, 326, 778, 528, 529, 45, 530, 327, 265, 96, 533, 37, 534, 96, 326, 779, 548, 549, 41, 550, 326, 780, 556, 557, 41, 558] (by decide +kernel) (by decide +kernel) (by decide +kernel) (by decide +kernel) (by decide +kernel) (List.mem_cons_of_mem _ (List.mem_of_getElem? (i := 777) (by decide +kernel)))
set_option maxRecDepth 100000 in
set_option maxHeartbeats 4000000 in
theorem zk_X2_init : am_okm (zm_X2_init, zi_X2_init) := am_okm_of [291, 58, 59, 292, 84, 40, 293, 86, 40, 87, 298, 294, 144, 41, 295, 146, 41, 147, 299, 296, 249, 45, 297, 251, 45, 252, 300] (by decide +kernel) (by decide +kernel) (by decide +kernel) (by decide +kernel) (by decide +kernel) (List.mem_cons_of_mem _ (List.mem_of_getElem? (i := 290) (by decide +kernel)))
set_option maxRecDepth 100000 in
set_option maxHeartbeats 4000000 in
theorem zk_X2_inDays : am_okm (zm_X2_inDays, zi_X2_inDays) := am_okm_of [299, 575, 523, 524, 41, 525, 300, 299, 576, 528, 529, 45, 530, 300, 269, 300, 264, 97, 533, 37, 534] (by decide +kernel) (by decide +kernel) (by decide +kernel) (by decide +kernel) (by decide +kernel) (List.mem_cons_of_mem _ (List.mem_of_getElem? (i := 574) (by decide +kernel)))
set_option maxRecDepth 100000 in
set_option maxHeartbeats 4000000 in
theorem zk_X2_seekOrder : am_okm (zm_X2_seekOrder, zi_X2_seekOrder) := am_okm_of [299, 575, 523, 524, 41, 525, 299, 586, 154, 155, 41, 156, 300, 299, 587, 481, 482, 45, 483, 588, 301, 303, 300, 299, 589, 500, 501, 45, 502, 300, 264, 97, 591, 37, 592, 300, 264, 97, 533, 37, 534, 301, 301, 97, 596, 598, 5, 46, 599, 303, 97, 600, 602, 6, 46, 603] (by decide +kernel) (by decide +kernel) (by decide +kernel) (by decide +kernel) (by decide +kernel) (List.mem_cons_of_mem _ (List.mem_of_getElem? (i := 585) (by decide +kernel)))
set_option maxRecDepth 100000 in
set_option maxHeartbeats 4000000 in
theorem zk_X2_figures : am_okm (zm_X2_figures, zi_X2_figures) := am_okm_of [299, 158] (by decide +kernel) (by decide +kernel) (by decide +kernel) (by decide +kernel) (by decide +kernel) (List.mem_cons_of_mem _ (List.mem_of_getElem? (i := 599) (by decide +kernel)))
set_option maxRecDepth 100000 in
set_option maxHeartbeats 4000000 in
theorem zk_X2_toNextOrder : am_okm (zm_X2_toNextOrder, zi_X2_toNextOrder) := am_okm_of [299, 158, 604, 605, 46, 606, 604, 605, 46, 606] (by decide +kernel) (by decide +kernel) (by decide +kernel) (by decide +kernel) (by decide +kernel) (List.mem_cons_of_mem _ (List.mem_of_getElem? (i := 603) (by decide +kernel)))
set_option maxRecDepth 100000 in
set_option maxHeartbeats 4000000 in
theorem zk_X2_exchangePlaces : am_okm (zm_X2_exchangePlaces, zi_X2_exchangePlaces) := am_okm_of [] (by decide +kernel) (by decide +kernel) (by decide +kernel) (by decide +kernel) (by decide +kernel) (List.mem_cons_of_mem _ (List.mem_of_getElem? (i := 606) (by decide +kernel)))
set_option maxRecDepth 100000 in
set_option maxHeartbeats 4000000 in
theorem zk_X2_fewestSalts : am_okm (zm_X2_fewestSalts, zi_X2_fewestSalts) := am_okm_of [299, 575, 523, 524, 41, 525, 97, 172, 619, 620, 51, 621, 299, 172, 172, 300, 299, 625, 477, 478, 45, 479, 300, 264, 619, 620, 51, 621] (by decide +kernel) (by decide +kernel) (by decide +kernel) (by decide +kernel) (by decide +kernel) (List.mem_cons_of_mem _ (List.mem_of_getElem? (i := 618) (by decide +kernel)))
set_option maxRecDepth 100000 in
set_option maxHeartbeats 4000000 in
theorem zk_X2_leastBarrel : am_okm (zm_X2_leastBarrel, zi_X2_leastBarrel) := am_okm_of [298, 634, 437, 438, 40, 439, 298, 116, 299, 575, 523, 524, 41, 525, 299, 164, 300, 298, 299, 576, 528, 529, 45, 530, 299, 168, 168] (by decide +kernel) (by decide +kernel) (by decide +kernel) (by decide +kernel) (by decide +kernel) (List.mem_cons_of_mem _ (List.mem_of_getElem? (i := 633) (by decide +kernel)))
set_option maxRecDepth 100000 in
set_option maxHeartbeats 4000000 in
theorem zk_X2_firstNotSo : am_okm (zm_X2_firstNotSo, zi_X2_firstNotSo) := am_okm_of [299, 575, 523, 524, 41, 525, 640, 37, 641, 648, 649, 651, 7, 46, 652, 658, 660, 9, 46, 661] (by decide +kernel) (by decide +kernel) (by decide +kernel) (by decide +kernel) (by decide +kernel) (List.mem_cons_of_mem _ (List.mem_of_getElem? (i := 646) (by decide +kernel)))
set_option maxRecDepth 100000 in
set_option maxHeartbeats 4000000 in
theorem zk_X2_canBe : am_okm (zm_X2_canBe, zi_X2_canBe) := am_okm_of [97, 97, 299, 653, 465, 466, 41, 467, 654, 656, 8, 46, 657] (by decide +kernel) (by decide +kernel) (by decide +kernel) (by decide +kernel) (by decide +kernel) (List.mem_cons_of_mem _ (List.mem_of_getElem? (i := 652) (by decide +kernel)))
set_option maxRecDepth 100000 in
set_option maxHeartbeats 4000000 in
theorem zk_X2_lackOf : am_okm (zm_X2_lackOf, zi_X2_lackOf) := am_okm_of [300, 299, 625, 477, 478, 45, 479, 300, 264] (by decide +kernel) (by decide +kernel) (by decide +kernel) (by decide +kernel) (by decide +kernel) (List.mem_cons_of_mem _ (List.mem_of_getElem? (i := 657) (by decide +kernel)))
set_option maxRecDepth 100000 in
set_option maxHeartbeats 4000000 in
theorem zk_X2_carryOut : am_okm (zm_X2_carryOut, zi_X2_carryOut) := am_okm_of [300, 299, 576, 528, 529, 45, 530, 299, 662, 540, 541, 41, 542, 299, 663, 548, 549, 41, 550, 299, 664, 556, 557, 41, 558] (by decide +kernel) (by decide +kernel) (by decide +kernel) (by decide +kernel) (by decide +kernel) (List.mem_cons_of_mem _ (List.mem_of_getElem? (i := 661) (by decide +kernel)))
set_option maxRecDepth 100000 in
set_option maxHeartbeats 4000000 in
theorem zk_X3_init : am_okm (zm_X3_init, zi_X3_init) := am_okm_of [82, 58, 59, 83, 84, 40, 85, 86, 40, 87, 136] (by decide +kernel) (by decide +kernel) (by decide +kernel) (by decide +kernel) (by decide +kernel) (List.mem_cons_of_mem _ (List.mem_of_getElem? (i := 81) (by decide +kernel)))
set_option maxRecDepth 100000 in
set_option maxHeartbeats 4000000 in
theorem zk_X3_read : am_okm (zm_X3_read, zi_X3_read) := am_okm_of [136, 412, 413, 414, 40, 415, 69, 67, 416, 418, 0, 39, 419, 69] (by decide +kernel) (by decide +kernel) (by decide +kernel) (by decide +kernel) (by decide +kernel) (List.mem_cons_of_mem _ (List.mem_of_getElem? (i := 411) (by decide +kernel)))
set_option maxRecDepth 100000 in
set_option maxHeartbeats 4000000 in
theorem zk_X3_take : am_okm (zm_X3_take, zi_X3_take) := am_okm_of [420, 422, 1, 39, 423, 424, 426, 2, 39, 427, 424, 426, 2, 39, 427, 424, 426, 2, 39, 427, 424, 426, 2, 39, 427] (by decide +kernel) (by decide +kernel) (by decide +kernel) (by decide +kernel) (by decide +kernel) (List.mem_cons_of_mem _ (List.mem_of_getElem? (i := 419) (by decide +kernel)))
set_option maxRecDepth 100000 in
set_option maxHeartbeats 4000000 in
theorem zk_X3_takePart : am_okm (zm_X3_takePart, zi_X3_takePart) := am_okm_of [136, 99, 136, 99, 99, 136, 102, 136, 102, 102] (by decide +kernel) (by decide +kernel) (by decide +kernel) (by decide +kernel) (by decide +kernel) (List.mem_cons_of_mem _ (List.mem_of_getElem? (i := 423) (by decide +kernel)))
set_option maxRecDepth 100000 in
set_option maxHeartbeats 4000000 in
theorem zk_X3_takeFigure : am_okm (zm_X3_takeFigure, zi_X3_takeFigure) := am_okm_of [390, 37, 391, 136, 91, 136, 94, 136, 118, 136, 102, 429, 430, 39, 431, 136, 106, 136, 99, 429, 430, 39, 431, 136, 110, 136, 99, 429, 430, 39, 431, 136, 114, 136, 99, 429, 430, 39, 431] (by decide +kernel) (by decide +kernel) (by decide +kernel) (by decide +kernel) (by decide +kernel) (List.mem_cons_of_mem _ (List.mem_of_getElem? (i := 427) (by decide +kernel)))
set_option maxRecDepth 100000 in
set_option maxHeartbeats 4000000 in
theorem zk_X3_putLast : am_okm (zm_X3_putLast, zi_X3_putLast) := am_okm_of [390, 37, 391] (by decide +kernel) (by decide +kernel) (by decide +kernel) (by decide +kernel) (by decide +kernel) (List.mem_cons_of_mem _ (List.mem_of_getElem? (i := 431) (by decide +kernel)))
set_option maxRecDepth 100000 in
set_option maxHeartbeats 4000000 in
theorem zk_X4_init : am_okm (zm_X4_init, zi_X4_init) := am_okm_of [233, 58, 59, 76, 234, 76, 235, 76, 236, 237] (by decide +kernel) (by decide +kernel) (by decide +kernel) (by decide +kernel) (by decide +kernel) (List.mem_cons_of_mem _ (List.mem_of_getElem? (i := 232) (by decide +kernel)))
set_option maxRecDepth 100000 in
set_option maxHeartbeats 4000000 in
theorem zk_X4_add : am_okm (zm_X4_add, zi_X4_add) := am_okm_of [237, 234, 237, 235, 237, 236, 237, 237, 237, 237] (by decide +kernel) (by decide +kernel) (by decide +kernel) (by decide +kernel) (by decide +kernel) (List.mem_cons_of_mem _ (List.mem_of_getElem? (i := 672) (by decide +kernel)))
set_option maxRecDepth 100000 in
set_option maxHeartbeats 4000000 in
theorem zk_X4_clear : am_okm (zm_X4_clear, zi_X4_clear) := am_okm_of [237, 237] (by decide +kernel) (by decide +kernel) (by decide +kernel) (by decide +kernel) (by decide +kernel) (List.mem_cons_of_mem _ (List.mem_of_getElem? (i := 680) (by decide +kernel)))
set_option maxRecDepth 100000 in
set_option maxHeartbeats 4000000 in
theorem zk_X4_possibleWants : am_okm (zm_X4_possibleWants, zi_X4_possibleWants) := am_okm_of [494, 37, 495, 497, 37, 498, 691, 693, 10, 44, 694] (by decide +kernel) (by decide +kernel) (by decide +kernel) (by decide +kernel) (by decide +kernel) (List.mem_cons_of_mem _ (List.mem_of_getElem? (i := 688) (by decide +kernel)))
set_option maxRecDepth 100000 in
set_option maxHeartbeats 4000000 in
theorem zk_X4_agrees : am_okm (zm_X4_agrees, zi_X4_agrees) := am_okm_of [237, 234, 236, 235] (by decide +kernel) (by decide +kernel) (by decide +kernel) (by decide +kernel) (by decide +kernel) (List.mem_cons_of_mem _ (List.mem_of_getElem? (i := 694) (by decide +kernel)))
set_option maxRecDepth 100000 in
set_option maxHeartbeats 4000000 in
theorem zk_X5_init : am_okm (zm_X5_init, zi_X5_init) := am_okm_of [218, 58, 59, 219, 221, 221, 219, 144, 41, 220, 146, 41, 147, 222] (by decide +kernel) (by decide +kernel) (by decide +kernel) (by decide +kernel) (by decide +kernel) (List.mem_cons_of_mem _ (List.mem_of_getElem? (i := 217) (by decide +kernel)))
set_option maxRecDepth 100000 in
set_option maxHeartbeats 4000000 in
theorem zk_X5_clear : am_okm (zm_X5_clear, zi_X5_clear) := am_okm_of [222] (by decide +kernel) (by decide +kernel) (by decide +kernel) (by decide +kernel) (by decide +kernel) (List.mem_cons_of_mem _ (List.mem_of_getElem? (i := 451) (by decide +kernel)))
set_option maxRecDepth 100000 in
set_option maxHeartbeats 4000000 in
theorem zk_X5_put : am_okm (zm_X5_put, zi_X5_put) := am_okm_of [221, 789, 523, 524, 41, 525, 222, 222] (by decide +kernel) (by decide +kernel) (by decide +kernel) (by decide +kernel) (by decide +kernel) (List.mem_cons_of_mem _ (List.mem_of_getElem? (i := 788) (by decide +kernel)))
set_option maxRecDepth 100000 in
set_option maxHeartbeats 4000000 in
theorem zk_X5_fetch : am_okm (zm_X5_fetch, zi_X5_fetch) := am_okm_of [222, 221, 789, 523, 524, 41, 525] (by decide +kernel) (by decide +kernel) (by decide +kernel) (by decide +kernel) (by decide +kernel) (List.mem_cons_of_mem _ (List.mem_of_getElem? (i := 797) (by decide +kernel)))
set_option maxRecDepth 100000 in
set_option maxHeartbeats 4000000 in
theorem zk_X6_init : am_okm (zm_X6_init, zi_X6_init) := am_okm_of [148, 58, 59, 76, 157, 76, 161, 76, 165, 149, 150, 151, 41, 152] (by decide +kernel) (by decide +kernel) (by decide +kernel) (by decide +kernel) (by decide +kernel) (List.mem_cons_of_mem _ (List.mem_of_getElem? (i := 147) (by decide +kernel)))
set_option maxRecDepth 100000 in
set_option maxHeartbeats 4000000 in
theorem zk_X6_clear : am_okm (zm_X6_clear, zi_X6_clear) := am_okm_of [153, 154, 155, 41, 156, 161, 165, 169, 174, 177] (by decide +kernel) (by decide +kernel) (by decide +kernel) (by decide +kernel) (by decide +kernel) (List.mem_cons_of_mem _ (List.mem_of_getElem? (i := 152) (by decide +kernel)))
set_option maxRecDepth 100000 in
set_option maxHeartbeats 4000000 in
theorem zk_X6_standAsTold : am_okm (zm_X6_standAsTold, zi_X6_standAsTold) := am_okm_of [157] (by decide +kernel) (by decide +kernel) (by decide +kernel) (by decide +kernel) (by decide +kernel) (List.mem_cons_of_mem _ (List.mem_of_getElem? (i := 156) (by decide +kernel)))
set_option maxRecDepth 100000 in
set_option maxHeartbeats 4000000 in
theorem zk_X6_copyFrom : am_okm (zm_X6_copyFrom, zi_X6_copyFrom) := am_okm_of [157, 157, 526, 442, 441, 49, 161, 161, 526, 442, 441, 49, 165, 165, 526, 442, 441, 49, 169, 169, 174, 174, 177, 177] (by decide +kernel) (by decide +kernel) (by decide +kernel) (by decide +kernel) (by decide +kernel) (List.mem_cons_of_mem _ (List.mem_of_getElem? (i := 525) (by decide +kernel)))
set_option maxRecDepth 100000 in
set_option maxHeartbeats 4000000 in
theorem zk_X6_placeOf : am_okm (zm_X6_placeOf, zi_X6_placeOf) := am_okm_of [157] (by decide +kernel) (by decide +kernel) (by decide +kernel) (by decide +kernel) (by decide +kernel) (List.mem_cons_of_mem _ (List.mem_of_getElem? (i := 463) (by decide +kernel)))
set_option maxRecDepth 100000 in
set_option maxHeartbeats 4000000 in
theorem zk_X6_exchange : am_okm (zm_X6_exchange, zi_X6_exchange) := am_okm_of [157, 157, 157, 157] (by decide +kernel) (by decide +kernel) (by decide +kernel) (by decide +kernel) (by decide +kernel) (List.mem_cons_of_mem _ (List.mem_of_getElem? (i := 542) (by decide +kernel)))
set_option maxRecDepth 100000 in
set_option maxHeartbeats 4000000 in
theorem zk_X6_isSalted : am_okm (zm_X6_isSalted, zi_X6_isSalted) := am_okm_of [169] (by decide +kernel) (by decide +kernel) (by decide +kernel) (by decide +kernel) (by decide +kernel) (List.mem_cons_of_mem _ (List.mem_of_getElem? (i := 467) (by decide +kernel)))
set_option maxRecDepth 100000 in
set_option maxHeartbeats 4000000 in
theorem zk_X6_giveSalt : am_okm (zm_X6_giveSalt, zi_X6_giveSalt) := am_okm_of [169, 169] (by decide +kernel) (by decide +kernel) (by decide +kernel) (by decide +kernel) (by decide +kernel) (List.mem_cons_of_mem _ (List.mem_of_getElem? (i := 550) (by decide +kernel)))
set_option maxRecDepth 100000 in
set_option maxHeartbeats 4000000 in
theorem zk_X6_isAway : am_okm (zm_X6_isAway, zi_X6_isAway) := am_okm_of [174] (by decide +kernel) (by decide +kernel) (by decide +kernel) (by decide +kernel) (by decide +kernel) (List.mem_cons_of_mem _ (List.mem_of_getElem? (i := 471) (by decide +kernel)))
set_option maxRecDepth 100000 in
set_option maxHeartbeats 4000000 in
theorem zk_X6_turnAway : am_okm (zm_X6_turnAway, zi_X6_turnAway) := am_okm_of [174, 174] (by decide +kernel) (by decide +kernel) (by decide +kernel) (by decide +kernel) (by decide +kernel) (List.mem_cons_of_mem _ (List.mem_of_getElem? (i := 558) (by decide +kernel)))
set_option maxRecDepth 100000 in
set_option maxHeartbeats 4000000 in
theorem zk_X6_countPresent : am_okm (zm_X6_countPresent, zi_X6_countPresent) := am_okm_of [174, 751, 620, 51, 621] (by decide +kernel) (by decide +kernel) (by decide +kernel) (by decide +kernel) (by decide +kernel) (List.mem_cons_of_mem _ (List.mem_of_getElem? (i := 750) (by decide +kernel)))
set_option maxRecDepth 100000 in
set_option maxHeartbeats 4000000 in
theorem zk_X7_init : am_okm (zm_X7_init, zi_X7_init) := am_okm_of [65, 58, 59, 76, 66, 68] (by decide +kernel) (by decide +kernel) (by decide +kernel) (by decide +kernel) (by decide +kernel) (List.mem_cons_of_mem _ (List.mem_of_getElem? (i := 64) (by decide +kernel)))
set_option maxRecDepth 100000 in
set_option maxHeartbeats 4000000 in
theorem zk_X7_append : am_okm (zm_X7_append, zi_X7_append) := am_okm_of [68, 66, 68, 68, 68, 68] (by decide +kernel) (by decide +kernel) (by decide +kernel) (by decide +kernel) (by decide +kernel) (List.mem_cons_of_mem _ (List.mem_of_getElem? (i := 395) (by decide +kernel)))
set_option maxRecDepth 100000 in
set_option maxHeartbeats 4000000 in
theorem zk_X7_clear : am_okm (zm_X7_clear, zi_X7_clear) := am_okm_of [68, 68] (by decide +kernel) (by decide +kernel) (by decide +kernel) (by decide +kernel) (by decide +kernel) (List.mem_cons_of_mem _ (List.mem_of_getElem? (i := 403) (by decide +kernel)))
set_option maxRecDepth 100000 in
set_option maxHeartbeats 4000000 in
theorem zk_X8_init : am_okm (zm_X8_init, zi_X8_init) := am_okm_of [253, 58, 59, 76, 254, 76, 256, 76, 258, 76, 260, 76, 263, 76, 267, 76, 268] (by decide +kernel) (by decide +kernel) (by decide +kernel) (by decide +kernel) (by decide +kernel) (List.mem_cons_of_mem _ (List.mem_of_getElem? (i := 252) (by decide +kernel)))
set_option maxRecDepth 100000 in
set_option maxHeartbeats 4000000 in
theorem zk_X8_lookAt : am_okm (zm_X8_lookAt, zi_X8_lookAt) := am_okm_of [480, 481, 482, 45, 483, 499, 500, 501, 45, 502] (by decide +kernel) (by decide +kernel) (by decide +kernel) (by decide +kernel) (by decide +kernel) (List.mem_cons_of_mem _ (List.mem_of_getElem? (i := 479) (by decide +kernel)))
set_option maxRecDepth 100000 in
set_option maxHeartbeats 4000000 in
theorem zk_X8_hear : am_okm (zm_X8_hear, zi_X8_hear) := am_okm_of [178, 484, 485, 486, 40, 487, 98, 491, 469, 470, 41, 471, 254, 256, 492, 465, 466, 41, 467, 254, 105, 109, 494, 37, 495, 256, 254, 109, 497, 37, 498] (by decide +kernel) (by decide +kernel) (by decide +kernel) (by decide +kernel) (by decide +kernel) (List.mem_cons_of_mem _ (List.mem_of_getElem? (i := 483) (by decide +kernel)))
end
section
/-! every method, checked -/
set_option maxRecDepth 100000 in
set_option maxHeartbeats 4000000 in
theorem zk_X8_pour : am_okm (zm_X8_pour, zi_X8_pour) := am_okm_of [90, 93, 98, 256, 159, 98, 98, 159, 162, 113, 503, 505, 4, 45, 506, 256] (by decide +kernel) (by decide +kernel) (by decide +kernel) (by decide +kernel) (by decide +kernel) (List.mem_cons_of_mem _ (List.mem_of_getElem? (i := 502) (by decide +kernel)))
set_option maxRecDepth 100000 in
set_option maxHeartbeats 4000000 in
theorem zk_X8_serve : am_okm (zm_X8_serve, zi_X8_serve) := am_okm_of [258, 260, 254, 507, 508, 50, 509, 263, 254, 260, 267, 260, 507, 508, 50, 509, 268, 260, 267] (by decide +kernel) (by decide +kernel) (by decide +kernel) (by decide +kernel) (by decide +kernel) (List.mem_cons_of_mem _ (List.mem_of_getElem? (i := 506) (by decide +kernel)))
set_option maxRecDepth 100000 in
set_option maxHeartbeats 4000000 in
theorem zk_X8_pass : am_okm (zm_X8_pass, zi_X8_pass) := am_okm_of [531, 477, 478, 45, 479, 98, 162, 267, 166, 263, 171, 178, 178] (by decide +kernel) (by decide +kernel) (by decide +kernel) (by decide +kernel) (by decide +kernel) (List.mem_cons_of_mem _ (List.mem_of_getElem? (i := 530) (by decide +kernel)))
set_option maxRecDepth 100000 in
set_option maxHeartbeats 4000000 in
theorem zk_X9_init : am_okm (zm_X9_init, zi_X9_init) := am_okm_of [88, 58, 59, 76, 104, 76, 108, 76, 112, 76, 117] (by decide +kernel) (by decide +kernel) (by decide +kernel) (by decide +kernel) (by decide +kernel) (List.mem_cons_of_mem _ (List.mem_of_getElem? (i := 87) (by decide +kernel)))
set_option maxRecDepth 100000 in
set_option maxHeartbeats 4000000 in
theorem zk_X9_clear : am_okm (zm_X9_clear, zi_X9_clear) := am_okm_of [89, 92, 95, 101] (by decide +kernel) (by decide +kernel) (by decide +kernel) (by decide +kernel) (by decide +kernel) (List.mem_cons_of_mem _ (List.mem_of_getElem? (i := 415) (by decide +kernel)))
set_option maxRecDepth 100000 in
set_option maxHeartbeats 4000000 in
theorem zk_X9_copyFrom : am_okm (zm_X9_copyFrom, zi_X9_copyFrom) := am_okm_of [89, 89, 92, 92, 95, 95, 101, 101, 104, 104, 440, 442, 441, 49, 108, 108, 440, 442, 441, 49, 112, 112, 440, 442, 441, 49, 117, 117, 440, 442, 441, 49] (by decide +kernel) (by decide +kernel) (by decide +kernel) (by decide +kernel) (by decide +kernel) (List.mem_cons_of_mem _ (List.mem_of_getElem? (i := 439) (by decide +kernel)))
set_option maxRecDepth 100000 in
set_option maxHeartbeats 4000000 in
theorem zk_X9_heatOn : am_okm (zm_X9_heatOn, zi_X9_heatOn) := am_okm_of [101, 117, 101, 488, 489, 50, 490] (by decide +kernel) (by decide +kernel) (by decide +kernel) (by decide +kernel) (by decide +kernel) (List.mem_cons_of_mem _ (List.mem_of_getElem? (i := 487) (by decide +kernel)))
set_option maxRecDepth 100000 in
set_option maxHeartbeats 4000000 in
theorem zk_X10_init : am_okm (zm_X10_init, zi_X10_init) := am_okm_of [57, 58, 59, 60, 61, 38, 62, 63, 38, 64, 351, 77, 78, 39, 79, 80, 39, 81, 352, 141, 84, 40, 142, 86, 40, 87, 353, 143, 144, 41, 145, 146, 41, 147, 354, 193, 194, 42, 195, 196, 42, 197, 355, 213, 214, 43, 215, 216, 43, 217, 356, 228, 229, 44, 230, 231, 44, 232, 357, 248, 249, 45, 250, 251, 45, 252, 358, 286, 287, 46, 288, 289, 46, 290, 359, 316, 317, 47, 318, 319, 47, 320, 360, 361] (by decide +kernel) (by decide +kernel) (by decide +kernel) (by decide +kernel) (by decide +kernel) (List.mem_cons_of_mem _ (List.mem_of_getElem? (i := 56) (by decide +kernel)))
set_option maxRecDepth 100000 in
set_option maxHeartbeats 4000000 in
theorem zk_X10_write : am_okm (zm_X10_write, zi_X10_write) := am_okm_of [389, 390, 37, 391, 351, 392, 393, 394, 38, 395] (by decide +kernel) (by decide +kernel) (by decide +kernel) (by decide +kernel) (by decide +kernel) (List.mem_cons_of_mem _ (List.mem_of_getElem? (i := 388) (by decide +kernel)))
set_option maxRecDepth 100000 in
set_option maxHeartbeats 4000000 in
theorem zk_X10_wipe : am_okm (zm_X10_wipe, zi_X10_wipe) := am_okm_of [351, 400, 401, 402, 38, 403] (by decide +kernel) (by decide +kernel) (by decide +kernel) (by decide +kernel) (by decide +kernel) (List.mem_cons_of_mem _ (List.mem_of_getElem? (i := 399) (by decide +kernel)))
set_option maxRecDepth 100000 in
set_option maxHeartbeats 4000000 in
theorem zk_X10_fault : am_okm (zm_X10_fault, zi_X10_fault) := am_okm_of [352, 351, 408, 409, 410, 39, 411] (by decide +kernel) (by decide +kernel) (by decide +kernel) (by decide +kernel) (by decide +kernel) (List.mem_cons_of_mem _ (List.mem_of_getElem? (i := 407) (by decide +kernel)))
set_option maxRecDepth 100000 in
set_option maxHeartbeats 4000000 in
theorem zk_X10_row : am_okm (zm_X10_row, zi_X10_row) := am_okm_of [352, 351, 408, 409, 410, 39, 411, 353, 352, 137, 436, 437, 438, 40, 439, 354, 443, 150, 151, 41, 152, 355, 444, 445, 446, 42, 447, 356, 448, 449, 450, 43, 451, 353, 100, 353, 103] (by decide +kernel) (by decide +kernel) (by decide +kernel) (by decide +kernel) (by decide +kernel) (List.mem_cons_of_mem _ (List.mem_of_getElem? (i := 435) (by decide +kernel)))
set_option maxRecDepth 100000 in
set_option maxHeartbeats 4000000 in
theorem zk_X10_house : am_okm (zm_X10_house, zi_X10_house) := am_okm_of [456, 458, 3, 37, 459, 353, 107, 353, 111, 353, 115, 354, 163, 354, 460, 461, 462, 41, 463, 354, 167, 354, 464, 465, 466, 41, 467, 354, 468, 469, 470, 41, 471] (by decide +kernel) (by decide +kernel) (by decide +kernel) (by decide +kernel) (by decide +kernel) (List.mem_cons_of_mem _ (List.mem_of_getElem? (i := 455) (by decide +kernel)))
set_option maxRecDepth 100000 in
set_option maxHeartbeats 4000000 in
theorem zk_X10_today : am_okm (zm_X10_today, zi_X10_today) := am_okm_of [456, 458, 3, 37, 459, 358, 353, 354, 476, 477, 478, 45, 479, 358, 255, 358, 257, 358, 259, 358, 262, 358, 266, 358, 270] (by decide +kernel) (by decide +kernel) (by decide +kernel) (by decide +kernel) (by decide +kernel) (List.mem_cons_of_mem _ (List.mem_of_getElem? (i := 475) (by decide +kernel)))
set_option maxRecDepth 100000 in
set_option maxHeartbeats 4000000 in
theorem zk_X10_at : am_okm (zm_X10_at, zi_X10_at) := am_okm_of [353, 100, 389, 390, 37, 391, 354, 160] (by decide +kernel) (by decide +kernel) (by decide +kernel) (by decide +kernel) (by decide +kernel) (List.mem_cons_of_mem _ (List.mem_of_getElem? (i := 513) (by decide +kernel)))
set_option maxRecDepth 100000 in
set_option maxHeartbeats 4000000 in
theorem zk_X10_day : am_okm (zm_X10_day, zi_X10_day) := am_okm_of [355, 354, 518, 519, 520, 42, 521, 358, 353, 354, 527, 528, 529, 45, 530, 358, 266, 353, 100, 532, 533, 37, 534] (by decide +kernel) (by decide +kernel) (by decide +kernel) (by decide +kernel) (by decide +kernel) (List.mem_cons_of_mem _ (List.mem_of_getElem? (i := 517) (by decide +kernel)))
set_option maxRecDepth 100000 in
set_option maxHeartbeats 4000000 in
theorem zk_X10_swap : am_okm (zm_X10_swap, zi_X10_swap) := am_okm_of [456, 458, 3, 37, 459, 456, 458, 3, 37, 459, 355, 354, 518, 519, 520, 42, 521, 354, 539, 540, 541, 41, 542, 354, 460, 461, 462, 41, 463] (by decide +kernel) (by decide +kernel) (by decide +kernel) (by decide +kernel) (by decide +kernel) (List.mem_cons_of_mem _ (List.mem_of_getElem? (i := 538) (by decide +kernel)))
set_option maxRecDepth 100000 in
set_option maxHeartbeats 4000000 in
theorem zk_X10_salt : am_okm (zm_X10_salt, zi_X10_salt) := am_okm_of [456, 458, 3, 37, 459, 354, 464, 465, 466, 41, 467, 355, 354, 518, 519, 520, 42, 521, 354, 547, 548, 549, 41, 550, 358, 353, 354, 476, 477, 478, 45, 479, 358, 255] (by decide +kernel) (by decide +kernel) (by decide +kernel) (by decide +kernel) (by decide +kernel) (List.mem_cons_of_mem _ (List.mem_of_getElem? (i := 546) (by decide +kernel)))
set_option maxRecDepth 100000 in
set_option maxHeartbeats 4000000 in
theorem zk_X10_away : am_okm (zm_X10_away, zi_X10_away) := am_okm_of [456, 458, 3, 37, 459, 355, 354, 518, 519, 520, 42, 521, 354, 555, 556, 557, 41, 558, 354, 468, 469, 470, 41, 471] (by decide +kernel) (by decide +kernel) (by decide +kernel) (by decide +kernel) (by decide +kernel) (List.mem_cons_of_mem _ (List.mem_of_getElem? (i := 554) (by decide +kernel)))
set_option maxRecDepth 100000 in
set_option maxHeartbeats 4000000 in
theorem zk_X10_undo : am_okm (zm_X10_undo, zi_X10_undo) := am_okm_of [355, 354, 563, 564, 565, 42, 566, 355, 205] (by decide +kernel) (by decide +kernel) (by decide +kernel) (by decide +kernel) (by decide +kernel) (List.mem_cons_of_mem _ (List.mem_of_getElem? (i := 562) (by decide +kernel)))
set_option maxRecDepth 100000 in
set_option maxHeartbeats 4000000 in
theorem zk_X10_ahead : am_okm (zm_X10_ahead, zi_X10_ahead) := am_okm_of [389, 390, 37, 391, 389, 390, 37, 391, 359, 353, 354, 571, 572, 573, 46, 574] (by decide +kernel) (by decide +kernel) (by decide +kernel) (by decide +kernel) (by decide +kernel) (List.mem_cons_of_mem _ (List.mem_of_getElem? (i := 570) (by decide +kernel)))
set_option maxRecDepth 100000 in
set_option maxHeartbeats 4000000 in
theorem zk_X10_order : am_okm (zm_X10_order, zi_X10_order) := am_okm_of [359, 353, 354, 582, 583, 584, 46, 585, 359, 304, 359, 302] (by decide +kernel) (by decide +kernel) (by decide +kernel) (by decide +kernel) (by decide +kernel) (List.mem_cons_of_mem _ (List.mem_of_getElem? (i := 581) (by decide +kernel)))
set_option maxRecDepth 100000 in
set_option maxHeartbeats 4000000 in
theorem zk_X10_worst : am_okm (zm_X10_worst, zi_X10_worst) := am_okm_of [359, 353, 354, 582, 583, 584, 46, 585, 359, 304, 359, 302] (by decide +kernel) (by decide +kernel) (by decide +kernel) (by decide +kernel) (by decide +kernel) (List.mem_cons_of_mem _ (List.mem_of_getElem? (i := 610) (by decide +kernel)))
set_option maxRecDepth 100000 in
set_option maxHeartbeats 4000000 in
theorem zk_X10_salts : am_okm (zm_X10_salts, zi_X10_salts) := am_okm_of [456, 458, 3, 37, 459, 359, 353, 354, 615, 616, 617, 46, 618] (by decide +kernel) (by decide +kernel) (by decide +kernel) (by decide +kernel) (by decide +kernel) (List.mem_cons_of_mem _ (List.mem_of_getElem? (i := 614) (by decide +kernel)))
set_option maxRecDepth 100000 in
set_option maxHeartbeats 4000000 in
theorem zk_X10_cask : am_okm (zm_X10_cask, zi_X10_cask) := am_okm_of [456, 458, 3, 37, 459, 359, 353, 354, 630, 631, 632, 46, 633] (by decide +kernel) (by decide +kernel) (by decide +kernel) (by decide +kernel) (by decide +kernel) (List.mem_cons_of_mem _ (List.mem_of_getElem? (i := 629) (by decide +kernel)))
set_option maxRecDepth 100000 in
set_option maxHeartbeats 4000000 in
theorem zk_X10_judge : am_okm (zm_X10_judge, zi_X10_judge) := am_okm_of [389, 390, 37, 391, 639, 640, 37, 641, 359, 353, 354, 643, 644, 645, 46, 646] (by decide +kernel) (by decide +kernel) (by decide +kernel) (by decide +kernel) (by decide +kernel) (List.mem_cons_of_mem _ (List.mem_of_getElem? (i := 638) (by decide +kernel)))
set_option maxRecDepth 100000 in
set_option maxHeartbeats 4000000 in
theorem zk_X10_see : am_okm (zm_X10_see, zi_X10_see) := am_okm_of [456, 458, 3, 37, 459, 389, 390, 37, 391, 389, 390, 37, 391, 357, 669, 670, 671, 44, 672] (by decide +kernel) (by decide +kernel) (by decide +kernel) (by decide +kernel) (by decide +kernel) (List.mem_cons_of_mem _ (List.mem_of_getElem? (i := 668) (by decide +kernel)))
set_option maxRecDepth 100000 in
set_option maxHeartbeats 4000000 in
theorem zk_X10_unsee : am_okm (zm_X10_unsee, zi_X10_unsee) := am_okm_of [357, 677, 678, 679, 44, 680] (by decide +kernel) (by decide +kernel) (by decide +kernel) (by decide +kernel) (by decide +kernel) (List.mem_cons_of_mem _ (List.mem_of_getElem? (i := 676) (by decide +kernel)))
set_option maxRecDepth 100000 in
set_option maxHeartbeats 4000000 in
theorem zk_X10_wants : am_okm (zm_X10_wants, zi_X10_wants) := am_okm_of [456, 458, 3, 37, 459, 357, 353, 111, 685, 686, 687, 44, 688] (by decide +kernel) (by decide +kernel) (by decide +kernel) (by decide +kernel) (by decide +kernel) (List.mem_cons_of_mem _ (List.mem_of_getElem? (i := 684) (by decide +kernel)))
set_option maxRecDepth 100000 in
set_option maxHeartbeats 4000000 in
theorem zk_X10_share : am_okm (zm_X10_share, zi_X10_share) := am_okm_of [456, 458, 3, 37, 459, 360, 353, 354, 699, 700, 701, 47, 702, 353, 100, 716, 712, 37, 713, 717, 718, 37, 719] (by decide +kernel) (by decide +kernel) (by decide +kernel) (by decide +kernel) (by decide +kernel) (List.mem_cons_of_mem _ (List.mem_of_getElem? (i := 698) (by decide +kernel)))
set_option maxRecDepth 100000 in
set_option maxHeartbeats 4000000 in
theorem zk_X10_rests : am_okm (zm_X10_rests, zi_X10_rests) := am_okm_of [456, 458, 3, 37, 459, 456, 458, 3, 37, 459, 389, 390, 37, 391, 360, 353, 354, 730, 731, 732, 47, 733, 360, 331, 360, 333] (by decide +kernel) (by decide +kernel) (by decide +kernel) (by decide +kernel) (by decide +kernel) (List.mem_cons_of_mem _ (List.mem_of_getElem? (i := 729) (by decide +kernel)))
set_option maxRecDepth 100000 in
set_option maxHeartbeats 4000000 in
theorem zk_X10_guests : am_okm (zm_X10_guests, zi_X10_guests) := am_okm_of [389, 390, 37, 391, 389, 390, 37, 391, 360, 353, 354, 743, 744, 745, 47, 746, 354, 353, 100, 757, 748, 749, 41, 750, 758, 755, 37, 756, 717, 718, 37, 719] (by decide +kernel) (by decide +kernel) (by decide +kernel) (by decide +kernel) (by decide +kernel) (List.mem_cons_of_mem _ (List.mem_of_getElem? (i := 742) (by decide +kernel)))
set_option maxRecDepth 100000 in
set_option maxHeartbeats 4000000 in
theorem zk_X10_seed : am_okm (zm_X10_seed, zi_X10_seed) := am_okm_of [361, 361] (by decide +kernel) (by decide +kernel) (by decide +kernel) (by decide +kernel) (by decide +kernel) (List.mem_cons_of_mem _ (List.mem_of_getElem? (i := 762) (by decide +kernel)))
set_option maxRecDepth 100000 in
set_option maxHeartbeats 4000000 in
theorem zk_X10_weeks : am_okm (zm_X10_weeks, zi_X10_weeks) := am_okm_of [389, 390, 37, 391, 360, 353, 354, 361, 767, 768, 769, 47, 770, 360, 335, 361] (by decide +kernel) (by decide +kernel) (by decide +kernel) (by decide +kernel) (by decide +kernel) (List.mem_cons_of_mem _ (List.mem_of_getElem? (i := 766) (by decide +kernel)))
set_option maxRecDepth 100000 in
set_option maxHeartbeats 4000000 in
theorem zk_X10_keep : am_okm (zm_X10_keep, zi_X10_keep) := am_okm_of [389, 390, 37, 391, 356, 354, 785, 786, 787, 43, 788, 354, 179] (by decide +kernel) (by decide +kernel) (by decide +kernel) (by decide +kernel) (by decide +kernel) (List.mem_cons_of_mem _ (List.mem_of_getElem? (i := 784) (by decide +kernel)))
set_option maxRecDepth 100000 in
set_option maxHeartbeats 4000000 in
theorem zk_X10_again : am_okm (zm_X10_again, zi_X10_again) := am_okm_of [389, 390, 37, 391, 356, 354, 794, 795, 796, 43, 797, 355, 444, 445, 446, 42, 447, 354, 179] (by decide +kernel) (by decide +kernel) (by decide +kernel) (by decide +kernel) (by decide +kernel) (List.mem_cons_of_mem _ (List.mem_of_getElem? (i := 793) (by decide +kernel)))
set_option maxRecDepth 100000 in
set_option maxHeartbeats 4000000 in
theorem zk_X10_count : am_okm (zm_X10_count, zi_X10_count) := am_okm_of [351, 70, 353, 100, 353, 103, 354, 179, 353, 354, 179, 802, 485, 486, 40, 487, 803, 805, 14, 37, 806, 354, 167, 353, 100, 532, 533, 37, 534, 354, 173, 354, 176, 355, 205, 357, 238] (by decide +kernel) (by decide +kernel) (by decide +kernel) (by decide +kernel) (by decide +kernel) (List.mem_cons_of_mem _ (List.mem_of_getElem? (i := 801) (by decide +kernel)))
set_option maxRecDepth 100000 in
set_option maxHeartbeats 4000000 in
theorem zk_X10_isHouse : am_okm (zm_X10_isHouse, zi_X10_isHouse) := am_okm_of [353, 100, 389, 390, 37, 391] (by decide +kernel) (by decide +kernel) (by decide +kernel) (by decide +kernel) (by decide +kernel) (List.mem_cons_of_mem _ (List.mem_of_getElem? (i := 459) (by decide +kernel)))
set_option maxRecDepth 100000 in
set_option maxHeartbeats 4000000 in
theorem zk_X10_lackingToday : am_okm (zm_X10_lackingToday, zi_X10_lackingToday) := am_okm_of [358, 353, 354, 476, 477, 478, 45, 479, 358, 266, 353, 100, 532, 533, 37, 534] (by decide +kernel) (by decide +kernel) (by decide +kernel) (by decide +kernel) (by decide +kernel) (List.mem_cons_of_mem _ (List.mem_of_getElem? (i := 806) (by decide +kernel)))
set_option maxRecDepth 100000 in
set_option maxHeartbeats 4000000 in
theorem zk_X10_within : am_okm (zm_X10_within, zi_X10_within) := am_okm_of [] (by decide +kernel) (by decide +kernel) (by decide +kernel) (by decide +kernel) (by decide +kernel) (List.mem_cons_of_mem _ (List.mem_of_getElem? (i := 391) (by decide +kernel)))
set_option maxRecDepth 100000 in
set_option maxHeartbeats 4000000 in
theorem zk_X10_sum : am_okm (zm_X10_sum, zi_X10_sum) := am_okm_of [] (by decide +kernel) (by decide +kernel) (by decide +kernel) (by decide +kernel) (by decide +kernel) (List.mem_cons_of_mem _ (List.mem_of_getElem? (i := 534) (by decide +kernel)))
set_option maxRecDepth 100000 in
set_option maxHeartbeats 4000000 in
theorem zk_X10_greatest : am_okm (zm_X10_greatest, zi_X10_greatest) := am_okm_of [593, 594, 50, 595] (by decide +kernel) (by decide +kernel) (by decide +kernel) (by decide +kernel) (by decide +kernel) (List.mem_cons_of_mem _ (List.mem_of_getElem? (i := 592) (by decide +kernel)))
set_option maxRecDepth 100000 in
set_option maxHeartbeats 4000000 in
theorem zk_X10_ordersOf : am_okm (zm_X10_ordersOf, zi_X10_ordersOf) := am_okm_of [714, 389, 390, 37, 391, 714] (by decide +kernel) (by decide +kernel) (by decide +kernel) (by decide +kernel) (by decide +kernel) (List.mem_cons_of_mem _ (List.mem_of_getElem? (i := 713) (by decide +kernel)))
set_option maxRecDepth 100000 in
set_option maxHeartbeats 4000000 in
theorem zk_X10_power : am_okm (zm_X10_power, zi_X10_power) := am_okm_of [] (by decide +kernel) (by decide +kernel) (by decide +kernel) (by decide +kernel) (by decide +kernel) (List.mem_cons_of_mem _ (List.mem_of_getElem? (i := 756) (by decide +kernel)))
set_option maxRecDepth 100000 in
set_option maxHeartbeats 4000000 in
theorem zk_X10_wantByKind : am_okm (zm_X10_wantByKind, zi_X10_wantByKind) := am_okm_of [] (by decide +kernel) (by decide +kernel) (by decide +kernel) (by decide +kernel) (by decide +kernel) (List.mem_cons_of_mem _ (List.mem_of_getElem? (i := 495) (by decide +kernel)))
set_option maxRecDepth 100000 in
set_option maxHeartbeats 4000000 in
theorem zk_X10_lieOf : am_okm (zm_X10_lieOf, zi_X10_lieOf) := am_okm_of [] (by decide +kernel) (by decide +kernel) (by decide +kernel) (by decide +kernel) (by decide +kernel) (List.mem_cons_of_mem _ (List.mem_of_getElem? (i := 498) (by decide +kernel)))
set_option maxRecDepth 100000 in
set_option maxHeartbeats 4000000 in
theorem zk_X10_withoutDoings : am_okm (zm_X10_withoutDoings, zi_X10_withoutDoings) := am_okm_of [642] (by decide +kernel) (by decide +kernel) (by decide +kernel) (by decide +kernel) (by decide +kernel) (List.mem_cons_of_mem _ (List.mem_of_getElem? (i := 641) (by decide +kernel)))
set_option maxRecDepth 100000 in
set_option maxHeartbeats 4000000 in
theorem zk_X10_inLeastTerms : am_okm (zm_X10_inLeastTerms, zi_X10_inLeastTerms) := am_okm_of [720, 721, 50, 722, 723, 724, 37, 725, 593, 594, 50, 595] (by decide +kernel) (by decide +kernel) (by decide +kernel) (by decide +kernel) (by decide +kernel) (List.mem_cons_of_mem _ (List.mem_of_getElem? (i := 719) (by decide +kernel)))
set_option maxRecDepth 100000 in
set_option maxHeartbeats 4000000 in
theorem zk_X10_commonDivisor : am_okm (zm_X10_commonDivisor, zi_X10_commonDivisor) := am_okm_of [] (by decide +kernel) (by decide +kernel) (by decide +kernel) (by decide +kernel) (by decide +kernel) (List.mem_cons_of_mem _ (List.mem_of_getElem? (i := 725) (by decide +kernel)))
set_option maxRecDepth 100000 in
set_option maxHeartbeats 4000000 in
theorem zk_X11_init : am_okm (zm_X11_init, zi_X11_init) := am_okm_of [812, 58, 59, 76, 817, 76, 818, 76, 819, 76, 820, 76, 821, 76, 822, 76, 823, 76, 826, 76, 830, 76, 834, 76, 835, 76, 837, 76, 838, 76, 839, 904, 841, 76, 842] (by decide +kernel) (by decide +kernel) (by decide +kernel) (by decide +kernel) (by decide +kernel) (List.mem_cons_of_mem _ (List.mem_of_getElem? (i := 811) (by decide +kernel)))
set_option maxRecDepth 100000 in
set_option maxHeartbeats 4000000 in
theorem zk_X11_in : am_okm (zm_X11_in, zi_X11_in) := am_okm_of [] (by decide +kernel) (by decide +kernel) (by decide +kernel) (by decide +kernel) (by decide +kernel) (List.mem_cons_of_mem _ (List.mem_of_getElem? (i := 912) (by decide +kernel)))
set_option maxRecDepth 100000 in
set_option maxHeartbeats 4000000 in
theorem zk_X11_has : am_okm (zm_X11_has, zi_X11_has) := am_okm_of [] (by decide +kernel) (by decide +kernel) (by decide +kernel) (by decide +kernel) (by decide +kernel) (List.mem_cons_of_mem _ (List.mem_of_getElem? (i := 952) (by decide +kernel)))
set_option maxRecDepth 100000 in
set_option maxHeartbeats 4000000 in
theorem zk_X11_ones : am_okm (zm_X11_ones, zi_X11_ones) := am_okm_of [] (by decide +kernel) (by decide +kernel) (by decide +kernel) (by decide +kernel) (by decide +kernel) (List.mem_cons_of_mem _ (List.mem_of_getElem? (i := 1055) (by decide +kernel)))
set_option maxRecDepth 100000 in
set_option maxHeartbeats 4000000 in
theorem zk_X11_write : am_okm (zm_X11_write, zi_X11_write) := am_okm_of [909, 910, 911, 48, 912, 827, 826, 827, 827, 827, 827] (by decide +kernel) (by decide +kernel) (by decide +kernel) (by decide +kernel) (by decide +kernel) (List.mem_cons_of_mem _ (List.mem_of_getElem? (i := 908) (by decide +kernel)))
set_option maxRecDepth 100000 in
set_option maxHeartbeats 4000000 in
theorem zk_X11_wipe : am_okm (zm_X11_wipe, zi_X11_wipe) := am_okm_of [827, 827] (by decide +kernel) (by decide +kernel) (by decide +kernel) (by decide +kernel) (by decide +kernel) (List.mem_cons_of_mem _ (List.mem_of_getElem? (i := 916) (by decide +kernel)))
set_option maxRecDepth 100000 in
set_option maxHeartbeats 4000000 in
theorem zk_X11_figure : am_okm (zm_X11_figure, zi_X11_figure) := am_okm_of [829, 828, 827, 826, 828, 910, 911, 48, 912, 829, 828, 829, 829, 828, 828] (by decide +kernel) (by decide +kernel) (by decide +kernel) (by decide +kernel) (by decide +kernel) (List.mem_cons_of_mem _ (List.mem_of_getElem? (i := 928) (by decide +kernel)))
end
section
/-! every method, checked -/
set_option maxRecDepth 100000 in
set_option maxHeartbeats 4000000 in
theorem zk_X11_readText : am_okm (zm_X11_readText, zi_X11_readText) := am_okm_of [828, 829, 824, 825, 827, 826, 828, 925, 927, 16, 48, 928, 925, 927, 16, 48, 928, 829, 828, 827, 826, 828, 824, 828, 828, 822, 824, 925, 927, 16, 48, 928, 822, 824, 925, 927, 16, 48, 928, 822, 824, 925, 927, 16, 48, 928, 824, 824, 826, 828, 825, 828, 828, 823, 825, 925, 927, 16, 48, 928, 825, 825, 828, 829, 829] (by decide +kernel) (by decide +kernel) (by decide +kernel) (by decide +kernel) (by decide +kernel) (List.mem_cons_of_mem _ (List.mem_of_getElem? (i := 924) (by decide +kernel)))
set_option maxRecDepth 100000 in
set_option maxHeartbeats 4000000 in
theorem zk_X11_fault : am_okm (zm_X11_fault, zi_X11_fault) := am_okm_of [921, 923, 15, 48, 924] (by decide +kernel) (by decide +kernel) (by decide +kernel) (by decide +kernel) (by decide +kernel) (List.mem_cons_of_mem _ (List.mem_of_getElem? (i := 920) (by decide +kernel)))
set_option maxRecDepth 100000 in
set_option maxHeartbeats 4000000 in
theorem zk_X11_row : am_okm (zm_X11_row, zi_X11_row) := am_okm_of [921, 923, 15, 48, 924, 824, 813, 825, 814, 826, 815, 826, 816, 821, 813, 817, 822, 818, 822, 819, 822, 821, 814, 820, 823, 832, 841, 841, 813, 814] (by decide +kernel) (by decide +kernel) (by decide +kernel) (by decide +kernel) (by decide +kernel) (List.mem_cons_of_mem _ (List.mem_of_getElem? (i := 932) (by decide +kernel)))
set_option maxRecDepth 100000 in
set_option maxHeartbeats 4000000 in
theorem zk_X11_isHouse : am_okm (zm_X11_isHouse, zi_X11_isHouse) := am_okm_of [813, 910, 911, 48, 912] (by decide +kernel) (by decide +kernel) (by decide +kernel) (by decide +kernel) (by decide +kernel) (List.mem_cons_of_mem _ (List.mem_of_getElem? (i := 940) (by decide +kernel)))
set_option maxRecDepth 100000 in
set_option maxHeartbeats 4000000 in
theorem zk_X11_every : am_okm (zm_X11_every, zi_X11_every) := am_okm_of [813] (by decide +kernel) (by decide +kernel) (by decide +kernel) (by decide +kernel) (by decide +kernel) (List.mem_cons_of_mem _ (List.mem_of_getElem? (i := 1052) (by decide +kernel)))
set_option maxRecDepth 100000 in
set_option maxHeartbeats 4000000 in
theorem zk_X11_heatOn : am_okm (zm_X11_heatOn, zi_X11_heatOn) := am_okm_of [814, 820, 821, 814] (by decide +kernel) (by decide +kernel) (by decide +kernel) (by decide +kernel) (by decide +kernel) (List.mem_cons_of_mem _ (List.mem_of_getElem? (i := 959) (by decide +kernel)))
set_option maxRecDepth 100000 in
set_option maxHeartbeats 4000000 in
theorem zk_X11_wantBy : am_okm (zm_X11_wantBy, zi_X11_wantBy) := am_okm_of [] (by decide +kernel) (by decide +kernel) (by decide +kernel) (by decide +kernel) (by decide +kernel) (List.mem_cons_of_mem _ (List.mem_of_getElem? (i := 955) (by decide +kernel)))
set_option maxRecDepth 100000 in
set_option maxHeartbeats 4000000 in
theorem zk_X11_houseAt : am_okm (zm_X11_houseAt, zi_X11_houseAt) := am_okm_of [813, 821] (by decide +kernel) (by decide +kernel) (by decide +kernel) (by decide +kernel) (by decide +kernel) (List.mem_cons_of_mem _ (List.mem_of_getElem? (i := 963) (by decide +kernel)))
set_option maxRecDepth 100000 in
set_option maxHeartbeats 4000000 in
theorem zk_X11_layToday : am_okm (zm_X11_layToday, zi_X11_layToday) := am_okm_of [813, 821, 950, 951, 48, 952, 818, 817, 953, 954, 48, 955, 956, 958, 19, 48, 959, 821, 950, 951, 48, 952, 831, 950, 951, 48, 952, 830, 830, 818, 813, 821, 960, 962, 20, 48, 963, 816, 813, 960, 962, 20, 48, 963, 815, 830, 821, 830, 830, 830, 830, 830, 830, 830, 819, 819] (by decide +kernel) (by decide +kernel) (by decide +kernel) (by decide +kernel) (by decide +kernel) (List.mem_cons_of_mem _ (List.mem_of_getElem? (i := 949) (by decide +kernel)))
set_option maxRecDepth 100000 in
set_option maxHeartbeats 4000000 in
theorem zk_X11_sumOf : am_okm (zm_X11_sumOf, zi_X11_sumOf) := am_okm_of [813, 830] (by decide +kernel) (by decide +kernel) (by decide +kernel) (by decide +kernel) (by decide +kernel) (List.mem_cons_of_mem _ (List.mem_of_getElem? (i := 983) (by decide +kernel)))
set_option maxRecDepth 100000 in
set_option maxHeartbeats 4000000 in
theorem zk_X11_passOn : am_okm (zm_X11_passOn, zi_X11_passOn) := am_okm_of [946, 948, 18, 48, 949, 813, 821, 830, 821, 830, 830, 830, 821, 821, 980, 982, 23, 48, 983] (by decide +kernel) (by decide +kernel) (by decide +kernel) (by decide +kernel) (by decide +kernel) (List.mem_cons_of_mem _ (List.mem_of_getElem? (i := 979) (by decide +kernel)))
set_option maxRecDepth 100000 in
set_option maxHeartbeats 4000000 in
theorem zk_X11_lackedOn : am_okm (zm_X11_lackedOn, zi_X11_lackedOn) := am_okm_of [813, 821] (by decide +kernel) (by decide +kernel) (by decide +kernel) (by decide +kernel) (by decide +kernel) (List.mem_cons_of_mem _ (List.mem_of_getElem? (i := 1016) (by decide +kernel)))
set_option maxRecDepth 100000 in
set_option maxHeartbeats 4000000 in
theorem zk_X11_house : am_okm (zm_X11_house, zi_X11_house) := am_okm_of [937, 939, 17, 48, 940, 817, 818, 819, 821, 821, 821, 821, 821] (by decide +kernel) (by decide +kernel) (by decide +kernel) (by decide +kernel) (by decide +kernel) (List.mem_cons_of_mem _ (List.mem_of_getElem? (i := 936) (by decide +kernel)))
set_option maxRecDepth 100000 in
set_option maxHeartbeats 4000000 in
theorem zk_X11_today : am_okm (zm_X11_today, zi_X11_today) := am_okm_of [937, 939, 17, 48, 940, 945, 910, 911, 48, 912, 946, 948, 18, 48, 949, 830] (by decide +kernel) (by decide +kernel) (by decide +kernel) (by decide +kernel) (by decide +kernel) (List.mem_cons_of_mem _ (List.mem_of_getElem? (i := 944) (by decide +kernel)))
set_option maxRecDepth 100000 in
set_option maxHeartbeats 4000000 in
theorem zk_X11_at : am_okm (zm_X11_at, zi_X11_at) := am_okm_of [960, 962, 20, 48, 963] (by decide +kernel) (by decide +kernel) (by decide +kernel) (by decide +kernel) (by decide +kernel) (List.mem_cons_of_mem _ (List.mem_of_getElem? (i := 967) (by decide +kernel)))
set_option maxRecDepth 100000 in
set_option maxHeartbeats 4000000 in
theorem zk_X11_keepAct : am_okm (zm_X11_keepAct, zi_X11_keepAct) := am_okm_of [834, 833, 821, 833, 833, 832, 832, 832] (by decide +kernel) (by decide +kernel) (by decide +kernel) (by decide +kernel) (by decide +kernel) (List.mem_cons_of_mem _ (List.mem_of_getElem? (i := 975) (by decide +kernel)))
set_option maxRecDepth 100000 in
set_option maxHeartbeats 4000000 in
theorem zk_X11_day : am_okm (zm_X11_day, zi_X11_day) := am_okm_of [972, 974, 21, 48, 975, 976, 978, 22, 48, 979] (by decide +kernel) (by decide +kernel) (by decide +kernel) (by decide +kernel) (by decide +kernel) (List.mem_cons_of_mem _ (List.mem_of_getElem? (i := 971) (by decide +kernel)))
set_option maxRecDepth 100000 in
set_option maxHeartbeats 4000000 in
theorem zk_X11_swapOn : am_okm (zm_X11_swapOn, zi_X11_swapOn) := am_okm_of [821, 821, 821, 821] (by decide +kernel) (by decide +kernel) (by decide +kernel) (by decide +kernel) (by decide +kernel) (List.mem_cons_of_mem _ (List.mem_of_getElem? (i := 991) (by decide +kernel)))
set_option maxRecDepth 100000 in
set_option maxHeartbeats 4000000 in
theorem zk_X11_swap : am_okm (zm_X11_swap, zi_X11_swap) := am_okm_of [937, 939, 17, 48, 940, 937, 939, 17, 48, 940, 972, 974, 21, 48, 975, 988, 990, 24, 48, 991, 821] (by decide +kernel) (by decide +kernel) (by decide +kernel) (by decide +kernel) (by decide +kernel) (List.mem_cons_of_mem _ (List.mem_of_getElem? (i := 987) (by decide +kernel)))
set_option maxRecDepth 100000 in
set_option maxHeartbeats 4000000 in
theorem zk_X11_salt : am_okm (zm_X11_salt, zi_X11_salt) := am_okm_of [937, 939, 17, 48, 940, 821, 950, 951, 48, 952, 972, 974, 21, 48, 975, 821, 946, 948, 18, 48, 949, 830] (by decide +kernel) (by decide +kernel) (by decide +kernel) (by decide +kernel) (by decide +kernel) (List.mem_cons_of_mem _ (List.mem_of_getElem? (i := 995) (by decide +kernel)))
set_option maxRecDepth 100000 in
set_option maxHeartbeats 4000000 in
theorem zk_X11_away : am_okm (zm_X11_away, zi_X11_away) := am_okm_of [937, 939, 17, 48, 940, 972, 974, 21, 48, 975, 821, 821] (by decide +kernel) (by decide +kernel) (by decide +kernel) (by decide +kernel) (by decide +kernel) (List.mem_cons_of_mem _ (List.mem_of_getElem? (i := 999) (by decide +kernel)))
set_option maxRecDepth 100000 in
set_option maxHeartbeats 4000000 in
theorem zk_X11_undo : am_okm (zm_X11_undo, zi_X11_undo) := am_okm_of [832, 832, 832, 833, 833, 821, 834, 833, 832] (by decide +kernel) (by decide +kernel) (by decide +kernel) (by decide +kernel) (by decide +kernel) (List.mem_cons_of_mem _ (List.mem_of_getElem? (i := 1003) (by decide +kernel)))
set_option maxRecDepth 100000 in
set_option maxHeartbeats 4000000 in
theorem zk_X11_layTrial : am_okm (zm_X11_layTrial, zi_X11_layTrial) := am_okm_of [821, 821] (by decide +kernel) (by decide +kernel) (by decide +kernel) (by decide +kernel) (by decide +kernel) (List.mem_cons_of_mem _ (List.mem_of_getElem? (i := 1012) (by decide +kernel)))
set_option maxRecDepth 100000 in
set_option maxHeartbeats 4000000 in
theorem zk_X11_ahead : am_okm (zm_X11_ahead, zi_X11_ahead) := am_okm_of [1008, 910, 911, 48, 912, 910, 911, 48, 912, 1009, 1011, 25, 48, 1012, 976, 978, 22, 48, 979, 980, 982, 23, 48, 983, 1013, 1015, 26, 48, 1016, 1013, 1015, 26, 48, 1016] (by decide +kernel) (by decide +kernel) (by decide +kernel) (by decide +kernel) (by decide +kernel) (List.mem_cons_of_mem _ (List.mem_of_getElem? (i := 1007) (by decide +kernel)))
set_option maxRecDepth 100000 in
set_option maxHeartbeats 4000000 in
theorem zk_X11_nextOrder : am_okm (zm_X11_nextOrder, zi_X11_nextOrder) := am_okm_of [813, 835, 835, 813, 835, 835, 1037, 1039, 31, 48, 1040, 813, 1037, 1039, 31, 48, 1040] (by decide +kernel) (by decide +kernel) (by decide +kernel) (by decide +kernel) (by decide +kernel) (List.mem_cons_of_mem _ (List.mem_of_getElem? (i := 1036) (by decide +kernel)))
set_option maxRecDepth 100000 in
set_option maxHeartbeats 4000000 in
theorem zk_X11_exchange : am_okm (zm_X11_exchange, zi_X11_exchange) := am_okm_of [835, 835, 835, 835] (by decide +kernel) (by decide +kernel) (by decide +kernel) (by decide +kernel) (by decide +kernel) (List.mem_cons_of_mem _ (List.mem_of_getElem? (i := 1040) (by decide +kernel)))
set_option maxRecDepth 100000 in
set_option maxHeartbeats 4000000 in
theorem zk_X11_lackBy : am_okm (zm_X11_lackBy, zi_X11_lackBy) := am_okm_of [1009, 1011, 25, 48, 1012, 813, 821, 835, 946, 948, 18, 48, 949, 813, 830, 830, 980, 982, 23, 48, 983] (by decide +kernel) (by decide +kernel) (by decide +kernel) (by decide +kernel) (by decide +kernel) (List.mem_cons_of_mem _ (List.mem_of_getElem? (i := 1028) (by decide +kernel)))
set_option maxRecDepth 100000 in
set_option maxHeartbeats 4000000 in
theorem zk_X11_figures : am_okm (zm_X11_figures, zi_X11_figures) := am_okm_of [813, 835] (by decide +kernel) (by decide +kernel) (by decide +kernel) (by decide +kernel) (by decide +kernel) (List.mem_cons_of_mem _ (List.mem_of_getElem? (i := 1032) (by decide +kernel)))
set_option maxRecDepth 100000 in
set_option maxHeartbeats 4000000 in
theorem zk_X11_bestOrder : am_okm (zm_X11_bestOrder, zi_X11_bestOrder) := am_okm_of [813, 835, 1025, 1027, 28, 48, 1028, 1029, 1031, 29, 48, 1032, 1033, 1035, 30, 48, 1036, 1025, 1027, 28, 48, 1028, 1029, 1031, 29, 48, 1032] (by decide +kernel) (by decide +kernel) (by decide +kernel) (by decide +kernel) (by decide +kernel) (List.mem_cons_of_mem _ (List.mem_of_getElem? (i := 1024) (by decide +kernel)))
set_option maxRecDepth 100000 in
set_option maxHeartbeats 4000000 in
theorem zk_X11_order : am_okm (zm_X11_order, zi_X11_order) := am_okm_of [1021, 1023, 27, 48, 1024] (by decide +kernel) (by decide +kernel) (by decide +kernel) (by decide +kernel) (by decide +kernel) (List.mem_cons_of_mem _ (List.mem_of_getElem? (i := 1020) (by decide +kernel)))
set_option maxRecDepth 100000 in
set_option maxHeartbeats 4000000 in
theorem zk_X11_worst : am_okm (zm_X11_worst, zi_X11_worst) := am_okm_of [1021, 1023, 27, 48, 1024] (by decide +kernel) (by decide +kernel) (by decide +kernel) (by decide +kernel) (by decide +kernel) (List.mem_cons_of_mem _ (List.mem_of_getElem? (i := 1044) (by decide +kernel)))
set_option maxRecDepth 100000 in
set_option maxHeartbeats 4000000 in
theorem zk_X11_salts : am_okm (zm_X11_salts, zi_X11_salts) := am_okm_of [937, 939, 17, 48, 940, 1049, 1051, 32, 48, 1052, 821, 1053, 1054, 48, 1055, 1053, 1054, 48, 1055, 1009, 1011, 25, 48, 1012, 821, 946, 948, 18, 48, 949, 830] (by decide +kernel) (by decide +kernel) (by decide +kernel) (by decide +kernel) (by decide +kernel) (List.mem_cons_of_mem _ (List.mem_of_getElem? (i := 1048) (by decide +kernel)))
set_option maxRecDepth 100000 in
set_option maxHeartbeats 4000000 in
theorem zk_X11_cask : am_okm (zm_X11_cask, zi_X11_cask) := am_okm_of [937, 939, 17, 48, 940, 819, 819, 1009, 1011, 25, 48, 1012, 821, 976, 978, 22, 48, 979, 821, 821, 819] (by decide +kernel) (by decide +kernel) (by decide +kernel) (by decide +kernel) (by decide +kernel) (List.mem_cons_of_mem _ (List.mem_of_getElem? (i := 1059) (by decide +kernel)))
set_option maxRecDepth 100000 in
set_option maxHeartbeats 4000000 in
theorem zk_X11_tryThing : am_okm (zm_X11_tryThing, zi_X11_tryThing) := am_okm_of [976, 978, 22, 48, 979, 937, 939, 17, 48, 940, 937, 939, 17, 48, 940, 988, 990, 24, 48, 991, 937, 939, 17, 48, 940, 821, 950, 951, 48, 952, 821, 937, 939, 17, 48, 940, 821, 946, 948, 18, 48, 949, 937, 939, 17, 48, 940, 830] (by decide +kernel) (by decide +kernel) (by decide +kernel) (by decide +kernel) (by decide +kernel) (List.mem_cons_of_mem _ (List.mem_of_getElem? (i := 1072) (by decide +kernel)))
set_option maxRecDepth 100000 in
set_option maxHeartbeats 4000000 in
theorem zk_X11_power : am_okm (zm_X11_power, zi_X11_power) := am_okm_of [] (by decide +kernel) (by decide +kernel) (by decide +kernel) (by decide +kernel) (by decide +kernel) (List.mem_cons_of_mem _ (List.mem_of_getElem? (i := 1068) (by decide +kernel)))
set_option maxRecDepth 100000 in
set_option maxHeartbeats 4000000 in
theorem zk_X11_judge : am_okm (zm_X11_judge, zi_X11_judge) := am_okm_of [1064, 910, 911, 48, 912, 1065, 1066, 1067, 48, 1068, 910, 911, 48, 912, 1009, 1011, 25, 48, 1012, 1065, 1066, 1067, 48, 1068, 1065, 1069, 1071, 33, 48, 1072] (by decide +kernel) (by decide +kernel) (by decide +kernel) (by decide +kernel) (by decide +kernel) (List.mem_cons_of_mem _ (List.mem_of_getElem? (i := 1063) (by decide +kernel)))
set_option maxRecDepth 100000 in
set_option maxHeartbeats 4000000 in
theorem zk_X11_see : am_okm (zm_X11_see, zi_X11_see) := am_okm_of [937, 939, 17, 48, 940, 1077, 910, 911, 48, 912, 1078, 910, 911, 48, 912, 836, 837, 836, 838, 836, 839, 836, 836, 836, 836] (by decide +kernel) (by decide +kernel) (by decide +kernel) (by decide +kernel) (by decide +kernel) (List.mem_cons_of_mem _ (List.mem_of_getElem? (i := 1076) (by decide +kernel)))
set_option maxRecDepth 100000 in
set_option maxHeartbeats 4000000 in
theorem zk_X11_unsee : am_okm (zm_X11_unsee, zi_X11_unsee) := am_okm_of [836, 836] (by decide +kernel) (by decide +kernel) (by decide +kernel) (by decide +kernel) (by decide +kernel) (List.mem_cons_of_mem _ (List.mem_of_getElem? (i := 1082) (by decide +kernel)))
set_option maxRecDepth 100000 in
set_option maxHeartbeats 4000000 in
theorem zk_X11_wants : am_okm (zm_X11_wants, zi_X11_wants) := am_okm_of [937, 939, 17, 48, 940, 818, 953, 954, 48, 955, 818, 836, 837, 838, 839] (by decide +kernel) (by decide +kernel) (by decide +kernel) (by decide +kernel) (by decide +kernel) (List.mem_cons_of_mem _ (List.mem_of_getElem? (i := 1086) (by decide +kernel)))
set_option maxRecDepth 100000 in
set_option maxHeartbeats 4000000 in
theorem zk_X11_factorial : am_okm (zm_X11_factorial, zi_X11_factorial) := am_okm_of [] (by decide +kernel) (by decide +kernel) (by decide +kernel) (by decide +kernel) (by decide +kernel) (List.mem_cons_of_mem _ (List.mem_of_getElem? (i := 1093) (by decide +kernel)))
set_option maxRecDepth 100000 in
set_option maxHeartbeats 4000000 in
theorem zk_X11_common : am_okm (zm_X11_common, zi_X11_common) := am_okm_of [] (by decide +kernel) (by decide +kernel) (by decide +kernel) (by decide +kernel) (by decide +kernel) (List.mem_cons_of_mem _ (List.mem_of_getElem? (i := 1100) (by decide +kernel)))
set_option maxRecDepth 100000 in
set_option maxHeartbeats 4000000 in
theorem zk_X11_drawnBy : am_okm (zm_X11_drawnBy, zi_X11_drawnBy) := am_okm_of [1009, 1011, 25, 48, 1012, 821, 1049, 1051, 32, 48, 1052, 946, 948, 18, 48, 949, 980, 982, 23, 48, 983] (by decide +kernel) (by decide +kernel) (by decide +kernel) (by decide +kernel) (by decide +kernel) (List.mem_cons_of_mem _ (List.mem_of_getElem? (i := 1097) (by decide +kernel)))
set_option maxRecDepth 100000 in
set_option maxHeartbeats 4000000 in
theorem zk_X11_share : am_okm (zm_X11_share, zi_X11_share) := am_okm_of [937, 939, 17, 48, 940, 1049, 1051, 32, 48, 1052, 950, 951, 48, 952, 1053, 1054, 48, 1055, 1091, 1092, 48, 1093, 813, 1053, 1054, 48, 1055, 1091, 1092, 48, 1093, 1094, 1096, 34, 48, 1097, 1094, 1096, 34, 48, 1097, 813, 1091, 1092, 48, 1093, 1098, 1099, 48, 1100, 813, 1091, 1092, 48, 1093] (by decide +kernel) (by decide +kernel) (by decide +kernel) (by decide +kernel) (by decide +kernel) (List.mem_cons_of_mem _ (List.mem_of_getElem? (i := 1090) (by decide +kernel)))
set_option maxRecDepth 100000 in
set_option maxHeartbeats 4000000 in
theorem zk_X11_gain : am_okm (zm_X11_gain, zi_X11_gain) := am_okm_of [1009, 1011, 25, 48, 1012, 821, 946, 948, 18, 48, 949, 821, 950, 951, 48, 952, 830] (by decide +kernel) (by decide +kernel) (by decide +kernel) (by decide +kernel) (by decide +kernel) (List.mem_cons_of_mem _ (List.mem_of_getElem? (i := 1108) (by decide +kernel)))
set_option maxRecDepth 100000 in
set_option maxHeartbeats 4000000 in
theorem zk_X11_rests : am_okm (zm_X11_rests, zi_X11_rests) := am_okm_of [937, 939, 17, 48, 940, 937, 939, 17, 48, 940, 910, 911, 48, 912, 1105, 1107, 35, 48, 1108, 1105, 1107, 35, 48, 1108, 1105, 1107, 35, 48, 1108, 1105, 1107, 35, 48, 1108] (by decide +kernel) (by decide +kernel) (by decide +kernel) (by decide +kernel) (by decide +kernel) (List.mem_cons_of_mem _ (List.mem_of_getElem? (i := 1104) (by decide +kernel)))
set_option maxRecDepth 100000 in
set_option maxHeartbeats 4000000 in
theorem zk_X11_guests : am_okm (zm_X11_guests, zi_X11_guests) := am_okm_of [1113, 910, 911, 48, 912, 1114, 910, 911, 48, 912, 1049, 1051, 32, 48, 1052, 1053, 1054, 48, 1055, 1066, 1067, 48, 1068, 813, 1053, 1054, 48, 1055, 1066, 1067, 48, 1068, 831, 946, 948, 18, 48, 949, 980, 982, 23, 48, 983, 831, 1098, 1099, 48, 1100] (by decide +kernel) (by decide +kernel) (by decide +kernel) (by decide +kernel) (by decide +kernel) (List.mem_cons_of_mem _ (List.mem_of_getElem? (i := 1112) (by decide +kernel)))
set_option maxRecDepth 100000 in
set_option maxHeartbeats 4000000 in
theorem zk_X11_seed : am_okm (zm_X11_seed, zi_X11_seed) := am_okm_of [840, 840] (by decide +kernel) (by decide +kernel) (by decide +kernel) (by decide +kernel) (by decide +kernel) (List.mem_cons_of_mem _ (List.mem_of_getElem? (i := 1118) (by decide +kernel)))
set_option maxRecDepth 100000 in
set_option maxHeartbeats 4000000 in
theorem zk_X11_weeks : am_okm (zm_X11_weeks, zi_X11_weeks) := am_okm_of [1078, 910, 911, 48, 912, 1009, 1011, 25, 48, 1012, 840, 1123, 1124, 840, 840, 1125, 976, 978, 22, 48, 979, 821, 937, 939, 17, 48, 940, 821, 937, 939, 17, 48, 940, 1013, 1015, 26, 48, 1016, 1013, 1015, 26, 48, 1016] (by decide +kernel) (by decide +kernel) (by decide +kernel) (by decide +kernel) (by decide +kernel) (List.mem_cons_of_mem _ (List.mem_of_getElem? (i := 1122) (by decide +kernel)))
set_option maxRecDepth 100000 in
set_option maxHeartbeats 4000000 in
theorem zk_X11_keep : am_okm (zm_X11_keep, zi_X11_keep) := am_okm_of [910, 911, 48, 912, 841, 842, 821, 821] (by decide +kernel) (by decide +kernel) (by decide +kernel) (by decide +kernel) (by decide +kernel) (List.mem_cons_of_mem _ (List.mem_of_getElem? (i := 1129) (by decide +kernel)))
set_option maxRecDepth 100000 in
set_option maxHeartbeats 4000000 in
theorem zk_X11_again : am_okm (zm_X11_again, zi_X11_again) := am_okm_of [910, 911, 48, 912, 841, 821, 842, 832, 821] (by decide +kernel) (by decide +kernel) (by decide +kernel) (by decide +kernel) (by decide +kernel) (List.mem_cons_of_mem _ (List.mem_of_getElem? (i := 1133) (by decide +kernel)))
set_option maxRecDepth 100000 in
set_option maxHeartbeats 4000000 in
theorem zk_X11_count : am_okm (zm_X11_count, zi_X11_count) := am_okm_of [946, 948, 18, 48, 949, 827, 813, 814, 821, 956, 958, 19, 48, 959, 980, 982, 23, 48, 983, 1013, 1015, 26, 48, 1016, 821, 821, 832, 836] (by decide +kernel) (by decide +kernel) (by decide +kernel) (by decide +kernel) (by decide +kernel) (List.mem_cons_of_mem _ (List.mem_of_getElem? (i := 1137) (by decide +kernel)))
set_option maxRecDepth 100000 in
set_option maxHeartbeats 4000000 in
theorem zk_J6_bitCount_0f7a4 : am_okm (zm_J6_bitCount_0f7a4, zi_J6_bitCount_0f7a4) := am_okm_of [622, 623, 623, 624] (by decide +kernel) (by decide +kernel) (by decide +kernel) (by decide +kernel) (by decide +kernel) (List.mem_cons_of_mem _ (List.mem_of_getElem? (i := 621) (by decide +kernel)))
set_option maxRecDepth 100000 in
set_option maxHeartbeats 4000000 in
theorem zk_J9_floorMod_7cf53 : am_okm (zm_J9_floorMod_7cf53, zi_J9_floorMod_7cf53) := am_okm_of [] (by decide +kernel) (by decide +kernel) (by decide +kernel) (by decide +kernel) (by decide +kernel) (List.mem_cons_of_mem _ (List.mem_of_getElem? (i := 490) (by decide +kernel)))
set_option maxRecDepth 100000 in
set_option maxHeartbeats 4000000 in
theorem zk_J9_abs_0f7a4 : am_okm (zm_J9_abs_0f7a4, zi_J9_abs_0f7a4) := am_okm_of [] (by decide +kernel) (by decide +kernel) (by decide +kernel) (by decide +kernel) (by decide +kernel) (List.mem_cons_of_mem _ (List.mem_of_getElem? (i := 722) (by decide +kernel)))
set_option maxRecDepth 100000 in
set_option maxHeartbeats 4000000 in
theorem zk_J9_max_7cf53 : am_okm (zm_J9_max_7cf53, zi_J9_max_7cf53) := am_okm_of [] (by decide +kernel) (by decide +kernel) (by decide +kernel) (by decide +kernel) (by decide +kernel) (List.mem_cons_of_mem _ (List.mem_of_getElem? (i := 595) (by decide +kernel)))
set_option maxRecDepth 100000 in
set_option maxHeartbeats 4000000 in
theorem zk_J9_min_7cf53 : am_okm (zm_J9_min_7cf53, zi_J9_min_7cf53) := am_okm_of [] (by decide +kernel) (by decide +kernel) (by decide +kernel) (by decide +kernel) (by decide +kernel) (List.mem_cons_of_mem _ (List.mem_of_getElem? (i := 509) (by decide +kernel)))
end
section
/-! the law's own rows, checked piece by piece -/
def zl_0 : List am_R := [(0, .new 7, 3, 10, 0, 0), (3, .dup, 1, 0, 0, 0), (4, .invokespecial 9, 3, 63, 1, 0), (7, .astore_n 1, 1, 0, 0, 0), (8, .new 10, 3, 11, 0, 0), (11, .dup, 1, 0, 0, 0), (12, .invokespecial 12, 3, 105, 1, 0), (15, .astore_n 2, 1, 0, 0, 0), (16, .iconst 0, 1, 0, 0, 0), (17, .istore_n 3, 1, 0, 0, 0), (18, .iload_n 3, 1, 0, 0, 0), (19, .aload_n 0, 1, 0, 0, 0), (20, .arraylength, 1, 0, 0, 0), (21, .iconst 4, 1, 0, 0, 0), (22, .isub, 1, 0, 0, 0), (23, .if_icmp .gt 999, 3, 1022, 0, 0), (26, .aload_n 0, 1, 0, 0, 0), (27, .iload_n 3, 1, 0, 0, 0), (28, .iaload, 1, 0, 0, 0), (29, .bipush 31, 2, 0, 0, 0), (31, .iand, 1, 0, 0, 0), (32, .tableswitch 984 0 28 #[132, 155, 168, 181, 194, 227, 260, 283, 296, 329, 352, 375, 388, 421, 460, 499, 522, 545, 608, 651, 664, 687, 736, 779, 838, 892, 915, 938, 961], 132, 0, 0, 0), (164, .aload_n 1, 1, 0, 0, 0), (165, .aload_n 0, 1, 0, 0, 0), (166, .iload_n 3, 1, 0, 0, 0), (167, .iconst 1, 1, 0, 0, 0), (168, .iadd, 1, 0, 0, 0), (169, .iaload, 1, 0, 0, 0), (170, .invokevirtual 13, 3, 64, 2, 10), (173, .aload_n 2, 1, 0, 0, 0), (174, .aload_n 0, 1, 0, 0, 0), (175, .iload_n 3, 1, 0, 0, 0), (176, .iconst 1, 1, 0, 0, 0), (177, .iadd, 1, 0, 0, 0), (178, .iaload, 1, 0, 0, 0), (179, .invokevirtual 17, 3, 109, 2, 11), (182, .if_icmp .eq 834, 3, 1016, 0, 0), (185, .iconst 0, 1, 0, 0, 0), (186, .ireturn, 1, 1, 0, 0), (187, .aload_n 1, 1, 0, 0, 0)]
def zl_1 : List am_R := [(188, .invokevirtual 18, 3, 65, 1, 10), (191, .aload_n 2, 1, 0, 0, 0), (192, .invokevirtual 22, 3, 110, 1, 11), (195, .if_icmp .eq 821, 3, 1016, 0, 0), (198, .iconst 0, 1, 0, 0, 0), (199, .ireturn, 1, 1, 0, 0), (200, .aload_n 1, 1, 0, 0, 0), (201, .invokevirtual 23, 3, 66, 1, 10), (204, .aload_n 2, 1, 0, 0, 0), (205, .invokevirtual 26, 3, 113, 1, 11), (208, .if_icmp .eq 808, 3, 1016, 0, 0), (211, .iconst 0, 1, 0, 0, 0), (212, .ireturn, 1, 1, 0, 0), (213, .aload_n 1, 1, 0, 0, 0), (214, .invokevirtual 27, 3, 67, 1, 10), (217, .aload_n 2, 1, 0, 0, 0), (218, .invokevirtual 30, 3, 114, 1, 11), (221, .if_icmp .eq 795, 3, 1016, 0, 0), (224, .iconst 0, 1, 0, 0, 0), (225, .ireturn, 1, 1, 0, 0), (226, .aload_n 1, 1, 0, 0, 0), (227, .aload_n 0, 1, 0, 0, 0), (228, .iload_n 3, 1, 0, 0, 0), (229, .iconst 1, 1, 0, 0, 0), (230, .iadd, 1, 0, 0, 0), (231, .iaload, 1, 0, 0, 0), (232, .aload_n 0, 1, 0, 0, 0), (233, .iload_n 3, 1, 0, 0, 0), (234, .iconst 2, 1, 0, 0, 0), (235, .iadd, 1, 0, 0, 0), (236, .iaload, 1, 0, 0, 0), (237, .invokevirtual 31, 3, 68, 3, 10), (240, .aload_n 2, 1, 0, 0, 0), (241, .aload_n 0, 1, 0, 0, 0), (242, .iload_n 3, 1, 0, 0, 0), (243, .iconst 1, 1, 0, 0, 0), (244, .iadd, 1, 0, 0, 0), (245, .iaload, 1, 0, 0, 0), (246, .aload_n 0, 1, 0, 0, 0), (247, .iload_n 3, 1, 0, 0, 0)]
def zl_2 : List am_R := [(248, .iconst 2, 1, 0, 0, 0), (249, .iadd, 1, 0, 0, 0), (250, .iaload, 1, 0, 0, 0), (251, .invokevirtual 35, 3, 124, 3, 11), (254, .if_icmp .eq 762, 3, 1016, 0, 0), (257, .iconst 0, 1, 0, 0, 0), (258, .ireturn, 1, 1, 0, 0), (259, .aload_n 1, 1, 0, 0, 0), (260, .aload_n 0, 1, 0, 0, 0), (261, .iload_n 3, 1, 0, 0, 0), (262, .iconst 1, 1, 0, 0, 0), (263, .iadd, 1, 0, 0, 0), (264, .iaload, 1, 0, 0, 0), (265, .aload_n 0, 1, 0, 0, 0), (266, .iload_n 3, 1, 0, 0, 0), (267, .iconst 2, 1, 0, 0, 0), (268, .iadd, 1, 0, 0, 0), (269, .iaload, 1, 0, 0, 0), (270, .invokevirtual 36, 3, 69, 3, 10), (273, .aload_n 2, 1, 0, 0, 0), (274, .aload_n 0, 1, 0, 0, 0), (275, .iload_n 3, 1, 0, 0, 0), (276, .iconst 1, 1, 0, 0, 0), (277, .iadd, 1, 0, 0, 0), (278, .iaload, 1, 0, 0, 0), (279, .aload_n 0, 1, 0, 0, 0), (280, .iload_n 3, 1, 0, 0, 0), (281, .iconst 2, 1, 0, 0, 0), (282, .iadd, 1, 0, 0, 0), (283, .iaload, 1, 0, 0, 0), (284, .invokevirtual 39, 3, 125, 3, 11), (287, .if_icmp .eq 729, 3, 1016, 0, 0), (290, .iconst 0, 1, 0, 0, 0), (291, .ireturn, 1, 1, 0, 0), (292, .aload_n 1, 1, 0, 0, 0), (293, .aload_n 0, 1, 0, 0, 0), (294, .iload_n 3, 1, 0, 0, 0), (295, .iconst 1, 1, 0, 0, 0), (296, .iadd, 1, 0, 0, 0), (297, .iaload, 1, 0, 0, 0)]
def zl_3 : List am_R := [(298, .invokevirtual 40, 3, 70, 2, 10), (301, .aload_n 2, 1, 0, 0, 0), (302, .aload_n 0, 1, 0, 0, 0), (303, .iload_n 3, 1, 0, 0, 0), (304, .iconst 1, 1, 0, 0, 0), (305, .iadd, 1, 0, 0, 0), (306, .iaload, 1, 0, 0, 0), (307, .invokevirtual 43, 3, 126, 2, 11), (310, .if_icmp .eq 706, 3, 1016, 0, 0), (313, .iconst 0, 1, 0, 0, 0), (314, .ireturn, 1, 1, 0, 0), (315, .aload_n 1, 1, 0, 0, 0), (316, .invokevirtual 44, 3, 71, 1, 10), (319, .aload_n 2, 1, 0, 0, 0), (320, .invokevirtual 47, 3, 128, 1, 11), (323, .if_icmp .eq 693, 3, 1016, 0, 0), (326, .iconst 0, 1, 0, 0, 0), (327, .ireturn, 1, 1, 0, 0), (328, .aload_n 1, 1, 0, 0, 0), (329, .aload_n 0, 1, 0, 0, 0), (330, .iload_n 3, 1, 0, 0, 0), (331, .iconst 1, 1, 0, 0, 0), (332, .iadd, 1, 0, 0, 0), (333, .iaload, 1, 0, 0, 0), (334, .aload_n 0, 1, 0, 0, 0), (335, .iload_n 3, 1, 0, 0, 0), (336, .iconst 2, 1, 0, 0, 0), (337, .iadd, 1, 0, 0, 0), (338, .iaload, 1, 0, 0, 0), (339, .invokevirtual 48, 3, 72, 3, 10), (342, .aload_n 2, 1, 0, 0, 0), (343, .aload_n 0, 1, 0, 0, 0), (344, .iload_n 3, 1, 0, 0, 0), (345, .iconst 1, 1, 0, 0, 0), (346, .iadd, 1, 0, 0, 0), (347, .iaload, 1, 0, 0, 0), (348, .aload_n 0, 1, 0, 0, 0), (349, .iload_n 3, 1, 0, 0, 0), (350, .iconst 2, 1, 0, 0, 0), (351, .iadd, 1, 0, 0, 0)]
def zl_4 : List am_R := [(352, .iaload, 1, 0, 0, 0), (353, .invokevirtual 51, 3, 130, 3, 11), (356, .if_icmp .eq 660, 3, 1016, 0, 0), (359, .iconst 0, 1, 0, 0, 0), (360, .ireturn, 1, 1, 0, 0), (361, .aload_n 1, 1, 0, 0, 0), (362, .aload_n 0, 1, 0, 0, 0), (363, .iload_n 3, 1, 0, 0, 0), (364, .iconst 1, 1, 0, 0, 0), (365, .iadd, 1, 0, 0, 0), (366, .iaload, 1, 0, 0, 0), (367, .invokevirtual 52, 3, 73, 2, 10), (370, .aload_n 2, 1, 0, 0, 0), (371, .aload_n 0, 1, 0, 0, 0), (372, .iload_n 3, 1, 0, 0, 0), (373, .iconst 1, 1, 0, 0, 0), (374, .iadd, 1, 0, 0, 0), (375, .iaload, 1, 0, 0, 0), (376, .invokevirtual 55, 3, 131, 2, 11), (379, .if_icmp .eq 637, 3, 1016, 0, 0), (382, .iconst 0, 1, 0, 0, 0), (383, .ireturn, 1, 1, 0, 0), (384, .aload_n 1, 1, 0, 0, 0), (385, .aload_n 0, 1, 0, 0, 0), (386, .iload_n 3, 1, 0, 0, 0), (387, .iconst 1, 1, 0, 0, 0), (388, .iadd, 1, 0, 0, 0), (389, .iaload, 1, 0, 0, 0), (390, .invokevirtual 56, 3, 74, 2, 10), (393, .aload_n 2, 1, 0, 0, 0), (394, .aload_n 0, 1, 0, 0, 0), (395, .iload_n 3, 1, 0, 0, 0), (396, .iconst 1, 1, 0, 0, 0), (397, .iadd, 1, 0, 0, 0), (398, .iaload, 1, 0, 0, 0), (399, .invokevirtual 59, 3, 132, 2, 11), (402, .if_icmp .eq 614, 3, 1016, 0, 0), (405, .iconst 0, 1, 0, 0, 0), (406, .ireturn, 1, 1, 0, 0), (407, .aload_n 1, 1, 0, 0, 0)]
def zl_5 : List am_R := [(408, .invokevirtual 60, 3, 75, 1, 10), (411, .aload_n 2, 1, 0, 0, 0), (412, .invokevirtual 63, 3, 133, 1, 11), (415, .if_icmp .eq 601, 3, 1016, 0, 0), (418, .iconst 0, 1, 0, 0, 0), (419, .ireturn, 1, 1, 0, 0), (420, .aload_n 1, 1, 0, 0, 0), (421, .aload_n 0, 1, 0, 0, 0), (422, .iload_n 3, 1, 0, 0, 0), (423, .iconst 1, 1, 0, 0, 0), (424, .iadd, 1, 0, 0, 0), (425, .iaload, 1, 0, 0, 0), (426, .aload_n 0, 1, 0, 0, 0), (427, .iload_n 3, 1, 0, 0, 0), (428, .iconst 2, 1, 0, 0, 0), (429, .iadd, 1, 0, 0, 0), (430, .iaload, 1, 0, 0, 0), (431, .invokevirtual 64, 3, 76, 3, 10), (434, .aload_n 2, 1, 0, 0, 0), (435, .aload_n 0, 1, 0, 0, 0), (436, .iload_n 3, 1, 0, 0, 0), (437, .iconst 1, 1, 0, 0, 0), (438, .iadd, 1, 0, 0, 0), (439, .iaload, 1, 0, 0, 0), (440, .aload_n 0, 1, 0, 0, 0), (441, .iload_n 3, 1, 0, 0, 0), (442, .iconst 2, 1, 0, 0, 0), (443, .iadd, 1, 0, 0, 0), (444, .iaload, 1, 0, 0, 0), (445, .invokevirtual 67, 3, 135, 3, 11), (448, .if_icmp .eq 568, 3, 1016, 0, 0), (451, .iconst 0, 1, 0, 0, 0), (452, .ireturn, 1, 1, 0, 0), (453, .aload_n 1, 1, 0, 0, 0), (454, .aload_n 0, 1, 0, 0, 0), (455, .iload_n 3, 1, 0, 0, 0), (456, .iconst 1, 1, 0, 0, 0), (457, .iadd, 1, 0, 0, 0), (458, .iaload, 1, 0, 0, 0), (459, .ifCond .eq 7, 3, 466, 0, 0)]
def zl_6 : List am_R := [(462, .iconst 1, 1, 0, 0, 0), (463, .goto 4, 3, 467, 0, 0), (466, .iconst 0, 1, 0, 0, 0), (467, .invokevirtual 68, 3, 77, 2, 10), (470, .aload_n 2, 1, 0, 0, 0), (471, .aload_n 0, 1, 0, 0, 0), (472, .iload_n 3, 1, 0, 0, 0), (473, .iconst 1, 1, 0, 0, 0), (474, .iadd, 1, 0, 0, 0), (475, .iaload, 1, 0, 0, 0), (476, .ifCond .eq 7, 3, 483, 0, 0), (479, .iconst 1, 1, 0, 0, 0), (480, .goto 4, 3, 484, 0, 0), (483, .iconst 0, 1, 0, 0, 0), (484, .invokevirtual 72, 3, 141, 2, 11), (487, .if_icmp .eq 529, 3, 1016, 0, 0), (490, .iconst 0, 1, 0, 0, 0), (491, .ireturn, 1, 1, 0, 0), (492, .aload_n 1, 1, 0, 0, 0), (493, .aload_n 0, 1, 0, 0, 0), (494, .iload_n 3, 1, 0, 0, 0), (495, .iconst 1, 1, 0, 0, 0), (496, .iadd, 1, 0, 0, 0), (497, .iaload, 1, 0, 0, 0), (498, .ifCond .eq 7, 3, 505, 0, 0), (501, .iconst 1, 1, 0, 0, 0), (502, .goto 4, 3, 506, 0, 0), (505, .iconst 0, 1, 0, 0, 0), (506, .invokevirtual 73, 3, 78, 2, 10), (509, .aload_n 2, 1, 0, 0, 0), (510, .aload_n 0, 1, 0, 0, 0), (511, .iload_n 3, 1, 0, 0, 0), (512, .iconst 1, 1, 0, 0, 0), (513, .iadd, 1, 0, 0, 0), (514, .iaload, 1, 0, 0, 0), (515, .ifCond .eq 7, 3, 522, 0, 0), (518, .iconst 1, 1, 0, 0, 0), (519, .goto 4, 3, 523, 0, 0), (522, .iconst 0, 1, 0, 0, 0), (523, .invokevirtual 76, 3, 142, 2, 11)]
def zl_7 : List am_R := [(526, .if_icmp .eq 490, 3, 1016, 0, 0), (529, .iconst 0, 1, 0, 0, 0), (530, .ireturn, 1, 1, 0, 0), (531, .aload_n 1, 1, 0, 0, 0), (532, .aload_n 0, 1, 0, 0, 0), (533, .iload_n 3, 1, 0, 0, 0), (534, .iconst 1, 1, 0, 0, 0), (535, .iadd, 1, 0, 0, 0), (536, .iaload, 1, 0, 0, 0), (537, .invokevirtual 77, 3, 79, 2, 10), (540, .aload_n 2, 1, 0, 0, 0), (541, .aload_n 0, 1, 0, 0, 0), (542, .iload_n 3, 1, 0, 0, 0), (543, .iconst 1, 1, 0, 0, 0), (544, .iadd, 1, 0, 0, 0), (545, .iaload, 1, 0, 0, 0), (546, .invokevirtual 80, 3, 143, 2, 11), (549, .if_icmp .eq 467, 3, 1016, 0, 0), (552, .iconst 0, 1, 0, 0, 0), (553, .ireturn, 1, 1, 0, 0), (554, .aload_n 1, 1, 0, 0, 0), (555, .aload_n 0, 1, 0, 0, 0), (556, .iload_n 3, 1, 0, 0, 0), (557, .iconst 1, 1, 0, 0, 0), (558, .iadd, 1, 0, 0, 0), (559, .iaload, 1, 0, 0, 0), (560, .invokevirtual 81, 3, 80, 2, 10), (563, .aload_n 2, 1, 0, 0, 0), (564, .aload_n 0, 1, 0, 0, 0), (565, .iload_n 3, 1, 0, 0, 0), (566, .iconst 1, 1, 0, 0, 0), (567, .iadd, 1, 0, 0, 0), (568, .iaload, 1, 0, 0, 0), (569, .invokevirtual 84, 3, 144, 2, 11), (572, .if_icmp .eq 444, 3, 1016, 0, 0), (575, .iconst 0, 1, 0, 0, 0), (576, .ireturn, 1, 1, 0, 0), (577, .aload_n 1, 1, 0, 0, 0), (578, .aload_n 0, 1, 0, 0, 0), (579, .iload_n 3, 1, 0, 0, 0)]
def zl_8 : List am_R := [(580, .iconst 1, 1, 0, 0, 0), (581, .iadd, 1, 0, 0, 0), (582, .iaload, 1, 0, 0, 0), (583, .aload_n 0, 1, 0, 0, 0), (584, .iload_n 3, 1, 0, 0, 0), (585, .iconst 2, 1, 0, 0, 0), (586, .iadd, 1, 0, 0, 0), (587, .iaload, 1, 0, 0, 0), (588, .i2l, 1, 0, 0, 0), (589, .bipush 32, 2, 0, 0, 0), (591, .lshl, 1, 0, 0, 0), (592, .aload_n 0, 1, 0, 0, 0), (593, .iload_n 3, 1, 0, 0, 0), (594, .iconst 3, 1, 0, 0, 0), (595, .iadd, 1, 0, 0, 0), (596, .iaload, 1, 0, 0, 0), (597, .i2l, 1, 0, 0, 0), (598, .ldc2_w 85, 3, 0, 0, 4294967295), (601, .land, 1, 0, 0, 0), (602, .lor, 1, 0, 0, 0), (603, .invokevirtual 87, 3, 81, 3, 10), (606, .aload_n 2, 1, 0, 0, 0), (607, .aload_n 0, 1, 0, 0, 0), (608, .iload_n 3, 1, 0, 0, 0), (609, .iconst 1, 1, 0, 0, 0), (610, .iadd, 1, 0, 0, 0), (611, .iaload, 1, 0, 0, 0), (612, .aload_n 0, 1, 0, 0, 0), (613, .iload_n 3, 1, 0, 0, 0), (614, .iconst 2, 1, 0, 0, 0), (615, .iadd, 1, 0, 0, 0), (616, .iaload, 1, 0, 0, 0), (617, .i2l, 1, 0, 0, 0), (618, .bipush 32, 2, 0, 0, 0), (620, .lshl, 1, 0, 0, 0), (621, .aload_n 0, 1, 0, 0, 0), (622, .iload_n 3, 1, 0, 0, 0), (623, .iconst 3, 1, 0, 0, 0), (624, .iadd, 1, 0, 0, 0), (625, .iaload, 1, 0, 0, 0)]
def zl_9 : List am_R := [(626, .i2l, 1, 0, 0, 0), (627, .ldc2_w 85, 3, 0, 0, 4294967295), (630, .land, 1, 0, 0, 0), (631, .lor, 1, 0, 0, 0), (632, .invokevirtual 91, 3, 147, 3, 11), (635, .if_icmp .eq 381, 3, 1016, 0, 0), (638, .iconst 0, 1, 0, 0, 0), (639, .ireturn, 1, 1, 0, 0), (640, .aload_n 1, 1, 0, 0, 0), (641, .aload_n 0, 1, 0, 0, 0), (642, .iload_n 3, 1, 0, 0, 0), (643, .iconst 1, 1, 0, 0, 0), (644, .iadd, 1, 0, 0, 0), (645, .iaload, 1, 0, 0, 0), (646, .aload_n 0, 1, 0, 0, 0), (647, .iload_n 3, 1, 0, 0, 0), (648, .iconst 2, 1, 0, 0, 0), (649, .iadd, 1, 0, 0, 0), (650, .iaload, 1, 0, 0, 0), (651, .aload_n 0, 1, 0, 0, 0), (652, .iload_n 3, 1, 0, 0, 0), (653, .iconst 3, 1, 0, 0, 0), (654, .iadd, 1, 0, 0, 0), (655, .iaload, 1, 0, 0, 0), (656, .invokevirtual 92, 3, 82, 4, 10), (659, .aload_n 2, 1, 0, 0, 0), (660, .aload_n 0, 1, 0, 0, 0), (661, .iload_n 3, 1, 0, 0, 0), (662, .iconst 1, 1, 0, 0, 0), (663, .iadd, 1, 0, 0, 0), (664, .iaload, 1, 0, 0, 0), (665, .aload_n 0, 1, 0, 0, 0), (666, .iload_n 3, 1, 0, 0, 0), (667, .iconst 2, 1, 0, 0, 0), (668, .iadd, 1, 0, 0, 0), (669, .iaload, 1, 0, 0, 0), (670, .aload_n 0, 1, 0, 0, 0), (671, .iload_n 3, 1, 0, 0, 0), (672, .iconst 3, 1, 0, 0, 0), (673, .iadd, 1, 0, 0, 0)]
def zl_10 : List am_R := [(674, .iaload, 1, 0, 0, 0), (675, .invokevirtual 96, 3, 148, 4, 11), (678, .if_icmp .eq 338, 3, 1016, 0, 0), (681, .iconst 0, 1, 0, 0, 0), (682, .ireturn, 1, 1, 0, 0), (683, .aload_n 1, 1, 0, 0, 0), (684, .invokevirtual 97, 3, 83, 1, 10), (687, .aload_n 2, 1, 0, 0, 0), (688, .invokevirtual 100, 3, 149, 1, 11), (691, .if_icmp .eq 325, 3, 1016, 0, 0), (694, .iconst 0, 1, 0, 0, 0), (695, .ireturn, 1, 1, 0, 0), (696, .aload_n 1, 1, 0, 0, 0), (697, .aload_n 0, 1, 0, 0, 0), (698, .iload_n 3, 1, 0, 0, 0), (699, .iconst 1, 1, 0, 0, 0), (700, .iadd, 1, 0, 0, 0), (701, .iaload, 1, 0, 0, 0), (702, .invokevirtual 101, 3, 84, 2, 10), (705, .aload_n 2, 1, 0, 0, 0), (706, .aload_n 0, 1, 0, 0, 0), (707, .iload_n 3, 1, 0, 0, 0), (708, .iconst 1, 1, 0, 0, 0), (709, .iadd, 1, 0, 0, 0), (710, .iaload, 1, 0, 0, 0), (711, .invokevirtual 104, 3, 150, 2, 11), (714, .if_icmp .eq 302, 3, 1016, 0, 0), (717, .iconst 0, 1, 0, 0, 0), (718, .ireturn, 1, 1, 0, 0), (719, .aload_n 1, 1, 0, 0, 0), (720, .aload_n 0, 1, 0, 0, 0), (721, .iload_n 3, 1, 0, 0, 0), (722, .iconst 1, 1, 0, 0, 0), (723, .iadd, 1, 0, 0, 0), (724, .iaload, 1, 0, 0, 0), (725, .aload_n 0, 1, 0, 0, 0), (726, .iload_n 3, 1, 0, 0, 0), (727, .iconst 2, 1, 0, 0, 0), (728, .iadd, 1, 0, 0, 0), (729, .iaload, 1, 0, 0, 0)]
def zl_11 : List am_R := [(730, .ifCond .eq 7, 3, 737, 0, 0), (733, .iconst 1, 1, 0, 0, 0), (734, .goto 4, 3, 738, 0, 0), (737, .iconst 0, 1, 0, 0, 0), (738, .invokevirtual 105, 3, 85, 3, 10), (741, .aload_n 2, 1, 0, 0, 0), (742, .aload_n 0, 1, 0, 0, 0), (743, .iload_n 3, 1, 0, 0, 0), (744, .iconst 1, 1, 0, 0, 0), (745, .iadd, 1, 0, 0, 0), (746, .iaload, 1, 0, 0, 0), (747, .aload_n 0, 1, 0, 0, 0), (748, .iload_n 3, 1, 0, 0, 0), (749, .iconst 2, 1, 0, 0, 0), (750, .iadd, 1, 0, 0, 0), (751, .iaload, 1, 0, 0, 0), (752, .ifCond .eq 7, 3, 759, 0, 0), (755, .iconst 1, 1, 0, 0, 0), (756, .goto 4, 3, 760, 0, 0), (759, .iconst 0, 1, 0, 0, 0), (760, .invokevirtual 109, 3, 154, 3, 11), (763, .if_icmp .eq 253, 3, 1016, 0, 0), (766, .iconst 0, 1, 0, 0, 0), (767, .ireturn, 1, 1, 0, 0), (768, .aload_n 1, 1, 0, 0, 0), (769, .aload_n 0, 1, 0, 0, 0), (770, .iload_n 3, 1, 0, 0, 0), (771, .iconst 1, 1, 0, 0, 0), (772, .iadd, 1, 0, 0, 0), (773, .iaload, 1, 0, 0, 0), (774, .aload_n 0, 1, 0, 0, 0), (775, .iload_n 3, 1, 0, 0, 0), (776, .iconst 2, 1, 0, 0, 0), (777, .iadd, 1, 0, 0, 0), (778, .iaload, 1, 0, 0, 0), (779, .aload_n 0, 1, 0, 0, 0), (780, .iload_n 3, 1, 0, 0, 0), (781, .iconst 3, 1, 0, 0, 0), (782, .iadd, 1, 0, 0, 0), (783, .iaload, 1, 0, 0, 0)]
def zl_12 : List am_R := [(784, .invokevirtual 110, 3, 86, 4, 10), (787, .aload_n 2, 1, 0, 0, 0), (788, .aload_n 0, 1, 0, 0, 0), (789, .iload_n 3, 1, 0, 0, 0), (790, .iconst 1, 1, 0, 0, 0), (791, .iadd, 1, 0, 0, 0), (792, .iaload, 1, 0, 0, 0), (793, .aload_n 0, 1, 0, 0, 0), (794, .iload_n 3, 1, 0, 0, 0), (795, .iconst 2, 1, 0, 0, 0), (796, .iadd, 1, 0, 0, 0), (797, .iaload, 1, 0, 0, 0), (798, .aload_n 0, 1, 0, 0, 0), (799, .iload_n 3, 1, 0, 0, 0), (800, .iconst 3, 1, 0, 0, 0), (801, .iadd, 1, 0, 0, 0), (802, .iaload, 1, 0, 0, 0), (803, .invokevirtual 113, 3, 156, 4, 11), (806, .if_icmp .eq 210, 3, 1016, 0, 0), (809, .iconst 0, 1, 0, 0, 0), (810, .ireturn, 1, 1, 0, 0), (811, .aload_n 1, 1, 0, 0, 0), (812, .aload_n 0, 1, 0, 0, 0), (813, .iload_n 3, 1, 0, 0, 0), (814, .iconst 1, 1, 0, 0, 0), (815, .iadd, 1, 0, 0, 0), (816, .iaload, 1, 0, 0, 0), (817, .aload_n 0, 1, 0, 0, 0), (818, .iload_n 3, 1, 0, 0, 0), (819, .iconst 2, 1, 0, 0, 0), (820, .iadd, 1, 0, 0, 0), (821, .iaload, 1, 0, 0, 0), (822, .aload_n 0, 1, 0, 0, 0), (823, .iload_n 3, 1, 0, 0, 0), (824, .iconst 3, 1, 0, 0, 0), (825, .iadd, 1, 0, 0, 0), (826, .iaload, 1, 0, 0, 0), (827, .ifCond .eq 7, 3, 834, 0, 0), (830, .iconst 1, 1, 0, 0, 0), (831, .goto 4, 3, 835, 0, 0)]
def zl_13 : List am_R := [(834, .iconst 0, 1, 0, 0, 0), (835, .invokevirtual 114, 3, 87, 4, 10), (838, .aload_n 2, 1, 0, 0, 0), (839, .aload_n 0, 1, 0, 0, 0), (840, .iload_n 3, 1, 0, 0, 0), (841, .iconst 1, 1, 0, 0, 0), (842, .iadd, 1, 0, 0, 0), (843, .iaload, 1, 0, 0, 0), (844, .aload_n 0, 1, 0, 0, 0), (845, .iload_n 3, 1, 0, 0, 0), (846, .iconst 2, 1, 0, 0, 0), (847, .iadd, 1, 0, 0, 0), (848, .iaload, 1, 0, 0, 0), (849, .aload_n 0, 1, 0, 0, 0), (850, .iload_n 3, 1, 0, 0, 0), (851, .iconst 3, 1, 0, 0, 0), (852, .iadd, 1, 0, 0, 0), (853, .iaload, 1, 0, 0, 0), (854, .ifCond .eq 7, 3, 861, 0, 0), (857, .iconst 1, 1, 0, 0, 0), (858, .goto 4, 3, 862, 0, 0), (861, .iconst 0, 1, 0, 0, 0), (862, .invokevirtual 118, 3, 157, 4, 11), (865, .if_icmp .eq 151, 3, 1016, 0, 0), (868, .iconst 0, 1, 0, 0, 0), (869, .ireturn, 1, 1, 0, 0), (870, .aload_n 1, 1, 0, 0, 0), (871, .aload_n 0, 1, 0, 0, 0), (872, .iload_n 3, 1, 0, 0, 0), (873, .iconst 1, 1, 0, 0, 0), (874, .iadd, 1, 0, 0, 0), (875, .iaload, 1, 0, 0, 0), (876, .i2l, 1, 0, 0, 0), (877, .bipush 32, 2, 0, 0, 0), (879, .lshl, 1, 0, 0, 0), (880, .aload_n 0, 1, 0, 0, 0), (881, .iload_n 3, 1, 0, 0, 0), (882, .iconst 2, 1, 0, 0, 0), (883, .iadd, 1, 0, 0, 0), (884, .iaload, 1, 0, 0, 0)]
def zl_14 : List am_R := [(885, .i2l, 1, 0, 0, 0), (886, .ldc2_w 85, 3, 0, 0, 4294967295), (889, .land, 1, 0, 0, 0), (890, .lor, 1, 0, 0, 0), (891, .invokevirtual 119, 3, 88, 2, 10), (894, .aload_n 2, 1, 0, 0, 0), (895, .aload_n 0, 1, 0, 0, 0), (896, .iload_n 3, 1, 0, 0, 0), (897, .iconst 1, 1, 0, 0, 0), (898, .iadd, 1, 0, 0, 0), (899, .iaload, 1, 0, 0, 0), (900, .i2l, 1, 0, 0, 0), (901, .bipush 32, 2, 0, 0, 0), (903, .lshl, 1, 0, 0, 0), (904, .aload_n 0, 1, 0, 0, 0), (905, .iload_n 3, 1, 0, 0, 0), (906, .iconst 2, 1, 0, 0, 0), (907, .iadd, 1, 0, 0, 0), (908, .iaload, 1, 0, 0, 0), (909, .i2l, 1, 0, 0, 0), (910, .ldc2_w 85, 3, 0, 0, 4294967295), (913, .land, 1, 0, 0, 0), (914, .lor, 1, 0, 0, 0), (915, .invokevirtual 123, 3, 158, 2, 11), (918, .lcmp, 1, 0, 0, 0), (919, .ifCond .eq 97, 3, 1016, 0, 0), (922, .iconst 0, 1, 0, 0, 0), (923, .ireturn, 1, 1, 0, 0), (924, .aload_n 1, 1, 0, 0, 0), (925, .aload_n 0, 1, 0, 0, 0), (926, .iload_n 3, 1, 0, 0, 0), (927, .iconst 1, 1, 0, 0, 0), (928, .iadd, 1, 0, 0, 0), (929, .iaload, 1, 0, 0, 0), (930, .invokevirtual 124, 3, 89, 2, 10), (933, .aload_n 2, 1, 0, 0, 0), (934, .aload_n 0, 1, 0, 0, 0), (935, .iload_n 3, 1, 0, 0, 0), (936, .iconst 1, 1, 0, 0, 0), (937, .iadd, 1, 0, 0, 0)]
def zl_15 : List am_R := [(938, .iaload, 1, 0, 0, 0), (939, .invokevirtual 127, 3, 159, 2, 11), (942, .if_icmp .eq 74, 3, 1016, 0, 0), (945, .iconst 0, 1, 0, 0, 0), (946, .ireturn, 1, 1, 0, 0), (947, .aload_n 1, 1, 0, 0, 0), (948, .aload_n 0, 1, 0, 0, 0), (949, .iload_n 3, 1, 0, 0, 0), (950, .iconst 1, 1, 0, 0, 0), (951, .iadd, 1, 0, 0, 0), (952, .iaload, 1, 0, 0, 0), (953, .invokevirtual 128, 3, 90, 2, 10), (956, .aload_n 2, 1, 0, 0, 0), (957, .aload_n 0, 1, 0, 0, 0), (958, .iload_n 3, 1, 0, 0, 0), (959, .iconst 1, 1, 0, 0, 0), (960, .iadd, 1, 0, 0, 0), (961, .iaload, 1, 0, 0, 0), (962, .invokevirtual 131, 3, 160, 2, 11), (965, .if_icmp .eq 51, 3, 1016, 0, 0), (968, .iconst 0, 1, 0, 0, 0), (969, .ireturn, 1, 1, 0, 0), (970, .aload_n 1, 1, 0, 0, 0), (971, .aload_n 0, 1, 0, 0, 0), (972, .iload_n 3, 1, 0, 0, 0), (973, .iconst 1, 1, 0, 0, 0), (974, .iadd, 1, 0, 0, 0), (975, .iaload, 1, 0, 0, 0), (976, .invokevirtual 132, 3, 91, 2, 10), (979, .aload_n 2, 1, 0, 0, 0), (980, .aload_n 0, 1, 0, 0, 0), (981, .iload_n 3, 1, 0, 0, 0), (982, .iconst 1, 1, 0, 0, 0), (983, .iadd, 1, 0, 0, 0), (984, .iaload, 1, 0, 0, 0), (985, .invokevirtual 135, 3, 161, 2, 11), (988, .if_icmp .eq 28, 3, 1016, 0, 0), (991, .iconst 0, 1, 0, 0, 0), (992, .ireturn, 1, 1, 0, 0), (993, .aload_n 1, 1, 0, 0, 0)]
def zl_16 : List am_R := [(994, .aload_n 0, 1, 0, 0, 0), (995, .iload_n 3, 1, 0, 0, 0), (996, .iconst 1, 1, 0, 0, 0), (997, .iadd, 1, 0, 0, 0), (998, .iaload, 1, 0, 0, 0), (999, .invokevirtual 136, 3, 92, 2, 10), (1002, .aload_n 2, 1, 0, 0, 0), (1003, .aload_n 0, 1, 0, 0, 0), (1004, .iload_n 3, 1, 0, 0, 0), (1005, .iconst 1, 1, 0, 0, 0), (1006, .iadd, 1, 0, 0, 0), (1007, .iaload, 1, 0, 0, 0), (1008, .invokevirtual 139, 3, 162, 2, 11), (1011, .if_icmp .eq 5, 3, 1016, 0, 0), (1014, .iconst 0, 1, 0, 0, 0), (1015, .ireturn, 1, 1, 0, 0), (1016, .iinc 3 4, 3, 0, 0, 0), (1019, .goto (-1001), 3, 18, 0, 0), (1022, .iconst 1, 1, 0, 0, 0), (1023, .ireturn, 1, 1, 0, 0)]
set_option maxRecDepth 100000 in
set_option maxHeartbeats 4000000 in
theorem zl_ok0 : zl_0.all (am_chk zi_L_law) = true := by decide +kernel
set_option maxRecDepth 100000 in
set_option maxHeartbeats 4000000 in
theorem zl_ok1 : zl_1.all (am_chk zi_L_law) = true := by decide +kernel
set_option maxRecDepth 100000 in
set_option maxHeartbeats 4000000 in
theorem zl_ok2 : zl_2.all (am_chk zi_L_law) = true := by decide +kernel
set_option maxRecDepth 100000 in
set_option maxHeartbeats 4000000 in
theorem zl_ok3 : zl_3.all (am_chk zi_L_law) = true := by decide +kernel
set_option maxRecDepth 100000 in
set_option maxHeartbeats 4000000 in
theorem zl_ok4 : zl_4.all (am_chk zi_L_law) = true := by decide +kernel
set_option maxRecDepth 100000 in
set_option maxHeartbeats 4000000 in
theorem zl_ok5 : zl_5.all (am_chk zi_L_law) = true := by decide +kernel
set_option maxRecDepth 100000 in
set_option maxHeartbeats 4000000 in
theorem zl_ok6 : zl_6.all (am_chk zi_L_law) = true := by decide +kernel
set_option maxRecDepth 100000 in
set_option maxHeartbeats 4000000 in
theorem zl_ok7 : zl_7.all (am_chk zi_L_law) = true := by decide +kernel
set_option maxRecDepth 100000 in
set_option maxHeartbeats 4000000 in
theorem zl_ok8 : zl_8.all (am_chk zi_L_law) = true := by decide +kernel
set_option maxRecDepth 100000 in
set_option maxHeartbeats 4000000 in
theorem zl_ok9 : zl_9.all (am_chk zi_L_law) = true := by decide +kernel
set_option maxRecDepth 100000 in
set_option maxHeartbeats 4000000 in
theorem zl_ok10 : zl_10.all (am_chk zi_L_law) = true := by decide +kernel
set_option maxRecDepth 100000 in
set_option maxHeartbeats 4000000 in
theorem zl_ok11 : zl_11.all (am_chk zi_L_law) = true := by decide +kernel
set_option maxRecDepth 100000 in
set_option maxHeartbeats 4000000 in
theorem zl_ok12 : zl_12.all (am_chk zi_L_law) = true := by decide +kernel
set_option maxRecDepth 100000 in
set_option maxHeartbeats 4000000 in
theorem zl_ok13 : zl_13.all (am_chk zi_L_law) = true := by decide +kernel
set_option maxRecDepth 100000 in
set_option maxHeartbeats 4000000 in
theorem zl_ok14 : zl_14.all (am_chk zi_L_law) = true := by decide +kernel
set_option maxRecDepth 100000 in
set_option maxHeartbeats 4000000 in
theorem zl_ok15 : zl_15.all (am_chk zi_L_law) = true := by decide +kernel
set_option maxRecDepth 100000 in
set_option maxHeartbeats 4000000 in
theorem zl_ok16 : zl_16.all (am_chk zi_L_law) = true := by decide +kernel
set_option maxRecDepth 100000 in
set_option maxHeartbeats 4000000 in
theorem zl_eq : zr_L_law = zl_0 ++ (zl_1 ++ (zl_2 ++ (zl_3 ++ (zl_4 ++ (zl_5 ++ (zl_6 ++ (zl_7 ++ (zl_8 ++ (zl_9 ++ (zl_10 ++ (zl_11 ++ (zl_12 ++ (zl_13 ++ (zl_14 ++ (zl_15 ++ (zl_16)))))))))))))))) := by rfl
set_option maxRecDepth 100000 in
set_option maxHeartbeats 4000000 in
theorem zl_all : zr_L_law.all (am_chk zi_L_law) = true := by
  rw [zl_eq]
  simp only [List.all_append, Bool.and_eq_true]
  exact ⟨zl_ok0, zl_ok1, zl_ok2, zl_ok3, zl_ok4, zl_ok5, zl_ok6, zl_ok7, zl_ok8, zl_ok9, zl_ok10, zl_ok11, zl_ok12, zl_ok13, zl_ok14, zl_ok15, zl_ok16⟩
theorem am_chunk {own : String} {rows : List am_R} (ps : List Nat) (h2 : rows.flatMap (am_wf own) = ps.filterMap (fun i => lw_tbl[i]?)) (h3 : (rows.flatMap (am_wf own)).all goodWord = true) : ∀ r ∈ rows, ∀ w ∈ am_wf own r, w ∈ lw_tbl ∧ goodWord w = true := by
  intro r hr w hw
  have hm : w ∈ rows.flatMap (am_wf own) := List.mem_flatMap.mpr ⟨r, hr, hw⟩
  refine ⟨?_, List.all_eq_true.mp h3 w hm⟩
  rw [h2] at hm
  obtain ⟨i, -, hi⟩ := List.mem_filterMap.mp hm
  exact List.mem_of_getElem? hi
theorem am_chunkN {own : String} {rows : List am_R} (h : (rows.filterMap (am_nest own)) = []) : ∀ r ∈ rows, ∀ w, am_nest own r = some w → w ∈ am_nests := by
  intro r hr w hw
  have hm : w ∈ rows.filterMap (am_nest own) := List.mem_filterMap.mpr ⟨r, hr, hw⟩
  rw [h] at hm
  cases hm
set_option maxRecDepth 100000 in
set_option maxHeartbeats 4000000 in
theorem zl_w0 : ∀ r ∈ zl_0, ∀ w ∈ am_wf zi_L_law.1.cls r, w ∈ lw_tbl ∧ goodWord w = true := am_chunk [52, 53, 37, 54, 55, 37, 56, 807, 808, 48, 809, 810, 48, 811, 385, 386, 387, 37, 388, 905, 906, 907, 48, 908] (by decide +kernel) (by decide +kernel)
set_option maxRecDepth 100000 in
set_option maxHeartbeats 4000000 in
theorem zl_n0 : ∀ r ∈ zl_0, ∀ w, am_nest zi_L_law.1.cls r = some w → w ∈ am_nests := am_chunkN (by decide +kernel)
set_option maxRecDepth 100000 in
set_option maxHeartbeats 4000000 in
theorem zl_w1 : ∀ r ∈ zl_1, ∀ w ∈ am_wf zi_L_law.1.cls r, w ∈ lw_tbl ∧ goodWord w = true := am_chunk [396, 397, 398, 37, 399, 913, 914, 915, 48, 916, 404, 405, 406, 37, 407, 917, 918, 919, 48, 920, 432, 433, 434, 37, 435, 929, 930, 931, 48, 932, 452, 453, 454, 37, 455] (by decide +kernel) (by decide +kernel)
set_option maxRecDepth 100000 in
set_option maxHeartbeats 4000000 in
theorem zl_n1 : ∀ r ∈ zl_1, ∀ w, am_nest zi_L_law.1.cls r = some w → w ∈ am_nests := am_chunkN (by decide +kernel)
set_option maxRecDepth 100000 in
set_option maxHeartbeats 4000000 in
theorem zl_w2 : ∀ r ∈ zl_2, ∀ w ∈ am_wf zi_L_law.1.cls r, w ∈ lw_tbl ∧ goodWord w = true := am_chunk [933, 934, 935, 48, 936, 472, 473, 474, 37, 475, 941, 942, 943, 48, 944] (by decide +kernel) (by decide +kernel)
set_option maxRecDepth 100000 in
set_option maxHeartbeats 4000000 in
theorem zl_n2 : ∀ r ∈ zl_2, ∀ w, am_nest zi_L_law.1.cls r = some w → w ∈ am_nests := am_chunkN (by decide +kernel)
set_option maxRecDepth 100000 in
set_option maxHeartbeats 4000000 in
theorem zl_w3 : ∀ r ∈ zl_3, ∀ w ∈ am_wf zi_L_law.1.cls r, w ∈ lw_tbl ∧ goodWord w = true := am_chunk [510, 511, 512, 37, 513, 964, 965, 966, 48, 967, 514, 515, 516, 37, 517, 968, 969, 970, 48, 971, 535, 536, 537, 37, 538] (by decide +kernel) (by decide +kernel)
set_option maxRecDepth 100000 in
set_option maxHeartbeats 4000000 in
theorem zl_n3 : ∀ r ∈ zl_3, ∀ w, am_nest zi_L_law.1.cls r = some w → w ∈ am_nests := am_chunkN (by decide +kernel)
set_option maxRecDepth 100000 in
set_option maxHeartbeats 4000000 in
theorem zl_w4 : ∀ r ∈ zl_4, ∀ w ∈ am_wf zi_L_law.1.cls r, w ∈ lw_tbl ∧ goodWord w = true := am_chunk [984, 985, 986, 48, 987, 543, 544, 545, 37, 546, 992, 993, 994, 48, 995, 551, 552, 553, 37, 554, 996, 997, 998, 48, 999] (by decide +kernel) (by decide +kernel)
set_option maxRecDepth 100000 in
set_option maxHeartbeats 4000000 in
theorem zl_n4 : ∀ r ∈ zl_4, ∀ w, am_nest zi_L_law.1.cls r = some w → w ∈ am_nests := am_chunkN (by decide +kernel)
set_option maxRecDepth 100000 in
set_option maxHeartbeats 4000000 in
theorem zl_w5 : ∀ r ∈ zl_5, ∀ w ∈ am_wf zi_L_law.1.cls r, w ∈ lw_tbl ∧ goodWord w = true := am_chunk [559, 560, 561, 37, 562, 1000, 1001, 1002, 48, 1003, 567, 568, 569, 37, 570, 1004, 1005, 1006, 48, 1007] (by decide +kernel) (by decide +kernel)
set_option maxRecDepth 100000 in
set_option maxHeartbeats 4000000 in
theorem zl_n5 : ∀ r ∈ zl_5, ∀ w, am_nest zi_L_law.1.cls r = some w → w ∈ am_nests := am_chunkN (by decide +kernel)
set_option maxRecDepth 100000 in
set_option maxHeartbeats 4000000 in
theorem zl_w6 : ∀ r ∈ zl_6, ∀ w ∈ am_wf zi_L_law.1.cls r, w ∈ lw_tbl ∧ goodWord w = true := am_chunk [578, 579, 580, 37, 581, 1017, 1018, 1019, 48, 1020, 607, 608, 609, 37, 610, 1041, 1042, 1043, 48, 1044] (by decide +kernel) (by decide +kernel)
set_option maxRecDepth 100000 in
set_option maxHeartbeats 4000000 in
theorem zl_n6 : ∀ r ∈ zl_6, ∀ w, am_nest zi_L_law.1.cls r = some w → w ∈ am_nests := am_chunkN (by decide +kernel)
set_option maxRecDepth 100000 in
set_option maxHeartbeats 4000000 in
theorem zl_w7 : ∀ r ∈ zl_7, ∀ w ∈ am_wf zi_L_law.1.cls r, w ∈ lw_tbl ∧ goodWord w = true := am_chunk [611, 612, 613, 37, 614, 1045, 1046, 1047, 48, 1048, 626, 627, 628, 37, 629, 1056, 1057, 1058, 48, 1059] (by decide +kernel) (by decide +kernel)
set_option maxRecDepth 100000 in
set_option maxHeartbeats 4000000 in
theorem zl_n7 : ∀ r ∈ zl_7, ∀ w, am_nest zi_L_law.1.cls r = some w → w ∈ am_nests := am_chunkN (by decide +kernel)
set_option maxRecDepth 100000 in
set_option maxHeartbeats 4000000 in
theorem zl_w8 : ∀ r ∈ zl_8, ∀ w ∈ am_wf zi_L_law.1.cls r, w ∈ lw_tbl ∧ goodWord w = true := am_chunk [1138, 635, 636, 637, 37, 638] (by decide +kernel) (by decide +kernel)
set_option maxRecDepth 100000 in
set_option maxHeartbeats 4000000 in
theorem zl_n8 : ∀ r ∈ zl_8, ∀ w, am_nest zi_L_law.1.cls r = some w → w ∈ am_nests := am_chunkN (by decide +kernel)
set_option maxRecDepth 100000 in
set_option maxHeartbeats 4000000 in
theorem zl_w9 : ∀ r ∈ zl_9, ∀ w ∈ am_wf zi_L_law.1.cls r, w ∈ lw_tbl ∧ goodWord w = true := am_chunk [1138, 1060, 1061, 1062, 48, 1063, 665, 666, 667, 37, 668] (by decide +kernel) (by decide +kernel)
set_option maxRecDepth 100000 in
set_option maxHeartbeats 4000000 in
theorem zl_n9 : ∀ r ∈ zl_9, ∀ w, am_nest zi_L_law.1.cls r = some w → w ∈ am_nests := am_chunkN (by decide +kernel)
set_option maxRecDepth 100000 in
set_option maxHeartbeats 4000000 in
theorem zl_w10 : ∀ r ∈ zl_10, ∀ w ∈ am_wf zi_L_law.1.cls r, w ∈ lw_tbl ∧ goodWord w = true := am_chunk [1073, 1074, 1075, 48, 1076, 673, 674, 675, 37, 676, 1079, 1080, 1081, 48, 1082, 681, 682, 683, 37, 684, 1083, 1084, 1085, 48, 1086] (by decide +kernel) (by decide +kernel)
set_option maxRecDepth 100000 in
set_option maxHeartbeats 4000000 in
theorem zl_n10 : ∀ r ∈ zl_10, ∀ w, am_nest zi_L_law.1.cls r = some w → w ∈ am_nests := am_chunkN (by decide +kernel)
set_option maxRecDepth 100000 in
set_option maxHeartbeats 4000000 in
theorem zl_w11 : ∀ r ∈ zl_11, ∀ w ∈ am_wf zi_L_law.1.cls r, w ∈ lw_tbl ∧ goodWord w = true := am_chunk [695, 696, 697, 37, 698, 1087, 1088, 1089, 48, 1090] (by decide +kernel) (by decide +kernel)
set_option maxRecDepth 100000 in
set_option maxHeartbeats 4000000 in
theorem zl_n11 : ∀ r ∈ zl_11, ∀ w, am_nest zi_L_law.1.cls r = some w → w ∈ am_nests := am_chunkN (by decide +kernel)
set_option maxRecDepth 100000 in
set_option maxHeartbeats 4000000 in
theorem zl_w12 : ∀ r ∈ zl_12, ∀ w ∈ am_wf zi_L_law.1.cls r, w ∈ lw_tbl ∧ goodWord w = true := am_chunk [726, 727, 728, 37, 729, 1101, 1102, 1103, 48, 1104] (by decide +kernel) (by decide +kernel)
set_option maxRecDepth 100000 in
set_option maxHeartbeats 4000000 in
theorem zl_n12 : ∀ r ∈ zl_12, ∀ w, am_nest zi_L_law.1.cls r = some w → w ∈ am_nests := am_chunkN (by decide +kernel)
set_option maxRecDepth 100000 in
set_option maxHeartbeats 4000000 in
theorem zl_w13 : ∀ r ∈ zl_13, ∀ w ∈ am_wf zi_L_law.1.cls r, w ∈ lw_tbl ∧ goodWord w = true := am_chunk [739, 740, 741, 37, 742, 1109, 1110, 1111, 48, 1112] (by decide +kernel) (by decide +kernel)
set_option maxRecDepth 100000 in
set_option maxHeartbeats 4000000 in
theorem zl_n13 : ∀ r ∈ zl_13, ∀ w, am_nest zi_L_law.1.cls r = some w → w ∈ am_nests := am_chunkN (by decide +kernel)
set_option maxRecDepth 100000 in
set_option maxHeartbeats 4000000 in
theorem zl_w14 : ∀ r ∈ zl_14, ∀ w ∈ am_wf zi_L_law.1.cls r, w ∈ lw_tbl ∧ goodWord w = true := am_chunk [1138, 759, 760, 761, 37, 762, 1138, 1115, 1116, 1117, 48, 1118, 763, 764, 765, 37, 766] (by decide +kernel) (by decide +kernel)
set_option maxRecDepth 100000 in
set_option maxHeartbeats 4000000 in
theorem zl_n14 : ∀ r ∈ zl_14, ∀ w, am_nest zi_L_law.1.cls r = some w → w ∈ am_nests := am_chunkN (by decide +kernel)
set_option maxRecDepth 100000 in
set_option maxHeartbeats 4000000 in
theorem zl_w15 : ∀ r ∈ zl_15, ∀ w ∈ am_wf zi_L_law.1.cls r, w ∈ lw_tbl ∧ goodWord w = true := am_chunk [1119, 1120, 1121, 48, 1122, 781, 782, 783, 37, 784, 1126, 1127, 1128, 48, 1129, 790, 791, 792, 37, 793, 1130, 1131, 1132, 48, 1133] (by decide +kernel) (by decide +kernel)
set_option maxRecDepth 100000 in
set_option maxHeartbeats 4000000 in
theorem zl_n15 : ∀ r ∈ zl_15, ∀ w, am_nest zi_L_law.1.cls r = some w → w ∈ am_nests := am_chunkN (by decide +kernel)
set_option maxRecDepth 100000 in
set_option maxHeartbeats 4000000 in
theorem zl_w16 : ∀ r ∈ zl_16, ∀ w ∈ am_wf zi_L_law.1.cls r, w ∈ lw_tbl ∧ goodWord w = true := am_chunk [798, 799, 800, 37, 801, 1134, 1135, 1136, 48, 1137] (by decide +kernel) (by decide +kernel)
set_option maxRecDepth 100000 in
set_option maxHeartbeats 4000000 in
theorem zl_n16 : ∀ r ∈ zl_16, ∀ w, am_nest zi_L_law.1.cls r = some w → w ∈ am_nests := am_chunkN (by decide +kernel)
set_option maxRecDepth 100000 in
set_option maxHeartbeats 4000000 in
theorem zl_wall : ∀ r ∈ zr_L_law, ∀ w ∈ am_wf zi_L_law.1.cls r, w ∈ lw_tbl ∧ goodWord w = true := by
  rw [zl_eq]
  exact List.forall_mem_append.mpr ⟨zl_w0, List.forall_mem_append.mpr ⟨zl_w1, List.forall_mem_append.mpr ⟨zl_w2, List.forall_mem_append.mpr ⟨zl_w3, List.forall_mem_append.mpr ⟨zl_w4, List.forall_mem_append.mpr ⟨zl_w5, List.forall_mem_append.mpr ⟨zl_w6, List.forall_mem_append.mpr ⟨zl_w7, List.forall_mem_append.mpr ⟨zl_w8, List.forall_mem_append.mpr ⟨zl_w9, List.forall_mem_append.mpr ⟨zl_w10, List.forall_mem_append.mpr ⟨zl_w11, List.forall_mem_append.mpr ⟨zl_w12, List.forall_mem_append.mpr ⟨zl_w13, List.forall_mem_append.mpr ⟨zl_w14, List.forall_mem_append.mpr ⟨zl_w15, zl_w16⟩⟩⟩⟩⟩⟩⟩⟩⟩⟩⟩⟩⟩⟩⟩⟩
set_option maxRecDepth 100000 in
set_option maxHeartbeats 4000000 in
theorem zl_nall : ∀ r ∈ zr_L_law, ∀ w, am_nest zi_L_law.1.cls r = some w → w ∈ am_nests := by
  rw [zl_eq]
  exact List.forall_mem_append.mpr ⟨zl_n0, List.forall_mem_append.mpr ⟨zl_n1, List.forall_mem_append.mpr ⟨zl_n2, List.forall_mem_append.mpr ⟨zl_n3, List.forall_mem_append.mpr ⟨zl_n4, List.forall_mem_append.mpr ⟨zl_n5, List.forall_mem_append.mpr ⟨zl_n6, List.forall_mem_append.mpr ⟨zl_n7, List.forall_mem_append.mpr ⟨zl_n8, List.forall_mem_append.mpr ⟨zl_n9, List.forall_mem_append.mpr ⟨zl_n10, List.forall_mem_append.mpr ⟨zl_n11, List.forall_mem_append.mpr ⟨zl_n12, List.forall_mem_append.mpr ⟨zl_n13, List.forall_mem_append.mpr ⟨zl_n14, List.forall_mem_append.mpr ⟨zl_n15, zl_n16⟩⟩⟩⟩⟩⟩⟩⟩⟩⟩⟩⟩⟩⟩⟩⟩
set_option maxRecDepth 100000 in
set_option maxHeartbeats 4000000 in
theorem zk_L_law : am_okm (zm_L_law, zi_L_law) := ⟨zl_all, zl_wall, zl_nall, rfl, rfl, rfl, by decide +kernel, List.mem_cons_self⟩
end
section
/-! all methods together -/
def zp_0 : List (am_M × am_Inf) := [(zm_X0_init, zi_X0_init), (zm_X0_clear, zi_X0_clear), (zm_X0_remember, zi_X0_remember), (zm_X0_takeBack, zi_X0_takeBack), (zm_X1_init, zi_X1_init), (zm_X1_addedInAllOrders, zi_X1_addedInAllOrders), (zm_X1_drawnBy, zi_X1_drawnBy), (zm_X1_seekRests, zi_X1_seekRests), (zm_X1_has, zi_X1_has), (zm_X1_waysToLack, zi_X1_waysToLack), (zm_X1_lackedByChance, zi_X1_lackedByChance), (zm_X1_happen, zi_X1_happen), (zm_X2_init, zi_X2_init), (zm_X2_inDays, zi_X2_inDays), (zm_X2_seekOrder, zi_X2_seekOrder), (zm_X2_figures, zi_X2_figures), (zm_X2_toNextOrder, zi_X2_toNextOrder), (zm_X2_exchangePlaces, zi_X2_exchangePlaces), (zm_X2_fewestSalts, zi_X2_fewestSalts), (zm_X2_leastBarrel, zi_X2_leastBarrel)]
theorem zp_ok0 : ∀ q ∈ zp_0, am_okm q := List.forall_mem_cons.mpr ⟨zk_X0_init, List.forall_mem_cons.mpr ⟨zk_X0_clear, List.forall_mem_cons.mpr ⟨zk_X0_remember, List.forall_mem_cons.mpr ⟨zk_X0_takeBack, List.forall_mem_cons.mpr ⟨zk_X1_init, List.forall_mem_cons.mpr ⟨zk_X1_addedInAllOrders, List.forall_mem_cons.mpr ⟨zk_X1_drawnBy, List.forall_mem_cons.mpr ⟨zk_X1_seekRests, List.forall_mem_cons.mpr ⟨zk_X1_has, List.forall_mem_cons.mpr ⟨zk_X1_waysToLack, List.forall_mem_cons.mpr ⟨zk_X1_lackedByChance, List.forall_mem_cons.mpr ⟨zk_X1_happen, List.forall_mem_cons.mpr ⟨zk_X2_init, List.forall_mem_cons.mpr ⟨zk_X2_inDays, List.forall_mem_cons.mpr ⟨zk_X2_seekOrder, List.forall_mem_cons.mpr ⟨zk_X2_figures, List.forall_mem_cons.mpr ⟨zk_X2_toNextOrder, List.forall_mem_cons.mpr ⟨zk_X2_exchangePlaces, List.forall_mem_cons.mpr ⟨zk_X2_fewestSalts, List.forall_mem_cons.mpr ⟨zk_X2_leastBarrel, fun _ h => absurd h List.not_mem_nil⟩⟩⟩⟩⟩⟩⟩⟩⟩⟩⟩⟩⟩⟩⟩⟩⟩⟩⟩⟩
def zp_1 : List (am_M × am_Inf) := [(zm_X2_firstNotSo, zi_X2_firstNotSo), (zm_X2_canBe, zi_X2_canBe), (zm_X2_lackOf, zi_X2_lackOf), (zm_X2_carryOut, zi_X2_carryOut), (zm_X3_init, zi_X3_init), (zm_X3_read, zi_X3_read), (zm_X3_take, zi_X3_take), (zm_X3_takePart, zi_X3_takePart), (zm_X3_takeFigure, zi_X3_takeFigure), (zm_X3_putLast, zi_X3_putLast), (zm_X4_init, zi_X4_init), (zm_X4_add, zi_X4_add), (zm_X4_clear, zi_X4_clear), (zm_X4_possibleWants, zi_X4_possibleWants), (zm_X4_agrees, zi_X4_agrees), (zm_X5_init, zi_X5_init), (zm_X5_clear, zi_X5_clear), (zm_X5_put, zi_X5_put), (zm_X5_fetch, zi_X5_fetch), (zm_X6_init, zi_X6_init)]
theorem zp_ok1 : ∀ q ∈ zp_1, am_okm q := List.forall_mem_cons.mpr ⟨zk_X2_firstNotSo, List.forall_mem_cons.mpr ⟨zk_X2_canBe, List.forall_mem_cons.mpr ⟨zk_X2_lackOf, List.forall_mem_cons.mpr ⟨zk_X2_carryOut, List.forall_mem_cons.mpr ⟨zk_X3_init, List.forall_mem_cons.mpr ⟨zk_X3_read, List.forall_mem_cons.mpr ⟨zk_X3_take, List.forall_mem_cons.mpr ⟨zk_X3_takePart, List.forall_mem_cons.mpr ⟨zk_X3_takeFigure, List.forall_mem_cons.mpr ⟨zk_X3_putLast, List.forall_mem_cons.mpr ⟨zk_X4_init, List.forall_mem_cons.mpr ⟨zk_X4_add, List.forall_mem_cons.mpr ⟨zk_X4_clear, List.forall_mem_cons.mpr ⟨zk_X4_possibleWants, List.forall_mem_cons.mpr ⟨zk_X4_agrees, List.forall_mem_cons.mpr ⟨zk_X5_init, List.forall_mem_cons.mpr ⟨zk_X5_clear, List.forall_mem_cons.mpr ⟨zk_X5_put, List.forall_mem_cons.mpr ⟨zk_X5_fetch, List.forall_mem_cons.mpr ⟨zk_X6_init, fun _ h => absurd h List.not_mem_nil⟩⟩⟩⟩⟩⟩⟩⟩⟩⟩⟩⟩⟩⟩⟩⟩⟩⟩⟩⟩
def zp_2 : List (am_M × am_Inf) := [(zm_X6_clear, zi_X6_clear), (zm_X6_standAsTold, zi_X6_standAsTold), (zm_X6_copyFrom, zi_X6_copyFrom), (zm_X6_placeOf, zi_X6_placeOf), (zm_X6_exchange, zi_X6_exchange), (zm_X6_isSalted, zi_X6_isSalted), (zm_X6_giveSalt, zi_X6_giveSalt), (zm_X6_isAway, zi_X6_isAway), (zm_X6_turnAway, zi_X6_turnAway), (zm_X6_countPresent, zi_X6_countPresent), (zm_X7_init, zi_X7_init), (zm_X7_append, zi_X7_append), (zm_X7_clear, zi_X7_clear), (zm_X8_init, zi_X8_init), (zm_X8_lookAt, zi_X8_lookAt), (zm_X8_hear, zi_X8_hear), (zm_X8_pour, zi_X8_pour), (zm_X8_serve, zi_X8_serve), (zm_X8_pass, zi_X8_pass), (zm_X9_init, zi_X9_init)]
theorem zp_ok2 : ∀ q ∈ zp_2, am_okm q := List.forall_mem_cons.mpr ⟨zk_X6_clear, List.forall_mem_cons.mpr ⟨zk_X6_standAsTold, List.forall_mem_cons.mpr ⟨zk_X6_copyFrom, List.forall_mem_cons.mpr ⟨zk_X6_placeOf, List.forall_mem_cons.mpr ⟨zk_X6_exchange, List.forall_mem_cons.mpr ⟨zk_X6_isSalted, List.forall_mem_cons.mpr ⟨zk_X6_giveSalt, List.forall_mem_cons.mpr ⟨zk_X6_isAway, List.forall_mem_cons.mpr ⟨zk_X6_turnAway, List.forall_mem_cons.mpr ⟨zk_X6_countPresent, List.forall_mem_cons.mpr ⟨zk_X7_init, List.forall_mem_cons.mpr ⟨zk_X7_append, List.forall_mem_cons.mpr ⟨zk_X7_clear, List.forall_mem_cons.mpr ⟨zk_X8_init, List.forall_mem_cons.mpr ⟨zk_X8_lookAt, List.forall_mem_cons.mpr ⟨zk_X8_hear, List.forall_mem_cons.mpr ⟨zk_X8_pour, List.forall_mem_cons.mpr ⟨zk_X8_serve, List.forall_mem_cons.mpr ⟨zk_X8_pass, List.forall_mem_cons.mpr ⟨zk_X9_init, fun _ h => absurd h List.not_mem_nil⟩⟩⟩⟩⟩⟩⟩⟩⟩⟩⟩⟩⟩⟩⟩⟩⟩⟩⟩⟩
def zp_3 : List (am_M × am_Inf) := [(zm_X9_clear, zi_X9_clear), (zm_X9_copyFrom, zi_X9_copyFrom), (zm_X9_heatOn, zi_X9_heatOn), (zm_X10_init, zi_X10_init), (zm_X10_write, zi_X10_write), (zm_X10_wipe, zi_X10_wipe), (zm_X10_fault, zi_X10_fault), (zm_X10_row, zi_X10_row), (zm_X10_house, zi_X10_house), (zm_X10_today, zi_X10_today), (zm_X10_at, zi_X10_at), (zm_X10_day, zi_X10_day), (zm_X10_swap, zi_X10_swap), (zm_X10_salt, zi_X10_salt), (zm_X10_away, zi_X10_away), (zm_X10_undo, zi_X10_undo), (zm_X10_ahead, zi_X10_ahead), (zm_X10_order, zi_X10_order), (zm_X10_worst, zi_X10_worst), (zm_X10_salts, zi_X10_salts)]
theorem zp_ok3 : ∀ q ∈ zp_3, am_okm q := List.forall_mem_cons.mpr ⟨zk_X9_clear, List.forall_mem_cons.mpr ⟨zk_X9_copyFrom, List.forall_mem_cons.mpr ⟨zk_X9_heatOn, List.forall_mem_cons.mpr ⟨zk_X10_init, List.forall_mem_cons.mpr ⟨zk_X10_write, List.forall_mem_cons.mpr ⟨zk_X10_wipe, List.forall_mem_cons.mpr ⟨zk_X10_fault, List.forall_mem_cons.mpr ⟨zk_X10_row, List.forall_mem_cons.mpr ⟨zk_X10_house, List.forall_mem_cons.mpr ⟨zk_X10_today, List.forall_mem_cons.mpr ⟨zk_X10_at, List.forall_mem_cons.mpr ⟨zk_X10_day, List.forall_mem_cons.mpr ⟨zk_X10_swap, List.forall_mem_cons.mpr ⟨zk_X10_salt, List.forall_mem_cons.mpr ⟨zk_X10_away, List.forall_mem_cons.mpr ⟨zk_X10_undo, List.forall_mem_cons.mpr ⟨zk_X10_ahead, List.forall_mem_cons.mpr ⟨zk_X10_order, List.forall_mem_cons.mpr ⟨zk_X10_worst, List.forall_mem_cons.mpr ⟨zk_X10_salts, fun _ h => absurd h List.not_mem_nil⟩⟩⟩⟩⟩⟩⟩⟩⟩⟩⟩⟩⟩⟩⟩⟩⟩⟩⟩⟩
def zp_4 : List (am_M × am_Inf) := [(zm_X10_cask, zi_X10_cask), (zm_X10_judge, zi_X10_judge), (zm_X10_see, zi_X10_see), (zm_X10_unsee, zi_X10_unsee), (zm_X10_wants, zi_X10_wants), (zm_X10_share, zi_X10_share), (zm_X10_rests, zi_X10_rests), (zm_X10_guests, zi_X10_guests), (zm_X10_seed, zi_X10_seed), (zm_X10_weeks, zi_X10_weeks), (zm_X10_keep, zi_X10_keep), (zm_X10_again, zi_X10_again), (zm_X10_count, zi_X10_count), (zm_X10_isHouse, zi_X10_isHouse), (zm_X10_lackingToday, zi_X10_lackingToday), (zm_X10_within, zi_X10_within), (zm_X10_sum, zi_X10_sum), (zm_X10_greatest, zi_X10_greatest), (zm_X10_ordersOf, zi_X10_ordersOf), (zm_X10_power, zi_X10_power)]
theorem zp_ok4 : ∀ q ∈ zp_4, am_okm q := List.forall_mem_cons.mpr ⟨zk_X10_cask, List.forall_mem_cons.mpr ⟨zk_X10_judge, List.forall_mem_cons.mpr ⟨zk_X10_see, List.forall_mem_cons.mpr ⟨zk_X10_unsee, List.forall_mem_cons.mpr ⟨zk_X10_wants, List.forall_mem_cons.mpr ⟨zk_X10_share, List.forall_mem_cons.mpr ⟨zk_X10_rests, List.forall_mem_cons.mpr ⟨zk_X10_guests, List.forall_mem_cons.mpr ⟨zk_X10_seed, List.forall_mem_cons.mpr ⟨zk_X10_weeks, List.forall_mem_cons.mpr ⟨zk_X10_keep, List.forall_mem_cons.mpr ⟨zk_X10_again, List.forall_mem_cons.mpr ⟨zk_X10_count, List.forall_mem_cons.mpr ⟨zk_X10_isHouse, List.forall_mem_cons.mpr ⟨zk_X10_lackingToday, List.forall_mem_cons.mpr ⟨zk_X10_within, List.forall_mem_cons.mpr ⟨zk_X10_sum, List.forall_mem_cons.mpr ⟨zk_X10_greatest, List.forall_mem_cons.mpr ⟨zk_X10_ordersOf, List.forall_mem_cons.mpr ⟨zk_X10_power, fun _ h => absurd h List.not_mem_nil⟩⟩⟩⟩⟩⟩⟩⟩⟩⟩⟩⟩⟩⟩⟩⟩⟩⟩⟩⟩
def zp_5 : List (am_M × am_Inf) := [(zm_X10_wantByKind, zi_X10_wantByKind), (zm_X10_lieOf, zi_X10_lieOf), (zm_X10_withoutDoings, zi_X10_withoutDoings), (zm_X10_inLeastTerms, zi_X10_inLeastTerms), (zm_X10_commonDivisor, zi_X10_commonDivisor), (zm_X11_init, zi_X11_init), (zm_X11_in, zi_X11_in), (zm_X11_has, zi_X11_has), (zm_X11_ones, zi_X11_ones), (zm_X11_write, zi_X11_write), (zm_X11_wipe, zi_X11_wipe), (zm_X11_figure, zi_X11_figure), (zm_X11_readText, zi_X11_readText), (zm_X11_fault, zi_X11_fault), (zm_X11_row, zi_X11_row), (zm_X11_isHouse, zi_X11_isHouse), (zm_X11_every, zi_X11_every), (zm_X11_heatOn, zi_X11_heatOn), (zm_X11_wantBy, zi_X11_wantBy), (zm_X11_houseAt, zi_X11_houseAt)]
theorem zp_ok5 : ∀ q ∈ zp_5, am_okm q := List.forall_mem_cons.mpr ⟨zk_X10_wantByKind, List.forall_mem_cons.mpr ⟨zk_X10_lieOf, List.forall_mem_cons.mpr ⟨zk_X10_withoutDoings, List.forall_mem_cons.mpr ⟨zk_X10_inLeastTerms, List.forall_mem_cons.mpr ⟨zk_X10_commonDivisor, List.forall_mem_cons.mpr ⟨zk_X11_init, List.forall_mem_cons.mpr ⟨zk_X11_in, List.forall_mem_cons.mpr ⟨zk_X11_has, List.forall_mem_cons.mpr ⟨zk_X11_ones, List.forall_mem_cons.mpr ⟨zk_X11_write, List.forall_mem_cons.mpr ⟨zk_X11_wipe, List.forall_mem_cons.mpr ⟨zk_X11_figure, List.forall_mem_cons.mpr ⟨zk_X11_readText, List.forall_mem_cons.mpr ⟨zk_X11_fault, List.forall_mem_cons.mpr ⟨zk_X11_row, List.forall_mem_cons.mpr ⟨zk_X11_isHouse, List.forall_mem_cons.mpr ⟨zk_X11_every, List.forall_mem_cons.mpr ⟨zk_X11_heatOn, List.forall_mem_cons.mpr ⟨zk_X11_wantBy, List.forall_mem_cons.mpr ⟨zk_X11_houseAt, fun _ h => absurd h List.not_mem_nil⟩⟩⟩⟩⟩⟩⟩⟩⟩⟩⟩⟩⟩⟩⟩⟩⟩⟩⟩⟩
def zp_6 : List (am_M × am_Inf) := [(zm_X11_layToday, zi_X11_layToday), (zm_X11_sumOf, zi_X11_sumOf), (zm_X11_passOn, zi_X11_passOn), (zm_X11_lackedOn, zi_X11_lackedOn), (zm_X11_house, zi_X11_house), (zm_X11_today, zi_X11_today), (zm_X11_at, zi_X11_at), (zm_X11_keepAct, zi_X11_keepAct), (zm_X11_day, zi_X11_day), (zm_X11_swapOn, zi_X11_swapOn), (zm_X11_swap, zi_X11_swap), (zm_X11_salt, zi_X11_salt), (zm_X11_away, zi_X11_away), (zm_X11_undo, zi_X11_undo), (zm_X11_layTrial, zi_X11_layTrial), (zm_X11_ahead, zi_X11_ahead), (zm_X11_nextOrder, zi_X11_nextOrder), (zm_X11_exchange, zi_X11_exchange), (zm_X11_lackBy, zi_X11_lackBy), (zm_X11_figures, zi_X11_figures)]
theorem zp_ok6 : ∀ q ∈ zp_6, am_okm q := List.forall_mem_cons.mpr ⟨zk_X11_layToday, List.forall_mem_cons.mpr ⟨zk_X11_sumOf, List.forall_mem_cons.mpr ⟨zk_X11_passOn, List.forall_mem_cons.mpr ⟨zk_X11_lackedOn, List.forall_mem_cons.mpr ⟨zk_X11_house, List.forall_mem_cons.mpr ⟨zk_X11_today, List.forall_mem_cons.mpr ⟨zk_X11_at, List.forall_mem_cons.mpr ⟨zk_X11_keepAct, List.forall_mem_cons.mpr ⟨zk_X11_day, List.forall_mem_cons.mpr ⟨zk_X11_swapOn, List.forall_mem_cons.mpr ⟨zk_X11_swap, List.forall_mem_cons.mpr ⟨zk_X11_salt, List.forall_mem_cons.mpr ⟨zk_X11_away, List.forall_mem_cons.mpr ⟨zk_X11_undo, List.forall_mem_cons.mpr ⟨zk_X11_layTrial, List.forall_mem_cons.mpr ⟨zk_X11_ahead, List.forall_mem_cons.mpr ⟨zk_X11_nextOrder, List.forall_mem_cons.mpr ⟨zk_X11_exchange, List.forall_mem_cons.mpr ⟨zk_X11_lackBy, List.forall_mem_cons.mpr ⟨zk_X11_figures, fun _ h => absurd h List.not_mem_nil⟩⟩⟩⟩⟩⟩⟩⟩⟩⟩⟩⟩⟩⟩⟩⟩⟩⟩⟩⟩
def zp_7 : List (am_M × am_Inf) := [(zm_X11_bestOrder, zi_X11_bestOrder), (zm_X11_order, zi_X11_order), (zm_X11_worst, zi_X11_worst), (zm_X11_salts, zi_X11_salts), (zm_X11_cask, zi_X11_cask), (zm_X11_tryThing, zi_X11_tryThing), (zm_X11_power, zi_X11_power), (zm_X11_judge, zi_X11_judge), (zm_X11_see, zi_X11_see), (zm_X11_unsee, zi_X11_unsee), (zm_X11_wants, zi_X11_wants), (zm_X11_factorial, zi_X11_factorial), (zm_X11_common, zi_X11_common), (zm_X11_drawnBy, zi_X11_drawnBy), (zm_X11_share, zi_X11_share), (zm_X11_gain, zi_X11_gain), (zm_X11_rests, zi_X11_rests), (zm_X11_guests, zi_X11_guests), (zm_X11_seed, zi_X11_seed), (zm_X11_weeks, zi_X11_weeks)]
theorem zp_ok7 : ∀ q ∈ zp_7, am_okm q := List.forall_mem_cons.mpr ⟨zk_X11_bestOrder, List.forall_mem_cons.mpr ⟨zk_X11_order, List.forall_mem_cons.mpr ⟨zk_X11_worst, List.forall_mem_cons.mpr ⟨zk_X11_salts, List.forall_mem_cons.mpr ⟨zk_X11_cask, List.forall_mem_cons.mpr ⟨zk_X11_tryThing, List.forall_mem_cons.mpr ⟨zk_X11_power, List.forall_mem_cons.mpr ⟨zk_X11_judge, List.forall_mem_cons.mpr ⟨zk_X11_see, List.forall_mem_cons.mpr ⟨zk_X11_unsee, List.forall_mem_cons.mpr ⟨zk_X11_wants, List.forall_mem_cons.mpr ⟨zk_X11_factorial, List.forall_mem_cons.mpr ⟨zk_X11_common, List.forall_mem_cons.mpr ⟨zk_X11_drawnBy, List.forall_mem_cons.mpr ⟨zk_X11_share, List.forall_mem_cons.mpr ⟨zk_X11_gain, List.forall_mem_cons.mpr ⟨zk_X11_rests, List.forall_mem_cons.mpr ⟨zk_X11_guests, List.forall_mem_cons.mpr ⟨zk_X11_seed, List.forall_mem_cons.mpr ⟨zk_X11_weeks, fun _ h => absurd h List.not_mem_nil⟩⟩⟩⟩⟩⟩⟩⟩⟩⟩⟩⟩⟩⟩⟩⟩⟩⟩⟩⟩
def zp_8 : List (am_M × am_Inf) := [(zm_X11_keep, zi_X11_keep), (zm_X11_again, zi_X11_again), (zm_X11_count, zi_X11_count), (zm_J6_bitCount_0f7a4, zi_J6_bitCount_0f7a4), (zm_J9_floorMod_7cf53, zi_J9_floorMod_7cf53), (zm_J9_abs_0f7a4, zi_J9_abs_0f7a4), (zm_J9_max_7cf53, zi_J9_max_7cf53), (zm_J9_min_7cf53, zi_J9_min_7cf53), (zm_L_law, zi_L_law)]
theorem zp_ok8 : ∀ q ∈ zp_8, am_okm q := List.forall_mem_cons.mpr ⟨zk_X11_keep, List.forall_mem_cons.mpr ⟨zk_X11_again, List.forall_mem_cons.mpr ⟨zk_X11_count, List.forall_mem_cons.mpr ⟨zk_J6_bitCount_0f7a4, List.forall_mem_cons.mpr ⟨zk_J9_floorMod_7cf53, List.forall_mem_cons.mpr ⟨zk_J9_abs_0f7a4, List.forall_mem_cons.mpr ⟨zk_J9_max_7cf53, List.forall_mem_cons.mpr ⟨zk_J9_min_7cf53, List.forall_mem_cons.mpr ⟨zk_L_law, fun _ h => absurd h List.not_mem_nil⟩⟩⟩⟩⟩⟩⟩⟩⟩
def am_PI : List (am_M × am_Inf) := zp_0 ++ (zp_1 ++ (zp_2 ++ (zp_3 ++ (zp_4 ++ (zp_5 ++ (zp_6 ++ (zp_7 ++ (zp_8))))))))
theorem am_all : ∀ q ∈ am_PI, am_okm q := List.forall_mem_append.mpr ⟨zp_ok0, List.forall_mem_append.mpr ⟨zp_ok1, List.forall_mem_append.mpr ⟨zp_ok2, List.forall_mem_append.mpr ⟨zp_ok3, List.forall_mem_append.mpr ⟨zp_ok4, List.forall_mem_append.mpr ⟨zp_ok5, List.forall_mem_append.mpr ⟨zp_ok6, List.forall_mem_append.mpr ⟨zp_ok7, zp_ok8⟩⟩⟩⟩⟩⟩⟩⟩
theorem am_P_eq : am_P = am_PI.map (fun q => q.1) := by rfl
theorem am_I_eq : am_I = am_PI.map (fun q => q.2) := by rfl
theorem am_ok {y : Nat} {M : am_M} {inf : am_Inf} (hM : am_P[y]? = some M) (hI : am_I[y]? = some inf) : am_okm (M, inf) := by
  rw [am_P_eq, List.getElem?_map] at hM
  rw [am_I_eq, List.getElem?_map] at hI
  cases hq : am_PI[y]? with
  | none => rw [hq] at hM; cases hM
  | some q =>
    rw [hq] at hM hI
    cases hM
    cases hI
    exact am_all q (List.mem_of_getElem? hq)
theorem am_inf {y : Nat} {M : am_M} (hM : am_P[y]? = some M) : ∃ inf, am_I[y]? = some inf ∧ am_okm (M, inf) := by
  rw [am_P_eq, List.getElem?_map] at hM
  cases hq : am_PI[y]? with
  | none => rw [hq] at hM; cases hM
  | some q =>
    rw [hq] at hM
    cases hM
    exact ⟨q.2, by rw [am_I_eq, List.getElem?_map, hq]; rfl, am_all q (List.mem_of_getElem? hq)⟩
end
section
/-! rules of the small machine, goal first: one an instruction -/
/-- from this state the method comes to an end with Q -/
def am_Go (y : Nat) (s : am_S) (Q : Option Value → am_W → Prop) : Prop := ∃ (n : Nat) (res : Option Value) (w' : am_W), am_exec am_D am_P n y s = some (res, w') ∧ Q res w'
theorem am_exec_succ (n y : Nat) (s : am_S) : am_exec am_D am_P (n + 1) y s = match am_P[y]? with
    | none => none
    | some M => match am_step am_D am_P M s with
      | none => none
      | some (.inl r) => some r
      | some (.inr (.inl s')) => am_exec am_D am_P n y s'
      | some (.inr (.inr (y', vs, s'))) => match am_P[y']? with
        | none => none
        | some N => match am_exec am_D am_P n y' (0, am_ent N.2.1 vs, [], s'.2.2.2.1, 0, 0) with
          | none => none
          | some (res, w') => am_exec am_D am_P n y (s'.1, s'.2.1, res.toList ++ s'.2.2.1, w', s'.2.2.2.2) := rfl
section AR
variable {y : Nat} {M : am_M} {s s' : am_S} {Q : Option Value → am_W → Prop}
theorem am_Go.next (hM : am_P[y]? = some M) (hs : am_step am_D am_P M s = some (.inr (.inl s'))) (k : am_Go y s' Q) : am_Go y s Q := by
  obtain ⟨n, res, w', h, q⟩ := k
  refine ⟨n + 1, res, w', ?_, q⟩
  rw [am_exec_succ, hM]
  simp only [hs]
  exact h
theorem am_Go.ret {res : Option Value} {w : am_W} (hM : am_P[y]? = some M) (hs : am_step am_D am_P M s = some (.inl (res, w))) (q : Q res w) : am_Go y s Q := by
  refine ⟨1, res, w, ?_, q⟩
  rw [am_exec_succ, hM]
  simp only [hs]
theorem am_Go.call {y' : Nat} {N : am_M} {vs : List Value} {Q' : Option Value → am_W → Prop} (hM : am_P[y]? = some M) (hs : am_step am_D am_P M s = some (.inr (.inr (y', vs, s')))) (hN : am_P[y']? = some N) (hc : am_Go y' (0, am_ent N.2.1 vs, [], s'.2.2.2.1, 0, 0) Q') (k : ∀ res w', Q' res w' → am_Go y (s'.1, s'.2.1, res.toList ++ s'.2.2.1, w', s'.2.2.2.2) Q) : am_Go y s Q := by
  obtain ⟨n1, r1, w1, h1, q1⟩ := hc
  obtain ⟨n2, r2, w2, h2, q2⟩ := k r1 w1 q1
  refine ⟨max n1 n2 + 1, r2, w2, ?_, q2⟩
  rw [am_exec_succ, hM]
  simp only [hs, hN, am_mono' (Nat.le_max_left n1 n2) h1]
  exact am_mono' (Nat.le_max_right n1 n2) h2
theorem am_Go.mono {Q' : Option Value → am_W → Prop} (h : am_Go y s Q) (k : ∀ res w', Q res w' → Q' res w') : am_Go y s Q' := by
  obtain ⟨n, res, w', h, q⟩ := h
  exact ⟨n, res, w', h, k res w' q⟩
theorem am_Go.eq {s' : am_S} (h : s = s') (k : am_Go y s' Q) : am_Go y s Q := h ▸ k
theorem am_stp {pc : Nat} {t : List Value × List Value × am_W × Nat × Nat} {r : am_R} (hr : am_row M.1 pc = some r) : am_step am_D am_P M (pc, t) = am_act am_D am_P M r (pc, t) := by
  show (match am_row M.1 pc with | none => none | some r => am_act am_D am_P M r (pc, t)) = _
  rw [hr]
variable {pc pc' q0 len a b k1 k2 : Nat} {v : Int} {ls st : List Value} {w : am_W}
theorem ar_iconst {c : Int} {x : Int32} (hM : am_P[y]? = some M) (hr : am_row M.1 pc = some (q0, .iconst c, len, a, b, v)) (hx : Int32.ofInt c = x) (hp : pc + 1 = pc') (k : am_Go y (pc', ls, .int x :: st, w, k1, k2) Q) : am_Go y (pc, ls, st, w, k1, k2) Q := by
  subst hp
  refine am_Go.next hM ?_ k
  rw [am_stp hr]
  subst hx
  rfl
theorem ar_bipush {c : Int} {x : Int32} (hM : am_P[y]? = some M) (hr : am_row M.1 pc = some (q0, .bipush c, len, a, b, v)) (hx : (Int8.ofInt c).toInt32 = x) (hp : pc + 2 = pc') (k : am_Go y (pc', ls, .int x :: st, w, k1, k2) Q) : am_Go y (pc, ls, st, w, k1, k2) Q := by
  subst hp
  refine am_Go.next hM ?_ k
  rw [am_stp hr]
  subst hx
  rfl
theorem ar_sipush {c : Int} {x : Int32} (hM : am_P[y]? = some M) (hr : am_row M.1 pc = some (q0, .sipush c, len, a, b, v)) (hx : (Int16.ofInt c).toInt32 = x) (hp : pc + 3 = pc') (k : am_Go y (pc', ls, .int x :: st, w, k1, k2) Q) : am_Go y (pc, ls, st, w, k1, k2) Q := by
  subst hp
  refine am_Go.next hM ?_ k
  rw [am_stp hr]
  subst hx
  rfl
theorem ar_ldc {c : Nat} {x : Int32} (hM : am_P[y]? = some M) (hr : am_row M.1 pc = some (q0, .ldc c, len, a, b, v)) (hx : Int32.ofInt v = x) (hp : pc + 2 = pc') (k : am_Go y (pc', ls, .int x :: st, w, k1, k2) Q) : am_Go y (pc, ls, st, w, k1, k2) Q := by
  subst hp
  refine am_Go.next hM ?_ k
  rw [am_stp hr]
  subst hx
  rfl
theorem ar_ldc_w {c : Nat} {x : Int32} (hM : am_P[y]? = some M) (hr : am_row M.1 pc = some (q0, .ldc_w c, len, a, b, v)) (hx : Int32.ofInt v = x) (hp : pc + 3 = pc') (k : am_Go y (pc', ls, .int x :: st, w, k1, k2) Q) : am_Go y (pc, ls, st, w, k1, k2) Q := by
  subst hp
  refine am_Go.next hM ?_ k
  rw [am_stp hr]
  subst hx
  rfl
theorem ar_ldc2_w {c : Nat} {x : Int64} (hM : am_P[y]? = some M) (hr : am_row M.1 pc = some (q0, .ldc2_w c, len, a, b, v)) (hx : Int64.ofInt v = x) (hp : pc + 3 = pc') (k : am_Go y (pc', ls, .long x :: st, w, k1, k2) Q) : am_Go y (pc, ls, st, w, k1, k2) Q := by
  subst hp
  refine am_Go.next hM ?_ k
  rw [am_stp hr]
  subst hx
  rfl
theorem ar_lconst {c : Fin 2} {x : Int64} (hM : am_P[y]? = some M) (hr : am_row M.1 pc = some (q0, .lconst c, len, a, b, v)) (hx : Int64.ofNat c.val = x) (hp : pc + 1 = pc') (k : am_Go y (pc', ls, .long x :: st, w, k1, k2) Q) : am_Go y (pc, ls, st, w, k1, k2) Q := by
  subst hp
  refine am_Go.next hM ?_ k
  rw [am_stp hr]
  subst hx
  rfl
theorem ar_iload {n : Nat} {x : Int32} (hM : am_P[y]? = some M) (hr : am_row M.1 pc = some (q0, .iload n, len, a, b, v)) (hl : ls[n]? = some (.int x)) (hp : pc + 2 = pc') (k : am_Go y (pc', ls, .int x :: st, w, k1, k2) Q) : am_Go y (pc, ls, st, w, k1, k2) Q := by
  subst hp
  refine am_Go.next hM ?_ k
  rw [am_stp hr]
  show (match ls[n]? with | some (.int x) => _ | _ => none) = _
  rw [hl]
  rfl
theorem ar_iload_n {n : Fin 4} {x : Int32} (hM : am_P[y]? = some M) (hr : am_row M.1 pc = some (q0, .iload_n n, len, a, b, v)) (hl : ls[n.val]? = some (.int x)) (hp : pc + 1 = pc') (k : am_Go y (pc', ls, .int x :: st, w, k1, k2) Q) : am_Go y (pc, ls, st, w, k1, k2) Q := by
  subst hp
  refine am_Go.next hM ?_ k
  rw [am_stp hr]
  show (match ls[n.val]? with | some (.int x) => _ | _ => none) = _
  rw [hl]
  rfl
theorem ar_lload {n : Nat} {x : Int64} (hM : am_P[y]? = some M) (hr : am_row M.1 pc = some (q0, .lload n, len, a, b, v)) (hl : ls[n]? = some (.long x)) (hp : pc + 2 = pc') (k : am_Go y (pc', ls, .long x :: st, w, k1, k2) Q) : am_Go y (pc, ls, st, w, k1, k2) Q := by
  subst hp
  refine am_Go.next hM ?_ k
  rw [am_stp hr]
  show (match ls[n]? with | some (.long x) => _ | _ => none) = _
  rw [hl]
  rfl
theorem ar_lload_n {n : Fin 4} {x : Int64} (hM : am_P[y]? = some M) (hr : am_row M.1 pc = some (q0, .lload_n n, len, a, b, v)) (hl : ls[n.val]? = some (.long x)) (hp : pc + 1 = pc') (k : am_Go y (pc', ls, .long x :: st, w, k1, k2) Q) : am_Go y (pc, ls, st, w, k1, k2) Q := by
  subst hp
  refine am_Go.next hM ?_ k
  rw [am_stp hr]
  show (match ls[n.val]? with | some (.long x) => _ | _ => none) = _
  rw [hl]
  rfl
theorem ar_aload {n : Nat} {x : Nat} (hM : am_P[y]? = some M) (hr : am_row M.1 pc = some (q0, .aload n, len, a, b, v)) (hl : ls[n]? = some (.ref x)) (hp : pc + 2 = pc') (k : am_Go y (pc', ls, .ref x :: st, w, k1, k2) Q) : am_Go y (pc, ls, st, w, k1, k2) Q := by
  subst hp
  refine am_Go.next hM ?_ k
  rw [am_stp hr]
  show (match ls[n]? with | some (.ref x) => _ | _ => none) = _
  rw [hl]
  rfl
theorem ar_aload_n {n : Fin 4} {x : Nat} (hM : am_P[y]? = some M) (hr : am_row M.1 pc = some (q0, .aload_n n, len, a, b, v)) (hl : ls[n.val]? = some (.ref x)) (hp : pc + 1 = pc') (k : am_Go y (pc', ls, .ref x :: st, w, k1, k2) Q) : am_Go y (pc, ls, st, w, k1, k2) Q := by
  subst hp
  refine am_Go.next hM ?_ k
  rw [am_stp hr]
  show (match ls[n.val]? with | some (.ref x) => _ | _ => none) = _
  rw [hl]
  rfl
theorem ar_istore {n : Nat} {x : Int32} {ls2 : List Value} (hM : am_P[y]? = some M) (hr : am_row M.1 pc = some (q0, .istore n, len, a, b, v)) (hl : am_free ls n = true) (hs : ls.set n (.int x) = ls2) (hp : pc + 2 = pc') (k : am_Go y (pc', ls2, st, w, k1, k2) Q) : am_Go y (pc, ls, .int x :: st, w, k1, k2) Q := by
  subst hp
  refine am_Go.next hM ?_ k
  rw [am_stp hr]
  subst hs
  show (bif am_free ls n then _ else none) = _
  rw [hl]
  rfl
theorem ar_istore_n {n : Fin 4} {x : Int32} {ls2 : List Value} (hM : am_P[y]? = some M) (hr : am_row M.1 pc = some (q0, .istore_n n, len, a, b, v)) (hl : am_free ls n.val = true) (hs : ls.set n.val (.int x) = ls2) (hp : pc + 1 = pc') (k : am_Go y (pc', ls2, st, w, k1, k2) Q) : am_Go y (pc, ls, .int x :: st, w, k1, k2) Q := by
  subst hp
  refine am_Go.next hM ?_ k
  rw [am_stp hr]
  subst hs
  show (bif am_free ls n.val then _ else none) = _
  rw [hl]
  rfl
theorem ar_astore {n : Nat} {x : Nat} {ls2 : List Value} (hM : am_P[y]? = some M) (hr : am_row M.1 pc = some (q0, .astore n, len, a, b, v)) (hl : am_free ls n = true) (hs : ls.set n (.ref x) = ls2) (hp : pc + 2 = pc') (k : am_Go y (pc', ls2, st, w, k1, k2) Q) : am_Go y (pc, ls, .ref x :: st, w, k1, k2) Q := by
  subst hp
  refine am_Go.next hM ?_ k
  rw [am_stp hr]
  subst hs
  show (bif am_free ls n then _ else none) = _
  rw [hl]
  rfl
theorem ar_astore_n {n : Fin 4} {x : Nat} {ls2 : List Value} (hM : am_P[y]? = some M) (hr : am_row M.1 pc = some (q0, .astore_n n, len, a, b, v)) (hl : am_free ls n.val = true) (hs : ls.set n.val (.ref x) = ls2) (hp : pc + 1 = pc') (k : am_Go y (pc', ls2, st, w, k1, k2) Q) : am_Go y (pc, ls, .ref x :: st, w, k1, k2) Q := by
  subst hp
  refine am_Go.next hM ?_ k
  rw [am_stp hr]
  subst hs
  show (bif am_free ls n.val then _ else none) = _
  rw [hl]
  rfl
theorem ar_lstore {n : Nat} {x : Int64} {ls2 : List Value} (hM : am_P[y]? = some M) (hr : am_row M.1 pc = some (q0, .lstore n, len, a, b, v)) (hl : (am_free ls n && Nat.blt (n + 1) ls.length) = true) (hs : (ls.set n (.long x)).set (n + 1) (.float 0) = ls2) (hp : pc + 2 = pc') (k : am_Go y (pc', ls2, st, w, k1, k2) Q) : am_Go y (pc, ls, .long x :: st, w, k1, k2) Q := by
  subst hp
  refine am_Go.next hM ?_ k
  rw [am_stp hr]
  subst hs
  show (bif am_free ls n && Nat.blt (n + 1) ls.length then _ else none) = _
  rw [hl]
  rfl
theorem ar_lstore_n {n : Fin 4} {x : Int64} {ls2 : List Value} (hM : am_P[y]? = some M) (hr : am_row M.1 pc = some (q0, .lstore_n n, len, a, b, v)) (hl : (am_free ls n.val && Nat.blt (n.val + 1) ls.length) = true) (hs : (ls.set n.val (.long x)).set (n.val + 1) (.float 0) = ls2) (hp : pc + 1 = pc') (k : am_Go y (pc', ls2, st, w, k1, k2) Q) : am_Go y (pc, ls, .long x :: st, w, k1, k2) Q := by
  subst hp
  refine am_Go.next hM ?_ k
  rw [am_stp hr]
  subst hs
  show (bif am_free ls n.val && Nat.blt (n.val + 1) ls.length then _ else none) = _
  rw [hl]
  rfl
theorem ar_iinc {n : Nat} {c : Int} {x z : Int32} {ls2 : List Value} (hM : am_P[y]? = some M) (hr : am_row M.1 pc = some (q0, .iinc n c, len, a, b, v)) (hv : ls[n]? = some (.int x)) (hz : x + Int32.ofInt c = z) (hl : am_free ls n = true) (hs : ls.set n (.int z) = ls2) (hp : pc + 3 = pc') (k : am_Go y (pc', ls2, st, w, k1, k2) Q) : am_Go y (pc, ls, st, w, k1, k2) Q := by
  subst hp
  refine am_Go.next hM ?_ k
  rw [am_stp hr]
  subst hs
  subst hz
  show (match ls[n]? with | some (.int x) => (bif am_free ls n then _ else none) | _ => none) = _
  rw [hv]
  show (bif am_free ls n then _ else none) = _
  rw [hl]
  rfl
theorem ar_dup {x : Value} (hM : am_P[y]? = some M) (hr : am_row M.1 pc = some (q0, .dup, len, a, b, v)) (hx : x.category = 1) (hp : pc + 1 = pc') (k : am_Go y (pc', ls, x :: x :: st, w, k1, k2) Q) : am_Go y (pc, ls, x :: st, w, k1, k2) Q := by
  subst hp
  refine am_Go.next hM ?_ k
  rw [am_stp hr]
  show (if x.category = 1 then _ else none) = _
  rw [if_pos hx]
  rfl
theorem ar_dup2 {x z : Value} (hM : am_P[y]? = some M) (hr : am_row M.1 pc = some (q0, .dup2, len, a, b, v)) (hx : x.category = 1) (hz : z.category = 1) (hp : pc + 1 = pc') (k : am_Go y (pc', ls, x :: z :: x :: z :: st, w, k1, k2) Q) : am_Go y (pc, ls, x :: z :: st, w, k1, k2) Q := by
  subst hp
  refine am_Go.next hM ?_ k
  rw [am_stp hr]
  show (if x.category = 1 ∧ z.category = 1 then _ else none) = _
  rw [if_pos ⟨hx, hz⟩]
  rfl
theorem ar_pop {x : Value} (hM : am_P[y]? = some M) (hr : am_row M.1 pc = some (q0, .pop, len, a, b, v)) (hx : x.category = 1) (hp : pc + 1 = pc') (k : am_Go y (pc', ls, st, w, k1, k2) Q) : am_Go y (pc, ls, x :: st, w, k1, k2) Q := by
  subst hp
  refine am_Go.next hM ?_ k
  rw [am_stp hr]
  show (if x.category = 1 then _ else none) = _
  rw [if_pos hx]
  rfl
theorem ar_iadd {x z : Int32} (hM : am_P[y]? = some M) (hr : am_row M.1 pc = some (q0, .iadd, len, a, b, v)) (hp : pc + 1 = pc') (k : am_Go y (pc', ls, .int (x + z) :: st, w, k1, k2) Q) : am_Go y (pc, ls, .int z :: .int x :: st, w, k1, k2) Q := by
  subst hp
  refine am_Go.next hM ?_ k
  rw [am_stp hr]
  rfl
theorem ar_isub {x z : Int32} (hM : am_P[y]? = some M) (hr : am_row M.1 pc = some (q0, .isub, len, a, b, v)) (hp : pc + 1 = pc') (k : am_Go y (pc', ls, .int (x - z) :: st, w, k1, k2) Q) : am_Go y (pc, ls, .int z :: .int x :: st, w, k1, k2) Q := by
  subst hp
  refine am_Go.next hM ?_ k
  rw [am_stp hr]
  rfl
theorem ar_imul {x z : Int32} (hM : am_P[y]? = some M) (hr : am_row M.1 pc = some (q0, .imul, len, a, b, v)) (hp : pc + 1 = pc') (k : am_Go y (pc', ls, .int (x * z) :: st, w, k1, k2) Q) : am_Go y (pc, ls, .int z :: .int x :: st, w, k1, k2) Q := by
  subst hp
  refine am_Go.next hM ?_ k
  rw [am_stp hr]
  rfl
theorem ar_iand {x z : Int32} (hM : am_P[y]? = some M) (hr : am_row M.1 pc = some (q0, .iand, len, a, b, v)) (hp : pc + 1 = pc') (k : am_Go y (pc', ls, .int (x &&& z) :: st, w, k1, k2) Q) : am_Go y (pc, ls, .int z :: .int x :: st, w, k1, k2) Q := by
  subst hp
  refine am_Go.next hM ?_ k
  rw [am_stp hr]
  rfl
theorem ar_ior {x z : Int32} (hM : am_P[y]? = some M) (hr : am_row M.1 pc = some (q0, .ior, len, a, b, v)) (hp : pc + 1 = pc') (k : am_Go y (pc', ls, .int (x ||| z) :: st, w, k1, k2) Q) : am_Go y (pc, ls, .int z :: .int x :: st, w, k1, k2) Q := by
  subst hp
  refine am_Go.next hM ?_ k
  rw [am_stp hr]
  rfl
theorem ar_ixor {x z : Int32} (hM : am_P[y]? = some M) (hr : am_row M.1 pc = some (q0, .ixor, len, a, b, v)) (hp : pc + 1 = pc') (k : am_Go y (pc', ls, .int (x ^^^ z) :: st, w, k1, k2) Q) : am_Go y (pc, ls, .int z :: .int x :: st, w, k1, k2) Q := by
  subst hp
  refine am_Go.next hM ?_ k
  rw [am_stp hr]
  rfl
theorem ar_ishl {x z : Int32} (hM : am_P[y]? = some M) (hr : am_row M.1 pc = some (q0, .ishl, len, a, b, v)) (hp : pc + 1 = pc') (k : am_Go y (pc', ls, .int (x <<< (z &&& 31)) :: st, w, k1, k2) Q) : am_Go y (pc, ls, .int z :: .int x :: st, w, k1, k2) Q := by
  subst hp
  refine am_Go.next hM ?_ k
  rw [am_stp hr]
  rfl
theorem ar_ishr {x z : Int32} (hM : am_P[y]? = some M) (hr : am_row M.1 pc = some (q0, .ishr, len, a, b, v)) (hp : pc + 1 = pc') (k : am_Go y (pc', ls, .int (x >>> (z &&& 31)) :: st, w, k1, k2) Q) : am_Go y (pc, ls, .int z :: .int x :: st, w, k1, k2) Q := by
  subst hp
  refine am_Go.next hM ?_ k
  rw [am_stp hr]
  rfl
theorem ar_iushr {x z : Int32} (hM : am_P[y]? = some M) (hr : am_row M.1 pc = some (q0, .iushr, len, a, b, v)) (hp : pc + 1 = pc') (k : am_Go y (pc', ls, .int ((x.toUInt32 >>> (z.toUInt32 &&& Int32.toUInt32 31)).toInt32) :: st, w, k1, k2) Q) : am_Go y (pc, ls, .int z :: .int x :: st, w, k1, k2) Q := by
  subst hp
  refine am_Go.next hM ?_ k
  rw [am_stp hr]
  rfl
theorem ar_idiv {x z : Int32} (hM : am_P[y]? = some M) (hr : am_row M.1 pc = some (q0, .idiv, len, a, b, v)) (hz : ¬ z = 0) (hp : pc + 1 = pc') (k : am_Go y (pc', ls, .int (x / z) :: st, w, k1, k2) Q) : am_Go y (pc, ls, .int z :: .int x :: st, w, k1, k2) Q := by
  subst hp
  refine am_Go.next hM ?_ k
  rw [am_stp hr]
  show (if z = 0 then none else _) = _
  rw [if_neg hz]
  rfl
theorem ar_irem {x z : Int32} (hM : am_P[y]? = some M) (hr : am_row M.1 pc = some (q0, .irem, len, a, b, v)) (hz : ¬ z = 0) (hp : pc + 1 = pc') (k : am_Go y (pc', ls, .int (x - x / z * z) :: st, w, k1, k2) Q) : am_Go y (pc, ls, .int z :: .int x :: st, w, k1, k2) Q := by
  subst hp
  refine am_Go.next hM ?_ k
  rw [am_stp hr]
  show (if z = 0 then none else _) = _
  rw [if_neg hz]
  rfl
theorem ar_ineg {x : Int32} (hM : am_P[y]? = some M) (hr : am_row M.1 pc = some (q0, .ineg, len, a, b, v)) (hp : pc + 1 = pc') (k : am_Go y (pc', ls, .int (-x) :: st, w, k1, k2) Q) : am_Go y (pc, ls, .int x :: st, w, k1, k2) Q := by
  subst hp
  refine am_Go.next hM ?_ k
  rw [am_stp hr]
  rfl
theorem ar_i2l {x : Int32} (hM : am_P[y]? = some M) (hr : am_row M.1 pc = some (q0, .i2l, len, a, b, v)) (hp : pc + 1 = pc') (k : am_Go y (pc', ls, .long x.toInt64 :: st, w, k1, k2) Q) : am_Go y (pc, ls, .int x :: st, w, k1, k2) Q := by
  subst hp
  refine am_Go.next hM ?_ k
  rw [am_stp hr]
  rfl
theorem ar_l2i {x : Int64} (hM : am_P[y]? = some M) (hr : am_row M.1 pc = some (q0, .l2i, len, a, b, v)) (hp : pc + 1 = pc') (k : am_Go y (pc', ls, .int x.toInt32 :: st, w, k1, k2) Q) : am_Go y (pc, ls, .long x :: st, w, k1, k2) Q := by
  subst hp
  refine am_Go.next hM ?_ k
  rw [am_stp hr]
  rfl
theorem ar_ladd {x z : Int64} (hM : am_P[y]? = some M) (hr : am_row M.1 pc = some (q0, .ladd, len, a, b, v)) (hp : pc + 1 = pc') (k : am_Go y (pc', ls, .long (x + z) :: st, w, k1, k2) Q) : am_Go y (pc, ls, .long z :: .long x :: st, w, k1, k2) Q := by
  subst hp
  refine am_Go.next hM ?_ k
  rw [am_stp hr]
  rfl
theorem ar_lsub {x z : Int64} (hM : am_P[y]? = some M) (hr : am_row M.1 pc = some (q0, .lsub, len, a, b, v)) (hp : pc + 1 = pc') (k : am_Go y (pc', ls, .long (x - z) :: st, w, k1, k2) Q) : am_Go y (pc, ls, .long z :: .long x :: st, w, k1, k2) Q := by
  subst hp
  refine am_Go.next hM ?_ k
  rw [am_stp hr]
  rfl
theorem ar_lmul {x z : Int64} (hM : am_P[y]? = some M) (hr : am_row M.1 pc = some (q0, .lmul, len, a, b, v)) (hp : pc + 1 = pc') (k : am_Go y (pc', ls, .long (x * z) :: st, w, k1, k2) Q) : am_Go y (pc, ls, .long z :: .long x :: st, w, k1, k2) Q := by
  subst hp
  refine am_Go.next hM ?_ k
  rw [am_stp hr]
  rfl
theorem ar_land {x z : Int64} (hM : am_P[y]? = some M) (hr : am_row M.1 pc = some (q0, .land, len, a, b, v)) (hp : pc + 1 = pc') (k : am_Go y (pc', ls, .long (x &&& z) :: st, w, k1, k2) Q) : am_Go y (pc, ls, .long z :: .long x :: st, w, k1, k2) Q := by
  subst hp
  refine am_Go.next hM ?_ k
  rw [am_stp hr]
  rfl
theorem ar_lor {x z : Int64} (hM : am_P[y]? = some M) (hr : am_row M.1 pc = some (q0, .lor, len, a, b, v)) (hp : pc + 1 = pc') (k : am_Go y (pc', ls, .long (x ||| z) :: st, w, k1, k2) Q) : am_Go y (pc, ls, .long z :: .long x :: st, w, k1, k2) Q := by
  subst hp
  refine am_Go.next hM ?_ k
  rw [am_stp hr]
  rfl
theorem ar_ldiv {x z : Int64} (hM : am_P[y]? = some M) (hr : am_row M.1 pc = some (q0, .ldiv, len, a, b, v)) (hz : ¬ z = 0) (hp : pc + 1 = pc') (k : am_Go y (pc', ls, .long (x / z) :: st, w, k1, k2) Q) : am_Go y (pc, ls, .long z :: .long x :: st, w, k1, k2) Q := by
  subst hp
  refine am_Go.next hM ?_ k
  rw [am_stp hr]
  show (if z = 0 then none else _) = _
  rw [if_neg hz]
  rfl
theorem ar_lrem {x z : Int64} (hM : am_P[y]? = some M) (hr : am_row M.1 pc = some (q0, .lrem, len, a, b, v)) (hz : ¬ z = 0) (hp : pc + 1 = pc') (k : am_Go y (pc', ls, .long (x - x / z * z) :: st, w, k1, k2) Q) : am_Go y (pc, ls, .long z :: .long x :: st, w, k1, k2) Q := by
  subst hp
  refine am_Go.next hM ?_ k
  rw [am_stp hr]
  show (if z = 0 then none else _) = _
  rw [if_neg hz]
  rfl
theorem ar_lshl {x : Int64} {z : Int32} (hM : am_P[y]? = some M) (hr : am_row M.1 pc = some (q0, .lshl, len, a, b, v)) (hp : pc + 1 = pc') (k : am_Go y (pc', ls, .long (x <<< (z.toInt64 &&& 63)) :: st, w, k1, k2) Q) : am_Go y (pc, ls, .int z :: .long x :: st, w, k1, k2) Q := by
  subst hp
  refine am_Go.next hM ?_ k
  rw [am_stp hr]
  rfl
theorem ar_lushr {x : Int64} {z : Int32} (hM : am_P[y]? = some M) (hr : am_row M.1 pc = some (q0, .lushr, len, a, b, v)) (hp : pc + 1 = pc') (k : am_Go y (pc', ls, .long (x.toUInt64 >>> (z.toInt64.toUInt64 &&& Int64.toUInt64 63)).toInt64 :: st, w, k1, k2) Q) : am_Go y (pc, ls, .int z :: .long x :: st, w, k1, k2) Q := by
  subst hp
  refine am_Go.next hM ?_ k
  rw [am_stp hr]
  rfl
theorem ar_lcmp {x z : Int64} (hM : am_P[y]? = some M) (hr : am_row M.1 pc = some (q0, .lcmp, len, a, b, v)) (hp : pc + 1 = pc') (k : am_Go y (pc', ls, .int (lg_cmp x z) :: st, w, k1, k2) Q) : am_Go y (pc, ls, .long z :: .long x :: st, w, k1, k2) Q := by
  subst hp
  refine am_Go.next hM ?_ k
  rw [am_stp hr]
  rfl
theorem ar_goto {c : Int} (hM : am_P[y]? = some M) (hr : am_row M.1 pc = some (q0, .goto c, len, a, b, v)) (k : am_Go y (a, ls, st, w, k1, k2) Q) : am_Go y (pc, ls, st, w, k1, k2) Q := by
  refine am_Go.next hM ?_ k
  rw [am_stp hr]
  rfl
theorem ar_getstatic {c : Nat} (hM : am_P[y]? = some M) (hr : am_row M.1 pc = some (q0, .getstatic c, len, a, b, v)) (hp : pc + 3 = pc') (k : am_Go y (pc', ls, .ref 0 :: st, w, k1, k2) Q) : am_Go y (pc, ls, st, w, k1, k2) Q := by
  subst hp
  refine am_Go.next hM ?_ k
  rw [am_stp hr]
  rfl
theorem ar_getfield {c q : Nat} {fs : List Value} {x : Value} (hM : am_P[y]? = some M) (hr : am_row M.1 pc = some (q0, .getfield c, len, a, b, v)) (hw : w[q]? = some (.inr (a, fs))) (hx : fs[b]? = some x) (hp : pc + 3 = pc') (k : am_Go y (pc', ls, x :: st, w, k1, k2) Q) : am_Go y (pc, ls, .ref q :: st, w, k1, k2) Q := by
  subst hp
  refine am_Go.next hM ?_ k
  rw [am_stp hr]
  show (match w[q]? with | some (.inr (ci, fs)) => _ | _ => none) = _
  rw [hw]
  show (if a = a then _ else none) = _
  rw [if_pos rfl]
  show (match fs[b]? with | some x => _ | none => none) = _
  rw [hx]
  rfl
theorem ar_putfield {c q : Nat} {fs : List Value} {x : Value} (hM : am_P[y]? = some M) (hr : am_row M.1 pc = some (q0, .putfield c, len, a, b, v)) (hw : w[q]? = some (.inr (a, fs))) (hb : b < fs.length) (hf : am_fit v x = true) (hq : 2 ≤ q) (hp : pc + 3 = pc') (k : am_Go y (pc', ls, st, w.set q (.inr (a, fs.set b x)), k1, k2) Q) : am_Go y (pc, ls, x :: .ref q :: st, w, k1, k2) Q := by
  subst hp
  refine am_Go.next hM ?_ k
  rw [am_stp hr]
  show (match w[q]? with | some (.inr (ci, fs)) => _ | _ => none) = _
  rw [hw]
  show (if a = a ∧ b < fs.length ∧ am_fit v x = true ∧ 2 ≤ q then _ else none) = _
  rw [if_pos ⟨rfl, hb, hf, hq⟩]
  rfl
theorem ar_iaload {q n : Nat} {f : Nat → Int32} {i : Int32} (hM : am_P[y]? = some M) (hr : am_row M.1 pc = some (q0, .iaload, len, a, b, v)) (hw : w[q]? = some (.inl (0, n, .inl f))) (hi : am_ix i n = true) (hp : pc + 1 = pc') (k : am_Go y (pc', ls, .int (f i.toNatClampNeg) :: st, w, k1, k2) Q) : am_Go y (pc, ls, .int i :: .ref q :: st, w, k1, k2) Q := by
  subst hp
  refine am_Go.next hM ?_ k
  rw [am_stp hr]
  show (match w[q]? with | some (.inl (0, n, .inl f)) => _ | _ => none) = _
  rw [hw]
  show (bif am_ix i n then _ else none) = _
  rw [hi]
  rfl
theorem ar_baload {q n : Nat} {f : Nat → Int32} {i : Int32} (hM : am_P[y]? = some M) (hr : am_row M.1 pc = some (q0, .baload, len, a, b, v)) (hw : w[q]? = some (.inl (1, n, .inl f))) (hi : am_ix i n = true) (hq : 2 ≤ q) (hp : pc + 1 = pc') (k : am_Go y (pc', ls, .int (f i.toNatClampNeg) :: st, w, k1, k2) Q) : am_Go y (pc, ls, .int i :: .ref q :: st, w, k1, k2) Q := by
  subst hp
  refine am_Go.next hM ?_ k
  rw [am_stp hr]
  show (match w[q]? with | some (.inl (1, n, .inl f)) => _ | _ => none) = _
  rw [hw]
  show (if am_ix i n = true ∧ 2 ≤ q then _ else none) = _
  rw [if_pos ⟨hi, hq⟩]
  rfl
theorem ar_aaload {q n z : Nat} {f : Nat → Option Nat} {i : Int32} (hM : am_P[y]? = some M) (hr : am_row M.1 pc = some (q0, .aaload, len, a, b, v)) (hw : w[q]? = some (.inl (2, n, .inr f))) (hi : am_ix i n = true) (hq : 2 ≤ q) (hz : f i.toNatClampNeg = some z) (hp : pc + 1 = pc') (k : am_Go y (pc', ls, .ref z :: st, w, k1, k2) Q) : am_Go y (pc, ls, .int i :: .ref q :: st, w, k1, k2) Q := by
  subst hp
  refine am_Go.next hM ?_ k
  rw [am_stp hr]
  show (match w[q]? with | some (.inl (2, n, .inr f)) => _ | _ => none) = _
  rw [hw]
  show (if am_ix i n = true ∧ 2 ≤ q then _ else none) = _
  rw [if_pos ⟨hi, hq⟩]
  show (match f i.toNatClampNeg with | some x => _ | none => none) = _
  rw [hz]
  rfl
theorem ar_iastore {q n : Nat} {f : Nat → Int32} {i x : Int32} (hM : am_P[y]? = some M) (hr : am_row M.1 pc = some (q0, .iastore, len, a, b, v)) (hw : w[q]? = some (.inl (0, n, .inl f))) (hi : am_ix i n = true) (hq : 2 ≤ q) (hp : pc + 1 = pc') (k : am_Go y (pc', ls, st, w.set q (.inl (0, n, .inl (upd f i.toNatClampNeg x))), k1, k2) Q) : am_Go y (pc, ls, .int x :: .int i :: .ref q :: st, w, k1, k2) Q := by
  subst hp
  refine am_Go.next hM ?_ k
  rw [am_stp hr]
  show (match w[q]? with | some (.inl (0, n, .inl f)) => _ | _ => none) = _
  rw [hw]
  show (if am_ix i n = true ∧ 2 ≤ q then _ else none) = _
  rw [if_pos ⟨hi, hq⟩]
  rfl
theorem ar_bastore {q n : Nat} {f : Nat → Int32} {i x : Int32} (hM : am_P[y]? = some M) (hr : am_row M.1 pc = some (q0, .bastore, len, a, b, v)) (hw : w[q]? = some (.inl (1, n, .inl f))) (hi : am_ix i n = true) (hq : 2 ≤ q) (hx : am_fit 1 (.int x) = true) (hp : pc + 1 = pc') (k : am_Go y (pc', ls, st, w.set q (.inl (1, n, .inl (upd f i.toNatClampNeg x))), k1, k2) Q) : am_Go y (pc, ls, .int x :: .int i :: .ref q :: st, w, k1, k2) Q := by
  subst hp
  refine am_Go.next hM ?_ k
  rw [am_stp hr]
  show (match w[q]? with | some (.inl (1, n, .inl f)) => _ | _ => none) = _
  rw [hw]
  show (if am_ix i n = true ∧ 2 ≤ q ∧ am_fit 1 (.int x) = true then _ else none) = _
  rw [if_pos ⟨hi, hq, hx⟩]
  rfl
theorem ar_arraylength {q n : Nat} {f : (Nat → Int32) ⊕ (Nat → Option Nat)} {x : Int32} (hM : am_P[y]? = some M) (hr : am_row M.1 pc = some (q0, .arraylength, len, a, b, v)) (hw : w[q]? = some (.inl (0, n, f))) (hx : Int32.ofNat n = x) (hp : pc + 1 = pc') (k : am_Go y (pc', ls, .int x :: st, w, k1, k2) Q) : am_Go y (pc, ls, .ref q :: st, w, k1, k2) Q := by
  subst hp
  refine am_Go.next hM ?_ k
  rw [am_stp hr]
  subst hx
  show (match w[q]? with | some (.inl (0, n, _)) => _ | _ => none) = _
  rw [hw]
  rfl
theorem ar_arraycopy {c q1 q2 n1 n2 : Nat} {f g : Nat → Int32} {n dp sp : Int32} (hM : am_P[y]? = some M) (hr : am_row M.1 pc = some (q0, .invokestatic c, len, a, b, v)) (ha : a = 1001) (hw1 : w[q1]? = some (.inl (0, n1, .inl f))) (hw2 : w[q2]? = some (.inl (0, n2, .inl g))) (hc : ¬ sp < 0 ∧ ¬ dp < 0 ∧ ¬ n < 0 ∧ sp.toNatClampNeg + n.toNatClampNeg ≤ n1 ∧ dp.toNatClampNeg + n.toNatClampNeg ≤ n2 ∧ 2 ≤ q1 ∧ 2 ≤ q2 ∧ (st.map fun v => v.category).sum ≤ 8) (hp : pc + 3 = pc') (k : am_Go y (pc', ls, st, w.set q2 (.inl (0, n2, .inl (va_cpy f g sp.toNatClampNeg dp.toNatClampNeg n.toNatClampNeg))), k1, k2) Q) : am_Go y (pc, ls, .int n :: .int dp :: .ref q2 :: .int sp :: .ref q1 :: st, w, k1, k2) Q := by
  subst hp
  refine am_Go.next hM ?_ k
  rw [am_stp hr]
  subst ha
  show (match w[q1]?, w[q2]? with | some (.inl (0, n0, .inl f)), some (.inl (0, n1, .inl g)) => _ | _, _ => none) = _
  rw [hw1, hw2]
  show (if _ then _ else none) = _
  rw [if_pos hc]
  rfl
theorem ar_icmp_eq {c : Int} {x z : Int32} (hM : am_P[y]? = some M) (hr : am_row M.1 pc = some (q0, .if_icmp .eq c, len, a, b, v)) (hp : pc + 3 = pc') (kt : x = z → am_Go y (a, ls, st, w, k1, k2) Q) (kf : ¬ x = z → am_Go y (pc', ls, st, w, k1, k2) Q) : am_Go y (pc, ls, .int z :: .int x :: st, w, k1, k2) Q := by
  subst hp
  by_cases h : x = z
  · refine am_Go.next hM ?_ (kt h)
    rw [am_stp hr]
    show (bif am_cmp .eq x z then _ else _) = _
    rw [show am_cmp .eq x z = true by simp [am_cmp, h]]
    rfl
  · refine am_Go.next hM ?_ (kf (by first | exact h | exact Decidable.not_not.mp h))
    rw [am_stp hr]
    show (bif am_cmp .eq x z then _ else _) = _
    rw [show am_cmp .eq x z = false by first | (simp [am_cmp, h]; done) | (have h9 := Decidable.not_not.mp h; simp [am_cmp, h9])]
    rfl
theorem ar_if_eq {c : Int} {x : Int32} (hM : am_P[y]? = some M) (hr : am_row M.1 pc = some (q0, .ifCond .eq c, len, a, b, v)) (hp : pc + 3 = pc') (kt : x = 0 → am_Go y (a, ls, st, w, k1, k2) Q) (kf : ¬ x = 0 → am_Go y (pc', ls, st, w, k1, k2) Q) : am_Go y (pc, ls, .int x :: st, w, k1, k2) Q := by
  subst hp
  by_cases h : x = 0
  · refine am_Go.next hM ?_ (kt h)
    rw [am_stp hr]
    show (bif am_cmp .eq x 0 then _ else _) = _
    rw [show am_cmp .eq x 0 = true by simp [am_cmp, h]]
    rfl
  · refine am_Go.next hM ?_ (kf (by first | exact h | exact Decidable.not_not.mp h))
    rw [am_stp hr]
    show (bif am_cmp .eq x 0 then _ else _) = _
    rw [show am_cmp .eq x 0 = false by first | (simp [am_cmp, h]; done) | (have h9 := Decidable.not_not.mp h; simp [am_cmp, h9])]
    rfl
theorem ar_icmp_ne {c : Int} {x z : Int32} (hM : am_P[y]? = some M) (hr : am_row M.1 pc = some (q0, .if_icmp .ne c, len, a, b, v)) (hp : pc + 3 = pc') (kt : ¬ x = z → am_Go y (a, ls, st, w, k1, k2) Q) (kf : x = z → am_Go y (pc', ls, st, w, k1, k2) Q) : am_Go y (pc, ls, .int z :: .int x :: st, w, k1, k2) Q := by
  subst hp
  by_cases h : ¬ x = z
  · refine am_Go.next hM ?_ (kt h)
    rw [am_stp hr]
    show (bif am_cmp .ne x z then _ else _) = _
    rw [show am_cmp .ne x z = true by simp [am_cmp, h]]
    rfl
  · refine am_Go.next hM ?_ (kf (by first | exact h | exact Decidable.not_not.mp h))
    rw [am_stp hr]
    show (bif am_cmp .ne x z then _ else _) = _
    rw [show am_cmp .ne x z = false by first | (simp [am_cmp, h]; done) | (have h9 := Decidable.not_not.mp h; simp [am_cmp, h9])]
    rfl
theorem ar_if_ne {c : Int} {x : Int32} (hM : am_P[y]? = some M) (hr : am_row M.1 pc = some (q0, .ifCond .ne c, len, a, b, v)) (hp : pc + 3 = pc') (kt : ¬ x = 0 → am_Go y (a, ls, st, w, k1, k2) Q) (kf : x = 0 → am_Go y (pc', ls, st, w, k1, k2) Q) : am_Go y (pc, ls, .int x :: st, w, k1, k2) Q := by
  subst hp
  by_cases h : ¬ x = 0
  · refine am_Go.next hM ?_ (kt h)
    rw [am_stp hr]
    show (bif am_cmp .ne x 0 then _ else _) = _
    rw [show am_cmp .ne x 0 = true by simp [am_cmp, h]]
    rfl
  · refine am_Go.next hM ?_ (kf (by first | exact h | exact Decidable.not_not.mp h))
    rw [am_stp hr]
    show (bif am_cmp .ne x 0 then _ else _) = _
    rw [show am_cmp .ne x 0 = false by first | (simp [am_cmp, h]; done) | (have h9 := Decidable.not_not.mp h; simp [am_cmp, h9])]
    rfl
theorem ar_icmp_lt {c : Int} {x z : Int32} (hM : am_P[y]? = some M) (hr : am_row M.1 pc = some (q0, .if_icmp .lt c, len, a, b, v)) (hp : pc + 3 = pc') (kt : x < z → am_Go y (a, ls, st, w, k1, k2) Q) (kf : ¬ x < z → am_Go y (pc', ls, st, w, k1, k2) Q) : am_Go y (pc, ls, .int z :: .int x :: st, w, k1, k2) Q := by
  subst hp
  by_cases h : x < z
  · refine am_Go.next hM ?_ (kt h)
    rw [am_stp hr]
    show (bif am_cmp .lt x z then _ else _) = _
    rw [show am_cmp .lt x z = true by simp [am_cmp, h]]
    rfl
  · refine am_Go.next hM ?_ (kf (by first | exact h | exact Decidable.not_not.mp h))
    rw [am_stp hr]
    show (bif am_cmp .lt x z then _ else _) = _
    rw [show am_cmp .lt x z = false by first | (simp [am_cmp, h]; done) | (have h9 := Decidable.not_not.mp h; simp [am_cmp, h9])]
    rfl
theorem ar_if_lt {c : Int} {x : Int32} (hM : am_P[y]? = some M) (hr : am_row M.1 pc = some (q0, .ifCond .lt c, len, a, b, v)) (hp : pc + 3 = pc') (kt : x < 0 → am_Go y (a, ls, st, w, k1, k2) Q) (kf : ¬ x < 0 → am_Go y (pc', ls, st, w, k1, k2) Q) : am_Go y (pc, ls, .int x :: st, w, k1, k2) Q := by
  subst hp
  by_cases h : x < 0
  · refine am_Go.next hM ?_ (kt h)
    rw [am_stp hr]
    show (bif am_cmp .lt x 0 then _ else _) = _
    rw [show am_cmp .lt x 0 = true by simp [am_cmp, h]]
    rfl
  · refine am_Go.next hM ?_ (kf (by first | exact h | exact Decidable.not_not.mp h))
    rw [am_stp hr]
    show (bif am_cmp .lt x 0 then _ else _) = _
    rw [show am_cmp .lt x 0 = false by first | (simp [am_cmp, h]; done) | (have h9 := Decidable.not_not.mp h; simp [am_cmp, h9])]
    rfl
theorem ar_icmp_ge {c : Int} {x z : Int32} (hM : am_P[y]? = some M) (hr : am_row M.1 pc = some (q0, .if_icmp .ge c, len, a, b, v)) (hp : pc + 3 = pc') (kt : z ≤ x → am_Go y (a, ls, st, w, k1, k2) Q) (kf : ¬ z ≤ x → am_Go y (pc', ls, st, w, k1, k2) Q) : am_Go y (pc, ls, .int z :: .int x :: st, w, k1, k2) Q := by
  subst hp
  by_cases h : z ≤ x
  · refine am_Go.next hM ?_ (kt h)
    rw [am_stp hr]
    show (bif am_cmp .ge x z then _ else _) = _
    rw [show am_cmp .ge x z = true by simp [am_cmp, h]]
    rfl
  · refine am_Go.next hM ?_ (kf (by first | exact h | exact Decidable.not_not.mp h))
    rw [am_stp hr]
    show (bif am_cmp .ge x z then _ else _) = _
    rw [show am_cmp .ge x z = false by first | (simp [am_cmp, h]; done) | (have h9 := Decidable.not_not.mp h; simp [am_cmp, h9])]
    rfl
theorem ar_if_ge {c : Int} {x : Int32} (hM : am_P[y]? = some M) (hr : am_row M.1 pc = some (q0, .ifCond .ge c, len, a, b, v)) (hp : pc + 3 = pc') (kt : 0 ≤ x → am_Go y (a, ls, st, w, k1, k2) Q) (kf : ¬ 0 ≤ x → am_Go y (pc', ls, st, w, k1, k2) Q) : am_Go y (pc, ls, .int x :: st, w, k1, k2) Q := by
  subst hp
  by_cases h : 0 ≤ x
  · refine am_Go.next hM ?_ (kt h)
    rw [am_stp hr]
    show (bif am_cmp .ge x 0 then _ else _) = _
    rw [show am_cmp .ge x 0 = true by simp [am_cmp, h]]
    rfl
  · refine am_Go.next hM ?_ (kf (by first | exact h | exact Decidable.not_not.mp h))
    rw [am_stp hr]
    show (bif am_cmp .ge x 0 then _ else _) = _
    rw [show am_cmp .ge x 0 = false by first | (simp [am_cmp, h]; done) | (have h9 := Decidable.not_not.mp h; simp [am_cmp, h9])]
    rfl
theorem ar_icmp_gt {c : Int} {x z : Int32} (hM : am_P[y]? = some M) (hr : am_row M.1 pc = some (q0, .if_icmp .gt c, len, a, b, v)) (hp : pc + 3 = pc') (kt : z < x → am_Go y (a, ls, st, w, k1, k2) Q) (kf : ¬ z < x → am_Go y (pc', ls, st, w, k1, k2) Q) : am_Go y (pc, ls, .int z :: .int x :: st, w, k1, k2) Q := by
  subst hp
  by_cases h : z < x
  · refine am_Go.next hM ?_ (kt h)
    rw [am_stp hr]
    show (bif am_cmp .gt x z then _ else _) = _
    rw [show am_cmp .gt x z = true by simp [am_cmp, h]]
    rfl
  · refine am_Go.next hM ?_ (kf (by first | exact h | exact Decidable.not_not.mp h))
    rw [am_stp hr]
    show (bif am_cmp .gt x z then _ else _) = _
    rw [show am_cmp .gt x z = false by first | (simp [am_cmp, h]; done) | (have h9 := Decidable.not_not.mp h; simp [am_cmp, h9])]
    rfl
theorem ar_if_gt {c : Int} {x : Int32} (hM : am_P[y]? = some M) (hr : am_row M.1 pc = some (q0, .ifCond .gt c, len, a, b, v)) (hp : pc + 3 = pc') (kt : 0 < x → am_Go y (a, ls, st, w, k1, k2) Q) (kf : ¬ 0 < x → am_Go y (pc', ls, st, w, k1, k2) Q) : am_Go y (pc, ls, .int x :: st, w, k1, k2) Q := by
  subst hp
  by_cases h : 0 < x
  · refine am_Go.next hM ?_ (kt h)
    rw [am_stp hr]
    show (bif am_cmp .gt x 0 then _ else _) = _
    rw [show am_cmp .gt x 0 = true by simp [am_cmp, h]]
    rfl
  · refine am_Go.next hM ?_ (kf (by first | exact h | exact Decidable.not_not.mp h))
    rw [am_stp hr]
    show (bif am_cmp .gt x 0 then _ else _) = _
    rw [show am_cmp .gt x 0 = false by first | (simp [am_cmp, h]; done) | (have h9 := Decidable.not_not.mp h; simp [am_cmp, h9])]
    rfl
theorem ar_icmp_le {c : Int} {x z : Int32} (hM : am_P[y]? = some M) (hr : am_row M.1 pc = some (q0, .if_icmp .le c, len, a, b, v)) (hp : pc + 3 = pc') (kt : x ≤ z → am_Go y (a, ls, st, w, k1, k2) Q) (kf : ¬ x ≤ z → am_Go y (pc', ls, st, w, k1, k2) Q) : am_Go y (pc, ls, .int z :: .int x :: st, w, k1, k2) Q := by
  subst hp
  by_cases h : x ≤ z
  · refine am_Go.next hM ?_ (kt h)
    rw [am_stp hr]
    show (bif am_cmp .le x z then _ else _) = _
    rw [show am_cmp .le x z = true by simp [am_cmp, h]]
    rfl
  · refine am_Go.next hM ?_ (kf (by first | exact h | exact Decidable.not_not.mp h))
    rw [am_stp hr]
    show (bif am_cmp .le x z then _ else _) = _
    rw [show am_cmp .le x z = false by first | (simp [am_cmp, h]; done) | (have h9 := Decidable.not_not.mp h; simp [am_cmp, h9])]
    rfl
theorem ar_if_le {c : Int} {x : Int32} (hM : am_P[y]? = some M) (hr : am_row M.1 pc = some (q0, .ifCond .le c, len, a, b, v)) (hp : pc + 3 = pc') (kt : x ≤ 0 → am_Go y (a, ls, st, w, k1, k2) Q) (kf : ¬ x ≤ 0 → am_Go y (pc', ls, st, w, k1, k2) Q) : am_Go y (pc, ls, .int x :: st, w, k1, k2) Q := by
  subst hp
  by_cases h : x ≤ 0
  · refine am_Go.next hM ?_ (kt h)
    rw [am_stp hr]
    show (bif am_cmp .le x 0 then _ else _) = _
    rw [show am_cmp .le x 0 = true by simp [am_cmp, h]]
    rfl
  · refine am_Go.next hM ?_ (kf (by first | exact h | exact Decidable.not_not.mp h))
    rw [am_stp hr]
    show (bif am_cmp .le x 0 then _ else _) = _
    rw [show am_cmp .le x 0 = false by first | (simp [am_cmp, h]; done) | (have h9 := Decidable.not_not.mp h; simp [am_cmp, h9])]
    rfl
theorem ar_tableOut {d lo hi : Int} {offs : Array Int} {x : Int32} {t : Nat} (hM : am_P[y]? = some M) (hr : am_row M.1 pc = some (q0, .tableswitch d lo hi offs, len, a, b, v)) (h : x.toInt < lo ∨ hi < x.toInt) (ht : ((pc : Int) + d).toNat = t) (k : am_Go y (t, ls, st, w, k1, k2) Q) : am_Go y (pc, ls, .int x :: st, w, k1, k2) Q := by
  subst ht
  refine am_Go.next hM ?_ k
  rw [am_stp hr]
  show (if x.toInt < lo ∨ hi < x.toInt then _ else _) = _
  rw [if_pos h]
  rfl
theorem ar_tableIn {d lo hi off : Int} {offs : Array Int} {x : Int32} {t : Nat} (hM : am_P[y]? = some M) (hr : am_row M.1 pc = some (q0, .tableswitch d lo hi offs, len, a, b, v)) (h : ¬ (x.toInt < lo ∨ hi < x.toInt)) (ho : offs[(x.toInt - lo).toNat]? = some off) (ht : ((pc : Int) + off).toNat = t) (k : am_Go y (t, ls, st, w, k1, k2) Q) : am_Go y (pc, ls, .int x :: st, w, k1, k2) Q := by
  subst ht
  refine am_Go.next hM ?_ k
  rw [am_stp hr]
  show (if x.toInt < lo ∨ hi < x.toInt then _ else match offs[(x.toInt - lo).toNat]? with | some off => _ | none => none) = _
  rw [if_neg h, ho]
  rfl
theorem ar_lookup {d : Int} {ps : Array (Int × Int)} {x : Int32} {t : Nat} (hM : am_P[y]? = some M) (hr : am_row M.1 pc = some (q0, .lookupswitch d ps, len, a, b, v)) (ht : ((pc : Int) + Op.lookupswitch.offset ps.toList d x.toInt).toNat = t) (k : am_Go y (t, ls, st, w, k1, k2) Q) : am_Go y (pc, ls, .int x :: st, w, k1, k2) Q := by
  subst ht
  refine am_Go.next hM ?_ k
  rw [am_stp hr]
  rfl
theorem ar_static {c : Nat} {N : am_M} {vs rest : List Value} {k3 k4 : Nat} {Q' : Option Value → am_W → Prop} (hM : am_P[y]? = some M) (hr : am_row M.1 pc = some (q0, .invokestatic c, len, a, b, v)) (ha : ¬ a = 1001) (hN : am_P[a]? = some N) (hc : am_call am_P M a b pc ls st w k1 k2 = some (.inr (.inr (a, vs, (pc', ls, rest, w, k3, k4))))) (hg : am_Go a (0, am_ent N.2.1 vs, [], w, 0, 0) Q') (k : ∀ res w', Q' res w' → am_Go y (pc', ls, res.toList ++ rest, w', k3, k4) Q) : am_Go y (pc, ls, st, w, k1, k2) Q := by
  refine am_Go.call hM (s' := (pc', ls, rest, w, k3, k4)) ?_ hN hg k
  rw [am_stp hr]
  show (if a = 1001 then _ else am_call am_P M a b pc ls st w k1 k2) = _
  rw [if_neg ha]
  exact hc
theorem ar_virtual {c q : Nat} {N : am_M} {vs rest : List Value} {ci : Nat} {fs : List Value} {k3 k4 : Nat} {Q' : Option Value → am_W → Prop} (hM : am_P[y]? = some M) (hr : am_row M.1 pc = some (q0, .invokevirtual c, len, a, b, v)) (hv : (st.take b).reverse = .ref q :: vs) (hw : w[q]? = some (.inr (ci, fs))) (hi : (ci : Int) = v ∧ 2 ≤ q) (hN : am_P[a]? = some N) (hc : am_call am_P M a b pc ls st w k1 k2 = some (.inr (.inr (a, .ref q :: vs, (pc', ls, rest, w, k3, k4))))) (hg : am_Go a (0, am_ent N.2.1 (.ref q :: vs), [], w, 0, 0) Q') (k : ∀ res w', Q' res w' → am_Go y (pc', ls, res.toList ++ rest, w', k3, k4) Q) : am_Go y (pc, ls, st, w, k1, k2) Q := by
  refine am_Go.call hM (s' := (pc', ls, rest, w, k3, k4)) ?_ hN hg k
  rw [am_stp hr]
  show (match (st.take b).reverse with | .ref q :: _ => (match w[q]? with | some (.inr (ci, _)) => if (ci : Int) = v ∧ 2 ≤ q then am_call am_P M a b pc ls st w k1 k2 else none | _ => none) | _ => none) = _
  rw [hv]
  show (match w[q]? with | some (.inr (ci, _)) => if (ci : Int) = v ∧ 2 ≤ q then am_call am_P M a b pc ls st w k1 k2 else none | _ => none) = _
  rw [hw]
  show (if (ci : Int) = v ∧ 2 ≤ q then am_call am_P M a b pc ls st w k1 k2 else none) = _
  rw [if_pos hi]
  exact hc
theorem ar_ireturn {x : Int32} (hM : am_P[y]? = some M) (hr : am_row M.1 pc = some (q0, .ireturn, len, a, b, v)) (hx : a = 0 ∨ x = 0 ∨ x = 1) (q : Q (some (.int x)) w) : am_Go y (pc, ls, [.int x], w, k1, k2) Q := by
  refine am_Go.ret hM (res := some (.int x)) (w := w) ?_ q
  rw [am_stp hr]
  show (if a = 0 ∨ x = 0 ∨ x = 1 then _ else none) = _
  rw [if_pos hx]
theorem ar_lreturn {x : Int64} (hM : am_P[y]? = some M) (hr : am_row M.1 pc = some (q0, .lreturn, len, a, b, v)) (q : Q (some (.long x)) w) : am_Go y (pc, ls, [.long x], w, k1, k2) Q := by
  refine am_Go.ret hM (res := some (.long x)) (w := w) ?_ q
  rw [am_stp hr]
  rfl
theorem ar_return (hM : am_P[y]? = some M) (hr : am_row M.1 pc = some (q0, .return_, len, a, b, v)) (q : Q none w) : am_Go y (pc, ls, [], w, k1, k2) Q := by
  refine am_Go.ret hM (res := none) (w := w) ?_ q
  rw [am_stp hr]
  rfl
end AR
end
section
/-! THE REAL MACHINE FOLLOWS THE SMALL ONE, I: how a state of the small machine lies in the real one -/
def am_fac : Nat → Int32 := fun k => match k with
  | 0 => 1
  | 1 => 1
  | 2 => 2
  | 3 => 6
  | 4 => 24
  | 5 => 120
  | _ => 720
/-- addresses (the static row, the script, the first new cell), the row classes, the classes, the script -/
abbrev am_G : Type := (Nat × Nat × Nat) × (ClassId × ClassId × ClassId) × va_G × Nat × (Nat → Int32)
def am_ad (g : am_G) : Nat → Nat
  | 0 => g.1.1
  | 1 => g.1.2.1
  | k + 2 => g.1.2.2 + k
def am_vm (g : am_G) : Value → Value
  | .ref k => .ref (am_ad g k)
  | v => v
def am_kc (g : am_G) (t : Nat) : ClassId := if t = 0 then g.2.1.1 else if t = 1 then g.2.1.2.1 else g.2.1.2.2
def am_em (g : am_G) : am_E → va_E
  | .inl (t, n, .inl f) => .inl (am_kc g t, n, .inl f)
  | .inl (t, n, .inr f) => .inl (am_kc g t, n, .inr (.inr (.inr (.inr (fun j => (f j).map (am_ad g))))))
  | .inr (ci, fs) => .inr (ci, fs.map (am_vm g))
abbrev am_new (g : am_G) : Nat → Prop := fun q => g.1.2.2 ≤ q
def am_H (g : am_G) (w : am_W) (H : Heap) : Prop := 2 ≤ w.length ∧ H.size = g.1.2.2 + (w.length - 2) ∧ w[0]? = some (.inl (0, 7, .inl am_fac)) ∧ w[1]? = some (.inl (0, g.2.2.2.1, .inl g.2.2.2.2)) ∧ ∀ (k : Nat) (e : am_E), w[k + 2]? = some e → va_at g.2.2.1 am_cl (g.1.2.2 + k, am_em g e) H
def am_O (g : am_G) (U : State) (H : Heap) : Prop := va_T .int g.1.1 7 (fun j => .int (am_fac j)) (am_new g) U H ∧ va_T .int g.1.2.1 g.2.2.2.1 (fun j => .int (g.2.2.2.2 j)) (am_new g) U H ∧ va_Z "ThirstRow" "FACTORIALS" "[I" (.ref g.1.1) (am_new g) U H
abbrev am_tys (g : am_G) : List (ClassId × FieldType) := [(g.2.1.1, .int), (g.2.1.2.1, .boolean), (g.2.1.2.2, .object RX6)]
def am_K (g : am_G) (U : State) : Prop := va_K g.2.2.1 am_cl (am_tys g) U ∧ (∀ w ∈ am_nests, va_Nw w U) ∧ va_AO RX6 U
def am_rl (v : Value) : Bool := match v with
  | .float _ => false
  | .double _ => false
  | _ => true
def am_lv (g : am_G) (ls : List Value) : List (Nat × Value) := (List.range ls.length).filterMap (fun i => match ls[i]? with
  | some v => if am_rl v = true then some (i, am_vm g v) else none
  | none => none)
abbrev am_L (g : am_G) (ls : List Value) (rs : Array Slot) : Prop := lv_has rs ls.length (am_lv g ls)
theorem am_lv_mem {g : am_G} {ls : List Value} {i : Nat} {v : Value} : (i, v) ∈ am_lv g ls ↔ ∃ u, ls[i]? = some u ∧ am_rl u = true ∧ v = am_vm g u := by
  unfold am_lv
  rw [List.mem_filterMap]
  constructor
  · rintro ⟨j, hj, h⟩
    split at h
    next u hu =>
      split at h
      next hr => cases h; exact ⟨u, hu, hr, rfl⟩
      next => cases h
    next => cases h
  · rintro ⟨u, hu, hr, rfl⟩
    refine ⟨i, List.mem_range.mpr (List.getElem?_eq_some_iff.mp hu).1, ?_⟩
    simp only [hu]
    rw [if_pos hr]
theorem am_L.at {g : am_G} {ls : List Value} {rs : Array Slot} (h : am_L g ls rs) {i : Nat} {u : Value} (hu : ls[i]? = some u) (hr : am_rl u = true) : rs[i]? = some (.val (am_vm g u)) := h.2.2 (i, am_vm g u) (am_lv_mem.mpr ⟨u, hu, hr, rfl⟩)
theorem am_vm_cat (g : am_G) (v : Value) : (am_vm g v).category = v.category := by cases v <;> rfl
theorem am_free_lt {ls : List Value} {i : Nat} (hf : am_free ls i = true) : i < ls.length := by
  simp only [am_free, Bool.and_eq_true] at hf
  have h := hf.1
  simp only [Nat.blt] at h
  exact Nat.le_of_ble_eq_true h
theorem am_free_prev {ls : List Value} {j : Nat} {u : Value} (hf : am_free ls (j + 1) = true) (hu : ls[j]? = some u) (hr : am_rl u = true) : ¬ u.category = 2 := by
  simp only [am_free, Bool.and_eq_true] at hf
  have h := hf.2
  rw [hu] at h
  cases u <;> simp_all [Value.category, am_rl]
theorem am_L.store1 {g : am_G} {ls : List Value} {rs' : Array Slot} {i : Nat} {v : Value} (hf : am_free ls i = true) (h : lv_has rs' ls.length ((i, am_vm g v) :: (am_lv g ls).filter (fun q => !(q.1 == i) && !(q.1 + 1 == i && q.2.category == 2)))) : am_L g (ls.set i v) rs' := by
  refine ⟨by rw [List.length_set]; exact h.1, h.2.1, fun q hq => ?_⟩
  obtain ⟨j, x⟩ := q
  obtain ⟨u, hu, hr, rfl⟩ := am_lv_mem.mp hq
  have hi := am_free_lt hf
  by_cases hj : i = j
  · subst hj
    rw [List.getElem?_set_self hi] at hu
    cases hu
    exact h.2.2 _ List.mem_cons_self
  · rw [List.getElem?_set_ne hj] at hu
    refine h.2.2 _ (List.mem_cons_of_mem _ (List.mem_filter.mpr ⟨am_lv_mem.mpr ⟨u, hu, hr, rfl⟩, ?_⟩))
    simp only [Bool.and_eq_true, Bool.not_eq_true', beq_eq_false_iff_ne, ne_eq, Bool.and_eq_false_iff]
    refine ⟨fun e => hj e.symm, ?_⟩
    by_cases hz : j + 1 = i
    · subst hz
      exact Or.inr (by rw [am_vm_cat]; exact am_free_prev hf hu hr)
    · exact Or.inl hz
theorem am_L.store2 {g : am_G} {ls : List Value} {rs' : Array Slot} {i : Nat} {v : Value} (hf : am_free ls i = true) (h2 : i + 1 < ls.length) (h : lv_has rs' ls.length ((i, am_vm g v) :: (am_lv g ls).filter (fun q => !(q.1 == i) && (!(q.1 == i + 1) && !(q.1 + 1 == i && q.2.category == 2))))) : am_L g ((ls.set i v).set (i + 1) (.float 0)) rs' := by
  refine ⟨by rw [List.length_set, List.length_set]; exact h.1, h.2.1, fun q hq => ?_⟩
  obtain ⟨j, x⟩ := q
  obtain ⟨u, hu, hr, rfl⟩ := am_lv_mem.mp hq
  have hi := am_free_lt hf
  by_cases hk : i + 1 = j
  · subst hk
    rw [List.getElem?_set_self (by rw [List.length_set]; exact h2)] at hu
    cases hu
    simp [am_rl] at hr
  · rw [List.getElem?_set_ne hk] at hu
    by_cases hj : i = j
    · subst hj
      rw [List.getElem?_set_self hi] at hu
      cases hu
      exact h.2.2 _ List.mem_cons_self
    · rw [List.getElem?_set_ne hj] at hu
      refine h.2.2 _ (List.mem_cons_of_mem _ (List.mem_filter.mpr ⟨am_lv_mem.mpr ⟨u, hu, hr, rfl⟩, ?_⟩))
      simp only [Bool.and_eq_true, Bool.not_eq_true', beq_eq_false_iff_ne, ne_eq, Bool.and_eq_false_iff]
      refine ⟨fun e => hj e.symm, fun e => hk e.symm, ?_⟩
      by_cases hz : j + 1 = i
      · subst hz
        exact Or.inr (by rw [am_vm_cat]; exact am_free_prev hf hu hr)
      · exact Or.inl hz
/-- the locals with which a method begins -/
theorem am_sl_len (g : am_G) (vs : List Value) : (lg_sl (vs.map (am_vm g))).length = (am_sl vs).length := by
  induction vs with
  | nil => rfl
  | cons v vs ih =>
    simp only [List.map_cons, lg_sl, am_sl, List.flatMap_cons, List.length_append] at ih ⊢
    rw [ih, am_vm_cat]
    split <;> rfl
theorem am_sl_at (g : am_G) : ∀ (vs : List Value) (o i : Nat) (u : Value), (am_sl vs)[i]? = some u → am_rl u = true → (o + i, am_vm g u) ∈ lv_args o (vs.map (am_vm g)) := by
  intro vs
  induction vs with
  | nil => intro o i u h; simp [am_sl] at h
  | cons v vs ih =>
    intro o i u h hr
    simp only [am_sl, List.flatMap_cons] at h
    simp only [List.map_cons, lv_args, am_vm_cat]
    by_cases hc : v.category = 2
    · rw [if_pos hc] at h
      rw [if_pos hc]
      match i, h with
      | 0, h => cases h; exact List.mem_cons_self
      | 1, h => cases h; simp [am_rl] at hr
      | k + 2, h =>
        refine List.mem_cons_of_mem _ ?_
        have := ih (o + 2) k u h hr
        rw [show o + (k + 2) = o + 2 + k by omega]
        exact this
    · rw [if_neg hc] at h
      rw [if_neg hc]
      match i, h with
      | 0, h => cases h; exact List.mem_cons_self
      | k + 1, h =>
        refine List.mem_cons_of_mem _ ?_
        have := ih (o + 1) k u h hr
        rw [show o + (k + 1) = o + 1 + k by omega]
        exact this
theorem am_L.entry {g : am_G} {vs : List Value} {n : Nat} (h : (am_sl vs).length ≤ n) : am_L g (am_ent n vs) ((lg_sl (vs.map (am_vm g)) ++ List.replicate (n - (lg_sl (vs.map (am_vm g))).length) Slot.unset).toArray) := by
  have e := lv_entry (vs.map (am_vm g)) (n := n) (by rw [am_sl_len]; exact h)
  have hl : (am_ent n vs).length = n := by unfold am_ent; rw [List.length_append, List.length_replicate]; omega
  refine ⟨by rw [hl]; exact e.1, e.2.1, fun q hq => ?_⟩
  obtain ⟨j, x⟩ := q
  obtain ⟨u, hu, hr, rfl⟩ := am_lv_mem.mp hq
  refine e.2.2 _ ?_
  have hj : j < (am_sl vs).length := by
    rcases Nat.lt_or_ge j (am_sl vs).length with q | q
    · exact q
    · unfold am_ent at hu
      rw [List.getElem?_append_right q] at hu
      have := List.eq_of_mem_replicate (List.mem_of_getElem? hu)
      subst this
      simp [am_rl] at hr
  have := am_sl_at g vs 0 j u (by unfold am_ent at hu; rwa [List.getElem?_append_left hj] at hu) hr
  simpa using this
/-- a cell changes -/
theorem am_H.set {g : am_G} {w : am_W} {H H1 : Heap} {k : Nat} {e0 e : am_E} (h : am_H g w H) (hw : w[k + 2]? = some e0) (he : va_at g.2.2.1 am_cl (g.1.2.2 + k, am_em g e) H1) (z : H1.size = H.size) (oq : ∀ q : Nat, q ≠ g.1.2.2 + k → H1[q]? = H[q]?) : am_H g (w.set (k + 2) e) H1 := by
  obtain ⟨h1, h2, h3, h4, h5⟩ := h
  have hl := (List.getElem?_eq_some_iff.mp hw).1
  refine ⟨by rw [List.length_set]; exact h1, by rw [List.length_set, z]; exact h2, by rw [List.getElem?_set_ne (by omega)]; exact h3, by rw [List.getElem?_set_ne (by omega)]; exact h4, fun j e' hj => ?_⟩
  by_cases hk : k = j
  · subst hk
    rw [List.getElem?_set_self hl] at hj
    cases hj
    exact he
  · rw [List.getElem?_set_ne (by omega)] at hj
    exact (h5 j e' hj).kept (oq _ (show g.1.2.2 + j ≠ g.1.2.2 + k by omega))
/-- a cell comes -/
theorem am_H.app {g : am_G} {w : am_W} {H H1 : Heap} {e : am_E} (h : am_H g w H) (he : va_at g.2.2.1 am_cl (H.size, am_em g e) H1) (z : H1.size = H.size + 1) (oq : ∀ q : Nat, q < H.size → H1[q]? = H[q]?) : am_H g (w ++ [e]) H1 := by
  obtain ⟨h1, h2, h3, h4, h5⟩ := h
  refine ⟨by rw [List.length_append]; omega, by rw [List.length_append, z, h2]; simp only [List.length_cons, List.length_nil]; omega, by rw [List.getElem?_append_left (by omega)]; exact h3, by rw [List.getElem?_append_left (by omega)]; exact h4, fun j e' hj => ?_⟩
  rcases Nat.lt_or_ge (j + 2) w.length with q | q
  · rw [List.getElem?_append_left q] at hj
    exact (h5 j e' hj).kept (oq _ (show g.1.2.2 + j < H.size by omega))
  · rw [List.getElem?_append_right q] at hj
    have hz : j + 2 - w.length < 1 := (List.getElem?_eq_some_iff.mp hj).1
    rw [show j + 2 - w.length = 0 by omega] at hj
    cases hj
    rw [show g.1.2.2 + j = H.size by omega]
    exact he
theorem am_ad_len {g : am_G} {w : am_W} {H : Heap} (h : am_H g w H) : am_ad g w.length = H.size := by
  obtain ⟨h1, h2, -⟩ := h
  obtain ⟨n, hn⟩ : ∃ n, w.length = n + 2 := ⟨w.length - 2, by omega⟩
  rw [hn] at h2 ⊢
  show g.1.2.2 + n = H.size
  omega
theorem am_O.moved {g : am_G} {u U : State} {H : Heap} (hvm : u.vm.Alike U.vm) (h : am_O g u H) : am_O g U H := ⟨va_T.moved hvm h.1, va_T.moved hvm h.2.1, va_Z.moved hvm h.2.2⟩
theorem am_O.kept {g : am_G} {U : State} {H H1 : Heap} (h : am_O g U H) (hq : ∀ a : Nat, a < H.size → ¬ am_new g a → H1[a]? = H[a]?) : am_O g U H1 := ⟨h.1.kept hq, h.2.1.kept hq, h.2.2.kept hq⟩
theorem am_K.warm {g : am_G} {s U : State} (hW : s.WarmedH U.vm) (h : am_K g s) : am_K g U := by
  refine ⟨va_K.moved hW.alike h.1, fun w hw => ?_, va_AO.moved hW.alike h.2.2⟩
  have hz := h.2.1 w hw
  simp only [am_nests, List.mem_cons, List.not_mem_nil, or_false] at hw
  rcases hw with rfl | rfl | rfl | rfl | rfl | rfl | rfl | rfl | rfl | rfl | rfl <;> exact va_Nw.warmM hW hz
theorem am_K.same {g : am_G} {s U : State} (hvm : s.vm = U.vm) (h : am_K g s) : am_K g U := by
  refine ⟨va_K.moved (by rw [hvm]; exact Vm.Alike.refl _) h.1, fun w hw => ?_, va_AO.moved (by rw [hvm]; exact Vm.Alike.refl _) h.2.2⟩
  have hz := h.2.1 w hw
  simp only [am_nests, List.mem_cons, List.not_mem_nil, or_false] at hw
  rcases hw with rfl | rfl | rfl | rfl | rfl | rfl | rfl | rfl | rfl | rfl | rfl <;> exact va_Nw.same rfl hvm hz
def am_good : List Cond := lw_tbl.filter goodWord
theorem am_good_in {w : Cond} (h : w ∈ lw_tbl) (hg : goodWord w = true) : w ∈ am_good := List.mem_filter.mpr ⟨h, hg⟩
theorem am_good_of {ws : List Cond} (ps : List Nat) (h2 : ws = ps.filterMap (fun i => lw_tbl[i]?)) (h3 : ws.all goodWord = true) : ∀ w ∈ ws, w ∈ am_good := by
  intro w hm
  refine am_good_in ?_ (List.all_eq_true.mp h3 w hm)
  rw [h2] at hm
  obtain ⟨i, -, hi⟩ := List.mem_filterMap.mp hm
  exact List.mem_of_getElem? hi
/-- what the tables say of a class -/
def am_clok (a : Nat) (q : vw_C) : Prop := (∀ w ∈ u_ws q.1 q.2.1 q.2.2, w ∈ am_good) ∧ (∀ x, x < q.2.2 → ∀ y, y < q.2.2 → x ≠ y → (q.2.1 x).2.1 ≠ (q.2.1 y).2.1) ∧ ∃ ty : Nat → FieldType, (∀ k, k < q.2.2 → parseFieldDescriptor (q.2.1 k).2.2.1 = some (ty k)) ∧ ∀ fs, am_D[a]? = some fs → fs.length = q.2.2 ∧ ∀ (g : am_G) (j : Nat), j < q.2.2 → defaultValue (ty j) = vp_V (fs.map (am_vm g)) j
set_option maxRecDepth 100000 in
theorem zc_0 : am_clok 0 (RX0, TX0, 3) := ⟨am_good_of [206, 208, 210] (by decide +kernel) (by decide +kernel), nmX0, tyX0, tyX0_ok, fun fs h => by
  cases h
  refine ⟨rfl, fun g j hj => ?_⟩
  have hj : j < 3 := hj
  rcases (show j = 0 ∨ j = 1 ∨ j = 2 by omega) with rfl | rfl | rfl <;> rfl⟩
set_option maxRecDepth 100000 in
theorem zc_1 : am_clok 1 (RX1, TX1, 7) := ⟨am_good_of [336, 338, 340, 342, 344, 346, 348] (by decide +kernel) (by decide +kernel), nmX1, tyX1, tyX1_ok, fun fs h => by
  cases h
  refine ⟨rfl, fun g j hj => ?_⟩
  have hj : j < 7 := hj
  rcases (show j = 0 ∨ j = 1 ∨ j = 2 ∨ j = 3 ∨ j = 4 ∨ j = 5 ∨ j = 6 by omega) with rfl | rfl | rfl | rfl | rfl | rfl | rfl <;> rfl⟩
set_option maxRecDepth 100000 in
theorem zc_2 : am_clok 2 (RX2, TX2, 5) := ⟨am_good_of [305, 307, 309, 311, 313] (by decide +kernel) (by decide +kernel), nmX2, tyX2, tyX2_ok, fun fs h => by
  cases h
  refine ⟨rfl, fun g j hj => ?_⟩
  have hj : j < 5 := hj
  rcases (show j = 0 ∨ j = 1 ∨ j = 2 ∨ j = 3 ∨ j = 4 by omega) with rfl | rfl | rfl | rfl | rfl <;> rfl⟩
set_option maxRecDepth 100000 in
theorem zc_3 : am_clok 3 (RX3, TX3, 1) := ⟨am_good_of [138] (by decide +kernel) (by decide +kernel), nmX3, tyX3, tyX3_ok, fun fs h => by
  cases h
  refine ⟨rfl, fun g j hj => ?_⟩
  have hj : j < 1 := hj
  rcases (show j = 0 by omega) with rfl <;> rfl⟩
set_option maxRecDepth 100000 in
theorem zc_4 : am_clok 4 (RX4, TX4, 4) := ⟨am_good_of [239, 241, 243, 245] (by decide +kernel) (by decide +kernel), nmX4, tyX4, tyX4_ok, fun fs h => by
  cases h
  refine ⟨rfl, fun g j hj => ?_⟩
  have hj : j < 4 := hj
  rcases (show j = 0 ∨ j = 1 ∨ j = 2 ∨ j = 3 by omega) with rfl | rfl | rfl | rfl <;> rfl⟩
set_option maxRecDepth 100000 in
theorem zc_5 : am_clok 5 (RX5, TX5, 2) := ⟨am_good_of [223, 225] (by decide +kernel) (by decide +kernel), nmX5, tyX5, tyX5_ok, fun fs h => by
  cases h
  refine ⟨rfl, fun g j hj => ?_⟩
  have hj : j < 2 := hj
  rcases (show j = 0 ∨ j = 1 by omega) with rfl | rfl <;> rfl⟩
set_option maxRecDepth 100000 in
theorem zc_6 : am_clok 6 (RX6, TX6, 6) := ⟨am_good_of [180, 182, 184, 186, 188, 190] (by decide +kernel) (by decide +kernel), nmX6, tyX6, tyX6_ok, fun fs h => by
  cases h
  refine ⟨rfl, fun g j hj => ?_⟩
  have hj : j < 6 := hj
  rcases (show j = 0 ∨ j = 1 ∨ j = 2 ∨ j = 3 ∨ j = 4 ∨ j = 5 by omega) with rfl | rfl | rfl | rfl | rfl | rfl <;> rfl⟩
set_option maxRecDepth 100000 in
theorem zc_7 : am_clok 7 (RX7, TX7, 2) := ⟨am_good_of [71, 73] (by decide +kernel) (by decide +kernel), nmX7, tyX7, tyX7_ok, fun fs h => by
  cases h
  refine ⟨rfl, fun g j hj => ?_⟩
  have hj : j < 2 := hj
  rcases (show j = 0 ∨ j = 1 by omega) with rfl | rfl <;> rfl⟩
set_option maxRecDepth 100000 in
theorem zc_8 : am_clok 8 (RX8, TX8, 7) := ⟨am_good_of [271, 273, 275, 277, 279, 281, 283] (by decide +kernel) (by decide +kernel), nmX8, tyX8, tyX8_ok, fun fs h => by
  cases h
  refine ⟨rfl, fun g j hj => ?_⟩
  have hj : j < 7 := hj
  rcases (show j = 0 ∨ j = 1 ∨ j = 2 ∨ j = 3 ∨ j = 4 ∨ j = 5 ∨ j = 6 by omega) with rfl | rfl | rfl | rfl | rfl | rfl | rfl <;> rfl⟩
set_option maxRecDepth 100000 in
theorem zc_9 : am_clok 9 (RX9, TX9, 8) := ⟨am_good_of [119, 121, 123, 125, 127, 129, 131, 133] (by decide +kernel) (by decide +kernel), nmX9, tyX9, tyX9_ok, fun fs h => by
  cases h
  refine ⟨rfl, fun g j hj => ?_⟩
  have hj : j < 8 := hj
  rcases (show j = 0 ∨ j = 1 ∨ j = 2 ∨ j = 3 ∨ j = 4 ∨ j = 5 ∨ j = 6 ∨ j = 7 by omega) with rfl | rfl | rfl | rfl | rfl | rfl | rfl | rfl <;> rfl⟩
set_option maxRecDepth 100000 in
theorem zc_10 : am_clok 10 (RX10, TX10, 11) := ⟨am_good_of [362, 364, 366, 368, 370, 372, 374, 376, 378, 380, 382] (by decide +kernel) (by decide +kernel), nmX10, tyX10, tyX10_ok, fun fs h => by
  cases h
  refine ⟨rfl, fun g j hj => ?_⟩
  have hj : j < 11 := hj
  rcases (show j = 0 ∨ j = 1 ∨ j = 2 ∨ j = 3 ∨ j = 4 ∨ j = 5 ∨ j = 6 ∨ j = 7 ∨ j = 8 ∨ j = 9 ∨ j = 10 by omega) with rfl | rfl | rfl | rfl | rfl | rfl | rfl | rfl | rfl | rfl | rfl <;> rfl⟩
set_option maxRecDepth 100000 in
theorem zc_11 : am_clok 11 (RX11, TX11, 30) := ⟨am_good_of [843, 845, 847, 849, 851, 853, 855, 857, 859, 861, 863, 865, 867, 869, 871, 873, 875, 877, 879, 881, 883, 885, 887, 889, 891, 893, 895, 897, 899, 901] (by decide +kernel) (by decide +kernel), nmX11, tyX11, tyX11_ok, fun fs h => by
  cases h
  refine ⟨rfl, fun g j hj => ?_⟩
  have hj : j < 30 := hj
  rcases (show j = 0 ∨ j = 1 ∨ j = 2 ∨ j = 3 ∨ j = 4 ∨ j = 5 ∨ j = 6 ∨ j = 7 ∨ j = 8 ∨ j = 9 ∨ j = 10 ∨ j = 11 ∨ j = 12 ∨ j = 13 ∨ j = 14 ∨ j = 15 ∨ j = 16 ∨ j = 17 ∨ j = 18 ∨ j = 19 ∨ j = 20 ∨ j = 21 ∨ j = 22 ∨ j = 23 ∨ j = 24 ∨ j = 25 ∨ j = 26 ∨ j = 27 ∨ j = 28 ∨ j = 29 by omega) with rfl | rfl | rfl | rfl | rfl | rfl | rfl | rfl | rfl | rfl | rfl | rfl | rfl | rfl | rfl | rfl | rfl | rfl | rfl | rfl | rfl | rfl | rfl | rfl | rfl | rfl | rfl | rfl | rfl | rfl <;> rfl⟩
theorem am_clok_of : ∀ {a : Nat} {q : vw_C}, am_cl[a]? = some q → am_clok a q
  | 0, _, h => by cases h; exact zc_0
  | 1, _, h => by cases h; exact zc_1
  | 2, _, h => by cases h; exact zc_2
  | 3, _, h => by cases h; exact zc_3
  | 4, _, h => by cases h; exact zc_4
  | 5, _, h => by cases h; exact zc_5
  | 6, _, h => by cases h; exact zc_6
  | 7, _, h => by cases h; exact zc_7
  | 8, _, h => by cases h; exact zc_8
  | 9, _, h => by cases h; exact zc_9
  | 10, _, h => by cases h; exact zc_10
  | 11, _, h => by cases h; exact zc_11
  | _ + 12, _, h => by cases h
end
section
/-! THE REAL MACHINE FOLLOWS THE SMALL ONE, II: one instruction -/
section AS
variable {p : Program} {l : Launch} {e : Env} {R : Room} {s : State} {m : MethodId} {args : Array Value} {below : List Frame} {meth : Method} {c : Code} {H : Heap} {locs : List Loc} {cells slots : Nat} {Q : State → Prop} {g : am_G} {inf : am_Inf} {M : am_M}
/-- what stands fast while a method runs -/
def am_Fix (g : am_G) (inf : am_Inf) (p : Program) (R : Room) (s : State) (m : MethodId) (args : Array Value) (meth : Method) (c : Code) : Prop :=
  p.tables.exec = Jvm.exec ∧ c.code = inf.2.1 ∧ c.maxLocals = inf.2.2.1 ∧ s.vm.findClass inf.1.cls = some m.cls ∧ (∀ w ∈ am_good, w.before args s = true) ∧ (inf.1.name = "<init>" → meth.name = "<init>") ∧ R = inf.2.2.2.2 ∧ am_K g s ∧ am_O g s s.heap ∧ g.1.2.2 ≤ s.heap.size
/-- the real machine goes on as it should from this state of the small one -/
def am_at (g : am_G) (p : Program) (l : Launch) (e : Env) (R : Room) (s : State) (m : MethodId) (args : Array Value) (below : List Frame) (meth : Method) (c : Code) (Q : State → Prop) (t : am_S) : Prop :=
  ∀ (H : Heap) (locs : List Loc) (ls : Array Slot), ls.size = c.maxLocals → t.2.2.2.2.1 ≤ R.cells → t.2.2.2.2.2 ≤ R.slots → am_L g t.2.1 ls → am_H g t.2.2.2.1 H → va_S (am_new g) s.heap H locs → W p l e R s m args below meth c H locs t.2.2.2.2.1 t.2.2.2.2.2 Q (F0 m t.1 ls (t.2.2.1.map (am_vm g)))
theorem am_ix_in {i : Int32} {n : Nat} (h : am_ix i n = true) : vp_in i n := (show ¬ (i < 0 ∨ n ≤ i.toNatClampNeg) from of_decide_eq_true h)
/-- a row that was there before -/
theorem am_oldld {cc : ByteArray} {t N pc : Nat} {f : Nat → Int32} {ls : Array Slot} {rest : List Value} (hx : p.tables.exec = Jvm.exec) (hb : c.code = cc) (hT : va_T .int t N (fun j => .int (f j)) (am_new g) s s.heap) (hS : va_S (am_new g) s.heap H locs) {i : Int32} (hi : vp_in i N) (hd : decode cc pc = .ok (.iaload, 1))
    (k : W p l e R s m args below meth c H locs cells slots Q (F0 m (pc + 1) ls (.int (f i.toNatClampNeg) :: rest))) : W p l e R s m args below meth c H locs cells slots Q (F0 m pc ls (.int i :: .ref t :: rest)) := by
  obtain ⟨cell, h1, h2, h3, h4, h5, h6, h7⟩ := hT.kept hS.2.1
  have hlt : i.toNatClampNeg < N := Nat.not_le.mp fun q => hi (Or.inr q)
  exact W.iald (v := .int (f i.toNatClampNeg)) hx hb h1 h2 h3 (fun q => q.elim (fun z => hi (Or.inl z)) (fun z => by omega)) (h6 _ hlt) rfl rfl hd k
theorem am_oldlen {cc : ByteArray} {t N pc : Nat} {f : Nat → Value} {ls : Array Slot} {rest : List Value} (hx : p.tables.exec = Jvm.exec) (hb : c.code = cc) (hT : va_T .int t N f (am_new g) s s.heap) (hS : va_S (am_new g) s.heap H locs) (hd : decode cc pc = .ok (.arraylength, 1))
    (k : W p l e R s m args below meth c H locs cells slots Q (F0 m (pc + 1) ls (.int (Int32.ofNat N) :: rest))) : W p l e R s m args below meth c H locs cells slots Q (F0 m pc ls (.ref t :: rest)) := by
  obtain ⟨cell, h1, h2, h3, h4, h5, h6, h7⟩ := hT.kept hS.2.1
  exact W.alen (n := Int32.ofNat N) hx hb h1 h2 h5 rfl rfl hd k
theorem am_one1 {a : Nat} {E : va_E} {D : va_G} (h : va_at D am_cl (a, E) H) : va_P D am_cl [(a, E)] H := by
  intro k q hk
  match k, hk with
  | 0, hk => cases hk; exact h
theorem am_off {pc : Nat} {d k : Int} : ∀ (ps : List (Int × Int)), 0 ≤ (pc : Int) + d → (∀ o ∈ ps, 0 ≤ (pc : Int) + o.2) → 0 ≤ (pc : Int) + Op.lookupswitch.offset ps d k
  | [], h, _ => by rw [Op.lookupswitch.offset_nil]; exact h
  | (a, o) :: r, h, hp => by
    rw [Op.lookupswitch.offset_cons]
    split
    · exact hp (a, o) List.mem_cons_self
    · exact am_off r h (fun q hq => hp q (List.mem_cons_of_mem _ hq))
/-- a field is written: not final, or final in the class's own constructor -/
theorem am_put {cc : ByteArray} {pc k b idx : Nat} {ls : Array Slot} {rest : List Value} {w : am_W} {a : Nat} {fs : List Value} {x : Value} {q : vw_C} {ty : FieldType} (hx : p.tables.exec = Jvm.exec) (hb : c.code = cc) (hts : ∀ w ∈ am_good, w.before args s = true) (hown : s.vm.findClass inf.1.cls = some m.cls) (hnm : inf.1.name = "<init>" → meth.name = "<init>") (hK : va_K g.2.2.1 am_cl (am_tys g) s) (hH : am_H g w H) (hS : va_S (am_new g) s.heap H locs)
    (hw : w[k + 2]? = some (.inr (a, fs))) (hq : am_cl[a]? = some q) (hbN : b < q.2.2) (hl : b < fs.length) (hsame : (q.2.1 b).1 = q.1) (hlink : (Cond.fieldLink inf.1.cls idx q.1 (q.2.1 b).2.1 (q.2.1 b).2.2.1).before args s = true) (hty : parseFieldDescriptor (q.2.1 b).2.2.1 = some ty) (hn : narrow ty (am_vm g x) = am_vm g x) (hf : fits ty (am_vm g x) = true) (hfin : (q.2.1 b).2.2.2 = true → inf.1.name = "<init>" ∧ q.1 = inf.1.cls)
    (hd : decode cc pc = .ok (.putfield idx, 3)) (kk : ∀ (H1 : Heap) (locs1 : List Loc), am_H g (w.set (k + 2) (.inr (a, fs.set b x))) H1 → va_S (am_new g) s.heap H1 locs1 → W p l e R s m args below meth c H1 locs1 cells slots Q (F0 m (pc + 3) ls rest)) : W p l e R s m args below meth c H locs cells slots Q (F0 m pc ls (am_vm g x :: .ref (g.1.2.2 + k) :: rest)) := by
  obtain ⟨hin, hnm2, ty0, hty0, -⟩ := am_clok_of hq
  have hap := va_apart (own := inf.1.cls) hts hin ty0 hty0 hnm2 hK hq
  obtain ⟨r, h1, cell, q1, q2, q3, q4⟩ := hH.2.2.2.2 k _ hw
  have hr : r = q := Option.some.inj (h1.symm.trans hq)
  subst hr
  obtain ⟨hSl, hfc, kC, hkC, hkind⟩ := hK.1 a _ hq
  obtain ⟨cf, kf, fi, f, hi, hsl⟩ := hSl b hbN
  have hst := (u_facts hfc hkC (u_lays hts hin hbN) hi).1
  have hi2 : s.fieldFound? r.1 (r.2.1 b).2.1 (r.2.1 b).2.2.1 = some (cf, kf, fi, f) := by rw [← hsame]; exact hi
  have fin : ∀ (H' : Heap), H'[g.1.2.2 + k]? = some (cell.setSlot f.slot (am_vm g x)) → H'.size = H.size → (∀ z, z ≠ g.1.2.2 + k → H'[z]? = H[z]?) → ∀ locs1, (∀ z ∈ locs1, am_new g z.base) → W p l e R s m args below meth c H' locs1 cells slots Q (F0 m (pc + 3) ls rest) := by
    intro H' e1 e2 e3 locs1 hlo
    rw [hsl] at e1
    refine kk H' locs1 (hH.set hw ⟨_, hq, t_OB.to (V := updV (vp_V (fs.map (am_vm g))) b (am_vm g x)) ⟨_, e1, q2, q3, t_set q4 hap hbN (am_vm g x)⟩ (fun j _ => ?_)⟩ e2 e3) ⟨by rw [e2]; exact hS.1, fun z h1 h2 => ?_, hlo⟩
    · show _ = vp_V ((fs.set b x).map (am_vm g)) j
      rw [List.map_set]
      exact vp_updV_set (by rw [List.length_map]; exact hl) (am_vm g x) j
    · rw [e3 z (fun e => h2 (by rw [e]; exact Nat.le_add_right _ _))]
      exact hS.2.1 z h1 h2
  have hlo : ∀ z ∈ locs ++ [⟨g.1.2.2 + k, f.slot⟩], am_new g z.base := by
    intro z hz
    rcases List.mem_append.mp hz with h | h
    · exact hS.2.2 z h
    · rw [List.mem_singleton.mp h]; exact Nat.le_add_right _ _
  cases hfl : (r.2.1 b).2.2.2 with
  | false =>
    have hlay := hts _ (hin _ (u_in_lay hbN))
    unfold u_lay at hlay
    rw [if_neg (by rw [hfl]; decide)] at hlay
    have h6 := u_store hfc hkC hkind hlay hi hty hn hf
    exact W.putK hx hb (f := f) ⟨hown, hlink, ⟨_, _, _, hi2⟩, hst⟩ (by rw [q2]; exact h6) q1 q3 (by rw [hsl]; exact k2_hasslot (q4 b hbN)) rfl rfl hd fun H' e1 e2 e3 => fin H' e1 e2 e3 _ hlo
  | true =>
    obtain ⟨f1, f2⟩ := hfin hfl
    have hlay := hts _ (hin _ (u_in_lay hbN))
    unfold u_lay at hlay
    rw [if_pos hfl] at hlay
    have hcf : m.cls = cf := by
      obtain ⟨_, _, c', _, _, _, -, -, hf', -, -, -, hown2, -⟩ := Cond.laysFinal_spec hlay
      have e1 : c' = cf := by have := hi.symm.trans hf'; simp at this; exact this.1.symm
      rw [hsame, f2] at hown2
      rw [← e1]; exact Option.some.inj (hown.symm.trans hown2)
    have h6 := u_fits hfc hkC hkind (Or.inr hlay) hi hty hn hf
    exact W.putFinK hx hb hown hlink hi2 hst hcf (hnm f1) (by rw [q2]; exact h6) q1 q3 (by rw [hsl]; exact k2_hasslot (q4 b hbN)) rfl rfl hd fun H' e1 e2 e3 => fin H' e1 e2 e3 _ hlo
theorem am_Sput {a k : Nat} {H1 : Heap} (hS : va_S (am_new g) s.heap H locs) (z : H1.size = H.size) (oq : ∀ q : Nat, q ≠ g.1.2.2 + a → H1[q]? = H[q]?) : va_S (am_new g) s.heap H1 (locs ++ [⟨g.1.2.2 + a, k⟩]) := hS.put z oq (Nat.le_add_right _ _)
theorem am_Snew {H1 : Heap} (hS : va_S (am_new g) s.heap H locs) (z : H1.size = H.size + 1) (oq : ∀ q : Nat, q < H.size → H1[q]? = H[q]?) : va_S (am_new g) s.heap H1 locs := ⟨by rw [z]; exact Nat.le_succ_of_le hS.1, fun q h1 h2 => (oq q (Nat.lt_of_lt_of_le h1 hS.1)).trans (hS.2.1 q h1 h2), hS.2.2⟩
theorem am_updV (f : Nat → Int32) (k : Nat) (x : Int32) : updV (fun j => Value.int (f j)) k (.int x) = fun j => .int (upd f k x j) := by
  funext q
  by_cases hq : q = k
  · subst hq; simp [updV, upd]
  · simp [updV, upd, hq]
theorem am_fit_ok {v : Int} {x : Value} {ty : FieldType} (hv : am_tyc v ty = true) (h : am_fit v x = true) : narrow ty (am_vm g x) = am_vm g x ∧ fits ty (am_vm g x) = true := by
  cases ty <;> simp only [am_tyc, decide_eq_true_eq, Bool.false_eq_true] at hv <;> subst hv <;> cases x <;> simp [am_fit] at h
  all_goals first
    | exact ⟨rfl, rfl⟩
    | (rcases h with rfl | rfl <;> exact ⟨rfl, rfl⟩)
/-- a stretch of a row copied into another -/
theorem am_copy {cc : ByteArray} {pc j0 j1 n0 n1 : Nat} {ls : Array Slot} {rest : List Value} {w : am_W} {f f2 : Nat → Int32} (hx : p.tables.exec = Jvm.exec) (hb : c.code = cc) (hml : c.maxLocals = ls.size) {own : String} {index : Nat} (hown : s.vm.findClass own = some m.cls) (hlink : (Cond.methodLink own index arraycopyName).before args s = true) (hnat : (Cond.native arraycopyName).before args s = true) (hstat : (Cond.static arraycopyName).before args s = true) (hini : (Cond.initialized "java/lang/System").before args s = true)
    (hK : va_K g.2.2.1 am_cl (am_tys g) s) (hH : am_H g w H) (hS : va_S (am_new g) s.heap H locs) (hw0 : w[j0 + 2]? = some (.inl (0, n0, .inl f))) (hw1 : w[j1 + 2]? = some (.inl (0, n1, .inl f2)))
    {sp dp n : Int32} (h1 : ¬ sp < 0) (h2 : ¬ dp < 0) (h3 : ¬ n < 0) (h4 : sp.toNatClampNeg + n.toNatClampNeg ≤ n0) (h5 : dp.toNatClampNeg + n.toNatClampNeg ≤ n1)
    (hframes : 1 ≤ R.frames) (hlocals : (rest.map fun v => v.category).sum + (nativeFrameWords "java/lang/System" "arraycopy" 5 + 11) ≤ R.locals) (hd : decode cc pc = .ok (.invokestatic index, 3))
    (kk : ∀ (H1 : Heap) (locs1 : List Loc), am_H g (w.set (j1 + 2) (.inl (0, n1, .inl (va_cpy f f2 sp.toNatClampNeg dp.toNatClampNeg n.toNatClampNeg)))) H1 → va_S (am_new g) s.heap H1 locs1 → W p l e R s m args below meth c H1 locs1 cells slots Q (F0 m (pc + 3) ls rest)) : W p l e R s m args below meth c H locs cells slots Q (F0 m pc ls (.int n :: .int dp :: .ref (g.1.2.2 + j1) :: .int sp :: .ref (g.1.2.2 + j0) :: rest)) := by
  have nn : ∀ z : Int32, ¬ z < 0 → z.toInt = (z.toNatClampNeg : Int) := by
    intro z hz
    have hz0 : (0 : Int) ≤ z.toInt := by
      have := Int32.not_lt.mp hz
      simpa using Int32.le_iff_toInt_le.mp this
    show z.toInt = ((z.toInt.toNat : Nat) : Int)
    omega
  intro T hT X
  have hc0 : H[g.1.2.2 + j0]? = some (vp_cell g.2.1.1 (n0, .inl f)) := hH.2.2.2.2 j0 _ hw0
  have hc1 : H[g.1.2.2 + j1]? = some (vp_cell g.2.1.1 (n1, .inl f2)) := hH.2.2.2.2 j1 _ hw1
  obtain ⟨-, k0, hk0, cm0, hkk0⟩ := (hK.2 0 _ rfl).1 n0 (fun j => .int (f j))
  obtain ⟨-, k1, hk1, cm1, hkk1⟩ := (hK.2 0 _ rfl).1 n1 (fun j => .int (f2 j))
  obtain ⟨vm', X', step⟩ := X.arraycopy hx hown hlink hnat hstat hini (src := g.1.2.2 + j0) (dst := g.1.2.2 + j1) (cs := vp_cell g.2.1.1 (n0, .inl f)) (cd := vp_cell g.2.1.1 (n1, .inl f2)) (srcPos := sp) (destPos := dp) (n := n) (by rw [hT]; exact hc0) (by rw [hT]; exact hc1)
    (fun _ h => by cases h) (fun _ h => by cases h) (fun h => by cases h) (fun h => by cases h) hk0 hk1 hkk0 hkk1 (by simp [refKind]) h1 h2 h3
    (by rw [nn sp h1, nn n h3]; show ¬ _ > ((arrV _ n0 (fun j => .int (f j))).slots.size : Int); rw [arrV_size]; omega)
    (by rw [nn dp h2, nn n h3]; show ¬ _ > ((arrV _ n1 (fun j => .int (f2 j))).slots.size : Int); rw [arrV_size]; omega)
    (fun vm₁ _ i hi => by
      have e : (vp_cell g.2.1.1 (n0, .inl f)).slots.getD (sp.toNatClampNeg + i) .null = .int (f (sp.toNatClampNeg + i)) := by
        show (arrV _ n0 (fun j => .int (f j))).slots.getD _ _ = _
        rw [Array.getD_eq_getD_getElem?, arrV_read _ _ (by omega)]
        rfl
      exact ⟨by rw [e]; rfl, by rw [e]; exact trivial⟩)
    (g := F0 m pc ls (.int n :: .int dp :: .ref (g.1.2.2 + j1) :: .int sp :: .ref (g.1.2.2 + j0) :: rest)) rfl (by rw [hml]) (rest := rest) rfl (by rw [hb]; exact hd) hframes (by show 2 * 0 + _ + _ ≤ _; omega)
  have e1 : copied (vp_cell g.2.1.1 (n0, .inl f)) (vp_cell g.2.1.1 (n1, .inl f2)) sp dp n = vp_cell g.2.1.1 (n1, .inl (va_cpy f f2 sp.toNatClampNeg dp.toNatClampNeg n.toNatClampNeg)) := va_copied (fun z => .int z) g.2.1.1 g.2.1.1 f f2 h4
  rw [e1] at X' step
  have hl : g.1.2.2 + j1 < H.size := (Array.getElem?_eq_some_iff.mp hc1).1
  have hheap : ((T.setVm vm').setCell (g.1.2.2 + j1) (vp_cell g.2.1.1 (n1, .inl (va_cpy f f2 sp.toNatClampNeg dp.toNatClampNeg n.toNatClampNeg)))).heap = H.setIfInBounds (g.1.2.2 + j1) (vp_cell g.2.1.1 (n1, .inl (va_cpy f f2 sp.toNatClampNeg dp.toNatClampNeg n.toNatClampNeg))) := by rw [← hT]; rfl
  have oq : ∀ q : Nat, q ≠ g.1.2.2 + j1 → (H.setIfInBounds (g.1.2.2 + j1) (vp_cell g.2.1.1 (n1, .inl (va_cpy f f2 sp.toNatClampNeg dp.toNatClampNeg n.toNatClampNeg))))[q]? = H[q]? := fun q hq => by simp [Array.getElem?_setIfInBounds, Ne.symm hq]
  obtain ⟨t, a1, b1⟩ := kk _ _ (hH.set hw1 (show (H.setIfInBounds (g.1.2.2 + j1) _)[g.1.2.2 + j1]? = some _ by simp [Array.getElem?_setIfInBounds, hl, am_em, am_kc]) (by simp) oq) ⟨by simp; exact hS.1, fun q g1 g2 => by
      rw [oq q (fun e => g2 (by rw [e]; exact Nat.le_add_right _ _))]
      exact hS.2.1 q g1 g2, fun q hq => by
      rcases List.mem_append.mp hq with h | h
      · exact hS.2.2 q h
      · obtain ⟨z, -, hz⟩ := List.mem_map.mp h
        rw [← hz]
        exact Nat.le_add_right _ _⟩ _ hheap X'
  exact ⟨t, step t a1, b1⟩
set_option maxHeartbeats 40000000 in
set_option maxRecDepth 100000 in
theorem am_one (F : am_Fix g inf p R s m args meth c) (hok : am_okm (M, inf)) {r : am_R} {t t' : am_S} (hr : r ∈ M.1) (hpc : r.1 = t.1) (hact : am_act am_D am_P M r t = some (.inr (.inl t'))) (k : am_at g p l e R s m args below meth c Q t') : am_at g p l e R s m args below meth c Q t := by
  obtain ⟨pc0, i, len, a, b, v⟩ := r
  obtain ⟨pc, lsA, st, w, k1, k2⟩ := t
  have hpc : pc0 = pc := hpc
  subst hpc
  have hchk := List.all_eq_true.mp hok.1 _ hr
  have hMc : M.2.2.1 = inf.2.2.2.2.cells := hok.2.2.2.2.1
  have hMs : M.2.2.2 = inf.2.2.2.2.slots := hok.2.2.2.2.2.1
  obtain ⟨hx, hb, hml, hown, hts, hnm, hR, hK, hO, hbase⟩ := F
  have hwd : ∀ w ∈ am_wf inf.1.cls (pc0, i, len, a, b, v), w.before args s = true := fun w h => hts w (am_good_in (hok.2.1 _ hr w h).1 (hok.2.1 _ hr w h).2)
  intro H locs ls hz hk1 hk2 hl hH hS
  cases i with
  | iconst cc =>
    simp only [am_chk, Bool.and_eq_true, decide_eq_true_eq] at hchk
    obtain ⟨⟨hd, hlen⟩, hmore⟩ := hchk
    subst hlen
    simp only [am_act, am_nx] at hact
    cases hact
    exact lv_iconst hx hb hd rfl (k H locs ls hz hk1 hk2 hl hH hS)
  | bipush cc =>
    simp only [am_chk, Bool.and_eq_true, decide_eq_true_eq] at hchk
    obtain ⟨⟨hd, hlen⟩, hmore⟩ := hchk
    subst hlen
    simp only [am_act, am_nx] at hact
    cases hact
    exact lv_bipush hx hb hd rfl (k H locs ls hz hk1 hk2 hl hH hS)
  | sipush cc =>
    simp only [am_chk, Bool.and_eq_true, decide_eq_true_eq] at hchk
    obtain ⟨⟨hd, hlen⟩, hmore⟩ := hchk
    subst hlen
    simp only [am_act, am_nx] at hact
    cases hact
    exact lv_sipush hx hb hd rfl (k H locs ls hz hk1 hk2 hl hH hS)
  | lconst cc =>
    simp only [am_chk, Bool.and_eq_true, decide_eq_true_eq] at hchk
    obtain ⟨⟨hd, hlen⟩, hmore⟩ := hchk
    subst hlen
    simp only [am_act, am_nx] at hact
    cases hact
    exact lv_lconst hx hb hd rfl (k H locs ls hz hk1 hk2 hl hH hS)
  | ldc cc =>
    simp only [am_chk, Bool.and_eq_true, decide_eq_true_eq] at hchk
    obtain ⟨⟨hd, hlen⟩, hmore⟩ := hchk
    subst hlen
    simp only [am_act, am_nx] at hact
    cases hact
    exact lv_ldc hx hb hown (hwd _ List.mem_cons_self) hd (k H locs ls hz hk1 hk2 hl hH hS)
  | ldc_w cc =>
    simp only [am_chk, Bool.and_eq_true, decide_eq_true_eq] at hchk
    obtain ⟨⟨hd, hlen⟩, hmore⟩ := hchk
    subst hlen
    simp only [am_act, am_nx] at hact
    cases hact
    exact lv_ldcw hx hb hown (hwd _ List.mem_cons_self) hd (k H locs ls hz hk1 hk2 hl hH hS)
  | ldc2_w cc =>
    simp only [am_chk, Bool.and_eq_true, decide_eq_true_eq] at hchk
    obtain ⟨⟨hd, hlen⟩, hmore⟩ := hchk
    subst hlen
    simp only [am_act, am_nx] at hact
    cases hact
    exact lv_ldc2 hx hb hown (hwd _ List.mem_cons_self) hd (k H locs ls hz hk1 hk2 hl hH hS)
  | iload n =>
    simp only [am_chk, Bool.and_eq_true, decide_eq_true_eq] at hchk
    obtain ⟨⟨hd, hlen⟩, hmore⟩ := hchk
    subst hlen
    simp only [am_act, am_nx] at hact
    split at hact
    · next x hv =>
      cases hact
      exact lv_iload hx hb hd (hl.at hv rfl) (k H locs ls hz hk1 hk2 hl hH hS)
    · cases hact
  | iload_n n =>
    simp only [am_chk, Bool.and_eq_true, decide_eq_true_eq] at hchk
    obtain ⟨⟨hd, hlen⟩, hmore⟩ := hchk
    subst hlen
    simp only [am_act, am_nx] at hact
    split at hact
    · next x hv =>
      cases hact
      exact lv_iload_n hx hb hd rfl (hl.at hv rfl) (k H locs ls hz hk1 hk2 hl hH hS)
    · cases hact
  | lload n =>
    simp only [am_chk, Bool.and_eq_true, decide_eq_true_eq] at hchk
    obtain ⟨⟨hd, hlen⟩, hmore⟩ := hchk
    subst hlen
    simp only [am_act, am_nx] at hact
    split at hact
    · next x hv =>
      cases hact
      exact lv_lload hx hb hd (hl.at hv rfl) (k H locs ls hz hk1 hk2 hl hH hS)
    · cases hact
  | lload_n n =>
    simp only [am_chk, Bool.and_eq_true, decide_eq_true_eq] at hchk
    obtain ⟨⟨hd, hlen⟩, hmore⟩ := hchk
    subst hlen
    simp only [am_act, am_nx] at hact
    split at hact
    · next x hv =>
      cases hact
      exact lv_lload_n hx hb hd rfl (hl.at hv rfl) (k H locs ls hz hk1 hk2 hl hH hS)
    · cases hact
  | aload n =>
    simp only [am_chk, Bool.and_eq_true, decide_eq_true_eq] at hchk
    obtain ⟨⟨hd, hlen⟩, hmore⟩ := hchk
    subst hlen
    simp only [am_act, am_nx] at hact
    split at hact
    · next x hv =>
      cases hact
      exact lv_aload hx hb hd (hl.at hv rfl) (k H locs ls hz hk1 hk2 hl hH hS)
    · cases hact
  | aload_n n =>
    simp only [am_chk, Bool.and_eq_true, decide_eq_true_eq] at hchk
    obtain ⟨⟨hd, hlen⟩, hmore⟩ := hchk
    subst hlen
    simp only [am_act, am_nx] at hact
    split at hact
    · next x hv =>
      cases hact
      exact lv_aload_n hx hb hd rfl (hl.at hv rfl) (k H locs ls hz hk1 hk2 hl hH hS)
    · cases hact
  | istore n =>
    simp only [am_chk, Bool.and_eq_true, decide_eq_true_eq] at hchk
    obtain ⟨⟨hd, hlen⟩, hmore⟩ := hchk
    subst hlen
    simp only [am_act, am_nx] at hact
    split at hact
    · next x st2 =>
      cases hf : am_free lsA n with
      | false => rw [hf] at hact; cases hact
      | true =>
        rw [hf] at hact
        cases hact
        refine lv_istore (nL := lsA.length) (lv := am_lv g lsA) hx hb hd hl (am_free_lt hf) rfl (fun ls2 hl2 => ?_)
        exact k H locs ls2 (by rw [hl2.1, ← hl.1]; exact hz) hk1 hk2 (am_L.store1 (v := .int x) hf hl2) hH hS
    · cases hact
  | istore_n n =>
    simp only [am_chk, Bool.and_eq_true, decide_eq_true_eq] at hchk
    obtain ⟨⟨hd, hlen⟩, hmore⟩ := hchk
    subst hlen
    simp only [am_act, am_nx] at hact
    split at hact
    · next x st2 =>
      cases hf : am_free lsA n.val with
      | false => rw [hf] at hact; cases hact
      | true =>
        rw [hf] at hact
        cases hact
        refine lv_istore_n (nL := lsA.length) (lv := am_lv g lsA) hx hb hd rfl hl (am_free_lt hf) rfl (fun ls2 hl2 => ?_)
        exact k H locs ls2 (by rw [hl2.1, ← hl.1]; exact hz) hk1 hk2 (am_L.store1 (v := .int x) hf hl2) hH hS
    · cases hact
  | astore n =>
    simp only [am_chk, Bool.and_eq_true, decide_eq_true_eq] at hchk
    obtain ⟨⟨hd, hlen⟩, hmore⟩ := hchk
    subst hlen
    simp only [am_act, am_nx] at hact
    split at hact
    · next x st2 =>
      cases hf : am_free lsA n with
      | false => rw [hf] at hact; cases hact
      | true =>
        rw [hf] at hact
        cases hact
        refine lv_astore (nL := lsA.length) (lv := am_lv g lsA) hx hb hd hl (am_free_lt hf) rfl (fun ls2 hl2 => ?_)
        exact k H locs ls2 (by rw [hl2.1, ← hl.1]; exact hz) hk1 hk2 (am_L.store1 (v := .ref x) hf hl2) hH hS
    · cases hact
  | astore_n n =>
    simp only [am_chk, Bool.and_eq_true, decide_eq_true_eq] at hchk
    obtain ⟨⟨hd, hlen⟩, hmore⟩ := hchk
    subst hlen
    simp only [am_act, am_nx] at hact
    split at hact
    · next x st2 =>
      cases hf : am_free lsA n.val with
      | false => rw [hf] at hact; cases hact
      | true =>
        rw [hf] at hact
        cases hact
        refine lv_astore_n (nL := lsA.length) (lv := am_lv g lsA) hx hb hd rfl hl (am_free_lt hf) rfl (fun ls2 hl2 => ?_)
        exact k H locs ls2 (by rw [hl2.1, ← hl.1]; exact hz) hk1 hk2 (am_L.store1 (v := .ref x) hf hl2) hH hS
    · cases hact
  | lstore n =>
    simp only [am_chk, Bool.and_eq_true, decide_eq_true_eq] at hchk
    obtain ⟨⟨hd, hlen⟩, hmore⟩ := hchk
    subst hlen
    simp only [am_act, am_nx] at hact
    split at hact
    · next x st2 =>
      cases hf : (am_free lsA n && Nat.blt (n + 1) lsA.length) with
      | false => rw [hf] at hact; cases hact
      | true =>
        rw [hf] at hact
        cases hact
        simp only [Bool.and_eq_true] at hf
        have h2 : n + 1 < lsA.length := by
          have h := hf.2
          simp only [Nat.blt] at h
          exact Nat.le_of_ble_eq_true h
        refine lv_lstore (nL := lsA.length) (lv := am_lv g lsA) hx hb hd hl h2 rfl (fun ls2 hl2 => ?_)
        exact k H locs ls2 (by rw [hl2.1, ← hl.1]; exact hz) hk1 hk2 (am_L.store2 (v := .long x) hf.1 h2 hl2) hH hS
    · cases hact
  | lstore_n n =>
    simp only [am_chk, Bool.and_eq_true, decide_eq_true_eq] at hchk
    obtain ⟨⟨hd, hlen⟩, hmore⟩ := hchk
    subst hlen
    simp only [am_act, am_nx] at hact
    split at hact
    · next x st2 =>
      cases hf : (am_free lsA n.val && Nat.blt (n.val + 1) lsA.length) with
      | false => rw [hf] at hact; cases hact
      | true =>
        rw [hf] at hact
        cases hact
        simp only [Bool.and_eq_true] at hf
        have h2 : n.val + 1 < lsA.length := by
          have h := hf.2
          simp only [Nat.blt] at h
          exact Nat.le_of_ble_eq_true h
        refine lv_lstore_n (nL := lsA.length) (lv := am_lv g lsA) hx hb hd rfl hl h2 rfl (fun ls2 hl2 => ?_)
        exact k H locs ls2 (by rw [hl2.1, ← hl.1]; exact hz) hk1 hk2 (am_L.store2 (v := .long x) hf.1 h2 hl2) hH hS
    · cases hact
  | iinc n cc =>
    simp only [am_chk, Bool.and_eq_true, decide_eq_true_eq] at hchk
    obtain ⟨⟨hd, hlen⟩, hmore⟩ := hchk
    subst hlen
    simp only [am_act, am_nx] at hact
    split at hact
    · next x hv =>
      cases hf : am_free lsA n with
      | false => rw [hf] at hact; cases hact
      | true =>
        rw [hf] at hact
        cases hact
        obtain ⟨kk, hkk⟩ := List.getElem?_of_mem (am_lv_mem (g := g).mpr ⟨_, hv, rfl, rfl⟩)
        refine lv_iinc (nL := lsA.length) (lv := am_lv g lsA) (k := kk) hx hb hd hl hkk rfl (am_free_lt hf) rfl (fun ls2 hl2 => ?_)
        exact k H locs ls2 (by rw [hl2.1, ← hl.1]; exact hz) hk1 hk2 (am_L.store1 (v := .int (x + Int32.ofInt cc)) hf hl2) hH hS
    · cases hact
  | dup =>
    simp only [am_chk, Bool.and_eq_true, decide_eq_true_eq] at hchk
    obtain ⟨⟨hd, hlen⟩, hmore⟩ := hchk
    subst hlen
    simp only [am_act, am_nx] at hact
    split at hact
    · next x st2 =>
      split at hact
      · next hc =>
        cases hact
        exact lv_dup hx hb hd (by rw [am_vm_cat]; exact hc) (k H locs ls hz hk1 hk2 hl hH hS)
      · cases hact
    · cases hact
  | pop =>
    simp only [am_chk, Bool.and_eq_true, decide_eq_true_eq] at hchk
    obtain ⟨⟨hd, hlen⟩, hmore⟩ := hchk
    subst hlen
    simp only [am_act, am_nx] at hact
    split at hact
    · next x st2 =>
      split at hact
      · next hc =>
        cases hact
        exact lv_pop hx hb hd (by rw [am_vm_cat]; exact hc) (k H locs ls hz hk1 hk2 hl hH hS)
      · cases hact
    · cases hact
  | dup2 =>
    simp only [am_chk, Bool.and_eq_true, decide_eq_true_eq] at hchk
    obtain ⟨⟨hd, hlen⟩, hmore⟩ := hchk
    subst hlen
    simp only [am_act, am_nx] at hact
    split at hact
    · next x y st2 =>
      split at hact
      · next hc =>
        cases hact
        exact lv_dup2_11 hx hb hd (by rw [am_vm_cat]; exact hc.1) (by rw [am_vm_cat]; exact hc.2) (k H locs ls hz hk1 hk2 hl hH hS)
      · cases hact
    · cases hact
  | iadd =>
    simp only [am_chk, Bool.and_eq_true, decide_eq_true_eq] at hchk
    obtain ⟨⟨hd, hlen⟩, hmore⟩ := hchk
    subst hlen
    simp only [am_act, am_nx] at hact
    split at hact
    · cases hact
      exact lv_iadd hx hb hd (k H locs ls hz hk1 hk2 hl hH hS)
    · cases hact
  | isub =>
    simp only [am_chk, Bool.and_eq_true, decide_eq_true_eq] at hchk
    obtain ⟨⟨hd, hlen⟩, hmore⟩ := hchk
    subst hlen
    simp only [am_act, am_nx] at hact
    split at hact
    · cases hact
      exact lv_isub hx hb hd (k H locs ls hz hk1 hk2 hl hH hS)
    · cases hact
  | imul =>
    simp only [am_chk, Bool.and_eq_true, decide_eq_true_eq] at hchk
    obtain ⟨⟨hd, hlen⟩, hmore⟩ := hchk
    subst hlen
    simp only [am_act, am_nx] at hact
    split at hact
    · cases hact
      exact lv_imul hx hb hd (k H locs ls hz hk1 hk2 hl hH hS)
    · cases hact
  | iand =>
    simp only [am_chk, Bool.and_eq_true, decide_eq_true_eq] at hchk
    obtain ⟨⟨hd, hlen⟩, hmore⟩ := hchk
    subst hlen
    simp only [am_act, am_nx] at hact
    split at hact
    · cases hact
      exact lv_iand hx hb hd (k H locs ls hz hk1 hk2 hl hH hS)
    · cases hact
  | ior =>
    simp only [am_chk, Bool.and_eq_true, decide_eq_true_eq] at hchk
    obtain ⟨⟨hd, hlen⟩, hmore⟩ := hchk
    subst hlen
    simp only [am_act, am_nx] at hact
    split at hact
    · cases hact
      exact lv_ior hx hb hd (k H locs ls hz hk1 hk2 hl hH hS)
    · cases hact
  | ixor =>
    simp only [am_chk, Bool.and_eq_true, decide_eq_true_eq] at hchk
    obtain ⟨⟨hd, hlen⟩, hmore⟩ := hchk
    subst hlen
    simp only [am_act, am_nx] at hact
    split at hact
    · cases hact
      exact lv_ixor hx hb hd (k H locs ls hz hk1 hk2 hl hH hS)
    · cases hact
  | ishl =>
    simp only [am_chk, Bool.and_eq_true, decide_eq_true_eq] at hchk
    obtain ⟨⟨hd, hlen⟩, hmore⟩ := hchk
    subst hlen
    simp only [am_act, am_nx] at hact
    split at hact
    · cases hact
      exact lv_ishl hx hb hd (k H locs ls hz hk1 hk2 hl hH hS)
    · cases hact
  | ishr =>
    simp only [am_chk, Bool.and_eq_true, decide_eq_true_eq] at hchk
    obtain ⟨⟨hd, hlen⟩, hmore⟩ := hchk
    subst hlen
    simp only [am_act, am_nx] at hact
    split at hact
    · cases hact
      exact lv_ishr hx hb hd (k H locs ls hz hk1 hk2 hl hH hS)
    · cases hact
  | ladd =>
    simp only [am_chk, Bool.and_eq_true, decide_eq_true_eq] at hchk
    obtain ⟨⟨hd, hlen⟩, hmore⟩ := hchk
    subst hlen
    simp only [am_act, am_nx] at hact
    split at hact
    · cases hact
      exact lv_ladd hx hb hd (k H locs ls hz hk1 hk2 hl hH hS)
    · cases hact
  | lsub =>
    simp only [am_chk, Bool.and_eq_true, decide_eq_true_eq] at hchk
    obtain ⟨⟨hd, hlen⟩, hmore⟩ := hchk
    subst hlen
    simp only [am_act, am_nx] at hact
    split at hact
    · cases hact
      exact lv_lsub hx hb hd (k H locs ls hz hk1 hk2 hl hH hS)
    · cases hact
  | lmul =>
    simp only [am_chk, Bool.and_eq_true, decide_eq_true_eq] at hchk
    obtain ⟨⟨hd, hlen⟩, hmore⟩ := hchk
    subst hlen
    simp only [am_act, am_nx] at hact
    split at hact
    · cases hact
      exact lv_lmul hx hb hd (k H locs ls hz hk1 hk2 hl hH hS)
    · cases hact
  | land =>
    simp only [am_chk, Bool.and_eq_true, decide_eq_true_eq] at hchk
    obtain ⟨⟨hd, hlen⟩, hmore⟩ := hchk
    subst hlen
    simp only [am_act, am_nx] at hact
    split at hact
    · cases hact
      exact lv_land hx hb hd (k H locs ls hz hk1 hk2 hl hH hS)
    · cases hact
  | lor =>
    simp only [am_chk, Bool.and_eq_true, decide_eq_true_eq] at hchk
    obtain ⟨⟨hd, hlen⟩, hmore⟩ := hchk
    subst hlen
    simp only [am_act, am_nx] at hact
    split at hact
    · cases hact
      exact lv_lor hx hb hd (k H locs ls hz hk1 hk2 hl hH hS)
    · cases hact
  | ineg =>
    simp only [am_chk, Bool.and_eq_true, decide_eq_true_eq] at hchk
    obtain ⟨⟨hd, hlen⟩, hmore⟩ := hchk
    subst hlen
    simp only [am_act, am_nx] at hact
    split at hact
    · cases hact
      exact lv_ineg hx hb hd (k H locs ls hz hk1 hk2 hl hH hS)
    · cases hact
  | iushr =>
    simp only [am_chk, Bool.and_eq_true, decide_eq_true_eq] at hchk
    obtain ⟨⟨hd, hlen⟩, hmore⟩ := hchk
    subst hlen
    simp only [am_act, am_nx] at hact
    split at hact
    · cases hact
      exact lv_iushr hx hb hd rfl (k H locs ls hz hk1 hk2 hl hH hS)
    · cases hact
  | i2l =>
    simp only [am_chk, Bool.and_eq_true, decide_eq_true_eq] at hchk
    obtain ⟨⟨hd, hlen⟩, hmore⟩ := hchk
    subst hlen
    simp only [am_act, am_nx] at hact
    split at hact
    · cases hact
      exact lv_i2l hx hb hd rfl (k H locs ls hz hk1 hk2 hl hH hS)
    · cases hact
  | l2i =>
    simp only [am_chk, Bool.and_eq_true, decide_eq_true_eq] at hchk
    obtain ⟨⟨hd, hlen⟩, hmore⟩ := hchk
    subst hlen
    simp only [am_act, am_nx] at hact
    split at hact
    · cases hact
      exact lv_l2i hx hb hd rfl (k H locs ls hz hk1 hk2 hl hH hS)
    · cases hact
  | lshl =>
    simp only [am_chk, Bool.and_eq_true, decide_eq_true_eq] at hchk
    obtain ⟨⟨hd, hlen⟩, hmore⟩ := hchk
    subst hlen
    simp only [am_act, am_nx] at hact
    split at hact
    · cases hact
      exact lv_lshl hx hb hd rfl (k H locs ls hz hk1 hk2 hl hH hS)
    · cases hact
  | lushr =>
    simp only [am_chk, Bool.and_eq_true, decide_eq_true_eq] at hchk
    obtain ⟨⟨hd, hlen⟩, hmore⟩ := hchk
    subst hlen
    simp only [am_act, am_nx] at hact
    split at hact
    · cases hact
      exact lv_lushr hx hb hd rfl (k H locs ls hz hk1 hk2 hl hH hS)
    · cases hact
  | lcmp =>
    simp only [am_chk, Bool.and_eq_true, decide_eq_true_eq] at hchk
    obtain ⟨⟨hd, hlen⟩, hmore⟩ := hchk
    subst hlen
    simp only [am_act, am_nx] at hact
    split at hact
    · cases hact
      exact W.lcmp hx hb hd (k H locs ls hz hk1 hk2 hl hH hS)
    · cases hact
  | idiv =>
    simp only [am_chk, Bool.and_eq_true, decide_eq_true_eq] at hchk
    obtain ⟨⟨hd, hlen⟩, hmore⟩ := hchk
    subst hlen
    simp only [am_act, am_nx] at hact
    split at hact
    · split at hact
      · cases hact
      · next hc =>
        cases hact
        exact lv_idiv hx hb hd hc (k H locs ls hz hk1 hk2 hl hH hS)
    · cases hact
  | irem =>
    simp only [am_chk, Bool.and_eq_true, decide_eq_true_eq] at hchk
    obtain ⟨⟨hd, hlen⟩, hmore⟩ := hchk
    subst hlen
    simp only [am_act, am_nx] at hact
    split at hact
    · split at hact
      · cases hact
      · next hc =>
        cases hact
        exact lv_irem hx hb hd hc (k H locs ls hz hk1 hk2 hl hH hS)
    · cases hact
  | ldiv =>
    simp only [am_chk, Bool.and_eq_true, decide_eq_true_eq] at hchk
    obtain ⟨⟨hd, hlen⟩, hmore⟩ := hchk
    subst hlen
    simp only [am_act, am_nx] at hact
    split at hact
    · split at hact
      · cases hact
      · next hc =>
        cases hact
        exact lv_ldiv hx hb hd hc (k H locs ls hz hk1 hk2 hl hH hS)
    · cases hact
  | lrem =>
    simp only [am_chk, Bool.and_eq_true, decide_eq_true_eq] at hchk
    obtain ⟨⟨hd, hlen⟩, hmore⟩ := hchk
    subst hlen
    simp only [am_act, am_nx] at hact
    split at hact
    · split at hact
      · cases hact
      · next hc =>
        cases hact
        exact lv_lrem hx hb hd hc (k H locs ls hz hk1 hk2 hl hH hS)
    · cases hact
  | goto off =>
    simp only [am_chk, Bool.and_eq_true, decide_eq_true_eq] at hchk
    obtain ⟨⟨hd, hlen⟩, hmore⟩ := hchk
    subst hlen
    simp only [am_act, am_nx] at hact
    cases hact
    exact lv_goto hx hb hd hmore (k H locs ls hz hk1 hk2 hl hH hS)
  | if_icmp cd off =>
    simp only [am_chk, Bool.and_eq_true, decide_eq_true_eq] at hchk
    obtain ⟨⟨hd, hlen⟩, hmore⟩ := hchk
    subst hlen
    simp only [am_act, am_nx] at hact
    split at hact
    · next y x st2 =>
      cases cd with
      | eq =>
        by_cases h : x = y
        · rw [show am_cmp .eq x y = true by simp [am_cmp, h]] at hact
          cases hact
          exact lv_icmp_eq hx hb hd hmore (fun _ => (k H locs ls hz hk1 hk2 hl hH hS)) (fun q => absurd h q)
        · rw [show am_cmp .eq x y = false by simp only [am_cmp]; simp [h]] at hact
          cases hact
          exact lv_icmp_eq hx hb hd hmore (fun q => absurd q h) (fun _ => (k H locs ls hz hk1 hk2 hl hH hS))
      | ne =>
        by_cases h : x = y
        · rw [show am_cmp .ne x y = false by simp [am_cmp, h]] at hact
          cases hact
          exact lv_icmp_ne hx hb hd hmore (fun q => absurd h q) (fun _ => (k H locs ls hz hk1 hk2 hl hH hS))
        · rw [show am_cmp .ne x y = true by simp only [am_cmp]; simp [h]] at hact
          cases hact
          exact lv_icmp_ne hx hb hd hmore (fun _ => (k H locs ls hz hk1 hk2 hl hH hS)) (fun q => absurd q h)
      | lt =>
        by_cases h : x < y
        · rw [show am_cmp .lt x y = true by simp [am_cmp, h]] at hact
          cases hact
          exact lv_icmp_lt hx hb hd hmore (fun _ => (k H locs ls hz hk1 hk2 hl hH hS)) (fun q => absurd h q)
        · rw [show am_cmp .lt x y = false by simp only [am_cmp]; simp [h]] at hact
          cases hact
          exact lv_icmp_lt hx hb hd hmore (fun q => absurd q h) (fun _ => (k H locs ls hz hk1 hk2 hl hH hS))
      | ge =>
        by_cases h : y ≤ x
        · rw [show am_cmp .ge x y = true by simp [am_cmp, h]] at hact
          cases hact
          exact lv_icmp_ge hx hb hd hmore (fun _ => (k H locs ls hz hk1 hk2 hl hH hS)) (fun q => absurd h q)
        · rw [show am_cmp .ge x y = false by simp only [am_cmp]; simp [h]] at hact
          cases hact
          exact lv_icmp_ge hx hb hd hmore (fun q => absurd q h) (fun _ => (k H locs ls hz hk1 hk2 hl hH hS))
      | gt =>
        by_cases h : y < x
        · rw [show am_cmp .gt x y = true by simp [am_cmp, h]] at hact
          cases hact
          exact lv_icmp_gt hx hb hd hmore (fun _ => (k H locs ls hz hk1 hk2 hl hH hS)) (fun q => absurd h q)
        · rw [show am_cmp .gt x y = false by simp only [am_cmp]; simp [h]] at hact
          cases hact
          exact lv_icmp_gt hx hb hd hmore (fun q => absurd q h) (fun _ => (k H locs ls hz hk1 hk2 hl hH hS))
      | le =>
        by_cases h : x ≤ y
        · rw [show am_cmp .le x y = true by simp [am_cmp, h]] at hact
          cases hact
          exact lv_icmp_le hx hb hd hmore (fun _ => (k H locs ls hz hk1 hk2 hl hH hS)) (fun q => absurd h q)
        · rw [show am_cmp .le x y = false by simp only [am_cmp]; simp [h]] at hact
          cases hact
          exact lv_icmp_le hx hb hd hmore (fun q => absurd q h) (fun _ => (k H locs ls hz hk1 hk2 hl hH hS))
    · cases hact
  | ifCond cd off =>
    simp only [am_chk, Bool.and_eq_true, decide_eq_true_eq] at hchk
    obtain ⟨⟨hd, hlen⟩, hmore⟩ := hchk
    subst hlen
    simp only [am_act, am_nx] at hact
    split at hact
    · next x st2 =>
      cases cd with
      | eq =>
        by_cases h : x = 0
        · rw [show am_cmp .eq x 0 = true by simp [am_cmp, h]] at hact
          cases hact
          exact lv_if_eq hx hb hd hmore (fun _ => (k H locs ls hz hk1 hk2 hl hH hS)) (fun q => absurd h q)
        · rw [show am_cmp .eq x 0 = false by simp only [am_cmp]; simp [h]] at hact
          cases hact
          exact lv_if_eq hx hb hd hmore (fun q => absurd q h) (fun _ => (k H locs ls hz hk1 hk2 hl hH hS))
      | ne =>
        by_cases h : x = 0
        · rw [show am_cmp .ne x 0 = false by simp [am_cmp, h]] at hact
          cases hact
          exact lv_if_ne hx hb hd hmore (fun q => absurd h q) (fun _ => (k H locs ls hz hk1 hk2 hl hH hS))
        · rw [show am_cmp .ne x 0 = true by simp only [am_cmp]; simp [h]] at hact
          cases hact
          exact lv_if_ne hx hb hd hmore (fun _ => (k H locs ls hz hk1 hk2 hl hH hS)) (fun q => absurd q h)
      | lt =>
        by_cases h : x < 0
        · rw [show am_cmp .lt x 0 = true by simp [am_cmp, h]] at hact
          cases hact
          exact lv_if_lt hx hb hd hmore (fun _ => (k H locs ls hz hk1 hk2 hl hH hS)) (fun q => absurd h q)
        · rw [show am_cmp .lt x 0 = false by simp only [am_cmp]; simp [h]] at hact
          cases hact
          exact lv_if_lt hx hb hd hmore (fun q => absurd q h) (fun _ => (k H locs ls hz hk1 hk2 hl hH hS))
      | ge =>
        by_cases h : 0 ≤ x
        · rw [show am_cmp .ge x 0 = true by simp [am_cmp, h]] at hact
          cases hact
          exact lv_if_ge hx hb hd hmore (fun _ => (k H locs ls hz hk1 hk2 hl hH hS)) (fun q => absurd h q)
        · rw [show am_cmp .ge x 0 = false by simp only [am_cmp]; simp [h]] at hact
          cases hact
          exact lv_if_ge hx hb hd hmore (fun q => absurd q h) (fun _ => (k H locs ls hz hk1 hk2 hl hH hS))
      | gt =>
        by_cases h : 0 < x
        · rw [show am_cmp .gt x 0 = true by simp [am_cmp, h]] at hact
          cases hact
          exact lv_if_gt hx hb hd hmore (fun _ => (k H locs ls hz hk1 hk2 hl hH hS)) (fun q => absurd h q)
        · rw [show am_cmp .gt x 0 = false by simp only [am_cmp]; simp [h]] at hact
          cases hact
          exact lv_if_gt hx hb hd hmore (fun q => absurd q h) (fun _ => (k H locs ls hz hk1 hk2 hl hH hS))
      | le =>
        by_cases h : x ≤ 0
        · rw [show am_cmp .le x 0 = true by simp [am_cmp, h]] at hact
          cases hact
          exact lv_if_le hx hb hd hmore (fun _ => (k H locs ls hz hk1 hk2 hl hH hS)) (fun q => absurd h q)
        · rw [show am_cmp .le x 0 = false by simp only [am_cmp]; simp [h]] at hact
          cases hact
          exact lv_if_le hx hb hd hmore (fun q => absurd q h) (fun _ => (k H locs ls hz hk1 hk2 hl hH hS))
    · cases hact
  | tableswitch d lo hi offs =>
    simp only [am_chk, Bool.and_eq_true, decide_eq_true_eq] at hchk
    obtain ⟨⟨hd, hd0, hof⟩, hmore⟩ := hchk
    simp only [am_act, am_nx] at hact
    split at hact
    · next x st2 =>
      split at hact
      · next hc =>
        cases hact
        exact lv_tableOut hx hb hd hc (Int.toNat_of_nonneg hd0).symm (k H locs ls hz hk1 hk2 hl hH hS)
      · next hc =>
        split at hact
        · next off ho =>
          cases hact
          have h0 := of_decide_eq_true (List.all_eq_true.mp hof off (by
            have h := ho
            rw [← Array.getElem?_toList] at h
            exact List.mem_of_getElem? h))
          exact lv_tableIn hx hb hd (fun q => hc (Or.inl q)) (fun q => hc (Or.inr q)) ho (Int.toNat_of_nonneg h0).symm (k H locs ls hz hk1 hk2 hl hH hS)
        · cases hact
    · cases hact
  | lookupswitch d ps =>
    simp only [am_chk, Bool.and_eq_true, decide_eq_true_eq] at hchk
    obtain ⟨⟨hd, ⟨hd0, hof⟩, hps⟩, hmore⟩ := hchk
    simp only [am_act, am_nx] at hact
    split at hact
    · next x st2 =>
      cases hact
      have h0 := am_off (k := x.toInt) ps.toList hd0 (fun o ho => of_decide_eq_true (List.all_eq_true.mp hof o ho))
      exact lv_lookup hx hb hd hps rfl (Int.toNat_of_nonneg h0).symm (k H locs ls hz hk1 hk2 hl hH hS)
    · cases hact
  | getstatic cc =>
    simp only [am_chk, Bool.and_eq_true, decide_eq_true_eq] at hchk
    obtain ⟨⟨hd, hlen⟩, hmore⟩ := hchk
    subst hlen
    simp only [am_act, am_nx] at hact
    cases hact
    exact va_gets hx hb hO.2.2 hS hown (hwd _ List.mem_cons_self) (fun _ h => h) hd (k H locs ls hz hk1 hk2 hl hH hS)
  | getfield idx =>
    simp only [am_act, am_nx] at hact
    split at hact
    · next q st2 =>
      split at hact
      · next ci fs hwq =>
        split at hact
        · next hci =>
          subst hci
          split at hact
          · next x hv =>
            cases hact
            simp only [am_chk, Bool.and_eq_true, decide_eq_true_eq] at hchk
            obtain ⟨⟨hd, hlen⟩, hmore⟩ := hchk
            subst hlen
            cases hq : am_cl[ci]? with
            | none => rw [hq] at hmore; cases hmore
            | some qq =>
              rw [hq] at hmore
              simp only [Bool.and_eq_true, decide_eq_true_eq] at hmore
              have hlink := hwd
              simp only [am_wf, hq] at hlink
              have hlink := hlink _ List.mem_cons_self
              match q, hwq with
              | 0, hwq => rw [hH.2.2.1] at hwq; cases hwq
              | 1, hwq => rw [hH.2.2.2.1] at hwq; cases hwq
              | j + 2, hwq =>
                exact va_get (fs := fs.map (am_vm g)) hx hb hts (am_clok_of hq).1 hown hK.1 (am_one1 (hH.2.2.2.2 j _ hwq)) 0 rfl hq b hmore.1 hlink (fun z hz => by rw [← hmore.2]; exact hz) (v := am_vm g x) (by rw [List.getElem?_map, hv]; rfl) hd (k H locs ls hz hk1 hk2 hl hH hS)
          · cases hact
        · cases hact
      · cases hact
    · cases hact
  | putfield idx =>
    simp only [am_act, am_nx] at hact
    split at hact
    · next x q st2 =>
      split at hact
      · next ci fs hwq =>
        split at hact
        · next hc =>
          obtain ⟨hci, hbl, hfit, hq2⟩ := hc
          subst hci
          cases hact
          simp only [am_chk, Bool.and_eq_true, decide_eq_true_eq] at hchk
          obtain ⟨⟨hd, hlen⟩, hmore⟩ := hchk
          subst hlen
          cases hq : am_cl[ci]? with
          | none => rw [hq] at hmore; cases hmore
          | some qq =>
            rw [hq] at hmore
            simp only [Bool.and_eq_true, decide_eq_true_eq] at hmore
            obtain ⟨⟨⟨m1, m2⟩, m3⟩, m4⟩ := hmore
            have hlink := hwd
            simp only [am_wf, hq] at hlink
            have hlink := hlink _ List.mem_cons_self
            cases hty : parseFieldDescriptor (qq.2.1 b).2.2.1 with
            | none => rw [hty] at m3; cases m3
            | some ty =>
              rw [hty] at m3
              obtain ⟨f1, f2⟩ := am_fit_ok (g := g) m3 hfit
              match q, hq2, hwq with
              | j + 2, _, hwq =>
                refine am_put hx hb hts hown hnm hK.1 hH hS hwq hq m1 hbl m2 hlink hty f1 f2 (fun hf => ?_) hd (fun H1 locs1 h1 h2 => k H1 locs1 ls hz hk1 hk2 hl h1 h2)
                rw [hf] at m4
                simp only [cond_true, Bool.and_eq_true, decide_eq_true_eq] at m4
                exact m4
        · cases hact
      · cases hact
    · cases hact
  | iaload =>
    simp only [am_chk, Bool.and_eq_true, decide_eq_true_eq] at hchk
    obtain ⟨⟨hd, hlen⟩, hmore⟩ := hchk
    subst hlen
    simp only [am_act, am_nx] at hact
    split at hact
    · next i q st2 =>
      split at hact
      · next n f hwq =>
        cases hi : am_ix i n with
        | false => rw [hi] at hact; cases hact
        | true =>
          rw [hi] at hact
          cases hact
          match q, hwq with
          | 0, hwq =>
            rw [hH.2.2.1] at hwq
            cases hwq
            exact am_oldld hx hb hO.1 hS (am_ix_in hi) hd (k H locs ls hz hk1 hk2 hl hH hS)
          | 1, hwq =>
            rw [hH.2.2.2.1] at hwq
            cases hwq
            exact am_oldld hx hb hO.2.1 hS (am_ix_in hi) hd (k H locs ls hz hk1 hk2 hl hH hS)
          | j + 2, hwq => exact va_iald hx hb hK.1 (am_one1 (hH.2.2.2.2 j _ hwq)) 0 0 rfl rfl (am_ix_in hi) hd (k H locs ls hz hk1 hk2 hl hH hS)
      · cases hact
    · cases hact
  | baload =>
    simp only [am_chk, Bool.and_eq_true, decide_eq_true_eq] at hchk
    obtain ⟨⟨hd, hlen⟩, hmore⟩ := hchk
    subst hlen
    simp only [am_act, am_nx] at hact
    split at hact
    · next i q st2 =>
      split at hact
      · next n f hwq =>
        split at hact
        · next hc =>
          cases hact
          match q, hc.2, hwq with
          | j + 2, _, hwq => exact va_zald hx hb hK.1 (am_one1 (hH.2.2.2.2 j _ hwq)) 0 1 rfl rfl (am_ix_in hc.1) hd (k H locs ls hz hk1 hk2 hl hH hS)
        · cases hact
      · cases hact
    · cases hact
  | aaload =>
    simp only [am_chk, Bool.and_eq_true, decide_eq_true_eq] at hchk
    obtain ⟨⟨hd, hlen⟩, hmore⟩ := hchk
    subst hlen
    simp only [am_act, am_nx] at hact
    split at hact
    · next i q st2 =>
      split at hact
      · next n f hwq =>
        split at hact
        · next hc =>
          split at hact
          · next x hf =>
            cases hact
            match q, hc.2, hwq with
            | j + 2, _, hwq =>
              refine va_aldq hx hb hK.1 (am_one1 (hH.2.2.2.2 j _ hwq)) 0 2 rfl rfl (am_ix_in hc.1) hd ?_
              have e9 : va_rf ((f i.toNatClampNeg).map (am_ad g)) = .ref (am_ad g x) := by rw [hf]; rfl
              rw [e9]
              exact (k H locs ls hz hk1 hk2 hl hH hS)
          · cases hact
        · cases hact
      · cases hact
    · cases hact
  | iastore =>
    simp only [am_chk, Bool.and_eq_true, decide_eq_true_eq] at hchk
    obtain ⟨⟨hd, hlen⟩, hmore⟩ := hchk
    subst hlen
    simp only [am_act, am_nx] at hact
    split at hact
    · next x i q st2 =>
      split at hact
      · next n f hwq =>
        split at hact
        · next hc =>
          cases hact
          match q, hc.2, hwq with
          | j + 2, _, hwq =>
            have hin := am_ix_in hc.1
            have hat : H[g.1.2.2 + j]? = some (vp_cell g.2.1.1 (n, .inl f)) := hH.2.2.2.2 j _ hwq
            refine W.iast hx hb hat ((hK.1.2 0 _ rfl).1 n (fun j => .int (f j))) (fun q => by cases q) (by show ¬ (i < 0 ∨ (arrV _ _ _).slots.size ≤ _); rw [arrV_size]; exact hin) rfl rfl hd fun H1 e1 z oq => ?_
            refine k H1 _ ls hz hk1 hk2 hl (hH.set hwq ?_ z oq) (am_Sput hS z oq)
            show H1[g.1.2.2 + j]? = some (vp_cell g.2.1.1 (n, .inl (upd f i.toNatClampNeg x)))
            rw [e1, vp_cell_i, vp_cell_i, arrV_store, am_updV]
        · cases hact
      · cases hact
    · cases hact
  | bastore =>
    simp only [am_chk, Bool.and_eq_true, decide_eq_true_eq] at hchk
    obtain ⟨⟨hd, hlen⟩, hmore⟩ := hchk
    subst hlen
    simp only [am_act, am_nx] at hact
    split at hact
    · next x i q st2 =>
      split at hact
      · next n f hwq =>
        split at hact
        · next hc =>
          obtain ⟨hc1, hc2, hc3⟩ := hc
          cases hact
          match q, hc2, hwq with
          | j + 2, _, hwq =>
            have hin := am_ix_in hc1
            have hat : H[g.1.2.2 + j]? = some (vp_cell g.2.1.2.1 (n, .inl f)) := hH.2.2.2.2 j _ hwq
            have hnar : narrow .boolean (.int x) = .int x := (am_fit_ok (g := g) (v := 1) (ty := .boolean) rfl hc3).1
            refine W.zast hx hb hat ((hK.1.2 1 _ rfl).1 n (fun j => .int (f j))) (fun q => by cases q) (by show ¬ (i < 0 ∨ (arrV _ _ _).slots.size ≤ _); rw [arrV_size]; exact hin) rfl rfl hd fun H1 e1 z oq => ?_
            refine k H1 _ ls hz hk1 hk2 hl (hH.set hwq ?_ z oq) (am_Sput hS z oq)
            show H1[g.1.2.2 + j]? = some (vp_cell g.2.1.2.1 (n, .inl (upd f i.toNatClampNeg x)))
            rw [e1, hnar, vp_cell_i, vp_cell_i, arrV_store, am_updV]
        · cases hact
      · cases hact
    · cases hact
  | aastore =>
    simp only [am_chk, Bool.and_eq_true, decide_eq_true_eq] at hchk
    obtain ⟨⟨hd, hlen⟩, hmore⟩ := hchk
    subst hlen
    simp only [am_act, am_nx] at hact
    split at hact
    · next x i q st2 =>
      split at hact
      · next n f ci fs hwq hwx =>
        split at hact
        · next hc =>
          obtain ⟨hc1, hc2, hc3, hc4⟩ := hc
          subst hc4
          cases hact
          match q, hc2, hwq, x, hc3, hwx with
          | j + 2, _, hwq, jx + 2, _, hwx =>
            have hin := am_ix_in hc1
            have hlt : i.toNatClampNeg < n := Nat.not_le.mp fun q => hin (Or.inr q)
            have h0 : ¬ i < 0 := fun q => hin (Or.inl q)
            have hat : H[g.1.2.2 + j]? = some (vp_cell g.2.1.2.2 (n, .inr (.inr (.inr (.inr (fun j => (f j).map (am_ad g))))))) := hH.2.2.2.2 j _ hwq
            obtain ⟨r', hr', cellV, g1, g2, g3, -⟩ := hH.2.2.2.2 jx _ hwx
            have hcls := (hK.1.1 6 (RX6, TX6, 6) rfl).2
            obtain ⟨kA, comp, y1, y2, y3, -⟩ := (hK.1.2 2 _ rfl).2
            have hcomp : comp = g.2.2.1.1 6 := Option.some.inj (y3.symm.trans hcls.1)
            subst hcomp
            obtain ⟨kC, hkC, -⟩ := hcls.2
            refine W.aast hx hb hat (fun q h => by cases h) (fun h => by cases h) y1 y2 rfl hkC ⟨h0, by show _ < (arrV _ _ _).slots.size; rw [arrV_size]; exact hlt⟩ g1 (fun q h => by rw [g3] at h; cases h) (by rw [g2]; exact hkC) (by rw [g2]; exact va_assign hcls) rfl rfl hd fun H1 e1 z oq => ?_
            refine k H1 _ ls hz hk1 hk2 hl (hH.set hwq ?_ z oq) (am_Sput hS z oq)
            show H1[g.1.2.2 + j]? = some (vp_cell g.2.1.2.2 (n, .inr (.inr (.inr (.inr (fun y => (va_up f i.toNatClampNeg (some (jx + 2)) y).map (am_ad g)))))))
            rw [e1, vp_cell_q, vp_cell_q, arrV_store]
            congr 2
            funext y
            by_cases hy : y = i.toNatClampNeg
            · subst hy
              simp [updV, va_up, va_rf, am_ad]
            · simp [updV, va_up, hy]
        · cases hact
      · cases hact
    · cases hact
  | arraylength =>
    simp only [am_chk, Bool.and_eq_true, decide_eq_true_eq] at hchk
    obtain ⟨⟨hd, hlen⟩, hmore⟩ := hchk
    subst hlen
    simp only [am_act, am_nx] at hact
    split at hact
    · next q st2 =>
      split at hact
      · next n f hwq =>
        cases hact
        match q, hwq with
        | 0, hwq =>
          rw [hH.2.2.1] at hwq
          cases hwq
          exact am_oldlen hx hb hO.1 hS hd (k H locs ls hz hk1 hk2 hl hH hS)
        | 1, hwq =>
          rw [hH.2.2.2.1] at hwq
          cases hwq
          exact am_oldlen hx hb hO.2.1 hS hd (k H locs ls hz hk1 hk2 hl hH hS)
        | j + 2, hwq =>
          have hat := hH.2.2.2.2 j _ hwq
          cases f with
          | inl f => exact va_alen hx hb hK.1 (am_one1 hat) 0 0 rfl rfl rfl hd (k H locs ls hz hk1 hk2 hl hH hS)
          | inr f => exact va_alen hx hb hK.1 (am_one1 hat) 0 0 rfl rfl rfl hd (k H locs ls hz hk1 hk2 hl hH hS)
      · cases hact
    · cases hact
  | newarray ty =>
    simp only [am_chk, Bool.and_eq_true, decide_eq_true_eq] at hchk
    obtain ⟨⟨hd, hlen⟩, hmore⟩ := hchk
    subst hlen
    simp only [am_act, am_nx] at hact
    split at hact
    · next n st2 =>
      cases ty with
      | int =>
        simp only at hact
        split at hact
        · next hc =>
          obtain ⟨c1, c2, c3, c4⟩ := hc
          cases hact
          have hbig : n.toNatClampNeg * componentBytes (newarray.typeOf .int) ≤ 536870912 := Nat.le_trans (Nat.mul_le_mul_right _ c2) (by decide)
          refine va_newaK (atype := .int) hx hb (hwd _ List.mem_cons_self) rfl hd rfl c1 rfl hbig (by rw [hR, ← hMc]; exact c3) (by rw [hR, ← hMs]; exact c4) rfl fun H1 cA e1 z1 o1 hAr hNm => ?_
          have hcA : cA = g.2.1.1 := Option.some.inj (hNm.symm.trans (hK.1.2 0 _ rfl).2)
          subst hcA
          have := k H1 locs ls hz (by rw [hR, ← hMc]; exact c3) (by rw [hR, ← hMs]; exact c4) hl (hH.app (e := .inl (0, n.toNatClampNeg, .inl (fun _ => 0))) e1 z1 o1) (am_Snew hS z1 o1)
          simp only [List.map_cons, am_vm, am_ad_len hH] at this
          exact this
        · cases hact
      | boolean =>
        simp only at hact
        split at hact
        · next hc =>
          obtain ⟨c1, c2, c3, c4⟩ := hc
          cases hact
          have hbig : n.toNatClampNeg * componentBytes (newarray.typeOf .boolean) ≤ 536870912 := Nat.le_trans (Nat.mul_le_mul_right _ c2) (by decide)
          refine va_newaK (atype := .boolean) hx hb (hwd _ List.mem_cons_self) rfl hd rfl c1 rfl hbig (by rw [hR, ← hMc]; exact c3) (by rw [hR, ← hMs]; exact c4) rfl fun H1 cA e1 z1 o1 hAr hNm => ?_
          have hcA : cA = g.2.1.2.1 := Option.some.inj (hNm.symm.trans (hK.1.2 1 _ rfl).2)
          subst hcA
          have := k H1 locs ls hz (by rw [hR, ← hMc]; exact c3) (by rw [hR, ← hMs]; exact c4) hl (hH.app (e := .inl (1, n.toNatClampNeg, .inl (fun _ => 0))) e1 z1 o1) (am_Snew hS z1 o1)
          simp only [List.map_cons, am_vm, am_ad_len hH] at this
          exact this
        · cases hact
      | _ => cases hact
    · cases hact
  | anewarray idx =>
    simp only [am_chk, Bool.and_eq_true, decide_eq_true_eq] at hchk
    obtain ⟨⟨hd, hlen⟩, hmore⟩ := hchk
    subst hlen
    simp only [am_act, am_nx] at hact
    split at hact
    · next n st2 =>
      split at hact
      · next hc =>
        obtain ⟨c1, c2, c3, c4⟩ := hc
        cases hact
        refine W.anew (C := RX6) hx hb hown (hwd _ List.mem_cons_self) (va_AO.use hK.2.2) rfl hd rfl c1 (by omega) (by rw [hR, ← hMc]; exact c3) (by rw [hR, ← hMs]; exact c4) fun cA kA comp h1 h2 h3 h4 => ?_
        obtain ⟨-, -, -, -, -, hNm⟩ := (hK.1.2 2 _ rfl).2
        have hcA : cA = g.2.1.2.2 := Option.some.inj (h1.symm.trans hNm)
        subst hcA
        have z1 : (H.push { cls := g.2.1.2.2, slots := Array.replicate n.toNatClampNeg .null, vm := .none }).size = H.size + 1 := by simp
        have o1 : ∀ q : Nat, q < H.size → (H.push { cls := g.2.1.2.2, slots := Array.replicate n.toNatClampNeg .null, vm := .none })[q]? = H[q]? := fun q hq => by rw [Array.getElem?_push, if_neg (Nat.ne_of_lt hq)]
        have := k _ locs ls hz (by rw [hR, ← hMc]; exact c3) (by rw [hR, ← hMs]; exact c4) hl (hH.app (e := .inl (2, n.toNatClampNeg, .inr (fun _ => none))) (by
          show (H.push _)[H.size]? = some (vp_cell g.2.1.2.2 (n.toNatClampNeg, .inr (.inr (.inr (.inr (fun j => (none : Option Nat).map (am_ad g)))))))
          rw [vp_cell_q, ← arrV_new]
          simp
          exact Or.inr rfl) z1 o1) (am_Snew hS z1 o1)
        simp only [List.map_cons, am_vm, am_ad_len hH] at this
        exact this
      · cases hact
    · cases hact
  | new idx =>
    simp only [am_chk, Bool.and_eq_true, decide_eq_true_eq] at hchk
    obtain ⟨⟨hd, hlen⟩, hmore⟩ := hchk
    subst hlen
    simp only [am_act, am_nx] at hact
    split at hact
    · next fs hfs =>
      split at hact
      · next hc =>
        obtain ⟨c3, c4⟩ := hc
        cases hact
        cases hq : am_cl[a]? with
        | none =>
          exfalso
          have h9 : a < 12 := hmore
          rw [List.getElem?_eq_none_iff] at hq
          simp only [am_cl, List.length_cons, List.length_nil] at hq
          omega
        | some qq =>
          obtain ⟨hin, hnm2, ty0, hty0, hdf⟩ := am_clok_of hq
          obtain ⟨hlenf, hdv⟩ := hdf fs hfs
          have hlink := hwd
          simp only [am_wf, hq] at hlink
          have hKn := hK.1.1 a _ hq
          rw [hlenf] at c4 k
          refine W.newcK hx hb hown (hlink _ List.mem_cons_self) (hlink _ (List.mem_cons_of_mem _ List.mem_cons_self)) (hlink _ (List.mem_cons_of_mem _ (List.mem_cons_of_mem _ List.mem_cons_self))) rfl hd (by rw [hR, ← hMc]; exact c3) (by rw [hR, ← hMs]; exact c4) hKn.2.1 rfl fun H1 kC hkC e1 z1 o1 => ?_
          have := k H1 locs ls hz (by rw [hR, ← hMc]; exact c3) (by rw [hR, ← hMs]; exact c4) hl (hH.app (e := .inr (a, fs)) ⟨_, hq, (u_born ty0 hts hin hKn hkC e1 hty0).to (hdv g)⟩ z1 o1) (am_Snew hS z1 o1)
          simp only [List.map_cons, am_vm, am_ad_len hH] at this
          exact this
      · cases hact
    · cases hact
  | invokespecial idx =>
    simp only [am_chk, Bool.and_eq_true, decide_eq_true_eq] at hchk
    obtain ⟨⟨hd, hlen⟩, hmore⟩ := hchk
    subst hlen
    simp only [am_act, am_nx] at hact
    split at hact
    · next ha =>
      subst ha
      split at hact
      · next q st2 =>
        split at hact
        · next hc =>
          cases hact
          simp only [if_true, Bool.and_eq_true, decide_eq_true_eq] at hmore
          have hlink := hwd
          simp only [am_wf, if_true] at hlink
          refine W.objInit hx hb hown (hlink _ List.mem_cons_self) (hlink _ (List.mem_cons_of_mem _ List.mem_cons_self)) (hlink _ (List.mem_cons_of_mem _ (List.mem_cons_of_mem _ List.mem_cons_self))) rfl hz rfl hd (by rw [hR]; exact hmore.1) ?_ (k H locs ls hz hk1 hk2 hl hH hS)
          have hcat : ((st2.map (am_vm g)).map fun v => v.category).sum ≤ 8 := by
            rw [List.map_map, show ((fun v : Value => v.category) ∘ am_vm g) = fun v => v.category from funext (am_vm_cat g)]
            exact hc
          rw [hR]
          show 2 * 0 + ((st2.map (am_vm g)).map fun v => v.category).sum + 12 ≤ _
          omega
        · cases hact
      · cases hact
    · unfold am_call at hact
      split at hact
      · cases hact
      · split at hact <;> cases hact
  | invokestatic idx =>
    simp only [am_chk, Bool.and_eq_true, decide_eq_true_eq] at hchk
    obtain ⟨⟨hd, hlen⟩, hmore⟩ := hchk
    subst hlen
    simp only [am_act, am_nx] at hact
    split at hact
    · next ha =>
      subst ha
      split at hact
      · next n dp q1 sp q0 st2 =>
        split at hact
        · next n0 f n1 f2 hw0 hw1 =>
          split at hact
          · next hc =>
            obtain ⟨c1, c2, c3, c4, c5, c6, c7, c8⟩ := hc
            cases hact
            simp only [if_true, Bool.and_eq_true, decide_eq_true_eq] at hmore
            have hlink := hwd
            simp only [am_wf, if_true] at hlink
            match q0, c6, hw0, q1, c7, hw1 with
            | j0 + 2, _, hw0, j1 + 2, _, hw1 =>
              have hcat : ((st2.map (am_vm g)).map fun v => v.category).sum ≤ 8 := by
                rw [List.map_map, show ((fun v : Value => v.category) ∘ am_vm g) = fun v => v.category from funext (am_vm_cat g)]
                exact c8
              refine am_copy hx hb (by rw [hz]) hown (hlink _ List.mem_cons_self) (hlink _ (List.mem_cons_of_mem _ List.mem_cons_self)) (hlink _ (List.mem_cons_of_mem _ (List.mem_cons_of_mem _ List.mem_cons_self))) (hlink _ (List.mem_cons_of_mem _ (List.mem_cons_of_mem _ (List.mem_cons_of_mem _ List.mem_cons_self)))) hK.1 hH hS hw0 hw1 c1 c2 c3 c4 c5 (by rw [hR]; exact hmore.1) (by rw [hR]; show _ + (7 + 11) ≤ _; omega) hd (fun H1 locs1 h1 h2 => k H1 locs1 ls hz hk1 hk2 hl h1 h2)
          · cases hact
        · cases hact
      · cases hact
    · unfold am_call at hact
      split at hact
      · cases hact
      · split at hact <;> cases hact
  | invokevirtual idx =>
    simp only [am_act, am_nx] at hact
    split at hact
    · split at hact
      · split at hact
        · unfold am_call at hact
          split at hact
          · cases hact
          · split at hact <;> cases hact
        · cases hact
      · cases hact
    · cases hact
  | ireturn =>
    simp only [am_act] at hact
    split at hact
    · split at hact <;> cases hact
    · cases hact
  | lreturn =>
    simp only [am_act] at hact
    split at hact <;> cases hact
  | return_ =>
    simp only [am_act] at hact
    split at hact <;> cases hact
  | _ => simp [am_act] at hact
end AS
end
section
/-! THE REAL MACHINE FOLLOWS THE SMALL ONE, III: ends, calls, and any number of steps -/
def am_ws (inf : am_Inf) : List Cond := Cond.code inf.1 inf.2.1 inf.2.2.1 inf.2.2.2.1 :: am_good
def am_Pc (g : am_G) (vs : List Value) (w : am_W) : Array Value → State → Prop := va_Pc (vs.map (am_vm g)) (fun U => am_H g w U.heap ∧ am_K g U ∧ am_O g U U.heap)
def am_Qc (g : am_G) (res : Option Value) (w' : am_W) : Array Value → State → Outcome → State → Prop := fun _ st o t => o = .returned (res.map (am_vm g)) ∧ am_H g w' t.heap ∧ va_F (am_new g) st t
theorem am_blind (g : am_G) (vs : List Value) (w : am_W) : FrameBlind (am_Pc g vs w) := fun a U f mk q => ⟨q.1, q.2.1, am_K.same (s := U) (U := U.calling f mk a) rfl q.2.2.1, am_O.moved (u := U) (U := U.calling f mk a) (Vm.Alike.refl U.vm) q.2.2.2⟩
theorem am_good_good {w : Cond} (h : w ∈ am_good) : (w.onTables && w.keeps) = true ∨ ∃ ty, w = .arrayClass ty := good_of_word (List.mem_filter.mp h).2
theorem am_ofW {l : Launch} {y : MethodName} {ws ws' : List Cond} {rm : Room} {Pc : Array Value → State → Prop} {Qc : Array Value → State → Outcome → State → Prop} {mc ms : Nat} {free : Addr → Prop} {cc : ByteArray} {maxL : Nat} {ret : Option FieldType}
    (hy : plainFor y = true) (hw : ws = Cond.code y cc maxL ret :: ws')
    (body : ∀ p e s m args below meth c s₁, BodyLoose p l y (headSpec ws rm) cc maxL ret e s m args below meth c s₁ → c.maxLocals = maxL → Pc args s →
      W p l e (headSpec ws rm).room s m args below meth c s.heap [] 0 0 (MQ below Qc args s mc ms free) (entryFrame m args maxL)) : Met l y ws rm Pc Qc mc ms free := by
  refine MetFree.of_bodySF (code := cc) (maxLocals := maxL) (ret := ret) hy ?_ ?_
  · intro args s m h hn
    obtain ⟨meth, c, h1, h2, h3, h4, h5, h6, -, -⟩ := Cond.code_spec hn (atoms_spec (ws := ws) h _ (by rw [hw]; exact List.mem_cons_self))
    exact ⟨meth, c, h1, h2, h3, h4, h5, h6⟩
  · intro p e s m args below meth c s₁ B hml hP _
    have hh0 : s₁.heap = s.heap := by rw [B.state]; rfl
    obtain ⟨t, a1, o, b1, b2, b3⟩ := body p e s m args below meth c s₁ B hml hP s₁ hh0 (Stand.of_body B)
    exact ⟨t, o, a1, b1, b2, ⟨b3.1, b3.2⟩⟩
section AC
variable {p : Program} {l : Launch} {e : Env} {R : Room} {s : State} {m : MethodId} {args : Array Value} {below : List Frame} {meth : Method} {c : Code} {H : Heap} {locs : List Loc} {cells slots : Nat} {Q : State → Prop} {g : am_G} {inf inf' : am_Inf} {M N : am_M}
theorem am_after {mc ms pc : Nat} {res : Option Value} {w' : am_W} {rest st0 : List Value} {a : Array Value} {ls : Array Slot} (hr : va_Run p l e R s m args below meth c H locs cells slots mc ms (F0 m pc ls st0) rest (am_Qc g res w' a) (am_new g)) (hS : va_S (am_new g) s.heap H locs)
    (kk : ∀ (H1 : Heap) (locs1 : List Loc), am_H g w' H1 → va_S (am_new g) s.heap H1 locs1 → W p l e R s m args below meth c H1 locs1 (cells + mc) (slots + ms) Q (F0 m (pc + 3) ls ((res.map (am_vm g)).toList ++ rest))) : W p l e R s m args below meth c H locs cells slots Q (F0 m pc ls st0) := by
  intro T hT X
  obtain ⟨v, st₀, t, T', L, h0, X', hL, e1, e2, ⟨hv, hH1, hz, hk⟩, st⟩ := hr T hT X
  cases hv
  rw [h0] at hz hk
  obtain ⟨t2, a1, b1⟩ := kk T'.heap (locs ++ L) (by rw [e1]; exact hH1)
    ⟨Nat.le_trans hS.1 (by rw [e1]; exact hz), fun q h1 h2 => by rw [e1, hk q (Nat.lt_of_lt_of_le h1 hS.1) h2]; exact hS.2.1 q h1 h2, fun q hq => by
      rcases List.mem_append.mp hq with h | h
      · exact hS.2.2 q h
      · exact hL q h⟩ T' rfl X'
  exact ⟨t2, st t2 a1, b1⟩
theorem am_cats {st : List Value} (h : (st.map fun v => v.category).sum ≤ 8) : ((st.map (am_vm g)).map fun v => v.category).sum ≤ 8 := by
  rw [List.map_map, show ((fun v : Value => v.category) ∘ am_vm g) = fun v => v.category from funext (am_vm_cat g)]
  exact h
theorem am_goodIn (hc : Cond.code inf'.1 inf'.2.1 inf'.2.2.1 inf'.2.2.2.1 ∈ am_good) : GoodIn am_good (am_ws inf') := by
  intro w hw
  rcases List.mem_cons.mp hw with rfl | hw
  · exact ⟨hc, am_good_good hc⟩
  · exact ⟨hw, am_good_good hw⟩
theorem am_pre {vs : List Value} {w : am_W} (hK : am_K g s) (hO : am_O g s s.heap) (hH : am_H g w H) (hS : va_S (am_new g) s.heap H locs) : ∀ U : State, U.heap = H → s.WarmedH U.vm → am_Pc g vs w (vs.map (am_vm g)).toArray U := fun U hU hW => ⟨rfl, by rw [hU]; exact hH, am_K.warm hW hK, by rw [hU]; exact am_O.moved hW.alike (hO.kept hS.2.1)⟩
theorem am_split {st : List Value} (b : Nat) : st.map (am_vm g) = (((st.take b).reverse).map (am_vm g)).reverse ++ (st.drop b).map (am_vm g) := by
  rw [← List.map_reverse, List.reverse_reverse, ← List.map_append, List.take_append_drop]
set_option maxHeartbeats 4000000 in
set_option maxRecDepth 100000 in
/-- a call -/
theorem am_docall (F : am_Fix g inf p R s m args meth c) (hok : am_okm (M, inf)) {r : am_R} {t s' : am_S} {y' : Nat} {vs : List Value} {res : Option Value} {w' : am_W} (hr : r ∈ M.1) (hpc : r.1 = t.1) (hact : am_act am_D am_P M r t = some (.inr (.inr (y', vs, s')))) (hN : am_P[y']? = some N) (hI : am_I[y']? = some inf') (hhd : inf'.1.name = "<init>" → ∃ q vs', vs = .ref q :: vs')
    (hM : Met l inf'.1 (am_ws inf') inf'.2.2.2.2 (am_Pc g vs s'.2.2.2.1) (am_Qc g res w') inf'.2.2.2.2.cells inf'.2.2.2.2.slots (am_new g)) (k : am_at g p l e R s m args below meth c Q (s'.1, s'.2.1, res.toList ++ s'.2.2.1, w', s'.2.2.2.2)) : am_at g p l e R s m args below meth c Q t := by
  obtain ⟨pc0, i, len, a, b, v⟩ := r
  obtain ⟨pc, lsA, st, w, k1, k2⟩ := t
  have hpc : pc0 = pc := hpc
  subst hpc
  have hchk := List.all_eq_true.mp hok.1 _ hr
  have hMc : M.2.2.1 = inf.2.2.2.2.cells := hok.2.2.2.2.1
  have hMs : M.2.2.2 = inf.2.2.2.2.slots := hok.2.2.2.2.2.1
  obtain ⟨hx, hb, hml, hown, hts, hnm, hR, hK, hO, hbase⟩ := F
  have hwg : ∀ w ∈ am_wf inf.1.cls (pc0, i, len, a, b, v), w ∈ am_good := fun w h => am_good_in (hok.2.1 _ hr w h).1 (hok.2.1 _ hr w h).2
  have hnst := hok.2.2.1 _ hr
  intro H locs ls hz hk1 hk2 hl hH hS
  have ends : ∀ (mc ms : Nat) (H1 : Heap) (locs1 : List Loc), N.2.2.1 = mc → N.2.2.2 = ms → k1 + N.2.2.1 ≤ M.2.2.1 → k2 + N.2.2.2 ≤ M.2.2.2 → s' = (pc0 + 3, lsA, st.drop b, w, k1 + N.2.2.1, k2 + N.2.2.2) → am_H g w' H1 → va_S (am_new g) s.heap H1 locs1 → W p l e R s m args below meth c H1 locs1 (k1 + mc) (k2 + ms) Q (F0 m (pc0 + 3) ls ((res.map (am_vm g)).toList ++ (st.drop b).map (am_vm g))) := by
    intro mc ms H1 locs1 e1 e2 e3 e4 e5 h1 h2
    subst e1; subst e2; subst e5
    have h := k H1 locs1 ls hz (by rw [hR, ← hMc]; exact e3) (by rw [hR, ← hMs]; exact e4) hl h1 h2
    have e9 : (res.toList ++ st.drop b).map (am_vm g) = (res.map (am_vm g)).toList ++ (st.drop b).map (am_vm g) := by
      rw [List.map_append]
      cases res <;> rfl
    simp only [e9] at h
    exact h
  have inv : am_call am_P M a b pc0 lsA st w k1 k2 = some (.inr (.inr (y', vs, s'))) → y' = a ∧ vs = (st.take b).reverse ∧ s' = (pc0 + 3, lsA, st.drop b, w, k1 + N.2.2.1, k2 + N.2.2.2) ∧ b ≤ st.length ∧ ((st.drop b).map fun v => v.category).sum ≤ 8 ∧ k1 + N.2.2.1 ≤ M.2.2.1 ∧ k2 + N.2.2.2 ≤ M.2.2.2 := by
    intro h
    unfold am_call at h
    split at h
    · cases h
    · next N' hN' =>
      split at h
      · next hc =>
        cases h
        rw [hN'] at hN
        cases hN
        exact ⟨rfl, rfl, rfl, hc.1, hc.2.1, hc.2.2.1, hc.2.2.2.1⟩
      · cases h
  cases i with
  | invokestatic idx =>
    simp only [am_chk, Bool.and_eq_true, decide_eq_true_eq] at hchk
    obtain ⟨⟨hd, hlen⟩, hmore⟩ := hchk
    subst hlen
    simp only [am_act, am_nx] at hact
    split at hact
    · split at hact
      · split at hact
        · split at hact <;> cases hact
        · cases hact
      · cases hact
    · next ha =>
      obtain ⟨rfl, rfl, hs', hbl, hcat, hc1, hc2⟩ := inv hact
      rw [if_neg ha, hI, hN] at hmore
      simp only [Bool.and_eq_true, decide_eq_true_eq, am_cal, Bool.or_eq_true] at hmore
      obtain ⟨⟨⟨⟨⟨⟨⟨⟨m1, m2⟩, m3⟩, m4⟩, m5⟩, m6⟩, m7⟩, m8⟩, m9⟩ := hmore
      have hlen : (((st.take b).reverse).map (am_vm g)).length = b := by rw [List.length_map, List.length_reverse, List.length_take]; omega
      have hf : k1 + inf'.2.2.2.2.cells ≤ R.cells ∧ k2 + inf'.2.2.2.2.slots ≤ R.slots := ⟨by rw [m3, hR, ← hMc]; exact hc1, by rw [m4, hR, ← hMs]; exact hc2⟩
      have hw2 : s'.2.2.2.1 = w := by rw [hs']
      rw [hw2] at hM
      rcases m9 with m9 | m9
      · subst m9
        have hg2 := hwg
        simp only [am_wf, if_neg ha, hI] at hg2
        rw [if_neg (by decide)] at hg2
        have q1 := hg2 _ List.mem_cons_self
        have q2 := hg2 _ (List.mem_cons_of_mem _ List.mem_cons_self)
        have q3 := hg2 _ (List.mem_cons_of_mem _ (List.mem_cons_of_mem _ List.mem_cons_self))
        have q4 := hg2 _ (List.mem_cons_of_mem _ (List.mem_cons_of_mem _ (List.mem_cons_of_mem _ List.mem_cons_self)))
        refine am_after (va_runS (Ts := am_good) (own := inf.1.cls) (index := idx) (As := ((st.take b).reverse).map (am_vm g)) (rest := (st.drop b).map (am_vm g)) ⟨hx, hb, rfl, hown, hts⟩ hM ⟨callB_of (Ts := am_good) (bytes := inf'.2.1) (maxL := inf'.2.2.1) (ret := inf'.2.2.2.1) b hts (am_goodIn q4) rfl rfl rfl (hts _ q3) (hts _ q1) ⟨m6, m7, m8⟩ ⟨by rw [hR]; exact m1, by rw [hR]; exact m2⟩, hts _ q2⟩ ⟨am_blind g _ _, am_pre hK hO hH hS⟩ rfl hlen hz (am_split b) (lv_room (am_cats hcat)) hd hf) hS (fun H1 locs1 h1 h2 => ends _ _ H1 locs1 m3.symm m4.symm hc1 hc2 hs' h1 h2)
      · subst m9
        have hg2 := hwg
        simp only [am_wf, if_neg ha, hI] at hg2
        rw [if_pos trivial] at hg2
        have q2 := hg2 _ List.mem_cons_self
        have q3 := hg2 _ (List.mem_cons_of_mem _ List.mem_cons_self)
        have q4 := hg2 _ (List.mem_cons_of_mem _ (List.mem_cons_of_mem _ List.mem_cons_self))
        have q1 := hnst (.methodLinkNest inf.1.cls idx inf'.1 "ThirstRow") (by simp only [am_nest]; rw [if_neg ha, if_pos trivial, hI])
        refine am_after (va_runSN (Ts := am_good) (own := inf.1.cls) (index := idx) (As := ((st.take b).reverse).map (am_vm g)) (rest := (st.drop b).map (am_vm g)) ⟨hx, hb, rfl, hown, hts⟩ hM ⟨va_cnB (Ts := am_good) (bytes := inf'.2.1) (maxL := inf'.2.2.1) (ret := inf'.2.2.2.1) b hts (am_goodIn q4) rfl rfl rfl (hK.2.1 _ q1) (hts _ q3) ⟨m6, m7, m8⟩ ⟨by rw [hR]; exact m1, by rw [hR]; exact m2⟩, hts _ q2, trivial⟩ ⟨am_blind g _ _, am_pre hK hO hH hS⟩ rfl hlen hz (am_split b) (lv_room (am_cats hcat)) hd hf) hS (fun H1 locs1 h1 h2 => ends _ _ H1 locs1 m3.symm m4.symm hc1 hc2 hs' h1 h2)
  | invokespecial idx =>
    simp only [am_chk, Bool.and_eq_true, decide_eq_true_eq] at hchk
    obtain ⟨⟨hd, hlen⟩, hmore⟩ := hchk
    subst hlen
    simp only [am_act, am_nx] at hact
    split at hact
    · split at hact
      · split at hact <;> cases hact
      · cases hact
    · next ha =>
      obtain ⟨rfl, hvs, hs', hbl, hcat, hc1, hc2⟩ := inv hact
      rw [if_neg ha, hI, hN] at hmore
      simp only [Bool.and_eq_true, decide_eq_true_eq, am_cal] at hmore
      obtain ⟨⟨⟨⟨⟨⟨⟨⟨⟨⟨m1, m2⟩, m3⟩, m4⟩, m5⟩, m6⟩, m7⟩, m8⟩, mb⟩, mn⟩, mr⟩ := hmore
      obtain ⟨q, vs2, rfl⟩ := hhd mn
      have hlen : ((Value.ref q :: vs2).map (am_vm g)).length = b := by rw [hvs, List.length_map, List.length_reverse, List.length_take]; omega
      have hlen2 : (vs2.map (am_vm g)).length = b - 1 := by
        rw [List.map_cons, List.length_cons] at hlen
        omega
      have hf : k1 + inf'.2.2.2.2.cells ≤ R.cells ∧ k2 + inf'.2.2.2.2.slots ≤ R.slots := ⟨by rw [m3, hR, ← hMc]; exact hc1, by rw [m4, hR, ← hMs]; exact hc2⟩
      have hw2 : s'.2.2.2.1 = w := by rw [hs']
      rw [hw2] at hM
      have hg2 := hwg
      simp only [am_wf, if_neg ha, hI] at hg2
      have q1 := hg2 _ List.mem_cons_self
      have q2 := hg2 _ (List.mem_cons_of_mem _ List.mem_cons_self)
      have q3 := hg2 _ (List.mem_cons_of_mem _ (List.mem_cons_of_mem _ List.mem_cons_self))
      have q4 := hg2 _ (List.mem_cons_of_mem _ (List.mem_cons_of_mem _ (List.mem_cons_of_mem _ List.mem_cons_self)))
      have hst : st.map (am_vm g) = (vs2.map (am_vm g)).reverse ++ .ref (am_ad g q) :: (st.drop b).map (am_vm g) := by
        rw [am_split (g := g) (st := st) b, ← hvs, List.map_cons, List.reverse_cons, List.append_assoc]
        rfl
      refine am_after (va_runI (Ts := am_good) (own := inf.1.cls) (index := idx) (b := am_ad g q) (As := vs2.map (am_vm g)) (rest := (st.drop b).map (am_vm g)) ⟨hx, hb, rfl, hown, hts⟩ hM ⟨callB_of (Ts := am_good) (bytes := inf'.2.1) (maxL := inf'.2.2.1) (ret := none) (b - 1) hts (am_goodIn q4) (by rw [← mr]; rfl) rfl rfl (hts _ q3) (hts _ q1) ⟨m6, m7, m8⟩ ⟨by rw [hR]; exact m1, by rw [hR]; exact m2⟩, mn, hts _ q2⟩ ⟨am_blind g _ _, am_pre hK hO hH hS⟩ rfl hlen2 hz hst (lv_room (am_cats hcat)) hd hf) hS (fun H1 locs1 h1 h2 => ends _ _ H1 locs1 m3.symm m4.symm hc1 hc2 hs' h1 h2)
  | invokevirtual idx =>
    simp only [am_chk, Bool.and_eq_true, decide_eq_true_eq] at hchk
    obtain ⟨⟨hd, hlen⟩, hmore⟩ := hchk
    subst hlen
    simp only [am_act, am_nx] at hact
    split at hact
    · next q vs2 hvs0 =>
      split at hact
      · next ci fs hwq =>
        split at hact
        · next hc =>
          obtain ⟨hci, hq2⟩ := hc
          obtain ⟨rfl, hvs, hs', hbl, hcat, hc1, hc2⟩ := inv hact
          rw [hI, hN] at hmore
          simp only [Bool.and_eq_true, decide_eq_true_eq, am_cal] at hmore
          obtain ⟨⟨⟨⟨⟨⟨⟨⟨⟨m1, m2⟩, m3⟩, m4⟩, m5⟩, m6⟩, m7⟩, m8⟩, mb⟩, mc⟩ := hmore
          rw [hvs0] at hvs
          subst hvs
          subst hci
          rw [Int.toNat_natCast] at mc
          cases hq : am_cl[ci]? with
          | none => rw [hq] at mc; cases mc
          | some qq =>
            rw [hq] at mc
            simp only [Bool.and_eq_true, decide_eq_true_eq] at mc
            have hlen : ((Value.ref q :: vs2).map (am_vm g)).length = b := by rw [← hvs0, List.length_map, List.length_reverse, List.length_take]; omega
            have hlen2 : (vs2.map (am_vm g)).length = b - 1 := by
              rw [List.map_cons, List.length_cons] at hlen
              omega
            have hf : k1 + inf'.2.2.2.2.cells ≤ R.cells ∧ k2 + inf'.2.2.2.2.slots ≤ R.slots := ⟨by rw [m3, hR, ← hMc]; exact hc1, by rw [m4, hR, ← hMs]; exact hc2⟩
            have hw2 : s'.2.2.2.1 = w := by rw [hs']
            rw [hw2] at hM
            have hg2 := hwg
            simp only [am_wf, hI] at hg2
            have q1 := hg2 _ List.mem_cons_self
            have q2 := hg2 _ (List.mem_cons_of_mem _ List.mem_cons_self)
            have q3 := hg2 _ (List.mem_cons_of_mem _ (List.mem_cons_of_mem _ List.mem_cons_self))
            have q4 := hg2 _ (List.mem_cons_of_mem _ (List.mem_cons_of_mem _ (List.mem_cons_of_mem _ List.mem_cons_self)))
            have q5 := hg2 _ (List.mem_cons_of_mem _ (List.mem_cons_of_mem _ (List.mem_cons_of_mem _ (List.mem_cons_of_mem _ List.mem_cons_self))))
            have hst : st.map (am_vm g) = (vs2.map (am_vm g)).reverse ++ .ref (am_ad g q) :: (st.drop b).map (am_vm g) := by
              rw [am_split (g := g) (st := st) b, hvs0, List.map_cons, List.reverse_cons, List.append_assoc]
              rfl
            match q, hq2, hwq, hM, hst with
            | j + 2, _, hwq, hM, hst =>
              have hrecv := va_recv hK.1 (am_one1 (hH.2.2.2.2 j _ hwq)) hq (q0 := 0) rfl
              rw [mc.1] at hrecv
              refine am_after (va_runV (Ts := am_good) (own := inf.1.cls) (index := idx) (C := inf'.1.cls) (b := g.1.2.2 + j) (As := vs2.map (am_vm g)) (rest := (st.drop b).map (am_vm g)) ⟨hx, hb, rfl, hown, hts⟩ hM ⟨callB_of (Ts := am_good) (bytes := inf'.2.1) (maxL := inf'.2.2.1) (ret := inf'.2.2.2.1) (b - 1) hts (am_goodIn q5) rfl rfl rfl (hts _ q4) (hts _ q1) ⟨m6, m7, m8⟩ ⟨by rw [hR]; exact m1, by rw [hR]; exact m2⟩, hts _ q2, hts _ q3⟩ ⟨am_blind g _ _, hrecv, am_pre hK hO hH hS⟩ rfl hlen2 hz hst (lv_room (am_cats hcat)) hd hf) hS (fun H1 locs1 h1 h2 => ends _ _ H1 locs1 m3.symm m4.symm hc1 hc2 hs' h1 h2)
        · cases hact
      · cases hact
    · cases hact
  | _ =>
    exfalso
    simp only [am_act, am_nx, Bool.cond_eq_ite] at hact
    first
      | (cases hact; done)
      | ((repeat' split at hact) <;> cases hact; done)
end AC
end
section
/-! THE REAL MACHINE FOLLOWS THE SMALL ONE, IV: any number of steps -/
section AN
variable {p : Program} {l : Launch} {e : Env} {R : Room} {s : State} {m : MethodId} {args : Array Value} {below : List Frame} {meth : Method} {c : Code} {Q : State → Prop} {g : am_G} {inf : am_Inf} {M : am_M}
/-- what a method's end must give -/
def am_End (g : am_G) (inf : am_Inf) (p : Program) (l : Launch) (e : Env) (R : Room) (s : State) (m : MethodId) (args : Array Value) (below : List Frame) (meth : Method) (c : Code) (Q : State → Prop) (res : Option Value) (w' : am_W) : Prop :=
  ∀ (H : Heap) (locs : List Loc) (ls : Array Slot) (pc k1 k2 : Nat), am_H g w' H → va_S (am_new g) s.heap H locs → k1 ≤ R.cells → k2 ≤ R.slots →
    (∀ x, res = some (.int x) → decode inf.2.1 pc = .ok (.ireturn, 1) → (inf.2.2.2.1 = some .int ∨ (inf.2.2.2.1 = some .boolean ∧ (x = 0 ∨ x = 1))) → W p l e R s m args below meth c H locs k1 k2 Q (F0 m pc ls [.int x])) ∧
    (∀ x, res = some (.long x) → decode inf.2.1 pc = .ok (.lreturn, 1) → inf.2.2.2.1 = some .long → W p l e R s m args below meth c H locs k1 k2 Q (F0 m pc ls [.long x])) ∧
    (res = none → decode inf.2.1 pc = .ok (.return_, 1) → inf.2.2.2.1 = none → W p l e R s m args below meth c H locs k1 k2 Q (F0 m pc ls []))
set_option maxHeartbeats 4000000 in
set_option maxRecDepth 100000 in
theorem am_fin (hok : am_okm (M, inf)) {r : am_R} {t : am_S} {res : Option Value} {w' : am_W} (hr : r ∈ M.1) (hpc : r.1 = t.1) (hact : am_act am_D am_P M r t = some (.inl (res, w'))) (E : am_End g inf p l e R s m args below meth c Q res w') : am_at g p l e R s m args below meth c Q t := by
  obtain ⟨pc0, i, len, a, b, v⟩ := r
  obtain ⟨pc, lsA, st, w, k1, k2⟩ := t
  have hpc : pc0 = pc := hpc
  subst hpc
  have hchk := List.all_eq_true.mp hok.1 _ hr
  intro H locs ls hz hk1 hk2 hl hH hS
  cases i with
  | ireturn =>
    simp only [am_chk, Bool.and_eq_true, decide_eq_true_eq, Bool.or_eq_true] at hchk
    obtain ⟨⟨hd, hlen⟩, hmore⟩ := hchk
    subst hlen
    simp only [am_act] at hact
    split at hact
    · next x =>
      split at hact
      · next hc =>
        cases hact
        refine (E H locs ls pc0 k1 k2 hH hS hk1 hk2).1 x rfl hd ?_
        rcases hmore with ⟨h1, h2⟩ | ⟨h1, h2⟩
        · exact Or.inl h2
        · refine Or.inr ⟨h2, ?_⟩
          rcases hc with hc | hc
          · omega
          · exact hc
      · cases hact
    · cases hact
  | lreturn =>
    simp only [am_chk, Bool.and_eq_true, decide_eq_true_eq] at hchk
    obtain ⟨⟨hd, hlen⟩, hmore⟩ := hchk
    subst hlen
    simp only [am_act] at hact
    split at hact
    · next x =>
      cases hact
      exact (E H locs ls pc0 k1 k2 hH hS hk1 hk2).2.1 x rfl hd hmore
    · cases hact
  | return_ =>
    simp only [am_chk, Bool.and_eq_true, decide_eq_true_eq] at hchk
    obtain ⟨⟨hd, hlen⟩, hmore⟩ := hchk
    subst hlen
    simp only [am_act] at hact
    split at hact
    · cases hact
      exact (E H locs ls pc0 k1 k2 hH hS hk1 hk2).2.2 rfl hd hmore
    · cases hact
  | _ =>
    exfalso
    simp only [am_act, am_nx, am_call, Bool.cond_eq_ite] at hact
    first
      | (cases hact; done)
      | ((repeat' split at hact) <;> cases hact; done)
end AN
def am_Sim (g : am_G) (l : Launch) (n : Nat) : Prop := ∀ (y : Nat) (M : am_M) (inf : am_Inf), am_P[y]? = some M → am_I[y]? = some inf → ∀ (p : Program) (e : Env) (R : Room) (s : State) (m : MethodId) (args : Array Value) (below : List Frame) (meth : Method) (c : Code) (Q : State → Prop), am_Fix g inf p R s m args meth c → ∀ (res : Option Value) (w' : am_W), am_End g inf p l e R s m args below meth c Q res w' → ∀ t : am_S, am_exec am_D am_P n y t = some (res, w') → am_at g p l e R s m args below meth c Q t
set_option maxHeartbeats 4000000 in
/-- a method that the small machine brings to its end meets its contract -/
theorem am_met {g : am_G} {l : Launch} {n y : Nat} {N : am_M} {inf : am_Inf} {vs : List Value} {w w' : am_W} {res : Option Value} (hSim : am_Sim g l n) (hN : am_P[y]? = some N) (hI : am_I[y]? = some inf) (hvs : (am_sl vs).length ≤ N.2.1) (hex : am_exec am_D am_P n y (0, am_ent N.2.1 vs, [], w, 0, 0) = some (res, w')) :
    Met l inf.1 (am_ws inf) inf.2.2.2.2 (am_Pc g vs w) (am_Qc g res w') inf.2.2.2.2.cells inf.2.2.2.2.slots (am_new g) := by
  have hok := am_ok hN hI
  refine am_ofW (cc := inf.2.1) (maxL := inf.2.2.1) (ret := inf.2.2.2.1) hok.2.2.2.2.2.2.1 rfl ?_
  intro p e s m args below meth c s₁ B hml hv
  obtain ⟨rfl, hH, hK, hO⟩ := hv
  have hlocks := B.notSynchronized
  have hx := B.exec
  have hb := B.bytes
  have hr := B.returns
  have F : am_Fix g inf p (headSpec (am_ws inf) inf.2.2.2.2).room s m (vs.map (am_vm g)).toArray meth c := ⟨B.exec, B.bytes, hml, findClass_of_methodNamed B.named, fun w hw => atoms_spec (ws := am_ws inf) B.pre w (List.mem_cons_of_mem _ hw), fun h => (name_of_methodNamed B.named B.method).1.trans h, rfl, hK, hO, by rw [hH.2.1]; exact Nat.le_add_right _ _⟩
  rw [lg_entry_eq]
  have hN1 : N.2.1 = inf.2.2.1 := hok.2.2.2.1
  have hent := am_L.entry (g := g) hvs
  have hE : am_End g inf p l e (headSpec (am_ws inf) inf.2.2.2.2).room s m (vs.map (am_vm g)).toArray below meth c (MQ below (am_Qc g res w') (vs.map (am_vm g)).toArray s inf.2.2.2.2.cells inf.2.2.2.2.slots (am_new g)) res w' := by
    intro H locs ls pc k1 k2 h1 h2 hk1 hk2
    refine ⟨fun x hx2 hd ht => ?_, fun x hx2 hd ht => ?_, fun hx2 hd ht => ?_⟩
    · subst hx2
      rcases ht with ht | ⟨ht, h01⟩
      · rw [ht] at hr
        exact W.widen hk1 hk2 (W.iret (v := x) hx hb hr (fun t ht2 hW => ⟨rfl, by rw [ht2]; exact h1, h2.F ht2⟩) h2.2.2 hd)
      · rw [ht] at hr
        exact W.widen hk1 hk2 (W.zret (v := x) (ty := .boolean) hx hb hr (by rcases h01 with rfl | rfl <;> rfl) (fun t ht2 hW => ⟨rfl, by rw [ht2]; exact h1, h2.F ht2⟩) h2.2.2 hd)
    · subst hx2
      rw [ht] at hr
      exact W.widen hk1 hk2 (W.lret (v := x) hx hb hr (fun t ht2 hW => ⟨rfl, by rw [ht2]; exact h1, h2.F ht2⟩) h2.2.2 hd)
    · subst hx2
      rw [ht] at hr
      exact W.widen hk1 hk2 (W.vret hx hb hr (fun t ht2 hW => ⟨rfl, by rw [ht2]; exact h1, h2.F ht2⟩) h2.2.2 hd)
  rw [← hN1]
  exact hSim y N inf hN hI p e _ s m _ below meth c _ F res w' hE (0, am_ent N.2.1 vs, [], w, 0, 0) hex s.heap [] _ (by rw [hent.1, hml, ← hN1]; unfold am_ent; rw [List.length_append, List.length_replicate]; omega) (Nat.zero_le _) (Nat.zero_le _) hent hH va_S.rf
set_option maxRecDepth 100000 in
theorem am_inits : am_PI.all (fun q => !(decide (q.2.1.name = "<init>")) || decide (am_row q.1.1 0 = some (0, .aload_n 0, 1, 0, 0, 0))) = true := by decide +kernel
theorem am_init_row {y : Nat} {N : am_M} {inf : am_Inf} (hN : am_P[y]? = some N) (hI : am_I[y]? = some inf) (h : inf.1.name = "<init>") : am_row N.1 0 = some (0, .aload_n 0, 1, 0, 0, 0) := by
  rw [am_P_eq, List.getElem?_map] at hN
  rw [am_I_eq, List.getElem?_map] at hI
  cases hq : am_PI[y]? with
  | none => rw [hq] at hN; cases hN
  | some q =>
    rw [hq] at hN hI
    cases hN
    cases hI
    have hh := List.all_eq_true.mp am_inits q (List.mem_of_getElem? hq)
    simp only [Bool.or_eq_true, Bool.not_eq_true', decide_eq_false_iff_not, decide_eq_true_eq] at hh
    rcases hh with hh | hh
    · exact absurd h hh
    · exact hh
theorem am_init_head {y n : Nat} {N : am_M} {inf : am_Inf} {vs : List Value} {w : am_W} {z : am_V} (hN : am_P[y]? = some N) (hI : am_I[y]? = some inf) (h : inf.1.name = "<init>") (hex : am_exec am_D am_P n y (0, am_ent N.2.1 vs, [], w, 0, 0) = some z) : ∃ q vs', vs = .ref q :: vs' := by
  have hrow := am_init_row hN hI h
  cases n with
  | zero => simp [am_exec] at hex
  | succ n =>
    rw [am_exec_succ, hN] at hex
    simp only [am_stp hrow] at hex
    match vs, hex with
    | .ref q :: vs', _ => exact ⟨q, vs', rfl⟩
    | [], hex =>
      exfalso
      have hn : am_act am_D am_P N (0, .aload_n 0, 1, 0, 0, 0) (0, am_ent N.2.1 [], [], w, 0, 0) = none := by
        simp only [am_act, am_nx]
        split
        · next x hx =>
          exfalso
          unfold am_ent at hx
          simp only [am_sl, List.flatMap_nil, List.nil_append] at hx
          have := List.eq_of_mem_replicate (List.mem_of_getElem? hx)
          cases this
        · rfl
      rw [hn] at hex
      cases hex
    | .int i :: vs', hex => simp [am_act, am_ent, am_sl, Value.category] at hex
    | .long i :: vs', hex => simp [am_act, am_ent, am_sl, Value.category] at hex
    | .float i :: vs', hex => simp [am_act, am_ent, am_sl, Value.category] at hex
    | .double i :: vs', hex => simp [am_act, am_ent, am_sl, Value.category] at hex
    | .null :: vs', hex => simp [am_act, am_ent, am_sl, Value.category] at hex
    | .retAddr i :: vs', hex => simp [am_act, am_ent, am_sl, Value.category] at hex
theorem am_call_args {P : List am_M} {M N : am_M} {a b pc k1 k2 : Nat} {ls st vs : List Value} {w : am_W} {y' : Nat} {s' : am_S} (h : am_call P M a b pc ls st w k1 k2 = some (.inr (.inr (y', vs, s')))) (hN : P[y']? = some N) : (am_sl vs).length ≤ N.2.1 := by
  unfold am_call at h
  split at h
  · cases h
  · next N' hN' =>
    split at h
    · next hc =>
      cases h
      rw [hN'] at hN
      cases hN
      exact hc.2.2.2.2
    · cases h
set_option maxHeartbeats 4000000 in
set_option maxRecDepth 100000 in
theorem am_act_args {M N : am_M} {r : am_R} {t s' : am_S} {y' : Nat} {vs : List Value} (hact : am_act am_D am_P M r t = some (.inr (.inr (y', vs, s')))) (hN : am_P[y']? = some N) : (am_sl vs).length ≤ N.2.1 := by
  obtain ⟨pc0, i, len, a, b, v⟩ := r
  obtain ⟨pc, lsA, st, w, k1, k2⟩ := t
  cases i with
  | invokestatic idx =>
    simp only [am_act, am_nx] at hact
    split at hact
    · (repeat' split at hact) <;> cases hact
    · exact am_call_args hact hN
  | invokespecial idx =>
    simp only [am_act, am_nx] at hact
    split at hact
    · (repeat' split at hact) <;> cases hact
    · exact am_call_args hact hN
  | invokevirtual idx =>
    simp only [am_act, am_nx] at hact
    split at hact
    · split at hact
      · split at hact
        · exact am_call_args hact hN
        · cases hact
      · cases hact
    · cases hact
  | _ =>
    exfalso
    simp only [am_act, am_nx, Bool.cond_eq_ite] at hact
    first
      | (cases hact; done)
      | ((repeat' split at hact) <;> cases hact; done)
theorem am_sim (g : am_G) (l : Launch) : ∀ n, am_Sim g l n := by
  intro n
  induction n with
  | zero => intro y M inf _ _ p e R s m args below meth c Q _ res w' _ t h; simp [am_exec] at h
  | succ n ih =>
    intro y M inf hM hI p e R s m args below meth c Q F res w' E t hex
    have hok := am_ok hM hI
    rw [am_exec_succ, hM] at hex
    simp only at hex
    cases hrow : am_row M.1 t.1 with
    | none =>
      have hs : am_step am_D am_P M t = none := by unfold am_step; rw [hrow]
      rw [hs] at hex
      cases hex
    | some r =>
      have hs : am_step am_D am_P M t = am_act am_D am_P M r t := by unfold am_step; rw [hrow]
      have hr : r ∈ M.1 := List.mem_of_find?_eq_some hrow
      have hpc : r.1 = t.1 := by
        have := List.find?_some hrow
        exact Nat.eq_of_beq_eq_true this
      rw [hs] at hex
      cases hact : am_act am_D am_P M r t with
      | none => rw [hact] at hex; cases hex
      | some q =>
        rw [hact] at hex
        match q, hact, hex with
        | .inl z, hact, hex =>
          cases hex
          exact am_fin hok hr hpc hact E
        | .inr (.inl t'), hact, hex => exact am_one F hok hr hpc hact (ih y M inf hM hI p e R s m args below meth c Q F res w' E t' hex)
        | .inr (.inr (y', vs, s')), hact, hex =>
          simp only at hex
          cases hN : am_P[y']? with
          | none => rw [hN] at hex; cases hex
          | some N =>
            rw [hN] at hex
            simp only at hex
            cases hc : am_exec am_D am_P n y' (0, am_ent N.2.1 vs, [], s'.2.2.2.1, 0, 0) with
            | none => rw [hc] at hex; cases hex
            | some z =>
              rw [hc] at hex
              obtain ⟨inf', hI', hok'⟩ := am_inf hN
              exact am_docall F hok hr hpc hact hN hI' (fun h => am_init_head hN hI' h hc) (am_met ih hN hI' (am_act_args hact hN) hc) (ih y M inf hM hI p e R s m args below meth c Q F res w' E _ hex)
end
section
/-! THE CLAIM OUT OF ONE WALK OF THE LAW'S BODY. Your part is whole_start (and what it stands on); all else here is the same for every law, but numbers. -/
def R_law : String := "ThirstRowLaw"
def lw_P (b : Addr) (xs : List Int32) (args : Array Value) (s : State) : Prop := args = #[.ref b] ∧ s.IntsAt b xs ∧ xs.length ≤ 256 ∧ (Jvm.Cond.and given_1 narrow_1).before args s = true
def lw_Q (_ : Array Value) (s : State) (o : Outcome) (t : State) : Prop := o = .returned (some (.int 1)) ∧ Framed s o t [] 600000 7302250
def lw_Z (below : List Frame) (a : Array Value) (s : State) : State → Prop := fun t => ∃ o, t.status = .running ∧ Ended t below o ∧ lw_Q a s o t
/-- the law's own end, with 1 on the stack, nothing written that was there before, its room as the claim has it -/
theorem lw_ret {p : Program} {l : Launch} {e : Env} {s : State} {m : MethodId} {below : List Frame} {meth : Method} {c : Code} {b : Nat} (hx : p.tables.exec = Jvm.exec) (hb : c.code = code) (hr : meth.sig.returnType = ret) (hlocks : meth.locks = false) {pc : Nat} {H : Heap} {ls : Array Slot} (hdg : decode code pc = .ok (.ireturn, 1)) : W p l e room_1 s m #[Value.ref b] below meth c H [] 600000 7302250 (lw_Z below #[Value.ref b] s) (F0 m pc ls [.int 1]) := by
  intro T hT X
  obtain ⟨fs, hret, hrun, hended, hW, hframe⟩ := X.leave (v := some (.int 1)) (hlocks := hlocks) (fun h => by rw [hr] at h; cases h)
  have hmeth' : T.vm.method? m = some meth := X.method'
  refine ⟨T.setFrames fs, ?_, .returned (some (.int 1)), hrun, hended, rfl, ⟨_, rfl⟩, hW, hframe⟩
  jvm_step X.here [X.here.top, hx, hb, hdg, hmeth', hr, ret, narrow_b1]
  (try refine ⟨rfl, ?_⟩); (try refine ⟨rfl, ?_⟩)
  first | (intro acts; rw [hret _ acts rfl rfl rfl]) | rw [hret _ _ rfl rfl rfl]
  exact Steps.refl _
/-- what holds at the law's entry: the machine, the code, the tables' words (any of lw_tbl by 'hts w (by decide +kernel)'), the script of L ints xs at the cell b, what the Statement gives of the start (any of its parts by flat_of_before) -/
def lw_At (p : Program) (s : State) (m : MethodId) (meth : Method) (c : Code) (b L : Nat) (xs : Nat → Int32) : Prop :=
  p.tables.exec = Jvm.exec ∧ c.code = code ∧ meth.sig.returnType = ret ∧ c.maxLocals = 4 ∧ s.vm.findClass R_law = some m.cls ∧ (∀ w ∈ lw_tbl, w.before #[Value.ref b] s = true) ∧ va_X b L xs s s.heap ∧ b < s.heap.size ∧ meth.locks = false ∧ (Jvm.Cond.and given_1 narrow_1).before #[Value.ref b] s = true
/-- the law as the small machine runs it -/
def am_w0 (L : Nat) (xs : Nat → Int32) : am_W := [.inl (0, 7, .inl am_fac), .inl (0, L, .inl xs)]
set_option maxHeartbeats 4000000 in
set_option maxRecDepth 100000 in
/-- THE LAW, from its entry, given that the small machine brings it to its end with 1 -/
theorem am_law {p : Program} {e : Env} {s : State} {m : MethodId} {below : List Frame} {meth : Method} {c : Code} (l : Launch) {b L : Nat} {xs : Nat → Int32} (C0 : lw_At p s m meth c b L xs) (G0 : am_Go 168 (0, [.ref 1, .float 0, .float 0, .float 0], [], am_w0 L xs, 0, 0) (fun res _ => res = some (.int 1))) : W p l e room_1 s m #[Value.ref b] below meth c s.heap [] 0 0 (lw_Z below #[Value.ref b] s) (entryFrame m ([Value.ref b] : List Value).toArray 4) := by
  obtain ⟨hx, hb, hr, hml, hown, hts, hX, hbl, hlocks, hgv⟩ := C0
  obtain ⟨n, res, w', hex, rfl⟩ := G0
  have hs := flat_of_before _ hgv
  have hA : ∀ a : Nat, a < s.heap.size → ¬ (fun q : Nat => s.heap.size ≤ q) a := fun a h => Nat.not_le.mpr h
  have s0 : (Cond.arrayOf (.static "ThirstRow" "FACTORIALS" "[I") .int).before #[Value.ref b] s = true := hs _ (by decide +kernel)
  have s1 : (Cond.eq (.length (.static "ThirstRow" "FACTORIALS" "[I")) (.int 7)).before #[Value.ref b] s = true := hs _ (by decide +kernel)
  have e0 : (Cond.eq (.elem (.static "ThirstRow" "FACTORIALS" "[I") (.int 0)) (.int 1)).before #[Value.ref b] s = true := hs _ (by decide +kernel)
  have e1 : (Cond.eq (.elem (.static "ThirstRow" "FACTORIALS" "[I") (.int 1)) (.int 1)).before #[Value.ref b] s = true := hs _ (by decide +kernel)
  have e2 : (Cond.eq (.elem (.static "ThirstRow" "FACTORIALS" "[I") (.int 2)) (.int 2)).before #[Value.ref b] s = true := hs _ (by decide +kernel)
  have e3 : (Cond.eq (.elem (.static "ThirstRow" "FACTORIALS" "[I") (.int 3)) (.int 6)).before #[Value.ref b] s = true := hs _ (by decide +kernel)
  have e4 : (Cond.eq (.elem (.static "ThirstRow" "FACTORIALS" "[I") (.int 4)) (.int 24)).before #[Value.ref b] s = true := hs _ (by decide +kernel)
  have e5 : (Cond.eq (.elem (.static "ThirstRow" "FACTORIALS" "[I") (.int 5)) (.int 120)).before #[Value.ref b] s = true := hs _ (by decide +kernel)
  have e6 : (Cond.eq (.elem (.static "ThirstRow" "FACTORIALS" "[I") (.int 6)) (.int 720)).before #[Value.ref b] s = true := hs _ (by decide +kernel)
  obtain ⟨tF, htF, hTF⟩ := va_Tof (N := 7) (f := fun j => .int (am_fac j)) (A := fun q : Nat => s.heap.size ≤ q) (by decide) s0 (va_eqt s1) (fun j hj => by
    rcases (show j = 0 ∨ j = 1 ∨ j = 2 ∨ j = 3 ∨ j = 4 ∨ j = 5 ∨ j = 6 by omega) with rfl | rfl | rfl | rfl | rfl | rfl | rfl
    · exact va_eqt e0
    · exact va_eqt e1
    · exact va_eqt e2
    · exact va_eqt e3
    · exact va_eqt e4
    · exact va_eqt e5
    · exact va_eqt e6) hA
  have hZ := va_Zof (A := fun q : Nat => s.heap.size ≤ q) (hts (.laysStatic "ThirstRow" "FACTORIALS" "[I") (List.mem_of_getElem? (i := 715) (by decide +kernel))) (hts (.initialized "ThirstRow") (List.mem_of_getElem? (i := 37) (by decide +kernel))) htF hA
  have htg : ∀ w ∈ am_good, w.before #[Value.ref b] s = true := fun w h => hts w (List.mem_filter.mp h).1
  obtain ⟨c0, i0, hn0⟩ := u_known (C := RX0) (T := TX0) (N := 3) (n := 3) htg (zc_0).1 (hts (.instantiable RX0 3) (List.mem_of_getElem? (i := 194) (by decide +kernel)))
  obtain ⟨c1, i1, hn1⟩ := u_known (C := RX1) (T := TX1) (N := 7) (n := 7) htg (zc_1).1 (hts (.instantiable RX1 7) (List.mem_of_getElem? (i := 317) (by decide +kernel)))
  obtain ⟨c2, i2, hn2⟩ := u_known (C := RX2) (T := TX2) (N := 5) (n := 5) htg (zc_2).1 (hts (.instantiable RX2 5) (List.mem_of_getElem? (i := 287) (by decide +kernel)))
  obtain ⟨c3, i3, hn3⟩ := u_known (C := RX3) (T := TX3) (N := 1) (n := 1) htg (zc_3).1 (hts (.instantiable RX3 1) (List.mem_of_getElem? (i := 78) (by decide +kernel)))
  obtain ⟨c4, i4, hn4⟩ := u_known (C := RX4) (T := TX4) (N := 4) (n := 4) htg (zc_4).1 (hts (.instantiable RX4 4) (List.mem_of_getElem? (i := 229) (by decide +kernel)))
  obtain ⟨c5, i5, hn5⟩ := u_known (C := RX5) (T := TX5) (N := 2) (n := 2) htg (zc_5).1 (hts (.instantiable RX5 2) (List.mem_of_getElem? (i := 214) (by decide +kernel)))
  obtain ⟨c6, i6, hn6⟩ := u_known (C := RX6) (T := TX6) (N := 6) (n := 6) htg (zc_6).1 (hts (.instantiable RX6 6) (List.mem_of_getElem? (i := 144) (by decide +kernel)))
  obtain ⟨c7, i7, hn7⟩ := u_known (C := RX7) (T := TX7) (N := 2) (n := 2) htg (zc_7).1 (hts (.instantiable RX7 2) (List.mem_of_getElem? (i := 61) (by decide +kernel)))
  obtain ⟨c8, i8, hn8⟩ := u_known (C := RX8) (T := TX8) (N := 7) (n := 7) htg (zc_8).1 (hts (.instantiable RX8 7) (List.mem_of_getElem? (i := 249) (by decide +kernel)))
  obtain ⟨c9, i9, hn9⟩ := u_known (C := RX9) (T := TX9) (N := 8) (n := 8) htg (zc_9).1 (hts (.instantiable RX9 8) (List.mem_of_getElem? (i := 84) (by decide +kernel)))
  obtain ⟨c10, i10, hn10⟩ := u_known (C := RX10) (T := TX10) (N := 11) (n := 11) htg (zc_10).1 (hts (.instantiable RX10 11) (List.mem_of_getElem? (i := 53) (by decide +kernel)))
  obtain ⟨c11, i11, hn11⟩ := u_known (C := RX11) (T := TX11) (N := 30) (n := 30) htg (zc_11).1 (hts (.instantiable RX11 30) (List.mem_of_getElem? (i := 808) (by decide +kernel)))
  obtain ⟨dC, dI, hKc⟩ : ∃ (dC : Nat → ClassId) (dI : Nat → Nat → Nat), ∀ (k : Nat) (q : vw_C), am_cl[k]? = some q → u_Kn s q.1 q.2.1 q.2.2 (dC k) (dI k) := by
    refine ⟨fun k => if k = 0 then c0 else if k = 1 then c1 else if k = 2 then c2 else if k = 3 then c3 else if k = 4 then c4 else if k = 5 then c5 else if k = 6 then c6 else if k = 7 then c7 else if k = 8 then c8 else if k = 9 then c9 else if k = 10 then c10 else c11, fun k => if k = 0 then i0 else if k = 1 then i1 else if k = 2 then i2 else if k = 3 then i3 else if k = 4 then i4 else if k = 5 then i5 else if k = 6 then i6 else if k = 7 then i7 else if k = 8 then i8 else if k = 9 then i9 else if k = 10 then i10 else i11, ?_⟩
    intro k q hq
    match k, hq with
    | 0, hq => cases hq; exact hn0
    | 1, hq => cases hq; exact hn1
    | 2, hq => cases hq; exact hn2
    | 3, hq => cases hq; exact hn3
    | 4, hq => cases hq; exact hn4
    | 5, hq => cases hq; exact hn5
    | 6, hq => cases hq; exact hn6
    | 7, hq => cases hq; exact hn7
    | 8, hq => cases hq; exact hn8
    | 9, hq => cases hq; exact hn9
    | 10, hq => cases hq; exact hn10
    | 11, hq => cases hq; exact hn11
    | k + 12, hq => cases hq
  obtain ⟨cI, kI, pI, a1, a2, a3⟩ := Cond.arrayClass_spec (hts (.arrayClass .int) (List.mem_of_getElem? (i := 76) (by decide +kernel)))
  obtain ⟨cZ, kZ, pZ, b1, b2, b3⟩ := Cond.arrayClass_spec (hts (.arrayClass .boolean) (List.mem_of_getElem? (i := 904) (by decide +kernel)))
  have hao : (Cond.arrayOver (.object RX6)).before #[Value.ref b] s = true := hts _ (List.mem_of_getElem? (i := 200) (by decide +kernel))
  obtain ⟨comp, cS, kS, d1, d2, d3, d4, d5⟩ := Cond.arrayOver_spec hao
  obtain ⟨g, hg⟩ : ∃ g : am_G, g = ((tF, b, s.heap.size), (cI, cZ, cS), (dC, dI), L, xs) := ⟨_, rfl⟩
  have hK : am_K g s := by
    subst hg
    refine ⟨⟨hKc, fun k q hq => ?_⟩, fun w hw => ?_, va_AO.of hao⟩
    · match k, hq with
      | 0, hq => cases hq; exact ⟨fun n z => ⟨fun k h => (by cases h), kI, a2, pI, a3⟩, a1⟩
      | 1, hq => cases hq; exact ⟨fun n z => ⟨fun k h => (by cases h), kZ, b2, pZ, b3⟩, b1⟩
      | 2, hq => cases hq; exact ⟨fun n z => ⟨fun k h => (by cases h), kS, d3, comp, d4⟩, kS, comp, d3, d4, d1, d5⟩
    · have hm : w ∈ lw_tbl := by
        have h9 := hw
        rw [am_nests_in] at h9
        obtain ⟨i, -, hi⟩ := List.mem_filterMap.mp h9
        exact List.mem_of_getElem? hi
      have hz := hts w hm
      simp only [am_nests, List.mem_cons, List.not_mem_nil, or_false] at hw
      rcases hw with rfl | rfl | rfl | rfl | rfl | rfl | rfl | rfl | rfl | rfl | rfl <;> exact va_Nw.of rfl hz
  have hO : am_O g s s.heap := by
    subst hg
    obtain ⟨scr, x1, x2, x3, x4, x5⟩ := hX
    exact ⟨hTF, ⟨scr, x1, x2, x3, Nat.le_of_eq x4.symm, by rw [x4], x5, hA b hbl⟩, hZ⟩
  have hH : am_H g (am_w0 L xs) s.heap := by
    subst hg
    exact ⟨Nat.le_refl 2, rfl, rfl, rfl, fun k e h => by cases h⟩
  have hbase : g.1.2.2 = s.heap.size := by rw [hg]
  have F : am_Fix g zi_L_law p room_1 s m #[Value.ref b] meth c := ⟨hx, hb, hml, hown, htg, fun h => absurd h (by decide), rfl, hK, hO, Nat.le_of_eq hbase⟩
  have hE : am_End g zi_L_law p l e room_1 s m #[Value.ref b] below meth c (lw_Z below #[Value.ref b] s) (some (.int 1)) w' := by
    intro H locs ls pc k1 k2 h1 h2 hk1 hk2
    refine ⟨fun x hx2 hd ht => ?_, fun x hx2 hd ht => (by cases hx2), fun hx2 hd ht => (by cases hx2)⟩
    cases hx2
    refine va_forget (fun q hq => by have := h2.2.2 q hq; rw [← hbase]; exact this) ?_
    refine W.widen (k := 600000) (n := 7302250) hk1 hk2 ?_
    exact lw_ret hx hb hr hlocks hd
  rw [lg_entry_eq]
  have hent := am_L.entry (g := g) (vs := [.ref 1]) (n := 4) (by decide)
  have hb1 : am_vm g (.ref 1) = .ref b := by rw [hg]; rfl
  simp only [List.map_cons, List.map_nil, hb1] at hent
  have hr1 := am_sim g l n 168 zm_L_law zi_L_law rfl rfl p e room_1 s m #[Value.ref b] below meth c _ F (some (.int 1)) w' hE (0, [.ref 1, .float 0, .float 0, .float 0], [], am_w0 L xs, 0, 0) hex s.heap [] _ ?_ (Nat.zero_le _) (Nat.zero_le _) hent hH va_S.rf
  · exact hr1
  · rw [hent.1, hml]
    rfl
end
section
/-! more rules: places in rows as natural numbers; what a changed world holds -/
theorem am_gs {w : am_W} {a : Nat} {x e : am_E} (h : w[a]? = some x) : (w.set a e)[a]? = some e := List.getElem?_set_self (List.getElem?_eq_some_iff.mp h).1
theorem am_gn {w : am_W} {a b : Nat} {x e : am_E} (hn : a ≠ b) (h : w[b]? = some x) : (w.set a e)[b]? = some x := by rw [List.getElem?_set_ne hn]; exact h
theorem am_b01 {P : Prop} [Decidable P] : (if P then (1 : Int32) else 0) = 0 ∨ (if P then (1 : Int32) else 0) = 1 := by
  split
  · exact Or.inr rfl
  · exact Or.inl rfl
theorem am_ixN {i : Int32} {j n : Nat} (hi : i = nI j) (hlt : j < n) (hn : n ≤ 1000000) : am_ix i n = true ∧ i.toNatClampNeg = j := by
  subst hi
  refine ⟨?_, nI_clamp (by omega)⟩
  have := vp_in_nI hlt (by omega)
  unfold am_ix
  exact decide_eq_true this
section AR2
variable {y : Nat} {M : am_M} {Q : Option Value → am_W → Prop} {pc pc' q0 len a b k1 k2 : Nat} {v : Int} {ls st : List Value} {w : am_W}
theorem ar_ialoadN {q n j : Nat} {f : Nat → Int32} {i : Int32} (hM : am_P[y]? = some M) (hr : am_row M.1 pc = some (q0, .iaload, len, a, b, v)) (hw : w[q]? = some (.inl (0, n, .inl f))) (hi : i = nI j) (hlt : j < n) (hn : n ≤ 1000000) (hp : pc + 1 = pc') (k : am_Go y (pc', ls, .int (f j) :: st, w, k1, k2) Q) : am_Go y (pc, ls, .int i :: .ref q :: st, w, k1, k2) Q := by
  obtain ⟨h1, h2⟩ := am_ixN hi hlt hn
  exact ar_iaload hM hr hw h1 hp (by rw [h2]; exact k)
theorem ar_baloadN {q n j : Nat} {f : Nat → Int32} {i : Int32} (hM : am_P[y]? = some M) (hr : am_row M.1 pc = some (q0, .baload, len, a, b, v)) (hw : w[q]? = some (.inl (1, n, .inl f))) (hi : i = nI j) (hlt : j < n) (hn : n ≤ 1000000) (hq : 2 ≤ q) (hp : pc + 1 = pc') (k : am_Go y (pc', ls, .int (f j) :: st, w, k1, k2) Q) : am_Go y (pc, ls, .int i :: .ref q :: st, w, k1, k2) Q := by
  obtain ⟨h1, h2⟩ := am_ixN hi hlt hn
  exact ar_baload hM hr hw h1 hq hp (by rw [h2]; exact k)
theorem ar_aaloadN {q n j z : Nat} {f : Nat → Option Nat} {i : Int32} (hM : am_P[y]? = some M) (hr : am_row M.1 pc = some (q0, .aaload, len, a, b, v)) (hw : w[q]? = some (.inl (2, n, .inr f))) (hi : i = nI j) (hlt : j < n) (hn : n ≤ 1000000) (hq : 2 ≤ q) (hz : f j = some z) (hp : pc + 1 = pc') (k : am_Go y (pc', ls, .ref z :: st, w, k1, k2) Q) : am_Go y (pc, ls, .int i :: .ref q :: st, w, k1, k2) Q := by
  obtain ⟨h1, h2⟩ := am_ixN hi hlt hn
  exact ar_aaload hM hr hw h1 hq (by rw [h2]; exact hz) hp k
theorem ar_iastoreN {q n j : Nat} {f : Nat → Int32} {i x : Int32} (hM : am_P[y]? = some M) (hr : am_row M.1 pc = some (q0, .iastore, len, a, b, v)) (hw : w[q]? = some (.inl (0, n, .inl f))) (hi : i = nI j) (hlt : j < n) (hn : n ≤ 1000000) (hq : 2 ≤ q) (hp : pc + 1 = pc') (k : am_Go y (pc', ls, st, w.set q (.inl (0, n, .inl (upd f j x))), k1, k2) Q) : am_Go y (pc, ls, .int x :: .int i :: .ref q :: st, w, k1, k2) Q := by
  obtain ⟨h1, h2⟩ := am_ixN hi hlt hn
  exact ar_iastore hM hr hw h1 hq hp (by rw [h2]; exact k)
theorem ar_bastoreN {q n j : Nat} {f : Nat → Int32} {i x : Int32} (hM : am_P[y]? = some M) (hr : am_row M.1 pc = some (q0, .bastore, len, a, b, v)) (hw : w[q]? = some (.inl (1, n, .inl f))) (hi : i = nI j) (hlt : j < n) (hn : n ≤ 1000000) (hq : 2 ≤ q) (hx : am_fit 1 (.int x) = true) (hp : pc + 1 = pc') (k : am_Go y (pc', ls, st, w.set q (.inl (1, n, .inl (upd f j x))), k1, k2) Q) : am_Go y (pc, ls, .int x :: .int i :: .ref q :: st, w, k1, k2) Q := by
  obtain ⟨h1, h2⟩ := am_ixN hi hlt hn
  exact ar_bastore hM hr hw h1 hq hx hp (by rw [h2]; exact k)
theorem ar_arraycopyN {c q1 q2 n1 n2 m : Nat} {f g : Nat → Int32} {n : Int32} (hM : am_P[y]? = some M) (hr : am_row M.1 pc = some (q0, .invokestatic c, len, a, b, v)) (ha : a = 1001) (hw1 : w[q1]? = some (.inl (0, n1, .inl f))) (hw2 : w[q2]? = some (.inl (0, n2, .inl g))) (hm : n = nI m) (h1 : m ≤ n1) (h2 : m ≤ n2) (hn : m ≤ 1000000) (hq1 : 2 ≤ q1) (hq2 : 2 ≤ q2) (hc : (st.map fun v => v.category).sum ≤ 8) (hp : pc + 3 = pc') (k : am_Go y (pc', ls, st, w.set q2 (.inl (0, n2, .inl (va_cpy f g 0 0 m))), k1, k2) Q) : am_Go y (pc, ls, .int n :: .int 0 :: .ref q2 :: .int 0 :: .ref q1 :: st, w, k1, k2) Q := by
  subst hm
  have e0 : (0 : Int32).toNatClampNeg = 0 := rfl
  have e1 : (nI m).toNatClampNeg = m := nI_clamp (by omega)
  exact ar_arraycopy hM hr ha hw1 hw2 ⟨by decide, by decide, nI_pos (by omega), by rw [e0, e1]; omega, by rw [e0, e1]; omega, hq1, hq2, hc⟩ hp (by rw [e0, e1]; exact k)
end AR2
/-- nothing changes but at these places -/
def am_same (X : Nat → Prop) (w w' : am_W) : Prop := ∀ b, ¬ X b → w'[b]? = w[b]?
theorem am_same.rf {X : Nat → Prop} {w : am_W} : am_same X w w := fun _ _ => rfl
theorem am_same.set {X : Nat → Prop} {w w1 : am_W} {a : Nat} {e : am_E} (h : am_same X w w1) (ha : X a) : am_same X w (w1.set a e) := fun b hb => by rw [List.getElem?_set_ne (fun q => hb (by rw [← q]; exact ha))]; exact h b hb
theorem am_same.tr {X : Nat → Prop} {w w1 w2 : am_W} (h1 : am_same X w w1) (h2 : am_same X w1 w2) : am_same X w w2 := fun b hb => (h2 b hb).trans (h1 b hb)
theorem am_same.mono {X Y : Nat → Prop} {w w1 : am_W} (h : am_same X w w1) (hXY : ∀ b, X b → Y b) : am_same Y w w1 := fun b hb => h b (fun q => hb (hXY b q))
theorem am_same.at {X : Nat → Prop} {w w1 : am_W} (h : am_same X w w1) {b : Nat} {x : Option am_E} (hb : ¬ X b) (hx : w[b]? = x) : w1[b]? = x := (h b hb).trans hx
end
section
/-! leaves: the JDK's, and the small ones of the class -/
theorem am_ne0 {P : Prop} [Decidable P] (h : ¬ (if P then (1 : Int32) else 0) = 0) : P := by
  by_cases q : P
  · exact q
  · rw [if_neg q] at h; exact absurd rfl h
theorem am_eq0 {P : Prop} [Decidable P] (h : (if P then (1 : Int32) else 0) = 0) : ¬ P := by
  intro q
  rw [if_pos q] at h
  exact absurd h (by decide)
def i_max (x y : Int32) : Int32 := if x < y then y else x
def i_min (x y : Int32) : Int32 := if y < x then y else x
def i_abs (x : Int32) : Int32 := if 0 ≤ x then x else -x
set_option maxRecDepth 100000 in
set_option maxHeartbeats 4000000 in
theorem c_max (w : am_W) (x y : Int32) : am_Go 166 (0, [.int x, .int y], [], w, 0, 0) (fun res w' => res = some (.int (i_max x y)) ∧ w' = w) := by
  have hM : am_P[166]? = some zm_J9_max_7cf53 := rfl
  refine ar_iload_n (pc' := 1) hM rfl rfl rfl ?_
  refine ar_iload_n (pc' := 2) hM rfl rfl rfl ?_
  refine ar_icmp_lt (pc' := 5) hM rfl rfl (fun c2 => ?_) (fun c2 => ?_)
  · refine ar_iload_n (pc' := 10) hM rfl rfl rfl ?_
    refine ar_ireturn hM rfl (Or.inl rfl) ?_
    exact ⟨by simp [i_max, c2], rfl⟩
  · refine ar_iload_n (pc' := 6) hM rfl rfl rfl ?_
    refine ar_goto hM rfl ?_
    refine ar_ireturn hM rfl (Or.inl rfl) ?_
    exact ⟨by simp [i_max, c2], rfl⟩
set_option maxRecDepth 100000 in
set_option maxHeartbeats 4000000 in
theorem c_min (w : am_W) (x y : Int32) : am_Go 167 (0, [.int x, .int y], [], w, 0, 0) (fun res w' => res = some (.int (i_min x y)) ∧ w' = w) := by
  have hM : am_P[167]? = some zm_J9_min_7cf53 := rfl
  refine ar_iload_n (pc' := 1) hM rfl rfl rfl ?_
  refine ar_iload_n (pc' := 2) hM rfl rfl rfl ?_
  refine ar_icmp_gt (pc' := 5) hM rfl rfl (fun c2 => ?_) (fun c2 => ?_)
  · refine ar_iload_n (pc' := 10) hM rfl rfl rfl ?_
    refine ar_ireturn hM rfl (Or.inl rfl) ?_
    exact ⟨by simp [i_min, c2], rfl⟩
  · refine ar_iload_n (pc' := 6) hM rfl rfl rfl ?_
    refine ar_goto hM rfl ?_
    refine ar_ireturn hM rfl (Or.inl rfl) ?_
    exact ⟨by simp [i_min, c2], rfl⟩
set_option maxRecDepth 100000 in
set_option maxHeartbeats 4000000 in
theorem c_abs (w : am_W) (x : Int32) : am_Go 165 (0, [.int x], [], w, 0, 0) (fun res w' => res = some (.int (i_abs x)) ∧ w' = w) := by
  have hM : am_P[165]? = some zm_J9_abs_0f7a4 := rfl
  refine ar_iload_n (pc' := 1) hM rfl rfl rfl ?_
  refine ar_if_ge (pc' := 4) hM rfl rfl (fun c1 => ?_) (fun c1 => ?_)
  · refine ar_iload_n (pc' := 10) hM rfl rfl rfl ?_
    refine ar_ireturn hM rfl (Or.inl rfl) ?_
    exact ⟨by simp [i_abs, c1], rfl⟩
  · refine ar_iload_n (pc' := 5) hM rfl rfl rfl ?_
    refine ar_ineg (pc' := 6) hM rfl rfl ?_
    refine ar_goto hM rfl ?_
    refine ar_ireturn hM rfl (Or.inl rfl) ?_
    exact ⟨by simp [i_abs, c1], rfl⟩
theorem i_xor0 {a b : Nat} (ha : a < 2 ^ 31) (hb : b < 2 ^ 31) : 0 ≤ nI a ^^^ nI b := by
  have e : nI a ^^^ nI b = nI (a ^^^ b) := by
    apply Int32.toBitVec_inj.mp
    show (nI a).toBitVec ^^^ (nI b).toBitVec = (nI (a ^^^ b)).toBitVec
    apply BitVec.eq_of_toNat_eq
    rw [BitVec.toNat_xor, pk_tn (by omega), pk_tn (by omega), pk_tn]
    exact Nat.lt_trans (Nat.xor_lt_two_pow ha hb) (by decide)
  rw [e]
  exact nI_pos' (Nat.xor_lt_two_pow ha hb)
set_option maxRecDepth 100000 in
set_option maxHeartbeats 4000000 in
theorem c_floorMod (w : am_W) (d k : Nat) (hd : d < 2 ^ 31) (h0 : 0 < k) (hk : k < 2 ^ 31) : am_Go 164 (0, [.int (nI d), .int (nI k), .float 0], [], w, 0, 0) (fun res w' => res = some (.int (nI (d % k))) ∧ w' = w) := by
  have hM : am_P[164]? = some zm_J9_floorMod_7cf53 := rfl
  refine ar_iload_n (pc' := 1) hM rfl rfl rfl ?_
  refine ar_iload_n (pc' := 2) hM rfl rfl rfl ?_
  refine ar_irem (pc' := 3) hM rfl (nI_ne0 h0 hk) rfl ?_
  rw [show ((nI d) - (nI d) / (nI k) * (nI k) : Int32) = nI (d % k) from pk_rem hd h0 hk]
  refine ar_istore_n (pc' := 4) hM rfl rfl rfl rfl ?_
  refine ar_iload_n (pc' := 5) hM rfl rfl rfl ?_
  refine ar_iload_n (pc' := 6) hM rfl rfl rfl ?_
  refine ar_ixor (pc' := 7) hM rfl rfl ?_
  refine ar_if_ge (pc' := 10) hM rfl rfl (fun _ => ?_) (fun q => absurd (i_xor0 hd hk) q)
  refine ar_iload_n (pc' := 19) hM rfl rfl rfl ?_
  refine ar_ireturn hM rfl (Or.inl rfl) ?_
  exact ⟨rfl, rfl⟩
def i_bc (x : Int32) : Int32 :=
  let a := x - ((x.toUInt32 >>> (Int32.toUInt32 1 &&& Int32.toUInt32 31)).toInt32 &&& 1431655765)
  let b := (a &&& 858993459) + ((a.toUInt32 >>> (Int32.toUInt32 2 &&& Int32.toUInt32 31)).toInt32 &&& 858993459)
  let c := (b + (b.toUInt32 >>> (Int32.toUInt32 4 &&& Int32.toUInt32 31)).toInt32) &&& 252645135
  let d := c + (c.toUInt32 >>> (Int32.toUInt32 8 &&& Int32.toUInt32 31)).toInt32
  let e := d + (d.toUInt32 >>> (Int32.toUInt32 16 &&& Int32.toUInt32 31)).toInt32
  e &&& 63
set_option maxRecDepth 100000 in
set_option maxHeartbeats 4000000 in
theorem c_bitCount (w : am_W) (x : Int32) : am_Go 163 (0, [.int x], [], w, 0, 0) (fun res w' => res = some (.int (i_bc x)) ∧ w' = w) := by
  have hM : am_P[163]? = some zm_J6_bitCount_0f7a4 := rfl
  refine ar_iload_n (pc' := 1) hM rfl rfl rfl ?_
  refine ar_iload_n (pc' := 2) hM rfl rfl rfl ?_
  refine ar_iconst (x := 1) (pc' := 3) hM rfl (by decide) rfl ?_
  refine ar_iushr (pc' := 4) hM rfl rfl ?_
  refine ar_ldc_w (x := 1431655765) (pc' := 7) hM rfl (by decide) rfl ?_
  refine ar_iand (pc' := 8) hM rfl rfl ?_
  refine ar_isub (pc' := 9) hM rfl rfl ?_
  obtain ⟨a1, ea1⟩ : ∃ z : Int32, z = x - (((Int32.toUInt32 x >>> (Int32.toUInt32 1 &&& Int32.toUInt32 31)).toInt32) &&& 1431655765) := ⟨_, rfl⟩
  rw [← ea1]
  refine ar_istore_n (pc' := 10) hM rfl rfl rfl rfl ?_
  refine ar_iload_n (pc' := 11) hM rfl rfl rfl ?_
  refine ar_ldc_w (x := 858993459) (pc' := 14) hM rfl (by decide) rfl ?_
  refine ar_iand (pc' := 15) hM rfl rfl ?_
  refine ar_iload_n (pc' := 16) hM rfl rfl rfl ?_
  refine ar_iconst (x := 2) (pc' := 17) hM rfl (by decide) rfl ?_
  refine ar_iushr (pc' := 18) hM rfl rfl ?_
  refine ar_ldc_w (x := 858993459) (pc' := 21) hM rfl (by decide) rfl ?_
  refine ar_iand (pc' := 22) hM rfl rfl ?_
  refine ar_iadd (pc' := 23) hM rfl rfl ?_
  obtain ⟨b1, eb1⟩ : ∃ z : Int32, z = (a1 &&& 858993459) + (((Int32.toUInt32 a1 >>> (Int32.toUInt32 2 &&& Int32.toUInt32 31)).toInt32) &&& 858993459) := ⟨_, rfl⟩
  rw [← eb1]
  refine ar_istore_n (pc' := 24) hM rfl rfl rfl rfl ?_
  refine ar_iload_n (pc' := 25) hM rfl rfl rfl ?_
  refine ar_iload_n (pc' := 26) hM rfl rfl rfl ?_
  refine ar_iconst (x := 4) (pc' := 27) hM rfl (by decide) rfl ?_
  refine ar_iushr (pc' := 28) hM rfl rfl ?_
  refine ar_iadd (pc' := 29) hM rfl rfl ?_
  refine ar_ldc_w (x := 252645135) (pc' := 32) hM rfl (by decide) rfl ?_
  refine ar_iand (pc' := 33) hM rfl rfl ?_
  obtain ⟨c1, ec1⟩ : ∃ z : Int32, z = (b1 + ((Int32.toUInt32 b1 >>> (Int32.toUInt32 4 &&& Int32.toUInt32 31)).toInt32)) &&& 252645135 := ⟨_, rfl⟩
  rw [← ec1]
  refine ar_istore_n (pc' := 34) hM rfl rfl rfl rfl ?_
  refine ar_iload_n (pc' := 35) hM rfl rfl rfl ?_
  refine ar_iload_n (pc' := 36) hM rfl rfl rfl ?_
  refine ar_bipush (x := 8) (pc' := 38) hM rfl (by decide) rfl ?_
  refine ar_iushr (pc' := 39) hM rfl rfl ?_
  refine ar_iadd (pc' := 40) hM rfl rfl ?_
  obtain ⟨d1, ed1⟩ : ∃ z : Int32, z = c1 + ((Int32.toUInt32 c1 >>> (Int32.toUInt32 8 &&& Int32.toUInt32 31)).toInt32) := ⟨_, rfl⟩
  rw [← ed1]
  refine ar_istore_n (pc' := 41) hM rfl rfl rfl rfl ?_
  refine ar_iload_n (pc' := 42) hM rfl rfl rfl ?_
  refine ar_iload_n (pc' := 43) hM rfl rfl rfl ?_
  refine ar_bipush (x := 16) (pc' := 45) hM rfl (by decide) rfl ?_
  refine ar_iushr (pc' := 46) hM rfl rfl ?_
  refine ar_iadd (pc' := 47) hM rfl rfl ?_
  obtain ⟨e1, ee1⟩ : ∃ z : Int32, z = d1 + ((Int32.toUInt32 d1 >>> (Int32.toUInt32 16 &&& Int32.toUInt32 31)).toInt32) := ⟨_, rfl⟩
  rw [← ee1]
  refine ar_istore_n (pc' := 48) hM rfl rfl rfl rfl ?_
  refine ar_iload_n (pc' := 49) hM rfl rfl rfl ?_
  refine ar_bipush (x := 63) (pc' := 51) hM rfl (by decide) rfl ?_
  refine ar_iand (pc' := 52) hM rfl rfl ?_
  refine ar_ireturn hM rfl (Or.inl rfl) ?_
  refine ⟨?_, rfl⟩
  rw [ee1, ed1, ec1, eb1, ea1]
  rfl
def n_pop (m : Nat) : Nat := m % 2 + m / 2 % 2 + m / 4 % 2 + m / 8 % 2 + m / 16 % 2 + m / 32 % 2
theorem i_bc_tab : ∀ m, m < 64 → i_bc (nI m) = nI (n_pop m) := by decide +kernel
set_option maxRecDepth 100000 in
set_option maxHeartbeats 4000000 in
theorem c_within (w : am_W) (x l m : Int32) : am_Go 95 (0, [.int x, .int l, .int m], [], w, 0, 0) (fun res w' => res = some (.int (if l ≤ x ∧ x ≤ m then 1 else 0)) ∧ w' = w) := by
  have hM : am_P[95]? = some zm_X10_within := rfl
  refine ar_iload_n (pc' := 1) hM rfl rfl rfl ?_
  refine ar_iload_n (pc' := 2) hM rfl rfl rfl ?_
  refine ar_icmp_lt (pc' := 5) hM rfl rfl (fun c2 => ?_) (fun c2 => ?_)
  · refine ar_iconst (x := 0) (pc' := 15) hM rfl (by decide) rfl ?_
    refine ar_ireturn hM rfl (Or.inr (Or.inl rfl)) ?_
    exact ⟨by rw [if_neg (fun h => absurd h.1 (Int32.not_le.mpr c2))], rfl⟩
  · refine ar_iload_n (pc' := 6) hM rfl rfl rfl ?_
    refine ar_iload_n (pc' := 7) hM rfl rfl rfl ?_
    refine ar_icmp_gt (pc' := 10) hM rfl rfl (fun c7 => ?_) (fun c7 => ?_)
    · refine ar_iconst (x := 0) (pc' := 15) hM rfl (by decide) rfl ?_
      refine ar_ireturn hM rfl (Or.inr (Or.inl rfl)) ?_
      exact ⟨by rw [if_neg (fun h => absurd h.2 (Int32.not_le.mpr c7))], rfl⟩
    · refine ar_iconst (x := 1) (pc' := 11) hM rfl (by decide) rfl ?_
      refine ar_goto hM rfl ?_
      refine ar_ireturn hM rfl (Or.inr (Or.inr rfl)) ?_
      exact ⟨by rw [if_pos ⟨Int32.not_lt.mp c2, Int32.not_lt.mp c7⟩], rfl⟩
def i_lie (k : Int32) : Int32 := if k = 3 then 2 else 0
def i_wbk (x k : Int32) : Int32 := if k = 1 then x + 3 else if k = 2 then 2 * x else x
set_option maxRecDepth 100000 in
set_option maxHeartbeats 4000000 in
theorem c_lieOf (w : am_W) (k : Int32) : am_Go 101 (0, [.int k], [], w, 0, 0) (fun res w' => res = some (.int (i_lie k)) ∧ w' = w) := by
  have hM : am_P[101]? = some zm_X10_lieOf := rfl
  refine ar_iload_n (pc' := 1) hM rfl rfl rfl ?_
  refine ar_iconst (x := 3) (pc' := 2) hM rfl (by decide) rfl ?_
  refine ar_icmp_ne (pc' := 5) hM rfl rfl (fun c2 => ?_) (fun c2 => ?_)
  · refine ar_iconst (x := 0) (pc' := 10) hM rfl (by decide) rfl ?_
    refine ar_ireturn hM rfl (Or.inl rfl) ?_
    exact ⟨by simp [i_lie, c2], rfl⟩
  · refine ar_iconst (x := 2) (pc' := 6) hM rfl (by decide) rfl ?_
    refine ar_goto hM rfl ?_
    refine ar_ireturn hM rfl (Or.inl rfl) ?_
    exact ⟨by simp [i_lie, c2], rfl⟩
set_option maxRecDepth 100000 in
set_option maxHeartbeats 4000000 in
theorem c_wantByKind (w : am_W) (x k : Int32) : am_Go 100 (0, [.int x, .int k], [], w, 0, 0) (fun res w' => res = some (.int (i_wbk x k)) ∧ w' = w) := by
  have hM : am_P[100]? = some zm_X10_wantByKind := rfl
  refine ar_iload_n (pc' := 1) hM rfl rfl rfl ?_
  by_cases k1 : k = 1
  · refine ar_lookup (t := 28) hM rfl (by rw [k1]; rfl) ?_
    refine ar_iload_n (pc' := 29) hM rfl rfl rfl ?_
    refine ar_iconst (x := 3) (pc' := 30) hM rfl (by decide) rfl ?_
    refine ar_iadd (pc' := 31) hM rfl rfl ?_
    refine ar_ireturn hM rfl (Or.inl rfl) ?_
    exact ⟨by simp [i_wbk, k1], rfl⟩
  by_cases k2 : k = 2
  · refine ar_lookup (t := 32) hM rfl (by rw [k2]; rfl) ?_
    refine ar_iconst (x := 2) (pc' := 33) hM rfl (by decide) rfl ?_
    refine ar_iload_n (pc' := 34) hM rfl rfl rfl ?_
    refine ar_imul (pc' := 35) hM rfl rfl ?_
    refine ar_ireturn hM rfl (Or.inl rfl) ?_
    exact ⟨by simp [i_wbk, k1, k2], rfl⟩
  · refine ar_lookup (t := 36) hM rfl (by rw [show Op.lookupswitch.offset (#[(1, 27), (2, 31)] : Array (Int × Int)).toList 35 (Int32.toInt k) = 35 from by rw [show (#[(1, 27), (2, 31)] : Array (Int × Int)).toList = [(1, 27), (2, 31)] from rfl, lv_osw (a := 1) k1 (by decide), lv_osw (a := 2) k2 (by decide)]; rfl]; rfl) ?_
    refine ar_iload_n (pc' := 37) hM rfl rfl rfl ?_
    refine ar_ireturn hM rfl (Or.inl rfl) ?_
    exact ⟨by simp [i_wbk, k1, k2], rfl⟩
def i_bit (x h : Int32) : Prop := (x >>> (h &&& 31)) &&& 1 = 1
set_option maxRecDepth 100000 in
set_option maxHeartbeats 4000000 in
theorem c_isSalted (w : am_W) (s : Nat) (h2s : 2 ≤ s) (so ss sl : Nat → Int32) (sa sw sd : Int32) (hs0 : w[s]? = some (.inr (6, [.ref (s + 1), .ref (s + 2), .ref (s + 3), .int sa, .int sw, .int sd]))) (hs1 : w[s + 1]? = some (.inl (0, 6, .inl so))) (hs2 : w[s + 2]? = some (.inl (0, 6, .inl ss))) (hs3 : w[s + 3]? = some (.inl (0, 6, .inl sl))) (h : Int32) : am_Go 45 (0, [.ref s, .int h], [], w, 0, 0) (fun res w' => res = some (.int (if (sa >>> (h &&& 31)) &&& 1 = 1 then 1 else 0)) ∧ w' = w) := by
  have hM : am_P[45]? = some zm_X6_isSalted := rfl
  refine ar_aload_n (pc' := 1) hM rfl rfl rfl ?_
  refine ar_getfield (pc' := 4) hM rfl hs0 rfl rfl ?_
  refine ar_iload_n (pc' := 5) hM rfl rfl rfl ?_
  refine ar_ishr (pc' := 6) hM rfl rfl ?_
  refine ar_iconst (x := 1) (pc' := 7) hM rfl (by decide) rfl ?_
  refine ar_iand (pc' := 8) hM rfl rfl ?_
  refine ar_iconst (x := 1) (pc' := 9) hM rfl (by decide) rfl ?_
  refine ar_icmp_ne (pc' := 12) hM rfl rfl (fun c9 => ?_) (fun c9 => ?_)
  · refine ar_iconst (x := 0) (pc' := 17) hM rfl (by decide) rfl ?_
    refine ar_ireturn hM rfl (Or.inr (Or.inl rfl)) ?_
    exact ⟨by simp [c9], rfl⟩
  · refine ar_iconst (x := 1) (pc' := 13) hM rfl (by decide) rfl ?_
    refine ar_goto hM rfl ?_
    refine ar_ireturn hM rfl (Or.inr (Or.inr rfl)) ?_
    exact ⟨by simp [c9], rfl⟩
set_option maxRecDepth 100000 in
set_option maxHeartbeats 4000000 in
theorem c_isAway (w : am_W) (s : Nat) (h2s : 2 ≤ s) (so ss sl : Nat → Int32) (sa sw sd : Int32) (hs0 : w[s]? = some (.inr (6, [.ref (s + 1), .ref (s + 2), .ref (s + 3), .int sa, .int sw, .int sd]))) (hs1 : w[s + 1]? = some (.inl (0, 6, .inl so))) (hs2 : w[s + 2]? = some (.inl (0, 6, .inl ss))) (hs3 : w[s + 3]? = some (.inl (0, 6, .inl sl))) (h : Int32) : am_Go 47 (0, [.ref s, .int h], [], w, 0, 0) (fun res w' => res = some (.int (if (sw >>> (h &&& 31)) &&& 1 = 1 then 1 else 0)) ∧ w' = w) := by
  have hM : am_P[47]? = some zm_X6_isAway := rfl
  refine ar_aload_n (pc' := 1) hM rfl rfl rfl ?_
  refine ar_getfield (pc' := 4) hM rfl hs0 rfl rfl ?_
  refine ar_iload_n (pc' := 5) hM rfl rfl rfl ?_
  refine ar_ishr (pc' := 6) hM rfl rfl ?_
  refine ar_iconst (x := 1) (pc' := 7) hM rfl (by decide) rfl ?_
  refine ar_iand (pc' := 8) hM rfl rfl ?_
  refine ar_iconst (x := 1) (pc' := 9) hM rfl (by decide) rfl ?_
  refine ar_icmp_ne (pc' := 12) hM rfl rfl (fun c9 => ?_) (fun c9 => ?_)
  · refine ar_iconst (x := 0) (pc' := 17) hM rfl (by decide) rfl ?_
    refine ar_ireturn hM rfl (Or.inr (Or.inl rfl)) ?_
    exact ⟨by simp [c9], rfl⟩
  · refine ar_iconst (x := 1) (pc' := 13) hM rfl (by decide) rfl ?_
    refine ar_goto hM rfl ?_
    refine ar_ireturn hM rfl (Or.inr (Or.inr rfl)) ?_
    exact ⟨by simp [c9], rfl⟩
set_option maxRecDepth 100000 in
set_option maxHeartbeats 4000000 in
theorem c_giveSalt (w : am_W) (s : Nat) (h2s : 2 ≤ s) (so ss sl : Nat → Int32) (sa sw sd : Int32) (hs0 : w[s]? = some (.inr (6, [.ref (s + 1), .ref (s + 2), .ref (s + 3), .int sa, .int sw, .int sd]))) (hs1 : w[s + 1]? = some (.inl (0, 6, .inl so))) (hs2 : w[s + 2]? = some (.inl (0, 6, .inl ss))) (hs3 : w[s + 3]? = some (.inl (0, 6, .inl sl))) (h : Int32) : am_Go 46 (0, [.ref s, .int h], [], w, 0, 0) (fun res w' => res = none ∧ w' = w.set s (.inr (6, [.ref (s + 1), .ref (s + 2), .ref (s + 3), .int (sa ||| (1 <<< (h &&& 31))), .int sw, .int sd]))) := by
  have hM : am_P[46]? = some zm_X6_giveSalt := rfl
  refine ar_aload_n (pc' := 1) hM rfl rfl rfl ?_
  refine ar_dup (pc' := 2) hM rfl rfl rfl ?_
  refine ar_getfield (pc' := 5) hM rfl hs0 rfl rfl ?_
  refine ar_iconst (x := 1) (pc' := 6) hM rfl (by decide) rfl ?_
  refine ar_iload_n (pc' := 7) hM rfl rfl rfl ?_
  refine ar_ishl (pc' := 8) hM rfl rfl ?_
  refine ar_ior (pc' := 9) hM rfl rfl ?_
  refine ar_putfield (pc' := 12) hM rfl hs0 (Nat.le_of_ble_eq_true rfl) rfl (by omega) rfl ?_
  show am_Go 46 (12, [.ref s, .int h], [], (w.set s (.inr (6, [.ref (s + 1), .ref (s + 2), .ref (s + 3), .int (sa ||| (1 <<< (h &&& 31))), .int sw, .int sd]))), 0, 0) _
  refine ar_return hM rfl ?_
  exact ⟨rfl, rfl⟩
set_option maxRecDepth 100000 in
set_option maxHeartbeats 4000000 in
theorem c_turnAway (w : am_W) (s : Nat) (h2s : 2 ≤ s) (so ss sl : Nat → Int32) (sa sw sd : Int32) (hs0 : w[s]? = some (.inr (6, [.ref (s + 1), .ref (s + 2), .ref (s + 3), .int sa, .int sw, .int sd]))) (hs1 : w[s + 1]? = some (.inl (0, 6, .inl so))) (hs2 : w[s + 2]? = some (.inl (0, 6, .inl ss))) (hs3 : w[s + 3]? = some (.inl (0, 6, .inl sl))) (h : Int32) : am_Go 48 (0, [.ref s, .int h], [], w, 0, 0) (fun res w' => res = none ∧ w' = w.set s (.inr (6, [.ref (s + 1), .ref (s + 2), .ref (s + 3), .int sa, .int (sw ^^^ (1 <<< (h &&& 31))), .int sd]))) := by
  have hM : am_P[48]? = some zm_X6_turnAway := rfl
  refine ar_aload_n (pc' := 1) hM rfl rfl rfl ?_
  refine ar_dup (pc' := 2) hM rfl rfl rfl ?_
  refine ar_getfield (pc' := 5) hM rfl hs0 rfl rfl ?_
  refine ar_iconst (x := 1) (pc' := 6) hM rfl (by decide) rfl ?_
  refine ar_iload_n (pc' := 7) hM rfl rfl rfl ?_
  refine ar_ishl (pc' := 8) hM rfl rfl ?_
  refine ar_ixor (pc' := 9) hM rfl rfl ?_
  refine ar_putfield (pc' := 12) hM rfl hs0 (Nat.le_of_ble_eq_true rfl) rfl (by omega) rfl ?_
  show am_Go 48 (12, [.ref s, .int h], [], (w.set s (.inr (6, [.ref (s + 1), .ref (s + 2), .ref (s + 3), .int sa, .int (sw ^^^ (1 <<< (h &&& 31))), .int sd]))), 0, 0) _
  refine ar_return hM rfl ?_
  exact ⟨rfl, rfl⟩
set_option maxRecDepth 100000 in
set_option maxHeartbeats 4000000 in
theorem c_countPresent (w : am_W) (s : Nat) (h2s : 2 ≤ s) (so ss sl : Nat → Int32) (sa sw sd : Int32) (hs0 : w[s]? = some (.inr (6, [.ref (s + 1), .ref (s + 2), .ref (s + 3), .int sa, .int sw, .int sd]))) (hs1 : w[s + 1]? = some (.inl (0, 6, .inl so))) (hs2 : w[s + 2]? = some (.inl (0, 6, .inl ss))) (hs3 : w[s + 3]? = some (.inl (0, 6, .inl sl))) (h : Int32) : am_Go 49 (0, [.ref s, .int h], [], w, 0, 0) (fun res w' => res = some (.int (h - i_bc sw)) ∧ w' = w) := by
  have hM : am_P[49]? = some zm_X6_countPresent := rfl
  refine ar_iload_n (pc' := 1) hM rfl rfl rfl ?_
  refine ar_aload_n (pc' := 2) hM rfl rfl rfl ?_
  refine ar_getfield (pc' := 5) hM rfl hs0 rfl rfl ?_
  refine ar_static (pc' := 8) (k3 := 0) (k4 := 0) hM rfl (by decide) rfl rfl (c_bitCount _ _) (fun r5 w5 q5 => ?_)
  obtain ⟨rfl, q5w⟩ := q5
  rw [q5w]
  show am_Go 49 (8, [.ref s, .int h], [.int (i_bc sw), .int h], w, 0, 0) _
  refine ar_isub (pc' := 9) hM rfl rfl ?_
  refine ar_ireturn hM rfl (Or.inl rfl) ?_
  exact ⟨rfl, rfl⟩
set_option maxRecDepth 100000 in
set_option maxHeartbeats 4000000 in
theorem c_copyFrom (w : am_W) (s : Nat) (h2s : 2 ≤ s) (so ss sl : Nat → Int32) (sa sw sd : Int32) (hs0 : w[s]? = some (.inr (6, [.ref (s + 1), .ref (s + 2), .ref (s + 3), .int sa, .int sw, .int sd]))) (hs1 : w[s + 1]? = some (.inl (0, 6, .inl so))) (hs2 : w[s + 2]? = some (.inl (0, 6, .inl ss))) (hs3 : w[s + 3]? = some (.inl (0, 6, .inl sl))) (o : Nat) (h2o : 2 ≤ o) (hdj : s + 4 ≤ o ∨ o + 4 ≤ s) (oo os ol : Nat → Int32) (oa ow od : Int32) (ho0 : w[o]? = some (.inr (6, [.ref (o + 1), .ref (o + 2), .ref (o + 3), .int oa, .int ow, .int od]))) (ho1 : w[o + 1]? = some (.inl (0, 6, .inl oo))) (ho2 : w[o + 2]? = some (.inl (0, 6, .inl os))) (ho3 : w[o + 3]? = some (.inl (0, 6, .inl ol))) : am_Go 42 (0, [.ref s, .ref o], [], w, 0, 0) (fun res w' => res = none ∧ w' = (((w.set (s + 1) (.inl (0, 6, .inl (va_cpy oo so 0 0 6)))).set (s + 2) (.inl (0, 6, .inl (va_cpy os ss 0 0 6)))).set (s + 3) (.inl (0, 6, .inl (va_cpy ol sl 0 0 6)))).set s (.inr (6, [.ref (s + 1), .ref (s + 2), .ref (s + 3), .int oa, .int ow, .int od]))) := by
  have hM : am_P[42]? = some zm_X6_copyFrom := rfl
  refine ar_aload_n (pc' := 1) hM rfl rfl rfl ?_
  refine ar_getfield (pc' := 4) hM rfl ho0 rfl rfl ?_
  refine ar_iconst (x := 0) (pc' := 5) hM rfl (by decide) rfl ?_
  refine ar_aload_n (pc' := 6) hM rfl rfl rfl ?_
  refine ar_getfield (pc' := 9) hM rfl hs0 rfl rfl ?_
  refine ar_iconst (x := 0) (pc' := 10) hM rfl (by decide) rfl ?_
  refine ar_bipush (x := 6) (pc' := 12) hM rfl (by decide) rfl ?_
  refine ar_arraycopyN (pc' := 15) (m := 6) hM rfl rfl ho1 hs1 (by decide) (Nat.le_of_ble_eq_true rfl) (Nat.le_of_ble_eq_true rfl) (Nat.le_of_ble_eq_true rfl) (by omega) (by omega) (Nat.le_of_ble_eq_true rfl) rfl ?_
  refine ar_aload_n (pc' := 16) hM rfl rfl rfl ?_
  refine ar_getfield (pc' := 19) hM rfl (am_gn (by omega) ho0) rfl rfl ?_
  refine ar_iconst (x := 0) (pc' := 20) hM rfl (by decide) rfl ?_
  refine ar_aload_n (pc' := 21) hM rfl rfl rfl ?_
  refine ar_getfield (pc' := 24) hM rfl (am_gn (by omega) hs0) rfl rfl ?_
  refine ar_iconst (x := 0) (pc' := 25) hM rfl (by decide) rfl ?_
  refine ar_bipush (x := 6) (pc' := 27) hM rfl (by decide) rfl ?_
  refine ar_arraycopyN (pc' := 30) (m := 6) hM rfl rfl (am_gn (by omega) ho2) (am_gn (by omega) hs2) (by decide) (Nat.le_of_ble_eq_true rfl) (Nat.le_of_ble_eq_true rfl) (Nat.le_of_ble_eq_true rfl) (by omega) (by omega) (Nat.le_of_ble_eq_true rfl) rfl ?_
  refine ar_aload_n (pc' := 31) hM rfl rfl rfl ?_
  refine ar_getfield (pc' := 34) hM rfl (am_gn (by omega) (am_gn (by omega) ho0)) rfl rfl ?_
  refine ar_iconst (x := 0) (pc' := 35) hM rfl (by decide) rfl ?_
  refine ar_aload_n (pc' := 36) hM rfl rfl rfl ?_
  refine ar_getfield (pc' := 39) hM rfl (am_gn (by omega) (am_gn (by omega) hs0)) rfl rfl ?_
  refine ar_iconst (x := 0) (pc' := 40) hM rfl (by decide) rfl ?_
  refine ar_bipush (x := 6) (pc' := 42) hM rfl (by decide) rfl ?_
  refine ar_arraycopyN (pc' := 45) (m := 6) hM rfl rfl (am_gn (by omega) (am_gn (by omega) ho3)) (am_gn (by omega) (am_gn (by omega) hs3)) (by decide) (Nat.le_of_ble_eq_true rfl) (Nat.le_of_ble_eq_true rfl) (Nat.le_of_ble_eq_true rfl) (by omega) (by omega) (Nat.le_of_ble_eq_true rfl) rfl ?_
  refine ar_aload_n (pc' := 46) hM rfl rfl rfl ?_
  refine ar_aload_n (pc' := 47) hM rfl rfl rfl ?_
  refine ar_getfield (pc' := 50) hM rfl (am_gn (by omega) (am_gn (by omega) (am_gn (by omega) ho0))) rfl rfl ?_
  refine ar_putfield (pc' := 53) hM rfl (am_gn (by omega) (am_gn (by omega) (am_gn (by omega) hs0))) (Nat.le_of_ble_eq_true rfl) rfl (by omega) rfl ?_
  show am_Go 42 (53, [.ref s, .ref o], [], ((((w.set (s + 1) (.inl (0, 6, .inl (va_cpy oo so 0 0 6)))).set (s + 2) (.inl (0, 6, .inl (va_cpy os ss 0 0 6)))).set (s + 3) (.inl (0, 6, .inl (va_cpy ol sl 0 0 6)))).set s (.inr (6, [.ref (s + 1), .ref (s + 2), .ref (s + 3), .int oa, .int sw, .int sd]))), 0, 0) _
  refine ar_aload_n (pc' := 54) hM rfl rfl rfl ?_
  refine ar_aload_n (pc' := 55) hM rfl rfl rfl ?_
  refine ar_getfield (pc' := 58) hM rfl (am_gn (by omega) (am_gn (by omega) (am_gn (by omega) (am_gn (by omega) ho0)))) rfl rfl ?_
  refine ar_putfield (pc' := 61) hM rfl (am_gs (am_gn (by omega) (am_gn (by omega) (am_gn (by omega) hs0)))) (Nat.le_of_ble_eq_true rfl) rfl (by omega) rfl ?_
  show am_Go 42 (61, [.ref s, .ref o], [], (((((w.set (s + 1) (.inl (0, 6, .inl (va_cpy oo so 0 0 6)))).set (s + 2) (.inl (0, 6, .inl (va_cpy os ss 0 0 6)))).set (s + 3) (.inl (0, 6, .inl (va_cpy ol sl 0 0 6)))).set s (.inr (6, [.ref (s + 1), .ref (s + 2), .ref (s + 3), .int oa, .int sw, .int sd]))).set s (.inr (6, [.ref (s + 1), .ref (s + 2), .ref (s + 3), .int oa, .int ow, .int sd]))), 0, 0) _
  refine ar_aload_n (pc' := 62) hM rfl rfl rfl ?_
  refine ar_aload_n (pc' := 63) hM rfl rfl rfl ?_
  refine ar_getfield (pc' := 66) hM rfl (am_gn (by omega) (am_gn (by omega) (am_gn (by omega) (am_gn (by omega) (am_gn (by omega) ho0))))) rfl rfl ?_
  refine ar_putfield (pc' := 69) hM rfl (am_gs (am_gs (am_gn (by omega) (am_gn (by omega) (am_gn (by omega) hs0))))) (Nat.le_of_ble_eq_true rfl) rfl (by omega) rfl ?_
  show am_Go 42 (69, [.ref s, .ref o], [], ((((((w.set (s + 1) (.inl (0, 6, .inl (va_cpy oo so 0 0 6)))).set (s + 2) (.inl (0, 6, .inl (va_cpy os ss 0 0 6)))).set (s + 3) (.inl (0, 6, .inl (va_cpy ol sl 0 0 6)))).set s (.inr (6, [.ref (s + 1), .ref (s + 2), .ref (s + 3), .int oa, .int sw, .int sd]))).set s (.inr (6, [.ref (s + 1), .ref (s + 2), .ref (s + 3), .int oa, .int ow, .int sd]))).set s (.inr (6, [.ref (s + 1), .ref (s + 2), .ref (s + 3), .int oa, .int ow, .int od]))), 0, 0) _
  refine ar_return hM rfl ?_
  rw [show (((((w.set (s + 1) (.inl (0, 6, .inl (va_cpy oo so 0 0 6)))).set (s + 2) (.inl (0, 6, .inl (va_cpy os ss 0 0 6)))).set (s + 3) (.inl (0, 6, .inl (va_cpy ol sl 0 0 6)))).set s (.inr (6, [.ref (s + 1), .ref (s + 2), .ref (s + 3), .int oa, .int sw, .int sd]))).set s (.inr (6, [.ref (s + 1), .ref (s + 2), .ref (s + 3), .int oa, .int ow, .int sd]))) = ((((w.set (s + 1) (.inl (0, 6, .inl (va_cpy oo so 0 0 6)))).set (s + 2) (.inl (0, 6, .inl (va_cpy os ss 0 0 6)))).set (s + 3) (.inl (0, 6, .inl (va_cpy ol sl 0 0 6)))).set s (.inr (6, [.ref (s + 1), .ref (s + 2), .ref (s + 3), .int oa, .int ow, .int sd]))) from by rw [List.set_set]]
  rw [show (((((w.set (s + 1) (.inl (0, 6, .inl (va_cpy oo so 0 0 6)))).set (s + 2) (.inl (0, 6, .inl (va_cpy os ss 0 0 6)))).set (s + 3) (.inl (0, 6, .inl (va_cpy ol sl 0 0 6)))).set s (.inr (6, [.ref (s + 1), .ref (s + 2), .ref (s + 3), .int oa, .int ow, .int sd]))).set s (.inr (6, [.ref (s + 1), .ref (s + 2), .ref (s + 3), .int oa, .int ow, .int od]))) = ((((w.set (s + 1) (.inl (0, 6, .inl (va_cpy oo so 0 0 6)))).set (s + 2) (.inl (0, 6, .inl (va_cpy os ss 0 0 6)))).set (s + 3) (.inl (0, 6, .inl (va_cpy ol sl 0 0 6)))).set s (.inr (6, [.ref (s + 1), .ref (s + 2), .ref (s + 3), .int oa, .int ow, .int od]))) from by rw [List.set_set]]
  exact ⟨rfl, rfl⟩
end
section
/-! Standing, Text, Told -/
theorem am_si {w : am_W} {a : Nat} {e : am_E} (h : w[a]? = some e) : w.set a e = w := by
  apply List.ext_getElem?
  intro i
  by_cases q : a = i
  · subst q; rw [am_gs h, h]
  · rw [List.getElem?_set_ne q]
theorem i_pred {n : Nat} (h : 0 < n) : nI n - 1 = nI (n - 1) := by
  obtain ⟨m, rfl⟩ : ∃ m, n = m + 1 := ⟨n - 1, by omega⟩
  exact nI_pred m
theorem am_fs {f F : Nat → Int32} {j : Nat} {x : Int32} (h : ∀ p, p < j → f p = F p) (hx : x = F j) : ∀ p, p < j + 1 → upd f j x p = F p := by
  intro p hp
  by_cases q : p = j
  · subst q; rw [pk_us]; exact hx
  · rw [pk_un q]; exact h p (by omega)
theorem am_fs0 {f F : Nat → Int32} {j : Nat} (h : ∀ p, p < j → f p = F p) (hx : f j = F j) : ∀ p, p < j + 1 → f p = F p := by
  intro p hp
  by_cases q : p = j
  · subst q; exact hx
  · exact h p (by omega)
theorem am_ft {f g : Nat → Int32} {j : Nat} {x : Int32} (h : ∀ p, j ≤ p → f p = g p) : ∀ p, j + 1 ≤ p → upd f j x p = g p := fun p hp => by rw [pk_un (by omega)]; exact h p (by omega)
theorem am_ft0 {f g : Nat → Int32} {j : Nat} (h : ∀ p, j ≤ p → f p = g p) : ∀ p, j + 1 ≤ p → f p = g p := fun p hp => h p (by omega)
theorem i_fit1 {x : Int32} (h : x = 0 ∨ x = 1) : am_fit 1 (.int x) = true := by rcases h with rfl | rfl <;> rfl
theorem i_pos {n : Nat} (h : 0 < nI n) : 0 < n := by
  rcases Nat.eq_zero_or_pos n with q | q
  · subst q; exact absurd h (by decide)
  · exact q
theorem i_npos {n : Nat} (h : ¬ 0 < nI n) (hn : n < 2 ^ 31) : n = 0 := by
  rcases Nat.eq_zero_or_pos n with q | q
  · exact q
  · exact absurd (nI_lt (a := 0) q hn) h
def i_heat (kk : Nat) (he : Nat → Int32) (d : Nat) : Int32 := if kk = 0 then 0 else he (d % kk)
set_option maxRecDepth 100000 in
set_option maxHeartbeats 4000000 in
theorem c_standAsTold (w : am_W) (s : Nat) (h2s : 2 ≤ s) (so ss sl : Nat → Int32) (sa sw sd : Int32) (hs0 : w[s]? = some (.inr (6, [.ref (s + 1), .ref (s + 2), .ref (s + 3), .int sa, .int sw, .int sd]))) (hs1 : w[s + 1]? = some (.inl (0, 6, .inl so))) (hs2 : w[s + 2]? = some (.inl (0, 6, .inl ss))) (hs3 : w[s + 3]? = some (.inl (0, 6, .inl sl))) : am_Go 41 (0, [.ref s, .float 0], [], w, 0, 0) (fun res w' => ∃ f, res = none ∧ w' = w.set (s + 1) (.inl (0, 6, .inl f)) ∧ ∀ p, p < 6 → f p = nI p) := by
  have hM : am_P[41]? = some zm_X6_standAsTold := rfl
  refine ar_iconst (x := 0) (pc' := 1) hM rfl (by decide) rfl ?_
  refine ar_istore_n (pc' := 2) hM rfl rfl rfl rfl ?_
  have loop : ∀ (dj j : Nat) (f : Nat → Int32), dj + j = 6 → (∀ p, p < j → f p = nI p) → am_Go 41 (2, [.ref s, .int (nI j)], [], (w.set (s + 1) (.inl (0, 6, .inl f))), 0, 0) (fun res w' => ∃ f, res = none ∧ w' = w.set (s + 1) (.inl (0, 6, .inl f)) ∧ ∀ p, p < 6 → f p = nI p) := by
    intro dj
    induction dj with
    | zero =>
      intro j f hj hf
      refine ar_iload_n (pc' := 3) hM rfl rfl rfl ?_
      refine ar_bipush (x := 6) (pc' := 5) hM rfl (by decide) rfl ?_
      refine ar_icmp_ge (pc' := 8) hM rfl rfl (fun _ => ?_) (fun q => absurd (nI_le (a := 6) (b := j) (by omega) (by omega)) q)
      refine ar_return hM rfl ?_
      exact ⟨f, rfl, rfl, fun p hp => hf p (by omega)⟩
    | succ dj ih =>
      intro j f hj hf
      refine ar_iload_n (pc' := 3) hM rfl rfl rfl ?_
      refine ar_bipush (x := 6) (pc' := 5) hM rfl (by decide) rfl ?_
      refine ar_icmp_ge (pc' := 8) hM rfl rfl (fun q => absurd q (nI_ge (a := j) (b := 6) (by omega) (by omega))) (fun _ => ?_)
      refine ar_aload_n (pc' := 9) hM rfl rfl rfl ?_
      refine ar_getfield (pc' := 12) hM rfl (am_gn (by omega) hs0) rfl rfl ?_
      refine ar_iload_n (pc' := 13) hM rfl rfl rfl ?_
      refine ar_iload_n (pc' := 14) hM rfl rfl rfl ?_
      refine ar_iastoreN (j := j) (pc' := 15) hM rfl (am_gs hs1) rfl (by omega) (Nat.le_of_ble_eq_true rfl) (by omega) rfl ?_
      refine ar_iinc (z := nI (j + 1)) (pc' := 18) hM rfl rfl (nI_1 _) rfl rfl rfl ?_
      refine ar_goto hM rfl ?_
      rw [show ((w.set (s + 1) (.inl (0, 6, .inl f))).set (s + 1) (.inl (0, 6, .inl (upd f j (nI j))))) = (w.set (s + 1) (.inl (0, 6, .inl (upd f j (nI j))))) from by rw [List.set_set]]
      exact ih (j + 1) (upd f j (nI j)) (by omega) (am_fs hf rfl)
  have hl0 := loop (6) 0 so (by omega) (fun p hp => by omega)
  rw [am_si hs1] at hl0
  exact hl0
set_option maxRecDepth 100000 in
set_option maxHeartbeats 4000000 in
theorem c_sclear (w : am_W) (s : Nat) (h2s : 2 ≤ s) (so ss sl : Nat → Int32) (sa sw sd : Int32) (hs0 : w[s]? = some (.inr (6, [.ref (s + 1), .ref (s + 2), .ref (s + 3), .int sa, .int sw, .int sd]))) (hs1 : w[s + 1]? = some (.inl (0, 6, .inl so))) (hs2 : w[s + 2]? = some (.inl (0, 6, .inl ss))) (hs3 : w[s + 3]? = some (.inl (0, 6, .inl sl))) : am_Go 40 (0, [.ref s, .float 0], [], w, 0, 0) (fun res w' => ∃ f g l, res = none ∧ w' = (((w.set (s + 1) (.inl (0, 6, .inl f))).set (s + 2) (.inl (0, 6, .inl g))).set (s + 3) (.inl (0, 6, .inl l))).set s (.inr (6, [.ref (s + 1), .ref (s + 2), .ref (s + 3), .int 0, .int 0, .int 0])) ∧ (∀ p, p < 6 → f p = nI p) ∧ (∀ p, p < 6 → g p = 0) ∧ (∀ p, p < 6 → l p = 0)) := by
  have hM : am_P[40]? = some zm_X6_clear := rfl
  refine ar_aload_n (pc' := 1) hM rfl rfl rfl ?_
  refine ar_virtual (pc' := 4) (k3 := 0) (k4 := 0) hM rfl rfl hs0 ⟨rfl, (by omega)⟩ rfl rfl (c_standAsTold _ s h2s _ _ _ _ _ _ hs0 hs1 hs2 hs3) (fun r1 w1 q1 => ?_)
  obtain ⟨f0, rfl, hw, hf0⟩ := q1
  rw [hw]
  show am_Go 40 (4, [.ref s, .float 0], [], (w.set (s + 1) (.inl (0, 6, .inl f0))), 0, 0) _
  refine ar_iconst (x := 0) (pc' := 5) hM rfl (by decide) rfl ?_
  refine ar_istore_n (pc' := 6) hM rfl rfl rfl rfl ?_
  have loop : ∀ (dj j : Nat) (g : Nat → Int32) (l : Nat → Int32), dj + j = 6 → (∀ p, p < j → g p = (fun _ => 0) p) → (∀ p, p < j → l p = (fun _ => 0) p) → am_Go 40 (6, [.ref s, .int (nI j)], [], (((w.set (s + 1) (.inl (0, 6, .inl f0))).set (s + 2) (.inl (0, 6, .inl g))).set (s + 3) (.inl (0, 6, .inl l))), 0, 0) (fun res w' => ∃ f g l, res = none ∧ w' = (((w.set (s + 1) (.inl (0, 6, .inl f))).set (s + 2) (.inl (0, 6, .inl g))).set (s + 3) (.inl (0, 6, .inl l))).set s (.inr (6, [.ref (s + 1), .ref (s + 2), .ref (s + 3), .int 0, .int 0, .int 0])) ∧ (∀ p, p < 6 → f p = nI p) ∧ (∀ p, p < 6 → g p = 0) ∧ (∀ p, p < 6 → l p = 0)) := by
    intro dj
    induction dj with
    | zero =>
      intro j g l hj hg hl
      refine ar_iload_n (pc' := 7) hM rfl rfl rfl ?_
      refine ar_bipush (x := 6) (pc' := 9) hM rfl (by decide) rfl ?_
      refine ar_icmp_ge (pc' := 12) hM rfl rfl (fun _ => ?_) (fun q => absurd (nI_le (a := 6) (b := j) (by omega) (by omega)) q)
      refine ar_aload_n (pc' := 33) hM rfl rfl rfl ?_
      refine ar_iconst (x := 0) (pc' := 34) hM rfl (by decide) rfl ?_
      refine ar_putfield (pc' := 37) hM rfl (am_gn (by omega) (am_gn (by omega) (am_gn (by omega) hs0))) (Nat.le_of_ble_eq_true rfl) rfl (by omega) rfl ?_
      show am_Go 40 (37, [.ref s, .int (nI j)], [], ((((w.set (s + 1) (.inl (0, 6, .inl f0))).set (s + 2) (.inl (0, 6, .inl g))).set (s + 3) (.inl (0, 6, .inl l))).set s (.inr (6, [.ref (s + 1), .ref (s + 2), .ref (s + 3), .int 0, .int sw, .int sd]))), 0, 0) _
      refine ar_aload_n (pc' := 38) hM rfl rfl rfl ?_
      refine ar_iconst (x := 0) (pc' := 39) hM rfl (by decide) rfl ?_
      refine ar_putfield (pc' := 42) hM rfl (am_gs (am_gn (by omega) (am_gn (by omega) (am_gn (by omega) hs0)))) (Nat.le_of_ble_eq_true rfl) rfl (by omega) rfl ?_
      show am_Go 40 (42, [.ref s, .int (nI j)], [], (((((w.set (s + 1) (.inl (0, 6, .inl f0))).set (s + 2) (.inl (0, 6, .inl g))).set (s + 3) (.inl (0, 6, .inl l))).set s (.inr (6, [.ref (s + 1), .ref (s + 2), .ref (s + 3), .int 0, .int sw, .int sd]))).set s (.inr (6, [.ref (s + 1), .ref (s + 2), .ref (s + 3), .int 0, .int 0, .int sd]))), 0, 0) _
      refine ar_aload_n (pc' := 43) hM rfl rfl rfl ?_
      refine ar_iconst (x := 0) (pc' := 44) hM rfl (by decide) rfl ?_
      refine ar_putfield (pc' := 47) hM rfl (am_gs (am_gs (am_gn (by omega) (am_gn (by omega) (am_gn (by omega) hs0))))) (Nat.le_of_ble_eq_true rfl) rfl (by omega) rfl ?_
      show am_Go 40 (47, [.ref s, .int (nI j)], [], ((((((w.set (s + 1) (.inl (0, 6, .inl f0))).set (s + 2) (.inl (0, 6, .inl g))).set (s + 3) (.inl (0, 6, .inl l))).set s (.inr (6, [.ref (s + 1), .ref (s + 2), .ref (s + 3), .int 0, .int sw, .int sd]))).set s (.inr (6, [.ref (s + 1), .ref (s + 2), .ref (s + 3), .int 0, .int 0, .int sd]))).set s (.inr (6, [.ref (s + 1), .ref (s + 2), .ref (s + 3), .int 0, .int 0, .int 0]))), 0, 0) _
      refine ar_return hM rfl ?_
      rw [show (((((w.set (s + 1) (.inl (0, 6, .inl f0))).set (s + 2) (.inl (0, 6, .inl g))).set (s + 3) (.inl (0, 6, .inl l))).set s (.inr (6, [.ref (s + 1), .ref (s + 2), .ref (s + 3), .int 0, .int sw, .int sd]))).set s (.inr (6, [.ref (s + 1), .ref (s + 2), .ref (s + 3), .int 0, .int 0, .int sd]))) = ((((w.set (s + 1) (.inl (0, 6, .inl f0))).set (s + 2) (.inl (0, 6, .inl g))).set (s + 3) (.inl (0, 6, .inl l))).set s (.inr (6, [.ref (s + 1), .ref (s + 2), .ref (s + 3), .int 0, .int 0, .int sd]))) from by rw [List.set_set]]
      rw [show (((((w.set (s + 1) (.inl (0, 6, .inl f0))).set (s + 2) (.inl (0, 6, .inl g))).set (s + 3) (.inl (0, 6, .inl l))).set s (.inr (6, [.ref (s + 1), .ref (s + 2), .ref (s + 3), .int 0, .int 0, .int sd]))).set s (.inr (6, [.ref (s + 1), .ref (s + 2), .ref (s + 3), .int 0, .int 0, .int 0]))) = ((((w.set (s + 1) (.inl (0, 6, .inl f0))).set (s + 2) (.inl (0, 6, .inl g))).set (s + 3) (.inl (0, 6, .inl l))).set s (.inr (6, [.ref (s + 1), .ref (s + 2), .ref (s + 3), .int 0, .int 0, .int 0]))) from by rw [List.set_set]]
      exact ⟨f0, g, l, rfl, rfl, hf0, fun p hp => hg p (by omega), fun p hp => hl p (by omega)⟩
    | succ dj ih =>
      intro j g l hj hg hl
      refine ar_iload_n (pc' := 7) hM rfl rfl rfl ?_
      refine ar_bipush (x := 6) (pc' := 9) hM rfl (by decide) rfl ?_
      refine ar_icmp_ge (pc' := 12) hM rfl rfl (fun q => absurd q (nI_ge (a := j) (b := 6) (by omega) (by omega))) (fun _ => ?_)
      refine ar_aload_n (pc' := 13) hM rfl rfl rfl ?_
      refine ar_getfield (pc' := 16) hM rfl (am_gn (by omega) (am_gn (by omega) (am_gn (by omega) hs0))) rfl rfl ?_
      refine ar_iload_n (pc' := 17) hM rfl rfl rfl ?_
      refine ar_iconst (x := 0) (pc' := 18) hM rfl (by decide) rfl ?_
      refine ar_iastoreN (j := j) (pc' := 19) hM rfl (am_gn (by omega) (am_gs (am_gn (by omega) hs2))) rfl (by omega) (Nat.le_of_ble_eq_true rfl) (by omega) rfl ?_
      refine ar_aload_n (pc' := 20) hM rfl rfl rfl ?_
      refine ar_getfield (pc' := 23) hM rfl (am_gn (by omega) (am_gn (by omega) (am_gn (by omega) (am_gn (by omega) hs0)))) rfl rfl ?_
      refine ar_iload_n (pc' := 24) hM rfl rfl rfl ?_
      refine ar_iconst (x := 0) (pc' := 25) hM rfl (by decide) rfl ?_
      refine ar_iastoreN (j := j) (pc' := 26) hM rfl (am_gn (by omega) (am_gs (am_gn (by omega) (am_gn (by omega) hs3)))) rfl (by omega) (Nat.le_of_ble_eq_true rfl) (by omega) rfl ?_
      refine ar_iinc (z := nI (j + 1)) (pc' := 29) hM rfl rfl (nI_1 _) rfl rfl rfl ?_
      refine ar_goto hM rfl ?_
      rw [show ((((w.set (s + 1) (.inl (0, 6, .inl f0))).set (s + 2) (.inl (0, 6, .inl g))).set (s + 3) (.inl (0, 6, .inl l))).set (s + 2) (.inl (0, 6, .inl (upd g j 0)))) = (((w.set (s + 1) (.inl (0, 6, .inl f0))).set (s + 2) (.inl (0, 6, .inl (upd g j 0)))).set (s + 3) (.inl (0, 6, .inl l))) from by rw [List.set_comm _ _ (show s + 3 ≠ s + 2 by omega), List.set_set]]
      rw [show ((((w.set (s + 1) (.inl (0, 6, .inl f0))).set (s + 2) (.inl (0, 6, .inl (upd g j 0)))).set (s + 3) (.inl (0, 6, .inl l))).set (s + 3) (.inl (0, 6, .inl (upd l j 0)))) = (((w.set (s + 1) (.inl (0, 6, .inl f0))).set (s + 2) (.inl (0, 6, .inl (upd g j 0)))).set (s + 3) (.inl (0, 6, .inl (upd l j 0)))) from by rw [List.set_set]]
      exact ih (j + 1) (upd g j 0) (upd l j 0) (by omega) (am_fs hg rfl) (am_fs hl rfl)
  have hl0 := loop (6) 0 ss sl (by omega) (fun p hp => by omega) (fun p hp => by omega)
  rw [am_si (am_gn (by omega) hs2), am_si (am_gn (by omega) hs3)] at hl0
  exact hl0
set_option maxRecDepth 100000 in
set_option maxHeartbeats 4000000 in
theorem c_placeOf (w : am_W) (s : Nat) (h2s : 2 ≤ s) (so ss sl : Nat → Int32) (sa sw sd : Int32) (hs0 : w[s]? = some (.inr (6, [.ref (s + 1), .ref (s + 2), .ref (s + 3), .int sa, .int sw, .int sd]))) (hs1 : w[s + 1]? = some (.inl (0, 6, .inl so))) (hs2 : w[s + 2]? = some (.inl (0, 6, .inl ss))) (hs3 : w[s + 3]? = some (.inl (0, 6, .inl sl))) (h : Int32) (p : Nat) (hp : p < 6) (hp1 : so p = h) (hp2 : ∀ i, i < p → ¬ so i = h) : am_Go 43 (0, [.ref s, .int h, .float 0], [], w, 0, 0) (fun res w' => res = some (.int (nI p)) ∧ w' = w) := by
  have hM : am_P[43]? = some zm_X6_placeOf := rfl
  refine ar_iconst (x := 0) (pc' := 1) hM rfl (by decide) rfl ?_
  refine ar_istore_n (pc' := 2) hM rfl rfl rfl rfl ?_
  have loop : ∀ (dj j : Nat) , dj + j = p → am_Go 43 (2, [.ref s, .int h, .int (nI j)], [], w, 0, 0) (fun res w' => res = some (.int (nI p)) ∧ w' = w) := by
    intro dj
    induction dj with
    | zero =>
      intro j  hj 
      refine ar_iload_n (pc' := 3) hM rfl rfl rfl ?_
      refine ar_bipush (x := 6) (pc' := 5) hM rfl (by decide) rfl ?_
      refine ar_icmp_ge (pc' := 8) hM rfl rfl (fun q => absurd q (nI_ge (a := j) (b := 6) (by omega) (by omega))) (fun _ => ?_)
      refine ar_aload_n (pc' := 9) hM rfl rfl rfl ?_
      refine ar_getfield (pc' := 12) hM rfl hs0 rfl rfl ?_
      refine ar_iload_n (pc' := 13) hM rfl rfl rfl ?_
      refine ar_ialoadN (j := j) (pc' := 14) hM rfl hs1 rfl (by omega) (Nat.le_of_ble_eq_true rfl) rfl ?_
      refine ar_iload_n (pc' := 15) hM rfl rfl rfl ?_
      refine ar_icmp_ne (pc' := 18) hM rfl rfl (fun q => absurd (show so j = h by rw [show j = p by omega]; exact hp1) q) (fun _ => ?_)
      refine ar_iload_n (pc' := 19) hM rfl rfl rfl ?_
      refine ar_ireturn hM rfl (Or.inl rfl) ?_
      exact ⟨by rw [show j = p by omega], rfl⟩
    | succ dj ih =>
      intro j  hj 
      refine ar_iload_n (pc' := 3) hM rfl rfl rfl ?_
      refine ar_bipush (x := 6) (pc' := 5) hM rfl (by decide) rfl ?_
      refine ar_icmp_ge (pc' := 8) hM rfl rfl (fun q => absurd q (nI_ge (a := j) (b := 6) (by omega) (by omega))) (fun _ => ?_)
      refine ar_aload_n (pc' := 9) hM rfl rfl rfl ?_
      refine ar_getfield (pc' := 12) hM rfl hs0 rfl rfl ?_
      refine ar_iload_n (pc' := 13) hM rfl rfl rfl ?_
      refine ar_ialoadN (j := j) (pc' := 14) hM rfl hs1 rfl (by omega) (Nat.le_of_ble_eq_true rfl) rfl ?_
      refine ar_iload_n (pc' := 15) hM rfl rfl rfl ?_
      refine ar_icmp_ne (pc' := 18) hM rfl rfl (fun _ => ?_) (fun q => absurd q (hp2 j (by omega)))
      refine ar_iinc (z := nI (j + 1)) (pc' := 23) hM rfl rfl (nI_1 _) rfl rfl rfl ?_
      refine ar_goto hM rfl ?_
      exact ih (j + 1) (by omega)
  exact loop (p) 0  (by omega) 
set_option maxRecDepth 100000 in
set_option maxHeartbeats 4000000 in
theorem c_exchange (w : am_W) (s : Nat) (h2s : 2 ≤ s) (so ss sl : Nat → Int32) (sa sw sd : Int32) (hs0 : w[s]? = some (.inr (6, [.ref (s + 1), .ref (s + 2), .ref (s + 3), .int sa, .int sw, .int sd]))) (hs1 : w[s + 1]? = some (.inl (0, 6, .inl so))) (hs2 : w[s + 2]? = some (.inl (0, 6, .inl ss))) (hs3 : w[s + 3]? = some (.inl (0, 6, .inl sl))) (a b : Int32) : am_Go 44 (0, [.ref s, .int a, .int b, .float 0], [], w, 0, 0) (fun res w' => ∃ f, res = none ∧ w' = w.set (s + 1) (.inl (0, 6, .inl f)) ∧ ∀ p, p < 6 → f p = if so p = a then b else if so p = b then a else so p) := by
  have hM : am_P[44]? = some zm_X6_exchange := rfl
  refine ar_iconst (x := 0) (pc' := 1) hM rfl (by decide) rfl ?_
  refine ar_istore_n (pc' := 2) hM rfl rfl rfl rfl ?_
  have loop : ∀ (dj j : Nat) (f : Nat → Int32), dj + j = 6 → (∀ p, p < j → f p = (fun p => if so p = a then b else if so p = b then a else so p) p) → (∀ p, j ≤ p → f p = so p) → am_Go 44 (2, [.ref s, .int a, .int b, .int (nI j)], [], (w.set (s + 1) (.inl (0, 6, .inl f))), 0, 0) (fun res w' => ∃ f, res = none ∧ w' = w.set (s + 1) (.inl (0, 6, .inl f)) ∧ ∀ p, p < 6 → f p = if so p = a then b else if so p = b then a else so p) := by
    intro dj
    induction dj with
    | zero =>
      intro j f hj hf hg
      refine ar_iload_n (pc' := 3) hM rfl rfl rfl ?_
      refine ar_bipush (x := 6) (pc' := 5) hM rfl (by decide) rfl ?_
      refine ar_icmp_ge (pc' := 8) hM rfl rfl (fun _ => ?_) (fun q => absurd (nI_le (a := 6) (b := j) (by omega) (by omega)) q)
      refine ar_return hM rfl ?_
      exact ⟨f, rfl, rfl, fun p hp => hf p (by omega)⟩
    | succ dj ih =>
      intro j f hj hf hg
      refine ar_iload_n (pc' := 3) hM rfl rfl rfl ?_
      refine ar_bipush (x := 6) (pc' := 5) hM rfl (by decide) rfl ?_
      refine ar_icmp_ge (pc' := 8) hM rfl rfl (fun q => absurd q (nI_ge (a := j) (b := 6) (by omega) (by omega))) (fun _ => ?_)
      refine ar_aload_n (pc' := 9) hM rfl rfl rfl ?_
      refine ar_getfield (pc' := 12) hM rfl (am_gn (by omega) hs0) rfl rfl ?_
      refine ar_iload_n (pc' := 13) hM rfl rfl rfl ?_
      refine ar_ialoadN (j := j) (pc' := 14) hM rfl (am_gs hs1) rfl (by omega) (Nat.le_of_ble_eq_true rfl) rfl ?_
      refine ar_iload_n (pc' := 15) hM rfl rfl rfl ?_
      refine ar_icmp_ne (pc' := 18) hM rfl rfl (fun c15 => ?_) (fun c15 => ?_)
      · refine ar_aload_n (pc' := 29) hM rfl rfl rfl ?_
        refine ar_getfield (pc' := 32) hM rfl (am_gn (by omega) hs0) rfl rfl ?_
        refine ar_iload_n (pc' := 33) hM rfl rfl rfl ?_
        refine ar_ialoadN (j := j) (pc' := 34) hM rfl (am_gs hs1) rfl (by omega) (Nat.le_of_ble_eq_true rfl) rfl ?_
        refine ar_iload_n (pc' := 35) hM rfl rfl rfl ?_
        refine ar_icmp_ne (pc' := 38) hM rfl rfl (fun c35 => ?_) (fun c35 => ?_)
        · refine ar_iinc (z := nI (j + 1)) (pc' := 48) hM rfl rfl (nI_1 _) rfl rfl rfl ?_
          refine ar_goto hM rfl ?_
          exact ih (j + 1) f (by omega) (am_fs0 (F := fun p => if so p = a then b else if so p = b then a else so p) hf (by have e := hg j (by omega); rw [e] at c15 c35; simp only [e, if_neg c15, if_neg c35])) (am_ft0 hg)
        · refine ar_aload_n (pc' := 39) hM rfl rfl rfl ?_
          refine ar_getfield (pc' := 42) hM rfl (am_gn (by omega) hs0) rfl rfl ?_
          refine ar_iload_n (pc' := 43) hM rfl rfl rfl ?_
          refine ar_iload_n (pc' := 44) hM rfl rfl rfl ?_
          refine ar_iastoreN (j := j) (pc' := 45) hM rfl (am_gs hs1) rfl (by omega) (Nat.le_of_ble_eq_true rfl) (by omega) rfl ?_
          refine ar_iinc (z := nI (j + 1)) (pc' := 48) hM rfl rfl (nI_1 _) rfl rfl rfl ?_
          refine ar_goto hM rfl ?_
          rw [show ((w.set (s + 1) (.inl (0, 6, .inl f))).set (s + 1) (.inl (0, 6, .inl (upd f j a)))) = (w.set (s + 1) (.inl (0, 6, .inl (upd f j a)))) from by rw [List.set_set]]
          exact ih (j + 1) (upd f j a) (by omega) (am_fs (F := fun p => if so p = a then b else if so p = b then a else so p) hf (by have e := hg j (by omega); rw [e] at c15 c35; simp only [if_neg c15, if_pos c35])) (am_ft hg)
      · refine ar_aload_n (pc' := 19) hM rfl rfl rfl ?_
        refine ar_getfield (pc' := 22) hM rfl (am_gn (by omega) hs0) rfl rfl ?_
        refine ar_iload_n (pc' := 23) hM rfl rfl rfl ?_
        refine ar_iload_n (pc' := 24) hM rfl rfl rfl ?_
        refine ar_iastoreN (j := j) (pc' := 25) hM rfl (am_gs hs1) rfl (by omega) (Nat.le_of_ble_eq_true rfl) (by omega) rfl ?_
        refine ar_goto hM rfl ?_
        refine ar_iinc (z := nI (j + 1)) (pc' := 48) hM rfl rfl (nI_1 _) rfl rfl rfl ?_
        refine ar_goto hM rfl ?_
        rw [show ((w.set (s + 1) (.inl (0, 6, .inl f))).set (s + 1) (.inl (0, 6, .inl (upd f j b)))) = (w.set (s + 1) (.inl (0, 6, .inl (upd f j b)))) from by rw [List.set_set]]
        exact ih (j + 1) (upd f j b) (by omega) (am_fs (F := fun p => if so p = a then b else if so p = b then a else so p) hf (by have e := hg j (by omega); rw [e] at c15; simp only [if_pos c15])) (am_ft hg)
  have hl0 := loop (6) 0 so (by omega) (fun p hp => by omega) (fun p hp => rfl)
  rw [am_si hs1] at hl0
  exact hl0
set_option maxRecDepth 100000 in
set_option maxHeartbeats 4000000 in
theorem c_append (w : am_W) (tl : Nat) (htl : tl ≤ 40) (tx : Nat → Int32) (hx0 : w[3]? = some (.inr (7, [.ref 4, .int (nI tl)]))) (hx1 : w[4]? = some (.inl (0, 40, .inl tx))) (c : Int32) (hc : tl < 40) : am_Go 51 (0, [.ref 3, .int c], [], w, 0, 0) (fun res w' => res = some (.int (nI (tl + 1))) ∧ w' = (w.set 4 (.inl (0, 40, .inl (upd tx tl c)))).set 3 (.inr (7, [.ref 4, .int (nI (tl + 1))]))) := by
  have hM : am_P[51]? = some zm_X7_append := rfl
  refine ar_aload_n (pc' := 1) hM rfl rfl rfl ?_
  refine ar_getfield (pc' := 4) hM rfl hx0 rfl rfl ?_
  refine ar_bipush (x := 40) (pc' := 6) hM rfl (by decide) rfl ?_
  refine ar_icmp_lt (pc' := 9) hM rfl rfl (fun _ => ?_) (fun q => absurd (nI_lt (a := tl) (b := 40) (by omega) (by omega)) q)
  refine ar_aload_n (pc' := 13) hM rfl rfl rfl ?_
  refine ar_getfield (pc' := 16) hM rfl hx0 rfl rfl ?_
  refine ar_aload_n (pc' := 17) hM rfl rfl rfl ?_
  refine ar_getfield (pc' := 20) hM rfl hx0 rfl rfl ?_
  refine ar_iload_n (pc' := 21) hM rfl rfl rfl ?_
  refine ar_iastoreN (j := tl) (pc' := 22) hM rfl hx1 rfl (by omega) (Nat.le_of_ble_eq_true rfl) (by decide) rfl ?_
  refine ar_aload_n (pc' := 23) hM rfl rfl rfl ?_
  refine ar_dup (pc' := 24) hM rfl rfl rfl ?_
  refine ar_getfield (pc' := 27) hM rfl (am_gn (by decide) hx0) rfl rfl ?_
  refine ar_iconst (x := 1) (pc' := 28) hM rfl (by decide) rfl ?_
  refine ar_iadd (pc' := 29) hM rfl rfl ?_
  rw [show ((nI tl) + 1 : Int32) = nI (tl + 1) from nI_1 tl]
  refine ar_putfield (pc' := 32) hM rfl (am_gn (by decide) hx0) (Nat.le_of_ble_eq_true rfl) rfl (by decide) rfl ?_
  show am_Go 51 (32, [.ref 3, .int c], [], ((w.set 4 (.inl (0, 40, .inl (upd tx tl c)))).set 3 (.inr (7, [.ref 4, .int (nI (tl + 1))]))), 0, 0) _
  refine ar_aload_n (pc' := 33) hM rfl rfl rfl ?_
  refine ar_getfield (pc' := 36) hM rfl (am_gs (am_gn (by decide) hx0)) rfl rfl ?_
  refine ar_ireturn hM rfl (Or.inl rfl) ?_
  exact ⟨rfl, rfl⟩
set_option maxRecDepth 100000 in
set_option maxHeartbeats 4000000 in
theorem c_appendF (w : am_W) (tl : Nat) (htl : tl ≤ 40) (tx : Nat → Int32) (hx0 : w[3]? = some (.inr (7, [.ref 4, .int (nI tl)]))) (hx1 : w[4]? = some (.inl (0, 40, .inl tx))) (c : Int32) (hc : tl = 40) : am_Go 51 (0, [.ref 3, .int c], [], w, 0, 0) (fun res w' => res = some (.int (-4)) ∧ w' = w) := by
  have hM : am_P[51]? = some zm_X7_append := rfl
  refine ar_aload_n (pc' := 1) hM rfl rfl rfl ?_
  refine ar_getfield (pc' := 4) hM rfl hx0 rfl rfl ?_
  refine ar_bipush (x := 40) (pc' := 6) hM rfl (by decide) rfl ?_
  refine ar_icmp_lt (pc' := 9) hM rfl rfl (fun q => absurd q (nI_nlt (a := tl) (b := 40) (by omega) (by omega))) (fun _ => ?_)
  refine ar_bipush (x := (-4)) (pc' := 11) hM rfl (by decide) rfl ?_
  refine ar_ireturn hM rfl (Or.inl rfl) ?_
  exact ⟨rfl, rfl⟩
set_option maxRecDepth 100000 in
set_option maxHeartbeats 4000000 in
theorem c_tclear (w : am_W) (tl : Nat) (htl : tl ≤ 40) (tx : Nat → Int32) (hx0 : w[3]? = some (.inr (7, [.ref 4, .int (nI tl)]))) (hx1 : w[4]? = some (.inl (0, 40, .inl tx))) : am_Go 52 (0, [.ref 3, .float 0], [], w, 0, 0) (fun res w' => res = some (.int (nI tl)) ∧ w' = w.set 3 (.inr (7, [.ref 4, .int 0]))) := by
  have hM : am_P[52]? = some zm_X7_clear := rfl
  refine ar_aload_n (pc' := 1) hM rfl rfl rfl ?_
  refine ar_getfield (pc' := 4) hM rfl hx0 rfl rfl ?_
  refine ar_istore_n (pc' := 5) hM rfl rfl rfl rfl ?_
  refine ar_aload_n (pc' := 6) hM rfl rfl rfl ?_
  refine ar_iconst (x := 0) (pc' := 7) hM rfl (by decide) rfl ?_
  refine ar_putfield (pc' := 10) hM rfl hx0 (Nat.le_of_ble_eq_true rfl) rfl (by decide) rfl ?_
  show am_Go 52 (10, [.ref 3, .int (nI tl)], [], (w.set 3 (.inr (7, [.ref 4, .int 0]))), 0, 0) _
  refine ar_iload_n (pc' := 11) hM rfl rfl rfl ?_
  refine ar_ireturn hM rfl (Or.inl rfl) ?_
  exact ⟨rfl, rfl⟩
set_option maxRecDepth 100000 in
set_option maxHeartbeats 4000000 in
theorem c_dclear (w : am_W) (d : Nat) (h2d : 2 ≤ d) (tr ri : Int32) (n kk : Nat) (wa ki ba he : Nat → Int32) (ht0 : w[d]? = some (.inr (9, [.int tr, .int ri, .int (nI n), .int (nI kk), .ref (d + 1), .ref (d + 2), .ref (d + 3), .ref (d + 4)]))) (ht1 : w[d + 1]? = some (.inl (0, 6, .inl wa))) (ht2 : w[d + 2]? = some (.inl (0, 6, .inl ki))) (ht3 : w[d + 3]? = some (.inl (0, 6, .inl ba))) (ht4 : w[d + 4]? = some (.inl (0, 5, .inl he))) : am_Go 60 (0, [.ref d], [], w, 0, 0) (fun res w' => res = none ∧ w' = w.set d (.inr (9, [.int 0, .int 0, .int 0, .int 0, .ref (d + 1), .ref (d + 2), .ref (d + 3), .ref (d + 4)]))) := by
  have hM : am_P[60]? = some zm_X9_clear := rfl
  refine ar_aload_n (pc' := 1) hM rfl rfl rfl ?_
  refine ar_iconst (x := 0) (pc' := 2) hM rfl (by decide) rfl ?_
  refine ar_putfield (pc' := 5) hM rfl ht0 (Nat.le_of_ble_eq_true rfl) rfl (by omega) rfl ?_
  show am_Go 60 (5, [.ref d], [], (w.set d (.inr (9, [.int 0, .int ri, .int (nI n), .int (nI kk), .ref (d + 1), .ref (d + 2), .ref (d + 3), .ref (d + 4)]))), 0, 0) _
  refine ar_aload_n (pc' := 6) hM rfl rfl rfl ?_
  refine ar_iconst (x := 0) (pc' := 7) hM rfl (by decide) rfl ?_
  refine ar_putfield (pc' := 10) hM rfl (am_gs ht0) (Nat.le_of_ble_eq_true rfl) (by decide) (by omega) rfl ?_
  show am_Go 60 (10, [.ref d], [], ((w.set d (.inr (9, [.int 0, .int ri, .int (nI n), .int (nI kk), .ref (d + 1), .ref (d + 2), .ref (d + 3), .ref (d + 4)]))).set d (.inr (9, [.int 0, .int 0, .int (nI n), .int (nI kk), .ref (d + 1), .ref (d + 2), .ref (d + 3), .ref (d + 4)]))), 0, 0) _
  refine ar_aload_n (pc' := 11) hM rfl rfl rfl ?_
  refine ar_iconst (x := 0) (pc' := 12) hM rfl (by decide) rfl ?_
  refine ar_putfield (pc' := 15) hM rfl (am_gs (am_gs ht0)) (Nat.le_of_ble_eq_true rfl) rfl (by omega) rfl ?_
  show am_Go 60 (15, [.ref d], [], (((w.set d (.inr (9, [.int 0, .int ri, .int (nI n), .int (nI kk), .ref (d + 1), .ref (d + 2), .ref (d + 3), .ref (d + 4)]))).set d (.inr (9, [.int 0, .int 0, .int (nI n), .int (nI kk), .ref (d + 1), .ref (d + 2), .ref (d + 3), .ref (d + 4)]))).set d (.inr (9, [.int 0, .int 0, .int 0, .int (nI kk), .ref (d + 1), .ref (d + 2), .ref (d + 3), .ref (d + 4)]))), 0, 0) _
  refine ar_aload_n (pc' := 16) hM rfl rfl rfl ?_
  refine ar_iconst (x := 0) (pc' := 17) hM rfl (by decide) rfl ?_
  refine ar_putfield (pc' := 20) hM rfl (am_gs (am_gs (am_gs ht0))) (Nat.le_of_ble_eq_true rfl) rfl (by omega) rfl ?_
  show am_Go 60 (20, [.ref d], [], ((((w.set d (.inr (9, [.int 0, .int ri, .int (nI n), .int (nI kk), .ref (d + 1), .ref (d + 2), .ref (d + 3), .ref (d + 4)]))).set d (.inr (9, [.int 0, .int 0, .int (nI n), .int (nI kk), .ref (d + 1), .ref (d + 2), .ref (d + 3), .ref (d + 4)]))).set d (.inr (9, [.int 0, .int 0, .int 0, .int (nI kk), .ref (d + 1), .ref (d + 2), .ref (d + 3), .ref (d + 4)]))).set d (.inr (9, [.int 0, .int 0, .int 0, .int 0, .ref (d + 1), .ref (d + 2), .ref (d + 3), .ref (d + 4)]))), 0, 0) _
  refine ar_return hM rfl ?_
  rw [show ((w.set d (.inr (9, [.int 0, .int ri, .int (nI n), .int (nI kk), .ref (d + 1), .ref (d + 2), .ref (d + 3), .ref (d + 4)]))).set d (.inr (9, [.int 0, .int 0, .int (nI n), .int (nI kk), .ref (d + 1), .ref (d + 2), .ref (d + 3), .ref (d + 4)]))) = (w.set d (.inr (9, [.int 0, .int 0, .int (nI n), .int (nI kk), .ref (d + 1), .ref (d + 2), .ref (d + 3), .ref (d + 4)]))) from by rw [List.set_set]]
  rw [show ((w.set d (.inr (9, [.int 0, .int 0, .int (nI n), .int (nI kk), .ref (d + 1), .ref (d + 2), .ref (d + 3), .ref (d + 4)]))).set d (.inr (9, [.int 0, .int 0, .int 0, .int (nI kk), .ref (d + 1), .ref (d + 2), .ref (d + 3), .ref (d + 4)]))) = (w.set d (.inr (9, [.int 0, .int 0, .int 0, .int (nI kk), .ref (d + 1), .ref (d + 2), .ref (d + 3), .ref (d + 4)]))) from by rw [List.set_set]]
  rw [show ((w.set d (.inr (9, [.int 0, .int 0, .int 0, .int (nI kk), .ref (d + 1), .ref (d + 2), .ref (d + 3), .ref (d + 4)]))).set d (.inr (9, [.int 0, .int 0, .int 0, .int 0, .ref (d + 1), .ref (d + 2), .ref (d + 3), .ref (d + 4)]))) = (w.set d (.inr (9, [.int 0, .int 0, .int 0, .int 0, .ref (d + 1), .ref (d + 2), .ref (d + 3), .ref (d + 4)]))) from by rw [List.set_set]]
  exact ⟨rfl, rfl⟩
set_option maxRecDepth 100000 in
set_option maxHeartbeats 4000000 in
theorem c_dcopy (w : am_W) (d : Nat) (h2d : 2 ≤ d) (tr ri : Int32) (n kk : Nat) (wa ki ba he : Nat → Int32) (ht0 : w[d]? = some (.inr (9, [.int tr, .int ri, .int (nI n), .int (nI kk), .ref (d + 1), .ref (d + 2), .ref (d + 3), .ref (d + 4)]))) (ht1 : w[d + 1]? = some (.inl (0, 6, .inl wa))) (ht2 : w[d + 2]? = some (.inl (0, 6, .inl ki))) (ht3 : w[d + 3]? = some (.inl (0, 6, .inl ba))) (ht4 : w[d + 4]? = some (.inl (0, 5, .inl he))) (o : Nat) (h2o : 2 ≤ o) (hdj : d + 5 ≤ o ∨ o + 5 ≤ d) (otr ori : Int32) (on ok : Nat) (owa oki oba ohe : Nat → Int32) (h01 : ori = 0 ∨ ori = 1) (ho0 : w[o]? = some (.inr (9, [.int otr, .int ori, .int (nI on), .int (nI ok), .ref (o + 1), .ref (o + 2), .ref (o + 3), .ref (o + 4)]))) (ho1 : w[o + 1]? = some (.inl (0, 6, .inl owa))) (ho2 : w[o + 2]? = some (.inl (0, 6, .inl oki))) (ho3 : w[o + 3]? = some (.inl (0, 6, .inl oba))) (ho4 : w[o + 4]? = some (.inl (0, 5, .inl ohe))) : am_Go 61 (0, [.ref d, .ref o], [], w, 0, 0) (fun res w' => res = none ∧ w' = ((((w.set d (.inr (9, [.int otr, .int ori, .int (nI on), .int (nI ok), .ref (d + 1), .ref (d + 2), .ref (d + 3), .ref (d + 4)]))).set (d + 1) (.inl (0, 6, .inl (va_cpy owa wa 0 0 6)))).set (d + 2) (.inl (0, 6, .inl (va_cpy oki ki 0 0 6)))).set (d + 3) (.inl (0, 6, .inl (va_cpy oba ba 0 0 6)))).set (d + 4) (.inl (0, 5, .inl (va_cpy ohe he 0 0 5)))) := by
  have hM : am_P[61]? = some zm_X9_copyFrom := rfl
  refine ar_aload_n (pc' := 1) hM rfl rfl rfl ?_
  refine ar_aload_n (pc' := 2) hM rfl rfl rfl ?_
  refine ar_getfield (pc' := 5) hM rfl ho0 rfl rfl ?_
  refine ar_putfield (pc' := 8) hM rfl ht0 (Nat.le_of_ble_eq_true rfl) rfl (by omega) rfl ?_
  show am_Go 61 (8, [.ref d, .ref o], [], (w.set d (.inr (9, [.int otr, .int ri, .int (nI n), .int (nI kk), .ref (d + 1), .ref (d + 2), .ref (d + 3), .ref (d + 4)]))), 0, 0) _
  refine ar_aload_n (pc' := 9) hM rfl rfl rfl ?_
  refine ar_aload_n (pc' := 10) hM rfl rfl rfl ?_
  refine ar_getfield (pc' := 13) hM rfl (am_gn (by omega) ho0) rfl rfl ?_
  refine ar_putfield (pc' := 16) hM rfl (am_gs ht0) (Nat.le_of_ble_eq_true rfl) (i_fit1 h01) (by omega) rfl ?_
  show am_Go 61 (16, [.ref d, .ref o], [], ((w.set d (.inr (9, [.int otr, .int ri, .int (nI n), .int (nI kk), .ref (d + 1), .ref (d + 2), .ref (d + 3), .ref (d + 4)]))).set d (.inr (9, [.int otr, .int ori, .int (nI n), .int (nI kk), .ref (d + 1), .ref (d + 2), .ref (d + 3), .ref (d + 4)]))), 0, 0) _
  refine ar_aload_n (pc' := 17) hM rfl rfl rfl ?_
  refine ar_aload_n (pc' := 18) hM rfl rfl rfl ?_
  refine ar_getfield (pc' := 21) hM rfl (am_gn (by omega) (am_gn (by omega) ho0)) rfl rfl ?_
  refine ar_putfield (pc' := 24) hM rfl (am_gs (am_gs ht0)) (Nat.le_of_ble_eq_true rfl) rfl (by omega) rfl ?_
  show am_Go 61 (24, [.ref d, .ref o], [], (((w.set d (.inr (9, [.int otr, .int ri, .int (nI n), .int (nI kk), .ref (d + 1), .ref (d + 2), .ref (d + 3), .ref (d + 4)]))).set d (.inr (9, [.int otr, .int ori, .int (nI n), .int (nI kk), .ref (d + 1), .ref (d + 2), .ref (d + 3), .ref (d + 4)]))).set d (.inr (9, [.int otr, .int ori, .int (nI on), .int (nI kk), .ref (d + 1), .ref (d + 2), .ref (d + 3), .ref (d + 4)]))), 0, 0) _
  refine ar_aload_n (pc' := 25) hM rfl rfl rfl ?_
  refine ar_aload_n (pc' := 26) hM rfl rfl rfl ?_
  refine ar_getfield (pc' := 29) hM rfl (am_gn (by omega) (am_gn (by omega) (am_gn (by omega) ho0))) rfl rfl ?_
  refine ar_putfield (pc' := 32) hM rfl (am_gs (am_gs (am_gs ht0))) (Nat.le_of_ble_eq_true rfl) rfl (by omega) rfl ?_
  show am_Go 61 (32, [.ref d, .ref o], [], ((((w.set d (.inr (9, [.int otr, .int ri, .int (nI n), .int (nI kk), .ref (d + 1), .ref (d + 2), .ref (d + 3), .ref (d + 4)]))).set d (.inr (9, [.int otr, .int ori, .int (nI n), .int (nI kk), .ref (d + 1), .ref (d + 2), .ref (d + 3), .ref (d + 4)]))).set d (.inr (9, [.int otr, .int ori, .int (nI on), .int (nI kk), .ref (d + 1), .ref (d + 2), .ref (d + 3), .ref (d + 4)]))).set d (.inr (9, [.int otr, .int ori, .int (nI on), .int (nI ok), .ref (d + 1), .ref (d + 2), .ref (d + 3), .ref (d + 4)]))), 0, 0) _
  refine ar_aload_n (pc' := 33) hM rfl rfl rfl ?_
  refine ar_getfield (pc' := 36) hM rfl (am_gn (by omega) (am_gn (by omega) (am_gn (by omega) (am_gn (by omega) ho0)))) rfl rfl ?_
  refine ar_iconst (x := 0) (pc' := 37) hM rfl (by decide) rfl ?_
  refine ar_aload_n (pc' := 38) hM rfl rfl rfl ?_
  refine ar_getfield (pc' := 41) hM rfl (am_gs (am_gs (am_gs (am_gs ht0)))) rfl rfl ?_
  refine ar_iconst (x := 0) (pc' := 42) hM rfl (by decide) rfl ?_
  refine ar_bipush (x := 6) (pc' := 44) hM rfl (by decide) rfl ?_
  refine ar_arraycopyN (pc' := 47) (m := 6) hM rfl rfl (am_gn (by omega) (am_gn (by omega) (am_gn (by omega) (am_gn (by omega) ho1)))) (am_gn (by omega) (am_gn (by omega) (am_gn (by omega) (am_gn (by omega) ht1)))) (by decide) (Nat.le_of_ble_eq_true rfl) (Nat.le_of_ble_eq_true rfl) (Nat.le_of_ble_eq_true rfl) (by omega) (by omega) (Nat.le_of_ble_eq_true rfl) rfl ?_
  refine ar_aload_n (pc' := 48) hM rfl rfl rfl ?_
  refine ar_getfield (pc' := 51) hM rfl (am_gn (by omega) (am_gn (by omega) (am_gn (by omega) (am_gn (by omega) (am_gn (by omega) ho0))))) rfl rfl ?_
  refine ar_iconst (x := 0) (pc' := 52) hM rfl (by decide) rfl ?_
  refine ar_aload_n (pc' := 53) hM rfl rfl rfl ?_
  refine ar_getfield (pc' := 56) hM rfl (am_gn (by omega) (am_gs (am_gs (am_gs (am_gs ht0))))) rfl rfl ?_
  refine ar_iconst (x := 0) (pc' := 57) hM rfl (by decide) rfl ?_
  refine ar_bipush (x := 6) (pc' := 59) hM rfl (by decide) rfl ?_
  refine ar_arraycopyN (pc' := 62) (m := 6) hM rfl rfl (am_gn (by omega) (am_gn (by omega) (am_gn (by omega) (am_gn (by omega) (am_gn (by omega) ho2))))) (am_gn (by omega) (am_gn (by omega) (am_gn (by omega) (am_gn (by omega) (am_gn (by omega) ht2))))) (by decide) (Nat.le_of_ble_eq_true rfl) (Nat.le_of_ble_eq_true rfl) (Nat.le_of_ble_eq_true rfl) (by omega) (by omega) (Nat.le_of_ble_eq_true rfl) rfl ?_
  refine ar_aload_n (pc' := 63) hM rfl rfl rfl ?_
  refine ar_getfield (pc' := 66) hM rfl (am_gn (by omega) (am_gn (by omega) (am_gn (by omega) (am_gn (by omega) (am_gn (by omega) (am_gn (by omega) ho0)))))) rfl rfl ?_
  refine ar_iconst (x := 0) (pc' := 67) hM rfl (by decide) rfl ?_
  refine ar_aload_n (pc' := 68) hM rfl rfl rfl ?_
  refine ar_getfield (pc' := 71) hM rfl (am_gn (by omega) (am_gn (by omega) (am_gs (am_gs (am_gs (am_gs ht0)))))) rfl rfl ?_
  refine ar_iconst (x := 0) (pc' := 72) hM rfl (by decide) rfl ?_
  refine ar_bipush (x := 6) (pc' := 74) hM rfl (by decide) rfl ?_
  refine ar_arraycopyN (pc' := 77) (m := 6) hM rfl rfl (am_gn (by omega) (am_gn (by omega) (am_gn (by omega) (am_gn (by omega) (am_gn (by omega) (am_gn (by omega) ho3)))))) (am_gn (by omega) (am_gn (by omega) (am_gn (by omega) (am_gn (by omega) (am_gn (by omega) (am_gn (by omega) ht3)))))) (by decide) (Nat.le_of_ble_eq_true rfl) (Nat.le_of_ble_eq_true rfl) (Nat.le_of_ble_eq_true rfl) (by omega) (by omega) (Nat.le_of_ble_eq_true rfl) rfl ?_
  refine ar_aload_n (pc' := 78) hM rfl rfl rfl ?_
  refine ar_getfield (pc' := 81) hM rfl (am_gn (by omega) (am_gn (by omega) (am_gn (by omega) (am_gn (by omega) (am_gn (by omega) (am_gn (by omega) (am_gn (by omega) ho0))))))) rfl rfl ?_
  refine ar_iconst (x := 0) (pc' := 82) hM rfl (by decide) rfl ?_
  refine ar_aload_n (pc' := 83) hM rfl rfl rfl ?_
  refine ar_getfield (pc' := 86) hM rfl (am_gn (by omega) (am_gn (by omega) (am_gn (by omega) (am_gs (am_gs (am_gs (am_gs ht0))))))) rfl rfl ?_
  refine ar_iconst (x := 0) (pc' := 87) hM rfl (by decide) rfl ?_
  refine ar_iconst (x := 5) (pc' := 88) hM rfl (by decide) rfl ?_
  refine ar_arraycopyN (pc' := 91) (m := 5) hM rfl rfl (am_gn (by omega) (am_gn (by omega) (am_gn (by omega) (am_gn (by omega) (am_gn (by omega) (am_gn (by omega) (am_gn (by omega) ho4))))))) (am_gn (by omega) (am_gn (by omega) (am_gn (by omega) (am_gn (by omega) (am_gn (by omega) (am_gn (by omega) (am_gn (by omega) ht4))))))) (by decide) (Nat.le_of_ble_eq_true rfl) (Nat.le_of_ble_eq_true rfl) (Nat.le_of_ble_eq_true rfl) (by omega) (by omega) (Nat.le_of_ble_eq_true rfl) rfl ?_
  refine ar_return hM rfl ?_
  rw [show ((w.set d (.inr (9, [.int otr, .int ri, .int (nI n), .int (nI kk), .ref (d + 1), .ref (d + 2), .ref (d + 3), .ref (d + 4)]))).set d (.inr (9, [.int otr, .int ori, .int (nI n), .int (nI kk), .ref (d + 1), .ref (d + 2), .ref (d + 3), .ref (d + 4)]))) = (w.set d (.inr (9, [.int otr, .int ori, .int (nI n), .int (nI kk), .ref (d + 1), .ref (d + 2), .ref (d + 3), .ref (d + 4)]))) from by rw [List.set_set]]
  rw [show ((w.set d (.inr (9, [.int otr, .int ori, .int (nI n), .int (nI kk), .ref (d + 1), .ref (d + 2), .ref (d + 3), .ref (d + 4)]))).set d (.inr (9, [.int otr, .int ori, .int (nI on), .int (nI kk), .ref (d + 1), .ref (d + 2), .ref (d + 3), .ref (d + 4)]))) = (w.set d (.inr (9, [.int otr, .int ori, .int (nI on), .int (nI kk), .ref (d + 1), .ref (d + 2), .ref (d + 3), .ref (d + 4)]))) from by rw [List.set_set]]
  rw [show ((w.set d (.inr (9, [.int otr, .int ori, .int (nI on), .int (nI kk), .ref (d + 1), .ref (d + 2), .ref (d + 3), .ref (d + 4)]))).set d (.inr (9, [.int otr, .int ori, .int (nI on), .int (nI ok), .ref (d + 1), .ref (d + 2), .ref (d + 3), .ref (d + 4)]))) = (w.set d (.inr (9, [.int otr, .int ori, .int (nI on), .int (nI ok), .ref (d + 1), .ref (d + 2), .ref (d + 3), .ref (d + 4)]))) from by rw [List.set_set]]
  exact ⟨rfl, rfl⟩
set_option maxRecDepth 100000 in
set_option maxHeartbeats 4000000 in
theorem c_heatOn (w : am_W) (d : Nat) (h2d : 2 ≤ d) (tr ri : Int32) (n kk : Nat) (wa ki ba he : Nat → Int32) (ht0 : w[d]? = some (.inr (9, [.int tr, .int ri, .int (nI n), .int (nI kk), .ref (d + 1), .ref (d + 2), .ref (d + 3), .ref (d + 4)]))) (ht1 : w[d + 1]? = some (.inl (0, 6, .inl wa))) (ht2 : w[d + 2]? = some (.inl (0, 6, .inl ki))) (ht3 : w[d + 3]? = some (.inl (0, 6, .inl ba))) (ht4 : w[d + 4]? = some (.inl (0, 5, .inl he))) (dy : Nat) (hdy : dy < 2 ^ 31) (hkk : kk ≤ 5) : am_Go 62 (0, [.ref d, .int (nI dy)], [], w, 0, 0) (fun res w' => res = some (.int (i_heat kk he dy)) ∧ w' = w) := by
  have hM : am_P[62]? = some zm_X9_heatOn := rfl
  refine ar_aload_n (pc' := 1) hM rfl rfl rfl ?_
  refine ar_getfield (pc' := 4) hM rfl ht0 rfl rfl ?_
  refine ar_if_gt (pc' := 7) hM rfl rfl (fun c4 => ?_) (fun c4 => ?_)
  · refine ar_aload_n (pc' := 12) hM rfl rfl rfl ?_
    refine ar_getfield (pc' := 15) hM rfl ht0 rfl rfl ?_
    refine ar_iload_n (pc' := 16) hM rfl rfl rfl ?_
    refine ar_aload_n (pc' := 17) hM rfl rfl rfl ?_
    refine ar_getfield (pc' := 20) hM rfl ht0 rfl rfl ?_
    refine ar_static (pc' := 23) (k3 := 0) (k4 := 0) hM rfl (by decide) rfl rfl (c_floorMod _ dy kk hdy (i_pos c4) (by omega)) (fun r20 w20 q20 => ?_)
    obtain ⟨rfl, q20w⟩ := q20
    rw [q20w]
    show am_Go 62 (23, [.ref d, .int (nI dy)], [.int (nI (dy % kk)), .ref (d + 4)], w, 0, 0) _
    refine ar_ialoadN (j := dy % kk) (pc' := 24) hM rfl ht4 rfl (by have h9 : 0 < kk := (i_pos c4); have := Nat.mod_lt dy h9; omega) (Nat.le_of_ble_eq_true rfl) rfl ?_
    refine ar_ireturn hM rfl (Or.inl rfl) ?_
    exact ⟨by unfold i_heat; rw [if_neg (fun q => by subst q; exact absurd c4 (by decide))], rfl⟩
  · refine ar_iconst (x := 0) (pc' := 8) hM rfl (by decide) rfl ?_
    refine ar_goto hM rfl ?_
    refine ar_ireturn hM rfl (Or.inl rfl) ?_
    exact ⟨by unfold i_heat; rw [if_pos (i_npos c4 (by omega))], rfl⟩
end
section
/-! Today: what each house wants and says, what it is given -/
def i_bt (x : Int32) (h : Nat) : Prop := (x >>> (nI h &&& 31)) &&& 1 = 1
def i_wnt (wa ki : Nat → Int32) (ht sa aw g : Int32) (h : Nat) : Int32 := if (aw >>> (nI h &&& 31)) &&& 1 = 1 then 0 else i_wbk (wa h) (ki h) + ht + (if (sa >>> (nI h &&& 31)) &&& 1 = 1 then 3 else 0) + (if (g >>> (nI h &&& 31)) &&& 1 = 1 then 2 else 0)
def i_say (wa ki : Nat → Int32) (ht sa aw g : Int32) (h : Nat) : Int32 := if (aw >>> (nI h &&& 31)) &&& 1 = 1 then 0 else i_wnt wa ki ht sa aw g h + i_lie (ki h)
theorem i_if0 {P : Prop} [Decidable P] (a b : Int32) : (if (if P then (1 : Int32) else 0) = 0 then a else b) = if P then b else a := by
  by_cases q : P
  · rw [if_pos q, if_pos q, if_neg (by decide)]
  · rw [if_neg q, if_neg q, if_pos rfl]
set_option maxRecDepth 100000 in
set_option maxHeartbeats 4000000 in
theorem c_hear (w : am_W) (d : Nat) (h2d : 2 ≤ d) (tr ri : Int32) (n kk : Nat) (wa ki ba he : Nat → Int32) (ht0 : w[d]? = some (.inr (9, [.int tr, .int ri, .int (nI n), .int (nI kk), .ref (d + 1), .ref (d + 2), .ref (d + 3), .ref (d + 4)]))) (ht1 : w[d + 1]? = some (.inl (0, 6, .inl wa))) (ht2 : w[d + 2]? = some (.inl (0, 6, .inl ki))) (ht3 : w[d + 3]? = some (.inl (0, 6, .inl ba))) (ht4 : w[d + 4]? = some (.inl (0, 5, .inl he))) (hn : n ≤ 6) (hkk : kk ≤ 5) (s : Nat) (h2s : 2 ≤ s) (so ss sl : Nat → Int32) (sa sw : Int32) (dy : Nat) (hdy : dy < 2 ^ 31) (hs0 : w[s]? = some (.inr (6, [.ref (s + 1), .ref (s + 2), .ref (s + 3), .int sa, .int sw, .int (nI dy)]))) (hs1 : w[s + 1]? = some (.inl (0, 6, .inl so))) (hs2 : w[s + 2]? = some (.inl (0, 6, .inl ss))) (hs3 : w[s + 3]? = some (.inl (0, 6, .inl sl))) (t : Nat) (h2t : 2 ≤ t) (dw ds dg dd dl df dv : Nat → Int32) (hd0 : w[t]? = some (.inr (8, [.ref (t + 1), .ref (t + 2), .ref (t + 3), .ref (t + 4), .ref (t + 5), .ref (t + 6), .ref (t + 7)]))) (hd1 : w[t + 1]? = some (.inl (0, 6, .inl dw))) (hd2 : w[t + 2]? = some (.inl (0, 6, .inl ds))) (hd3 : w[t + 3]? = some (.inl (0, 6, .inl dg))) (hd4 : w[t + 4]? = some (.inl (0, 6, .inl dd))) (hd5 : w[t + 5]? = some (.inl (0, 6, .inl dl))) (hd6 : w[t + 6]? = some (.inl (0, 6, .inl df))) (hd7 : w[t + 7]? = some (.inl (0, 6, .inl dv))) (j1 : t + 8 ≤ d ∨ d + 5 ≤ t) (j2 : t + 8 ≤ s ∨ s + 4 ≤ t) (j3 : d + 5 ≤ s ∨ s + 4 ≤ d) (g : Int32) : am_Go 55 (0, [.ref t, .ref d, .ref s, .int g, .float 0, .float 0, .float 0, .float 0], [], w, 0, 0) (fun res w' => ∃ fw fs, res = none ∧ w' = (w.set (t + 1) (.inl (0, 6, .inl fw))).set (t + 2) (.inl (0, 6, .inl fs)) ∧ (∀ h, h < n → fw h = i_wnt wa ki (i_heat kk he dy) sa sw g h) ∧ (∀ h, h < n → fs h = i_say wa ki (i_heat kk he dy) sa sw g h)) := by
  have hM : am_P[55]? = some zm_X8_hear := rfl
  refine ar_aload_n (pc' := 1) hM rfl rfl rfl ?_
  refine ar_aload_n (pc' := 2) hM rfl rfl rfl ?_
  refine ar_getfield (pc' := 5) hM rfl hs0 rfl rfl ?_
  refine ar_virtual (pc' := 8) (k3 := 0) (k4 := 0) hM rfl rfl ht0 ⟨rfl, (by omega)⟩ rfl rfl (c_heatOn _ d (by omega) _ _ _ _ _ _ _ _ ht0 ht1 ht2 ht3 ht4 dy hdy hkk) (fun r5 w5 q5 => ?_)
  obtain ⟨rfl, q5w⟩ := q5
  rw [q5w]
  show am_Go 55 (8, [.ref t, .ref d, .ref s, .int g, .float 0, .float 0, .float 0, .float 0], [.int (i_heat kk he dy)], w, 0, 0) _
  refine ar_istore (pc' := 10) hM rfl rfl rfl rfl ?_
  refine ar_iconst (x := 0) (pc' := 11) hM rfl (by decide) rfl ?_
  refine ar_istore (pc' := 13) hM rfl rfl rfl rfl ?_
  have loop : ∀ (dj j : Nat) (fw : Nat → Int32) (fs : Nat → Int32) (z6 : Value) (z7 : Value), dj + j = n → (∀ p, p < j → fw p = i_wnt wa ki (i_heat kk he dy) sa sw g p) → (∀ p, p < j → fs p = i_say wa ki (i_heat kk he dy) sa sw g p) → am_Go 55 (13, [.ref t, .ref d, .ref s, .int g, .int (i_heat kk he dy), .int (nI j), z6, z7], [], ((w.set (t + 1) (.inl (0, 6, .inl fw))).set (t + 2) (.inl (0, 6, .inl fs))), 0, 0) (fun res w' => ∃ fw fs, res = none ∧ w' = (w.set (t + 1) (.inl (0, 6, .inl fw))).set (t + 2) (.inl (0, 6, .inl fs)) ∧ (∀ h, h < n → fw h = i_wnt wa ki (i_heat kk he dy) sa sw g h) ∧ (∀ h, h < n → fs h = i_say wa ki (i_heat kk he dy) sa sw g h)) := by
    intro dj
    induction dj with
    | zero =>
      intro j fw fs z6 z7 hj hfw hfs
      refine ar_iload (pc' := 15) hM rfl rfl rfl ?_
      refine ar_aload_n (pc' := 16) hM rfl rfl rfl ?_
      refine ar_getfield (pc' := 19) hM rfl (am_gn (by omega) (am_gn (by omega) ht0)) rfl rfl ?_
      refine ar_icmp_ge (pc' := 22) hM rfl rfl (fun _ => ?_) (fun q => absurd (nI_le (a := n) (b := j) (by omega) (by omega)) q)
      refine ar_return hM rfl ?_
      exact ⟨fw, fs, rfl, rfl, fun p hp => hfw p (by omega), fun p hp => hfs p (by omega)⟩
    | succ dj ih =>
      intro j fw fs z6 z7 hj hfw hfs
      refine ar_iload (pc' := 15) hM rfl rfl rfl ?_
      refine ar_aload_n (pc' := 16) hM rfl rfl rfl ?_
      refine ar_getfield (pc' := 19) hM rfl (am_gn (by omega) (am_gn (by omega) ht0)) rfl rfl ?_
      refine ar_icmp_ge (pc' := 22) hM rfl rfl (fun q => absurd q (nI_ge (a := j) (b := n) (by omega) (by omega))) (fun _ => ?_)
      refine ar_aload_n (pc' := 23) hM rfl rfl rfl ?_
      refine ar_iload (pc' := 25) hM rfl rfl rfl ?_
      refine ar_virtual (pc' := 28) (k3 := 0) (k4 := 0) hM rfl rfl (am_gn (by omega) (am_gn (by omega) hs0)) ⟨rfl, (by omega)⟩ rfl rfl (c_isAway _ s (by omega) _ _ _ _ _ _ (am_gn (by omega) (am_gn (by omega) hs0)) (am_gn (by omega) (am_gn (by omega) hs1)) (am_gn (by omega) (am_gn (by omega) hs2)) (am_gn (by omega) (am_gn (by omega) hs3)) _) (fun r25 w25 q25 => ?_)
      obtain ⟨rfl, q25w⟩ := q25
      rw [q25w]
      show am_Go 55 (28, [.ref t, .ref d, .ref s, .int g, .int (i_heat kk he dy), .int (nI j), z6, z7], [.int (if (sw >>> ((nI j) &&& 31)) &&& 1 = 1 then 1 else 0)], ((w.set (t + 1) (.inl (0, 6, .inl fw))).set (t + 2) (.inl (0, 6, .inl fs))), 0, 0) _
      refine ar_if_eq (pc' := 31) hM rfl rfl (fun c28 => ?_) (fun c28 => ?_)
      · refine ar_aload_n (pc' := 51) hM rfl rfl rfl ?_
        refine ar_iload (pc' := 53) hM rfl rfl rfl ?_
        refine ar_virtual (pc' := 56) (k3 := 0) (k4 := 0) hM rfl rfl (am_gn (by omega) (am_gn (by omega) hs0)) ⟨rfl, (by omega)⟩ rfl rfl (c_isSalted _ s (by omega) _ _ _ _ _ _ (am_gn (by omega) (am_gn (by omega) hs0)) (am_gn (by omega) (am_gn (by omega) hs1)) (am_gn (by omega) (am_gn (by omega) hs2)) (am_gn (by omega) (am_gn (by omega) hs3)) _) (fun r53 w53 q53 => ?_)
        obtain ⟨rfl, q53w⟩ := q53
        rw [q53w]
        show am_Go 55 (56, [.ref t, .ref d, .ref s, .int g, .int (i_heat kk he dy), .int (nI j), z6, z7], [.int (if (sa >>> ((nI j) &&& 31)) &&& 1 = 1 then 1 else 0)], ((w.set (t + 1) (.inl (0, 6, .inl fw))).set (t + 2) (.inl (0, 6, .inl fs))), 0, 0) _
        suffices hj56 : ∀ z_56 : Int32, z_56 = (if (if (sa >>> ((nI j) &&& 31)) &&& 1 = 1 then 1 else 0) = (0 : Int32) then 0 else 3) → am_Go 55 (64, [.ref t, .ref d, .ref s, .int g, .int (i_heat kk he dy), .int (nI j), z6, z7], [.int z_56], ((w.set (t + 1) (.inl (0, 6, .inl fw))).set (t + 2) (.inl (0, 6, .inl fs))), 0, 0) _ by
          refine ar_if_eq (pc' := 59) hM rfl rfl (fun c => ?_) (fun c => ?_)
          · refine ar_iconst (x := 0) (pc' := 64) hM rfl (by decide) rfl ?_
            exact hj56 _ (if_pos c).symm
          · refine ar_iconst (x := 3) (pc' := 60) hM rfl (by decide) rfl ?_
            refine ar_goto hM rfl ?_
            exact hj56 _ (if_neg c).symm
        rintro _ rfl
        refine ar_istore (pc' := 66) hM rfl rfl rfl rfl ?_
        refine ar_iload_n (pc' := 67) hM rfl rfl rfl ?_
        refine ar_iload (pc' := 69) hM rfl rfl rfl ?_
        refine ar_ishr (pc' := 70) hM rfl rfl ?_
        refine ar_iconst (x := 1) (pc' := 71) hM rfl (by decide) rfl ?_
        refine ar_iand (pc' := 72) hM rfl rfl ?_
        refine ar_iconst (x := 1) (pc' := 73) hM rfl (by decide) rfl ?_
        suffices hj73 : ∀ z_73 : Int32, z_73 = (if ((g >>> ((nI j) &&& 31)) &&& 1) = (1 : Int32) then 2 else 0) → am_Go 55 (81, [.ref t, .ref d, .ref s, .int g, .int (i_heat kk he dy), .int (nI j), .int (if (if (sa >>> ((nI j) &&& 31)) &&& 1 = 1 then 1 else 0) = (0 : Int32) then 0 else 3), z7], [.int z_73], ((w.set (t + 1) (.inl (0, 6, .inl fw))).set (t + 2) (.inl (0, 6, .inl fs))), 0, 0) _ by
          refine ar_icmp_ne (pc' := 76) hM rfl rfl (fun c => ?_) (fun c => ?_)
          · refine ar_iconst (x := 0) (pc' := 81) hM rfl (by decide) rfl ?_
            exact hj73 _ (if_neg c).symm
          · refine ar_iconst (x := 2) (pc' := 77) hM rfl (by decide) rfl ?_
            refine ar_goto hM rfl ?_
            exact hj73 _ (if_pos c).symm
        rintro _ rfl
        refine ar_istore (pc' := 83) hM rfl rfl rfl rfl ?_
        refine ar_aload_n (pc' := 84) hM rfl rfl rfl ?_
        refine ar_getfield (pc' := 87) hM rfl (am_gn (by omega) (am_gn (by omega) hd0)) rfl rfl ?_
        refine ar_iload (pc' := 89) hM rfl rfl rfl ?_
        refine ar_aload_n (pc' := 90) hM rfl rfl rfl ?_
        refine ar_getfield (pc' := 93) hM rfl (am_gn (by omega) (am_gn (by omega) ht0)) rfl rfl ?_
        refine ar_iload (pc' := 95) hM rfl rfl rfl ?_
        refine ar_ialoadN (j := j) (pc' := 96) hM rfl (am_gn (by omega) (am_gn (by omega) ht1)) rfl (by omega) (Nat.le_of_ble_eq_true rfl) rfl ?_
        refine ar_aload_n (pc' := 97) hM rfl rfl rfl ?_
        refine ar_getfield (pc' := 100) hM rfl (am_gn (by omega) (am_gn (by omega) ht0)) rfl rfl ?_
        refine ar_iload (pc' := 102) hM rfl rfl rfl ?_
        refine ar_ialoadN (j := j) (pc' := 103) hM rfl (am_gn (by omega) (am_gn (by omega) ht2)) rfl (by omega) (Nat.le_of_ble_eq_true rfl) rfl ?_
        refine ar_static (pc' := 106) (k3 := 0) (k4 := 0) hM rfl (by decide) rfl rfl (c_wantByKind _ _ _) (fun r103 w103 q103 => ?_)
        obtain ⟨rfl, q103w⟩ := q103
        rw [q103w]
        show am_Go 55 (106, [.ref t, .ref d, .ref s, .int g, .int (i_heat kk he dy), .int (nI j), .int (if (if (sa >>> ((nI j) &&& 31)) &&& 1 = 1 then 1 else 0) = (0 : Int32) then 0 else 3), .int (if ((g >>> ((nI j) &&& 31)) &&& 1) = (1 : Int32) then 2 else 0)], [.int (i_wbk (wa j) (ki j)), .int (nI j), .ref (t + 1)], ((w.set (t + 1) (.inl (0, 6, .inl fw))).set (t + 2) (.inl (0, 6, .inl fs))), 0, 0) _
        refine ar_iload (pc' := 108) hM rfl rfl rfl ?_
        refine ar_iadd (pc' := 109) hM rfl rfl ?_
        refine ar_iload (pc' := 111) hM rfl rfl rfl ?_
        refine ar_iadd (pc' := 112) hM rfl rfl ?_
        refine ar_iload (pc' := 114) hM rfl rfl rfl ?_
        refine ar_iadd (pc' := 115) hM rfl rfl ?_
        refine ar_iastoreN (j := j) (pc' := 116) hM rfl (am_gn (by omega) (am_gs hd1)) rfl (by omega) (Nat.le_of_ble_eq_true rfl) (by omega) rfl ?_
        refine ar_aload_n (pc' := 117) hM rfl rfl rfl ?_
        refine ar_getfield (pc' := 120) hM rfl (am_gn (by omega) (am_gn (by omega) (am_gn (by omega) hd0))) rfl rfl ?_
        refine ar_iload (pc' := 122) hM rfl rfl rfl ?_
        refine ar_aload_n (pc' := 123) hM rfl rfl rfl ?_
        refine ar_getfield (pc' := 126) hM rfl (am_gn (by omega) (am_gn (by omega) (am_gn (by omega) hd0))) rfl rfl ?_
        refine ar_iload (pc' := 128) hM rfl rfl rfl ?_
        refine ar_ialoadN (j := j) (pc' := 129) hM rfl (am_gs (am_gn (by omega) (am_gs hd1))) rfl (by omega) (Nat.le_of_ble_eq_true rfl) rfl ?_
        refine ar_aload_n (pc' := 130) hM rfl rfl rfl ?_
        refine ar_getfield (pc' := 133) hM rfl (am_gn (by omega) (am_gn (by omega) (am_gn (by omega) ht0))) rfl rfl ?_
        refine ar_iload (pc' := 135) hM rfl rfl rfl ?_
        refine ar_ialoadN (j := j) (pc' := 136) hM rfl (am_gn (by omega) (am_gn (by omega) (am_gn (by omega) ht2))) rfl (by omega) (Nat.le_of_ble_eq_true rfl) rfl ?_
        refine ar_static (pc' := 139) (k3 := 0) (k4 := 0) hM rfl (by decide) rfl rfl (c_lieOf _ _) (fun r136 w136 q136 => ?_)
        obtain ⟨rfl, q136w⟩ := q136
        rw [q136w]
        show am_Go 55 (139, [.ref t, .ref d, .ref s, .int g, .int (i_heat kk he dy), .int (nI j), .int (if (if (sa >>> ((nI j) &&& 31)) &&& 1 = 1 then 1 else 0) = (0 : Int32) then 0 else 3), .int (if ((g >>> ((nI j) &&& 31)) &&& 1) = (1 : Int32) then 2 else 0)], [.int (i_lie (ki j)), .int ((upd fw j ((((i_wbk (wa j) (ki j)) + (i_heat kk he dy)) + (if (if (sa >>> ((nI j) &&& 31)) &&& 1 = 1 then 1 else 0) = (0 : Int32) then 0 else 3)) + (if ((g >>> ((nI j) &&& 31)) &&& 1) = (1 : Int32) then 2 else 0))) j), .int (nI j), .ref (t + 2)], (((w.set (t + 1) (.inl (0, 6, .inl fw))).set (t + 2) (.inl (0, 6, .inl fs))).set (t + 1) (.inl (0, 6, .inl (upd fw j ((((i_wbk (wa j) (ki j)) + (i_heat kk he dy)) + (if (if (sa >>> ((nI j) &&& 31)) &&& 1 = 1 then 1 else 0) = (0 : Int32) then 0 else 3)) + (if ((g >>> ((nI j) &&& 31)) &&& 1) = (1 : Int32) then 2 else 0)))))), 0, 0) _
        refine ar_iadd (pc' := 140) hM rfl rfl ?_
        refine ar_iastoreN (j := j) (pc' := 141) hM rfl (am_gn (by omega) (am_gs (am_gn (by omega) hd2))) rfl (by omega) (Nat.le_of_ble_eq_true rfl) (by omega) rfl ?_
        refine ar_iinc (z := nI (j + 1)) (pc' := 144) hM rfl rfl (nI_1 _) rfl rfl rfl ?_
        refine ar_goto hM rfl ?_
        rw [show (((w.set (t + 1) (.inl (0, 6, .inl fw))).set (t + 2) (.inl (0, 6, .inl fs))).set (t + 1) (.inl (0, 6, .inl (upd fw j ((((i_wbk (wa j) (ki j)) + (i_heat kk he dy)) + (if (if (sa >>> ((nI j) &&& 31)) &&& 1 = 1 then 1 else 0) = (0 : Int32) then 0 else 3)) + (if ((g >>> ((nI j) &&& 31)) &&& 1) = (1 : Int32) then 2 else 0)))))) = ((w.set (t + 1) (.inl (0, 6, .inl (upd fw j ((((i_wbk (wa j) (ki j)) + (i_heat kk he dy)) + (if (if (sa >>> ((nI j) &&& 31)) &&& 1 = 1 then 1 else 0) = (0 : Int32) then 0 else 3)) + (if ((g >>> ((nI j) &&& 31)) &&& 1) = (1 : Int32) then 2 else 0)))))).set (t + 2) (.inl (0, 6, .inl fs))) from by rw [List.set_comm _ _ (show t + 2 ≠ t + 1 by omega), List.set_set]]
        rw [show (((w.set (t + 1) (.inl (0, 6, .inl (upd fw j ((((i_wbk (wa j) (ki j)) + (i_heat kk he dy)) + (if (if (sa >>> ((nI j) &&& 31)) &&& 1 = 1 then 1 else 0) = (0 : Int32) then 0 else 3)) + (if ((g >>> ((nI j) &&& 31)) &&& 1) = (1 : Int32) then 2 else 0)))))).set (t + 2) (.inl (0, 6, .inl fs))).set (t + 2) (.inl (0, 6, .inl (upd fs j (((upd fw j ((((i_wbk (wa j) (ki j)) + (i_heat kk he dy)) + (if (if (sa >>> ((nI j) &&& 31)) &&& 1 = 1 then 1 else 0) = (0 : Int32) then 0 else 3)) + (if ((g >>> ((nI j) &&& 31)) &&& 1) = (1 : Int32) then 2 else 0))) j) + (i_lie (ki j))))))) = ((w.set (t + 1) (.inl (0, 6, .inl (upd fw j ((((i_wbk (wa j) (ki j)) + (i_heat kk he dy)) + (if (if (sa >>> ((nI j) &&& 31)) &&& 1 = 1 then 1 else 0) = (0 : Int32) then 0 else 3)) + (if ((g >>> ((nI j) &&& 31)) &&& 1) = (1 : Int32) then 2 else 0)))))).set (t + 2) (.inl (0, 6, .inl (upd fs j (((upd fw j ((((i_wbk (wa j) (ki j)) + (i_heat kk he dy)) + (if (if (sa >>> ((nI j) &&& 31)) &&& 1 = 1 then 1 else 0) = (0 : Int32) then 0 else 3)) + (if ((g >>> ((nI j) &&& 31)) &&& 1) = (1 : Int32) then 2 else 0))) j) + (i_lie (ki j))))))) from by rw [List.set_set]]
        exact ih (j + 1) (upd fw j ((((i_wbk (wa j) (ki j)) + (i_heat kk he dy)) + (if (if (sa >>> ((nI j) &&& 31)) &&& 1 = 1 then 1 else 0) = (0 : Int32) then 0 else 3)) + (if ((g >>> ((nI j) &&& 31)) &&& 1) = (1 : Int32) then 2 else 0))) (upd fs j (((upd fw j ((((i_wbk (wa j) (ki j)) + (i_heat kk he dy)) + (if (if (sa >>> ((nI j) &&& 31)) &&& 1 = 1 then 1 else 0) = (0 : Int32) then 0 else 3)) + (if ((g >>> ((nI j) &&& 31)) &&& 1) = (1 : Int32) then 2 else 0))) j) + (i_lie (ki j)))) (.int (if (if (sa >>> ((nI j) &&& 31)) &&& 1 = 1 then 1 else 0) = (0 : Int32) then 0 else 3)) (.int (if ((g >>> ((nI j) &&& 31)) &&& 1) = (1 : Int32) then 2 else 0)) (by omega) (am_fs (F := i_wnt wa ki (i_heat kk he dy) sa sw g) hfw (by unfold i_wnt; rw [if_neg (am_eq0 c28), i_if0])) (am_fs (F := i_say wa ki (i_heat kk he dy) sa sw g) hfs (by rw [pk_us]; unfold i_say; rw [if_neg (am_eq0 c28)]; unfold i_wnt; rw [if_neg (am_eq0 c28), i_if0]))
      · refine ar_aload_n (pc' := 32) hM rfl rfl rfl ?_
        refine ar_getfield (pc' := 35) hM rfl (am_gn (by omega) (am_gn (by omega) hd0)) rfl rfl ?_
        refine ar_iload (pc' := 37) hM rfl rfl rfl ?_
        refine ar_iconst (x := 0) (pc' := 38) hM rfl (by decide) rfl ?_
        refine ar_iastoreN (j := j) (pc' := 39) hM rfl (am_gn (by omega) (am_gs hd1)) rfl (by omega) (Nat.le_of_ble_eq_true rfl) (by omega) rfl ?_
        refine ar_aload_n (pc' := 40) hM rfl rfl rfl ?_
        refine ar_getfield (pc' := 43) hM rfl (am_gn (by omega) (am_gn (by omega) (am_gn (by omega) hd0))) rfl rfl ?_
        refine ar_iload (pc' := 45) hM rfl rfl rfl ?_
        refine ar_iconst (x := 0) (pc' := 46) hM rfl (by decide) rfl ?_
        refine ar_iastoreN (j := j) (pc' := 47) hM rfl (am_gn (by omega) (am_gs (am_gn (by omega) hd2))) rfl (by omega) (Nat.le_of_ble_eq_true rfl) (by omega) rfl ?_
        refine ar_goto hM rfl ?_
        refine ar_iinc (z := nI (j + 1)) (pc' := 144) hM rfl rfl (nI_1 _) rfl rfl rfl ?_
        refine ar_goto hM rfl ?_
        rw [show (((w.set (t + 1) (.inl (0, 6, .inl fw))).set (t + 2) (.inl (0, 6, .inl fs))).set (t + 1) (.inl (0, 6, .inl (upd fw j 0)))) = ((w.set (t + 1) (.inl (0, 6, .inl (upd fw j 0)))).set (t + 2) (.inl (0, 6, .inl fs))) from by rw [List.set_comm _ _ (show t + 2 ≠ t + 1 by omega), List.set_set]]
        rw [show (((w.set (t + 1) (.inl (0, 6, .inl (upd fw j 0)))).set (t + 2) (.inl (0, 6, .inl fs))).set (t + 2) (.inl (0, 6, .inl (upd fs j 0)))) = ((w.set (t + 1) (.inl (0, 6, .inl (upd fw j 0)))).set (t + 2) (.inl (0, 6, .inl (upd fs j 0)))) from by rw [List.set_set]]
        exact ih (j + 1) (upd fw j 0) (upd fs j 0) (z6) (z7) (by omega) (am_fs (F := i_wnt wa ki (i_heat kk he dy) sa sw g) hfw (by unfold i_wnt; rw [if_pos (am_ne0 c28)])) (am_fs (F := i_say wa ki (i_heat kk he dy) sa sw g) hfs (by unfold i_say; rw [if_pos (am_ne0 c28)]))
  have hl0 := loop (n) 0 dw ds (.float 0) (.float 0) (by omega) (fun p hp => by omega) (fun p hp => by omega)
  rw [am_si hd1, am_si hd2] at hl0
  exact hl0
set_option maxRecDepth 100000 in
set_option maxHeartbeats 4000000 in
theorem c_serve (w : am_W) (t : Nat) (h2t : 2 ≤ t) (dw ds dg dd dl df dv : Nat → Int32) (hd0 : w[t]? = some (.inr (8, [.ref (t + 1), .ref (t + 2), .ref (t + 3), .ref (t + 4), .ref (t + 5), .ref (t + 6), .ref (t + 7)]))) (hd1 : w[t + 1]? = some (.inl (0, 6, .inl dw))) (hd2 : w[t + 2]? = some (.inl (0, 6, .inl ds))) (hd3 : w[t + 3]? = some (.inl (0, 6, .inl dg))) (hd4 : w[t + 4]? = some (.inl (0, 6, .inl dd))) (hd5 : w[t + 5]? = some (.inl (0, 6, .inl dl))) (hd6 : w[t + 6]? = some (.inl (0, 6, .inl df))) (hd7 : w[t + 7]? = some (.inl (0, 6, .inl dv))) (h : Nat) (hh : h < 6) (gv sv bv : Int32) : am_Go 57 (0, [.ref t, .int (nI h), .int gv, .int sv, .int bv, .float 0], [], w, 0, 0) (fun res w' => res = none ∧ w' = (((((w.set (t + 3) (.inl (0, 6, .inl (upd dg h gv)))).set (t + 4) (.inl (0, 6, .inl (upd dd h (i_min (dw h) (gv + sv)))))).set (t + 5) (.inl (0, 6, .inl (upd dl h (dw h - (i_min (dw h) (gv + sv))))))).set (t + 6) (.inl (0, 6, .inl (upd df h (i_min ((gv + sv) - (i_min (dw h) (gv + sv))) bv))))).set (t + 7) (.inl (0, 6, .inl (upd dv h ((gv + sv) - (i_min (dw h) (gv + sv)) - (i_min ((gv + sv) - (i_min (dw h) (gv + sv))) bv))))))) := by
  have hM : am_P[57]? = some zm_X8_serve := rfl
  refine ar_iload_n (pc' := 1) hM rfl rfl rfl ?_
  refine ar_iload_n (pc' := 2) hM rfl rfl rfl ?_
  refine ar_iadd (pc' := 3) hM rfl rfl ?_
  refine ar_istore (pc' := 5) hM rfl rfl rfl rfl ?_
  refine ar_aload_n (pc' := 6) hM rfl rfl rfl ?_
  refine ar_getfield (pc' := 9) hM rfl hd0 rfl rfl ?_
  refine ar_iload_n (pc' := 10) hM rfl rfl rfl ?_
  refine ar_iload_n (pc' := 11) hM rfl rfl rfl ?_
  refine ar_iastoreN (j := h) (pc' := 12) hM rfl hd3 rfl (by omega) (Nat.le_of_ble_eq_true rfl) (by omega) rfl ?_
  refine ar_aload_n (pc' := 13) hM rfl rfl rfl ?_
  refine ar_getfield (pc' := 16) hM rfl (am_gn (by omega) hd0) rfl rfl ?_
  refine ar_iload_n (pc' := 17) hM rfl rfl rfl ?_
  refine ar_aload_n (pc' := 18) hM rfl rfl rfl ?_
  refine ar_getfield (pc' := 21) hM rfl (am_gn (by omega) hd0) rfl rfl ?_
  refine ar_iload_n (pc' := 22) hM rfl rfl rfl ?_
  refine ar_ialoadN (j := h) (pc' := 23) hM rfl (am_gn (by omega) hd1) rfl (by omega) (Nat.le_of_ble_eq_true rfl) rfl ?_
  refine ar_iload (pc' := 25) hM rfl rfl rfl ?_
  refine ar_static (pc' := 28) (k3 := 0) (k4 := 0) hM rfl (by decide) rfl rfl (c_min _ _ _) (fun r25 w25 q25 => ?_)
  obtain ⟨rfl, q25w⟩ := q25
  rw [q25w]
  show am_Go 57 (28, [.ref t, .int (nI h), .int gv, .int sv, .int bv, .int (gv + sv)], [.int (i_min (dw h) (gv + sv)), .int (nI h), .ref (t + 4)], (w.set (t + 3) (.inl (0, 6, .inl (upd dg h gv)))), 0, 0) _
  refine ar_iastoreN (j := h) (pc' := 29) hM rfl (am_gn (by omega) hd4) rfl (by omega) (Nat.le_of_ble_eq_true rfl) (by omega) rfl ?_
  refine ar_aload_n (pc' := 30) hM rfl rfl rfl ?_
  refine ar_getfield (pc' := 33) hM rfl (am_gn (by omega) (am_gn (by omega) hd0)) rfl rfl ?_
  refine ar_iload_n (pc' := 34) hM rfl rfl rfl ?_
  refine ar_aload_n (pc' := 35) hM rfl rfl rfl ?_
  refine ar_getfield (pc' := 38) hM rfl (am_gn (by omega) (am_gn (by omega) hd0)) rfl rfl ?_
  refine ar_iload_n (pc' := 39) hM rfl rfl rfl ?_
  refine ar_ialoadN (j := h) (pc' := 40) hM rfl (am_gn (by omega) (am_gn (by omega) hd1)) rfl (by omega) (Nat.le_of_ble_eq_true rfl) rfl ?_
  refine ar_aload_n (pc' := 41) hM rfl rfl rfl ?_
  refine ar_getfield (pc' := 44) hM rfl (am_gn (by omega) (am_gn (by omega) hd0)) rfl rfl ?_
  refine ar_iload_n (pc' := 45) hM rfl rfl rfl ?_
  refine ar_ialoadN (j := h) (pc' := 46) hM rfl (am_gs (am_gn (by omega) hd4)) rfl (by omega) (Nat.le_of_ble_eq_true rfl) rfl ?_
  refine ar_isub (pc' := 47) hM rfl rfl ?_
  refine ar_iastoreN (j := h) (pc' := 48) hM rfl (am_gn (by omega) (am_gn (by omega) hd5)) rfl (by omega) (Nat.le_of_ble_eq_true rfl) (by omega) rfl ?_
  refine ar_aload_n (pc' := 49) hM rfl rfl rfl ?_
  refine ar_getfield (pc' := 52) hM rfl (am_gn (by omega) (am_gn (by omega) (am_gn (by omega) hd0))) rfl rfl ?_
  refine ar_iload_n (pc' := 53) hM rfl rfl rfl ?_
  refine ar_iload (pc' := 55) hM rfl rfl rfl ?_
  refine ar_aload_n (pc' := 56) hM rfl rfl rfl ?_
  refine ar_getfield (pc' := 59) hM rfl (am_gn (by omega) (am_gn (by omega) (am_gn (by omega) hd0))) rfl rfl ?_
  refine ar_iload_n (pc' := 60) hM rfl rfl rfl ?_
  refine ar_ialoadN (j := h) (pc' := 61) hM rfl (am_gn (by omega) (am_gs (am_gn (by omega) hd4))) rfl (by omega) (Nat.le_of_ble_eq_true rfl) rfl ?_
  refine ar_isub (pc' := 62) hM rfl rfl ?_
  refine ar_iload (pc' := 64) hM rfl rfl rfl ?_
  refine ar_static (pc' := 67) (k3 := 0) (k4 := 0) hM rfl (by decide) rfl rfl (c_min _ _ _) (fun r64 w64 q64 => ?_)
  obtain ⟨rfl, q64w⟩ := q64
  rw [q64w]
  show am_Go 57 (67, [.ref t, .int (nI h), .int gv, .int sv, .int bv, .int (gv + sv)], [.int (i_min ((gv + sv) - ((upd dd h (i_min (dw h) (gv + sv))) h)) bv), .int (nI h), .ref (t + 6)], (((w.set (t + 3) (.inl (0, 6, .inl (upd dg h gv)))).set (t + 4) (.inl (0, 6, .inl (upd dd h (i_min (dw h) (gv + sv)))))).set (t + 5) (.inl (0, 6, .inl (upd dl h ((dw h) - ((upd dd h (i_min (dw h) (gv + sv))) h)))))), 0, 0) _
  refine ar_iastoreN (j := h) (pc' := 68) hM rfl (am_gn (by omega) (am_gn (by omega) (am_gn (by omega) hd6))) rfl (by omega) (Nat.le_of_ble_eq_true rfl) (by omega) rfl ?_
  refine ar_aload_n (pc' := 69) hM rfl rfl rfl ?_
  refine ar_getfield (pc' := 72) hM rfl (am_gn (by omega) (am_gn (by omega) (am_gn (by omega) (am_gn (by omega) hd0)))) rfl rfl ?_
  refine ar_iload_n (pc' := 73) hM rfl rfl rfl ?_
  refine ar_iload (pc' := 75) hM rfl rfl rfl ?_
  refine ar_aload_n (pc' := 76) hM rfl rfl rfl ?_
  refine ar_getfield (pc' := 79) hM rfl (am_gn (by omega) (am_gn (by omega) (am_gn (by omega) (am_gn (by omega) hd0)))) rfl rfl ?_
  refine ar_iload_n (pc' := 80) hM rfl rfl rfl ?_
  refine ar_ialoadN (j := h) (pc' := 81) hM rfl (am_gn (by omega) (am_gn (by omega) (am_gs (am_gn (by omega) hd4)))) rfl (by omega) (Nat.le_of_ble_eq_true rfl) rfl ?_
  refine ar_isub (pc' := 82) hM rfl rfl ?_
  refine ar_aload_n (pc' := 83) hM rfl rfl rfl ?_
  refine ar_getfield (pc' := 86) hM rfl (am_gn (by omega) (am_gn (by omega) (am_gn (by omega) (am_gn (by omega) hd0)))) rfl rfl ?_
  refine ar_iload_n (pc' := 87) hM rfl rfl rfl ?_
  refine ar_ialoadN (j := h) (pc' := 88) hM rfl (am_gs (am_gn (by omega) (am_gn (by omega) (am_gn (by omega) hd6)))) rfl (by omega) (Nat.le_of_ble_eq_true rfl) rfl ?_
  refine ar_isub (pc' := 89) hM rfl rfl ?_
  refine ar_iastoreN (j := h) (pc' := 90) hM rfl (am_gn (by omega) (am_gn (by omega) (am_gn (by omega) (am_gn (by omega) hd7)))) rfl (by omega) (Nat.le_of_ble_eq_true rfl) (by omega) rfl ?_
  refine ar_return hM rfl ?_
  refine ⟨rfl, ?_⟩
  simp only [pk_us]
def i_gv (ri tr : Int32) (n : Nat) (ds : Nat → Int32) (od : Nat → Nat) (p : Nat) : Int32 := if p = 0 then (if ri = 0 then tr else ds (od (n - 1))) else ds (od (p - 1))
def i_dr (wt gv sv : Int32) : Int32 := i_min wt (gv + sv)
def i_lk (wt gv sv : Int32) : Int32 := wt - i_dr wt gv sv
def i_lf (wt gv sv bv : Int32) : Int32 := i_min (gv + sv - i_dr wt gv sv) bv
def i_sp (wt gv sv bv : Int32) : Int32 := gv + sv - i_dr wt gv sv - i_lf wt gv sv bv
theorem am_fo {f : Nat → Int32} {F : Nat → Int32} {od : Nat → Nat} {n j : Nat} {x : Int32} (inj : ∀ p q, p < n → q < n → od p = od q → p = q) (hj : j < n) (h : ∀ p, p < j → f (od p) = F p) (hx : x = F j) : ∀ p, p < j + 1 → upd f (od j) x (od p) = F p := by
  intro p hp
  by_cases q : p = j
  · subst q; rw [pk_us]; exact hx
  · rw [pk_un (fun e => q (inj p j (by omega) hj e))]; exact h p (by omega)
theorem i_nle0 {n : Nat} (h : ¬ nI n ≤ 0) : 0 < n := by
  rcases Nat.eq_zero_or_pos n with q | q
  · subst q; exact absurd (by decide) h
  · exact q
set_option maxRecDepth 100000 in
set_option maxHeartbeats 4000000 in
theorem c_pour (w : am_W) (d : Nat) (h2d : 2 ≤ d) (tr ri : Int32) (n kk : Nat) (wa ki ba he : Nat → Int32) (ht0 : w[d]? = some (.inr (9, [.int tr, .int ri, .int (nI n), .int (nI kk), .ref (d + 1), .ref (d + 2), .ref (d + 3), .ref (d + 4)]))) (ht1 : w[d + 1]? = some (.inl (0, 6, .inl wa))) (ht2 : w[d + 2]? = some (.inl (0, 6, .inl ki))) (ht3 : w[d + 3]? = some (.inl (0, 6, .inl ba))) (ht4 : w[d + 4]? = some (.inl (0, 5, .inl he))) (hn : n ≤ 6) (hkk : kk ≤ 5) (s : Nat) (h2s : 2 ≤ s) (so ss sl : Nat → Int32) (sa sw : Int32) (dy : Nat) (hdy : dy < 2 ^ 31) (hs0 : w[s]? = some (.inr (6, [.ref (s + 1), .ref (s + 2), .ref (s + 3), .int sa, .int sw, .int (nI dy)]))) (hs1 : w[s + 1]? = some (.inl (0, 6, .inl so))) (hs2 : w[s + 2]? = some (.inl (0, 6, .inl ss))) (hs3 : w[s + 3]? = some (.inl (0, 6, .inl sl))) (t : Nat) (h2t : 2 ≤ t) (dw ds dg dd dl df dv : Nat → Int32) (hd0 : w[t]? = some (.inr (8, [.ref (t + 1), .ref (t + 2), .ref (t + 3), .ref (t + 4), .ref (t + 5), .ref (t + 6), .ref (t + 7)]))) (hd1 : w[t + 1]? = some (.inl (0, 6, .inl dw))) (hd2 : w[t + 2]? = some (.inl (0, 6, .inl ds))) (hd3 : w[t + 3]? = some (.inl (0, 6, .inl dg))) (hd4 : w[t + 4]? = some (.inl (0, 6, .inl dd))) (hd5 : w[t + 5]? = some (.inl (0, 6, .inl dl))) (hd6 : w[t + 6]? = some (.inl (0, 6, .inl df))) (hd7 : w[t + 7]? = some (.inl (0, 6, .inl dv))) (j1 : t + 8 ≤ d ∨ d + 5 ≤ t) (j2 : t + 8 ≤ s ∨ s + 4 ≤ t) (j3 : d + 5 ≤ s ∨ s + 4 ≤ d) (od : Nat → Nat) (hod : ∀ p, p < n → so p = nI (od p) ∧ od p < n) (inj : ∀ p q, p < n → q < n → od p = od q → p = q) : am_Go 56 (0, [.ref t, .ref d, .ref s, .float 0, .float 0, .float 0], [], w, 0, 0) (fun res w' => ∃ a3 a4 a5 a6 a7, res = none ∧ w' = (((((w.set (t + 3) (.inl (0, 6, .inl a3))).set (t + 4) (.inl (0, 6, .inl a4))).set (t + 5) (.inl (0, 6, .inl a5))).set (t + 6) (.inl (0, 6, .inl a6))).set (t + 7) (.inl (0, 6, .inl a7))) ∧ (∀ p, p < n → a3 (od p) = i_gv ri tr n ds od p) ∧ (∀ p, p < n → a4 (od p) = i_dr (dw (od p)) (i_gv ri tr n ds od p) (ss (od p))) ∧ (∀ p, p < n → a5 (od p) = i_lk (dw (od p)) (i_gv ri tr n ds od p) (ss (od p))) ∧ (∀ p, p < n → a6 (od p) = i_lf (dw (od p)) (i_gv ri tr n ds od p) (ss (od p)) (ba (od p))) ∧ (∀ p, p < n → a7 (od p) = i_sp (dw (od p)) (i_gv ri tr n ds od p) (ss (od p)) (ba (od p)))) := by
  have hM : am_P[56]? = some zm_X8_pour := rfl
  have hk : ∀ (G0 : Int32) (z4 : Value) (z5 : Value), (0 < n → G0 = i_gv ri tr n ds od 0) → am_Go 56 (36, [.ref t, .ref d, .ref s, .int G0, z4, z5], [], w, 0, 0) (fun res w' => ∃ a3 a4 a5 a6 a7, res = none ∧ w' = (((((w.set (t + 3) (.inl (0, 6, .inl a3))).set (t + 4) (.inl (0, 6, .inl a4))).set (t + 5) (.inl (0, 6, .inl a5))).set (t + 6) (.inl (0, 6, .inl a6))).set (t + 7) (.inl (0, 6, .inl a7))) ∧ (∀ p, p < n → a3 (od p) = i_gv ri tr n ds od p) ∧ (∀ p, p < n → a4 (od p) = i_dr (dw (od p)) (i_gv ri tr n ds od p) (ss (od p))) ∧ (∀ p, p < n → a5 (od p) = i_lk (dw (od p)) (i_gv ri tr n ds od p) (ss (od p))) ∧ (∀ p, p < n → a6 (od p) = i_lf (dw (od p)) (i_gv ri tr n ds od p) (ss (od p)) (ba (od p))) ∧ (∀ p, p < n → a7 (od p) = i_sp (dw (od p)) (i_gv ri tr n ds od p) (ss (od p)) (ba (od p)))) := by
    intro G0 z4 z5 hG0
    refine ar_iconst (x := 0) (pc' := 37) hM rfl (by decide) rfl ?_
    refine ar_istore (pc' := 39) hM rfl rfl rfl rfl ?_
    have loop : ∀ (dj j : Nat) (G : Int32) (a3 : Nat → Int32) (a4 : Nat → Int32) (a5 : Nat → Int32) (a6 : Nat → Int32) (a7 : Nat → Int32) (z5 : Value), dj + j = n → (j < n → G = i_gv ri tr n ds od j) → (∀ p, p < j → a3 (od p) = (fun p => i_gv ri tr n ds od p) p) → (∀ p, p < j → a4 (od p) = (fun p => i_dr (dw (od p)) (i_gv ri tr n ds od p) (ss (od p))) p) → (∀ p, p < j → a5 (od p) = (fun p => i_lk (dw (od p)) (i_gv ri tr n ds od p) (ss (od p))) p) → (∀ p, p < j → a6 (od p) = (fun p => i_lf (dw (od p)) (i_gv ri tr n ds od p) (ss (od p)) (ba (od p))) p) → (∀ p, p < j → a7 (od p) = (fun p => i_sp (dw (od p)) (i_gv ri tr n ds od p) (ss (od p)) (ba (od p))) p) → am_Go 56 (39, [.ref t, .ref d, .ref s, .int G, .int (nI j), z5], [], (((((w.set (t + 3) (.inl (0, 6, .inl a3))).set (t + 4) (.inl (0, 6, .inl a4))).set (t + 5) (.inl (0, 6, .inl a5))).set (t + 6) (.inl (0, 6, .inl a6))).set (t + 7) (.inl (0, 6, .inl a7))), 0, 0) (fun res w' => ∃ a3 a4 a5 a6 a7, res = none ∧ w' = (((((w.set (t + 3) (.inl (0, 6, .inl a3))).set (t + 4) (.inl (0, 6, .inl a4))).set (t + 5) (.inl (0, 6, .inl a5))).set (t + 6) (.inl (0, 6, .inl a6))).set (t + 7) (.inl (0, 6, .inl a7))) ∧ (∀ p, p < n → a3 (od p) = i_gv ri tr n ds od p) ∧ (∀ p, p < n → a4 (od p) = i_dr (dw (od p)) (i_gv ri tr n ds od p) (ss (od p))) ∧ (∀ p, p < n → a5 (od p) = i_lk (dw (od p)) (i_gv ri tr n ds od p) (ss (od p))) ∧ (∀ p, p < n → a6 (od p) = i_lf (dw (od p)) (i_gv ri tr n ds od p) (ss (od p)) (ba (od p))) ∧ (∀ p, p < n → a7 (od p) = i_sp (dw (od p)) (i_gv ri tr n ds od p) (ss (od p)) (ba (od p)))) := by
      intro dj
      induction dj with
      | zero =>
        intro j G a3 a4 a5 a6 a7 z5 hj hG q3 q4 q5 q6 q7
        refine ar_iload (pc' := 41) hM rfl rfl rfl ?_
        refine ar_aload_n (pc' := 42) hM rfl rfl rfl ?_
        refine ar_getfield (pc' := 45) hM rfl (am_gn (by omega) (am_gn (by omega) (am_gn (by omega) (am_gn (by omega) (am_gn (by omega) ht0))))) rfl rfl ?_
        refine ar_icmp_ge (pc' := 48) hM rfl rfl (fun _ => ?_) (fun q => absurd (nI_le (a := n) (b := j) (by omega) (by omega)) q)
        refine ar_return hM rfl ?_
        exact ⟨a3, a4, a5, a6, a7, rfl, rfl, fun p hp => q3 p (by omega), fun p hp => q4 p (by omega), fun p hp => q5 p (by omega), fun p hp => q6 p (by omega), fun p hp => q7 p (by omega)⟩
      | succ dj ih =>
        intro j G a3 a4 a5 a6 a7 z5 hj hG q3 q4 q5 q6 q7
        refine ar_iload (pc' := 41) hM rfl rfl rfl ?_
        refine ar_aload_n (pc' := 42) hM rfl rfl rfl ?_
        refine ar_getfield (pc' := 45) hM rfl (am_gn (by omega) (am_gn (by omega) (am_gn (by omega) (am_gn (by omega) (am_gn (by omega) ht0))))) rfl rfl ?_
        refine ar_icmp_ge (pc' := 48) hM rfl rfl (fun q => absurd q (nI_ge (a := j) (b := n) (by omega) (by omega))) (fun _ => ?_)
        refine ar_aload_n (pc' := 49) hM rfl rfl rfl ?_
        refine ar_getfield (pc' := 52) hM rfl (am_gn (by omega) (am_gn (by omega) (am_gn (by omega) (am_gn (by omega) (am_gn (by omega) hs0))))) rfl rfl ?_
        refine ar_iload (pc' := 54) hM rfl rfl rfl ?_
        refine ar_ialoadN (j := j) (pc' := 55) hM rfl (am_gn (by omega) (am_gn (by omega) (am_gn (by omega) (am_gn (by omega) (am_gn (by omega) hs1))))) rfl (by omega) (Nat.le_of_ble_eq_true rfl) rfl ?_
        rw [show (so j : Int32) = nI (od j) from (hod j (by omega)).1]
        refine ar_istore (pc' := 57) hM rfl rfl rfl rfl ?_
        refine ar_aload_n (pc' := 58) hM rfl rfl rfl ?_
        refine ar_iload (pc' := 60) hM rfl rfl rfl ?_
        refine ar_iload_n (pc' := 61) hM rfl rfl rfl ?_
        refine ar_aload_n (pc' := 62) hM rfl rfl rfl ?_
        refine ar_getfield (pc' := 65) hM rfl (am_gn (by omega) (am_gn (by omega) (am_gn (by omega) (am_gn (by omega) (am_gn (by omega) hs0))))) rfl rfl ?_
        refine ar_iload (pc' := 67) hM rfl rfl rfl ?_
        refine ar_ialoadN (j := od j) (pc' := 68) hM rfl (am_gn (by omega) (am_gn (by omega) (am_gn (by omega) (am_gn (by omega) (am_gn (by omega) hs2))))) rfl (by have := (hod j (by omega)).2; omega) (Nat.le_of_ble_eq_true rfl) rfl ?_
        refine ar_aload_n (pc' := 69) hM rfl rfl rfl ?_
        refine ar_getfield (pc' := 72) hM rfl (am_gn (by omega) (am_gn (by omega) (am_gn (by omega) (am_gn (by omega) (am_gn (by omega) ht0))))) rfl rfl ?_
        refine ar_iload (pc' := 74) hM rfl rfl rfl ?_
        refine ar_ialoadN (j := od j) (pc' := 75) hM rfl (am_gn (by omega) (am_gn (by omega) (am_gn (by omega) (am_gn (by omega) (am_gn (by omega) ht3))))) rfl (by have := (hod j (by omega)).2; omega) (Nat.le_of_ble_eq_true rfl) rfl ?_
        refine ar_virtual (pc' := 78) (k3 := 0) (k4 := 0) hM rfl rfl (am_gn (by omega) (am_gn (by omega) (am_gn (by omega) (am_gn (by omega) (am_gn (by omega) hd0))))) ⟨rfl, (by omega)⟩ rfl rfl (c_serve _ t (by omega) _ _ _ _ _ _ _ (am_gn (by omega) (am_gn (by omega) (am_gn (by omega) (am_gn (by omega) (am_gn (by omega) hd0))))) (am_gn (by omega) (am_gn (by omega) (am_gn (by omega) (am_gn (by omega) (am_gn (by omega) hd1))))) (am_gn (by omega) (am_gn (by omega) (am_gn (by omega) (am_gn (by omega) (am_gn (by omega) hd2))))) (am_gn (by omega) (am_gn (by omega) (am_gn (by omega) (am_gn (by omega) (am_gs hd3))))) (am_gn (by omega) (am_gn (by omega) (am_gn (by omega) (am_gs (am_gn (by omega) hd4))))) (am_gn (by omega) (am_gn (by omega) (am_gs (am_gn (by omega) (am_gn (by omega) hd5))))) (am_gn (by omega) (am_gs (am_gn (by omega) (am_gn (by omega) (am_gn (by omega) hd6))))) (am_gs (am_gn (by omega) (am_gn (by omega) (am_gn (by omega) (am_gn (by omega) hd7))))) (od j) (by have := (hod j (by omega)).2; omega) _ _ _) (fun r75 w75 q75 => ?_)
        obtain ⟨rfl, q75w⟩ := q75
        rw [q75w]
        show am_Go 56 (78, [.ref t, .ref d, .ref s, .int G, .int (nI j), .int (nI (od j))], [], ((((((((((w.set (t + 3) (.inl (0, 6, .inl a3))).set (t + 4) (.inl (0, 6, .inl a4))).set (t + 5) (.inl (0, 6, .inl a5))).set (t + 6) (.inl (0, 6, .inl a6))).set (t + 7) (.inl (0, 6, .inl a7))).set (t + 3) (.inl (0, 6, .inl (upd a3 (od j) G)))).set (t + 4) (.inl (0, 6, .inl (upd a4 (od j) (i_min (dw (od j)) (G + (ss (od j)))))))).set (t + 5) (.inl (0, 6, .inl (upd a5 (od j) ((dw (od j)) - (i_min (dw (od j)) (G + (ss (od j))))))))).set (t + 6) (.inl (0, 6, .inl (upd a6 (od j) (i_min ((G + (ss (od j))) - (i_min (dw (od j)) (G + (ss (od j))))) (ba (od j))))))).set (t + 7) (.inl (0, 6, .inl (upd a7 (od j) ((G + (ss (od j))) - (i_min (dw (od j)) (G + (ss (od j)))) - (i_min ((G + (ss (od j))) - (i_min (dw (od j)) (G + (ss (od j))))) (ba (od j)))))))), 0, 0) _
        refine ar_aload_n (pc' := 79) hM rfl rfl rfl ?_
        refine ar_getfield (pc' := 82) hM rfl (am_gn (by omega) (am_gn (by omega) (am_gn (by omega) (am_gn (by omega) (am_gn (by omega) (am_gn (by omega) (am_gn (by omega) (am_gn (by omega) (am_gn (by omega) (am_gn (by omega) hd0)))))))))) rfl rfl ?_
        refine ar_iload (pc' := 84) hM rfl rfl rfl ?_
        refine ar_ialoadN (j := od j) (pc' := 85) hM rfl (am_gn (by omega) (am_gn (by omega) (am_gn (by omega) (am_gn (by omega) (am_gn (by omega) (am_gn (by omega) (am_gn (by omega) (am_gn (by omega) (am_gn (by omega) (am_gn (by omega) hd2)))))))))) rfl (by have := (hod j (by omega)).2; omega) (Nat.le_of_ble_eq_true rfl) rfl ?_
        refine ar_istore_n (pc' := 86) hM rfl rfl rfl rfl ?_
        refine ar_iinc (z := nI (j + 1)) (pc' := 89) hM rfl rfl (nI_1 _) rfl rfl rfl ?_
        refine ar_goto hM rfl ?_
        rw [show ((((((w.set (t + 3) (.inl (0, 6, .inl a3))).set (t + 4) (.inl (0, 6, .inl a4))).set (t + 5) (.inl (0, 6, .inl a5))).set (t + 6) (.inl (0, 6, .inl a6))).set (t + 7) (.inl (0, 6, .inl a7))).set (t + 3) (.inl (0, 6, .inl (upd a3 (od j) G)))) = (((((w.set (t + 3) (.inl (0, 6, .inl (upd a3 (od j) G)))).set (t + 4) (.inl (0, 6, .inl a4))).set (t + 5) (.inl (0, 6, .inl a5))).set (t + 6) (.inl (0, 6, .inl a6))).set (t + 7) (.inl (0, 6, .inl a7))) from by rw [List.set_comm _ _ (show t + 7 ≠ t + 3 by omega), List.set_comm _ _ (show t + 6 ≠ t + 3 by omega), List.set_comm _ _ (show t + 5 ≠ t + 3 by omega), List.set_comm _ _ (show t + 4 ≠ t + 3 by omega), List.set_set]]
        rw [show ((((((w.set (t + 3) (.inl (0, 6, .inl (upd a3 (od j) G)))).set (t + 4) (.inl (0, 6, .inl a4))).set (t + 5) (.inl (0, 6, .inl a5))).set (t + 6) (.inl (0, 6, .inl a6))).set (t + 7) (.inl (0, 6, .inl a7))).set (t + 4) (.inl (0, 6, .inl (upd a4 (od j) (i_min (dw (od j)) (G + (ss (od j)))))))) = (((((w.set (t + 3) (.inl (0, 6, .inl (upd a3 (od j) G)))).set (t + 4) (.inl (0, 6, .inl (upd a4 (od j) (i_min (dw (od j)) (G + (ss (od j)))))))).set (t + 5) (.inl (0, 6, .inl a5))).set (t + 6) (.inl (0, 6, .inl a6))).set (t + 7) (.inl (0, 6, .inl a7))) from by rw [List.set_comm _ _ (show t + 7 ≠ t + 4 by omega), List.set_comm _ _ (show t + 6 ≠ t + 4 by omega), List.set_comm _ _ (show t + 5 ≠ t + 4 by omega), List.set_set]]
        rw [show ((((((w.set (t + 3) (.inl (0, 6, .inl (upd a3 (od j) G)))).set (t + 4) (.inl (0, 6, .inl (upd a4 (od j) (i_min (dw (od j)) (G + (ss (od j)))))))).set (t + 5) (.inl (0, 6, .inl a5))).set (t + 6) (.inl (0, 6, .inl a6))).set (t + 7) (.inl (0, 6, .inl a7))).set (t + 5) (.inl (0, 6, .inl (upd a5 (od j) ((dw (od j)) - (i_min (dw (od j)) (G + (ss (od j))))))))) = (((((w.set (t + 3) (.inl (0, 6, .inl (upd a3 (od j) G)))).set (t + 4) (.inl (0, 6, .inl (upd a4 (od j) (i_min (dw (od j)) (G + (ss (od j)))))))).set (t + 5) (.inl (0, 6, .inl (upd a5 (od j) ((dw (od j)) - (i_min (dw (od j)) (G + (ss (od j))))))))).set (t + 6) (.inl (0, 6, .inl a6))).set (t + 7) (.inl (0, 6, .inl a7))) from by rw [List.set_comm _ _ (show t + 7 ≠ t + 5 by omega), List.set_comm _ _ (show t + 6 ≠ t + 5 by omega), List.set_set]]
        rw [show ((((((w.set (t + 3) (.inl (0, 6, .inl (upd a3 (od j) G)))).set (t + 4) (.inl (0, 6, .inl (upd a4 (od j) (i_min (dw (od j)) (G + (ss (od j)))))))).set (t + 5) (.inl (0, 6, .inl (upd a5 (od j) ((dw (od j)) - (i_min (dw (od j)) (G + (ss (od j))))))))).set (t + 6) (.inl (0, 6, .inl a6))).set (t + 7) (.inl (0, 6, .inl a7))).set (t + 6) (.inl (0, 6, .inl (upd a6 (od j) (i_min ((G + (ss (od j))) - (i_min (dw (od j)) (G + (ss (od j))))) (ba (od j))))))) = (((((w.set (t + 3) (.inl (0, 6, .inl (upd a3 (od j) G)))).set (t + 4) (.inl (0, 6, .inl (upd a4 (od j) (i_min (dw (od j)) (G + (ss (od j)))))))).set (t + 5) (.inl (0, 6, .inl (upd a5 (od j) ((dw (od j)) - (i_min (dw (od j)) (G + (ss (od j))))))))).set (t + 6) (.inl (0, 6, .inl (upd a6 (od j) (i_min ((G + (ss (od j))) - (i_min (dw (od j)) (G + (ss (od j))))) (ba (od j))))))).set (t + 7) (.inl (0, 6, .inl a7))) from by rw [List.set_comm _ _ (show t + 7 ≠ t + 6 by omega), List.set_set]]
        rw [show ((((((w.set (t + 3) (.inl (0, 6, .inl (upd a3 (od j) G)))).set (t + 4) (.inl (0, 6, .inl (upd a4 (od j) (i_min (dw (od j)) (G + (ss (od j)))))))).set (t + 5) (.inl (0, 6, .inl (upd a5 (od j) ((dw (od j)) - (i_min (dw (od j)) (G + (ss (od j))))))))).set (t + 6) (.inl (0, 6, .inl (upd a6 (od j) (i_min ((G + (ss (od j))) - (i_min (dw (od j)) (G + (ss (od j))))) (ba (od j))))))).set (t + 7) (.inl (0, 6, .inl a7))).set (t + 7) (.inl (0, 6, .inl (upd a7 (od j) ((G + (ss (od j))) - (i_min (dw (od j)) (G + (ss (od j)))) - (i_min ((G + (ss (od j))) - (i_min (dw (od j)) (G + (ss (od j))))) (ba (od j)))))))) = (((((w.set (t + 3) (.inl (0, 6, .inl (upd a3 (od j) G)))).set (t + 4) (.inl (0, 6, .inl (upd a4 (od j) (i_min (dw (od j)) (G + (ss (od j)))))))).set (t + 5) (.inl (0, 6, .inl (upd a5 (od j) ((dw (od j)) - (i_min (dw (od j)) (G + (ss (od j))))))))).set (t + 6) (.inl (0, 6, .inl (upd a6 (od j) (i_min ((G + (ss (od j))) - (i_min (dw (od j)) (G + (ss (od j))))) (ba (od j))))))).set (t + 7) (.inl (0, 6, .inl (upd a7 (od j) ((G + (ss (od j))) - (i_min (dw (od j)) (G + (ss (od j)))) - (i_min ((G + (ss (od j))) - (i_min (dw (od j)) (G + (ss (od j))))) (ba (od j)))))))) from by rw [List.set_set]]
        exact ih (j + 1) (ds (od j)) (upd a3 (od j) G) (upd a4 (od j) (i_min (dw (od j)) (G + (ss (od j))))) (upd a5 (od j) ((dw (od j)) - (i_min (dw (od j)) (G + (ss (od j)))))) (upd a6 (od j) (i_min ((G + (ss (od j))) - (i_min (dw (od j)) (G + (ss (od j))))) (ba (od j)))) (upd a7 (od j) ((G + (ss (od j))) - (i_min (dw (od j)) (G + (ss (od j)))) - (i_min ((G + (ss (od j))) - (i_min (dw (od j)) (G + (ss (od j))))) (ba (od j))))) (.int (nI (od j))) (by omega) (fun _ => by unfold i_gv; rw [if_neg (by omega), show j + 1 - 1 = j by omega]) (am_fo (F := fun p => i_gv ri tr n ds od p) inj (by omega) q3 (by rw [hG (by omega)] <;> rfl)) (am_fo (F := fun p => i_dr (dw (od p)) (i_gv ri tr n ds od p) (ss (od p))) inj (by omega) q4 (by rw [hG (by omega)] <;> rfl)) (am_fo (F := fun p => i_lk (dw (od p)) (i_gv ri tr n ds od p) (ss (od p))) inj (by omega) q5 (by rw [hG (by omega)] <;> rfl)) (am_fo (F := fun p => i_lf (dw (od p)) (i_gv ri tr n ds od p) (ss (od p)) (ba (od p))) inj (by omega) q6 (by rw [hG (by omega)] <;> rfl)) (am_fo (F := fun p => i_sp (dw (od p)) (i_gv ri tr n ds od p) (ss (od p)) (ba (od p))) inj (by omega) q7 (by rw [hG (by omega)] <;> rfl))
    have hl0 := loop (n) 0 G0 dg dd dl df dv (z5) (by omega) hG0 (fun p hp => by omega) (fun p hp => by omega) (fun p hp => by omega) (fun p hp => by omega) (fun p hp => by omega)
    rw [am_si hd3, am_si hd4, am_si hd5, am_si hd6, am_si hd7] at hl0
    exact hl0
  refine ar_aload_n (pc' := 1) hM rfl rfl rfl ?_
  refine ar_getfield (pc' := 4) hM rfl ht0 rfl rfl ?_
  refine ar_istore_n (pc' := 5) hM rfl rfl rfl rfl ?_
  refine ar_aload_n (pc' := 6) hM rfl rfl rfl ?_
  refine ar_getfield (pc' := 9) hM rfl ht0 rfl rfl ?_
  refine ar_if_eq (pc' := 12) hM rfl rfl (fun c9 => ?_) (fun c9 => ?_)
  · exact hk _ _ _ (fun _ => by unfold i_gv; rw [if_pos rfl, if_pos c9])
  · refine ar_aload_n (pc' := 13) hM rfl rfl rfl ?_
    refine ar_getfield (pc' := 16) hM rfl ht0 rfl rfl ?_
    refine ar_if_le (pc' := 19) hM rfl rfl (fun c16 => ?_) (fun c16 => ?_)
    · exact hk _ _ _ (fun h => absurd c16 (nI_nle h (by omega)))
    · refine ar_aload_n (pc' := 20) hM rfl rfl rfl ?_
      refine ar_getfield (pc' := 23) hM rfl hd0 rfl rfl ?_
      refine ar_aload_n (pc' := 24) hM rfl rfl rfl ?_
      refine ar_getfield (pc' := 27) hM rfl hs0 rfl rfl ?_
      refine ar_aload_n (pc' := 28) hM rfl rfl rfl ?_
      refine ar_getfield (pc' := 31) hM rfl ht0 rfl rfl ?_
      refine ar_iconst (x := 1) (pc' := 32) hM rfl (by decide) rfl ?_
      refine ar_isub (pc' := 33) hM rfl rfl ?_
      rw [show ((nI n) - 1 : Int32) = nI (n - 1) from i_pred (i_nle0 c16)]
      refine ar_ialoadN (j := n - 1) (pc' := 34) hM rfl hs1 rfl (by have := i_nle0 c16; omega) (Nat.le_of_ble_eq_true rfl) rfl ?_
      rw [show (so (n - 1) : Int32) = nI (od (n - 1)) from (hod (n - 1) (by have := i_nle0 c16; omega)).1]
      refine ar_ialoadN (j := od (n - 1)) (pc' := 35) hM rfl hd2 rfl (by have := i_nle0 c16; have := (hod (n - 1) (by omega)).2; omega) (Nat.le_of_ble_eq_true rfl) rfl ?_
      refine ar_istore_n (pc' := 36) hM rfl rfl rfl rfl ?_
      exact hk _ _ _ (fun _ => by unfold i_gv; rw [if_pos rfl, if_neg c9])
end
section
/-! Today: a look, a day; sums, powers, common divisors -/
theorem i_gv_congr {ri tr : Int32} {n : Nat} {fs gs : Nat → Int32} {od : Nat → Nat} (h : ∀ k, k < n → fs k = gs k) (hod : ∀ p, p < n → od p < n) {p : Nat} (hp : p < n) : i_gv ri tr n fs od p = i_gv ri tr n gs od p := by
  unfold i_gv
  rw [h (od (n - 1)) (hod _ (by omega)), h (od (p - 1)) (hod _ (by omega))]
/-- what the rows of a look hold, by places -/
def i_lkp (n : Nat) (od : Nat → Nat) (ri tr : Int32) (ss ba wt sy : Nat → Int32) (a3 a4 a5 a6 a7 : Nat → Int32) : Prop :=
  ∀ p, p < n → a3 (od p) = i_gv ri tr n sy od p ∧ a4 (od p) = i_dr (wt (od p)) (i_gv ri tr n sy od p) (ss (od p)) ∧ a5 (od p) = i_lk (wt (od p)) (i_gv ri tr n sy od p) (ss (od p)) ∧ a6 (od p) = i_lf (wt (od p)) (i_gv ri tr n sy od p) (ss (od p)) (ba (od p)) ∧ a7 (od p) = i_sp (wt (od p)) (i_gv ri tr n sy od p) (ss (od p)) (ba (od p))
theorem i_lkp_of {n : Nat} {od : Nat → Nat} {ri tr : Int32} {ss ba wt sy fw fs a3 a4 a5 a6 a7 : Nat → Int32} (hw : ∀ k, k < n → fw k = wt k) (hs : ∀ k, k < n → fs k = sy k) (hod : ∀ p, p < n → od p < n) (q3 : ∀ p, p < n → a3 (od p) = i_gv ri tr n fs od p) (q4 : ∀ p, p < n → a4 (od p) = i_dr (fw (od p)) (i_gv ri tr n fs od p) (ss (od p))) (q5 : ∀ p, p < n → a5 (od p) = i_lk (fw (od p)) (i_gv ri tr n fs od p) (ss (od p))) (q6 : ∀ p, p < n → a6 (od p) = i_lf (fw (od p)) (i_gv ri tr n fs od p) (ss (od p)) (ba (od p))) (q7 : ∀ p, p < n → a7 (od p) = i_sp (fw (od p)) (i_gv ri tr n fs od p) (ss (od p)) (ba (od p))) : i_lkp n od ri tr ss ba wt sy a3 a4 a5 a6 a7 := by
  intro p hp
  rw [q3 p hp, q4 p hp, q5 p hp, q6 p hp, q7 p hp, i_gv_congr hs hod hp, hw (od p) (hod p hp)]
  exact ⟨rfl, rfl, rfl, rfl, rfl⟩
def i_sum (f : Nat → Int32) : Nat → Int32
  | 0 => 0
  | n + 1 => i_sum f n + f n
def i_grt (f : Nat → Int32) : Nat → Int32
  | 0 => 0
  | n + 1 => i_max (i_grt f n) (f n)
def i_pow (b : Int32) : Nat → Int32
  | 0 => 1
  | n + 1 => i_pow b n * b
def l_wd (r : Int64) : Nat → Int64
  | 0 => r
  | n + 1 => l_wd r n / 1000
def i_eu : Nat → Int32 → Int32 → Int32
  | 0, x, _ => x
  | k + 1, x, y => if y = 0 then x else i_eu k y (x - x / y * y)
set_option maxRecDepth 100000 in
set_option maxHeartbeats 4000000 in
theorem c_lookAt (w : am_W) (d : Nat) (h2d : 2 ≤ d) (tr ri : Int32) (n kk : Nat) (wa ki ba he : Nat → Int32) (ht0 : w[d]? = some (.inr (9, [.int tr, .int ri, .int (nI n), .int (nI kk), .ref (d + 1), .ref (d + 2), .ref (d + 3), .ref (d + 4)]))) (ht1 : w[d + 1]? = some (.inl (0, 6, .inl wa))) (ht2 : w[d + 2]? = some (.inl (0, 6, .inl ki))) (ht3 : w[d + 3]? = some (.inl (0, 6, .inl ba))) (ht4 : w[d + 4]? = some (.inl (0, 5, .inl he))) (hn : n ≤ 6) (hkk : kk ≤ 5) (s : Nat) (h2s : 2 ≤ s) (so ss sl : Nat → Int32) (sa sw : Int32) (dy : Nat) (hdy : dy < 2 ^ 31) (hs0 : w[s]? = some (.inr (6, [.ref (s + 1), .ref (s + 2), .ref (s + 3), .int sa, .int sw, .int (nI dy)]))) (hs1 : w[s + 1]? = some (.inl (0, 6, .inl so))) (hs2 : w[s + 2]? = some (.inl (0, 6, .inl ss))) (hs3 : w[s + 3]? = some (.inl (0, 6, .inl sl))) (t : Nat) (h2t : 2 ≤ t) (dw ds dg dd dl df dv : Nat → Int32) (hd0 : w[t]? = some (.inr (8, [.ref (t + 1), .ref (t + 2), .ref (t + 3), .ref (t + 4), .ref (t + 5), .ref (t + 6), .ref (t + 7)]))) (hd1 : w[t + 1]? = some (.inl (0, 6, .inl dw))) (hd2 : w[t + 2]? = some (.inl (0, 6, .inl ds))) (hd3 : w[t + 3]? = some (.inl (0, 6, .inl dg))) (hd4 : w[t + 4]? = some (.inl (0, 6, .inl dd))) (hd5 : w[t + 5]? = some (.inl (0, 6, .inl dl))) (hd6 : w[t + 6]? = some (.inl (0, 6, .inl df))) (hd7 : w[t + 7]? = some (.inl (0, 6, .inl dv))) (j1 : t + 8 ≤ d ∨ d + 5 ≤ t) (j2 : t + 8 ≤ s ∨ s + 4 ≤ t) (j3 : d + 5 ≤ s ∨ s + 4 ≤ d) (od : Nat → Nat) (hod : ∀ p, p < n → so p = nI (od p) ∧ od p < n) (inj : ∀ p q, p < n → q < n → od p = od q → p = q) : am_Go 54 (0, [.ref t, .ref d, .ref s], [], w, 0, 0) (fun res w' => ∃ fw fs a3 a4 a5 a6 a7, res = none ∧ w' = (((((((w.set (t + 1) (.inl (0, 6, .inl fw))).set (t + 2) (.inl (0, 6, .inl fs))).set (t + 3) (.inl (0, 6, .inl a3))).set (t + 4) (.inl (0, 6, .inl a4))).set (t + 5) (.inl (0, 6, .inl a5))).set (t + 6) (.inl (0, 6, .inl a6))).set (t + 7) (.inl (0, 6, .inl a7))) ∧ (∀ h, h < n → fw h = (i_wnt wa ki (i_heat kk he dy) sa sw 0) h) ∧ (∀ h, h < n → fs h = (i_say wa ki (i_heat kk he dy) sa sw 0) h) ∧ i_lkp n od ri tr ss ba (i_wnt wa ki (i_heat kk he dy) sa sw 0) (i_say wa ki (i_heat kk he dy) sa sw 0) a3 a4 a5 a6 a7) := by
  have hM : am_P[54]? = some zm_X8_lookAt := rfl
  refine ar_aload_n (pc' := 1) hM rfl rfl rfl ?_
  refine ar_aload_n (pc' := 2) hM rfl rfl rfl ?_
  refine ar_aload_n (pc' := 3) hM rfl rfl rfl ?_
  refine ar_iconst (x := 0) (pc' := 4) hM rfl (by decide) rfl ?_
  refine ar_virtual (pc' := 7) (k3 := 0) (k4 := 0) hM rfl rfl hd0 ⟨rfl, (by omega)⟩ rfl rfl (c_hear _ d (by omega) _ _ _ _ _ _ _ _ ht0 ht1 ht2 ht3 ht4 hn hkk s (by omega) _ _ _ _ _ dy hdy hs0 hs1 hs2 hs3 t (by omega) _ _ _ _ _ _ _ hd0 hd1 hd2 hd3 hd4 hd5 hd6 hd7 (by omega) (by omega) (by omega) 0) (fun r4 w4 q4 => ?_)
  obtain ⟨fw, fs, rfl, hw, hfw, hfs⟩ := q4
  rw [hw]
  show am_Go 54 (7, [.ref t, .ref d, .ref s], [], ((w.set (t + 1) (.inl (0, 6, .inl fw))).set (t + 2) (.inl (0, 6, .inl fs))), 0, 0) _
  refine ar_aload_n (pc' := 8) hM rfl rfl rfl ?_
  refine ar_aload_n (pc' := 9) hM rfl rfl rfl ?_
  refine ar_aload_n (pc' := 10) hM rfl rfl rfl ?_
  refine ar_virtual (pc' := 13) (k3 := 0) (k4 := 0) hM rfl rfl (am_gn (by omega) (am_gn (by omega) hd0)) ⟨rfl, (by omega)⟩ rfl rfl (c_pour _ d (by omega) _ _ _ _ _ _ _ _ (am_gn (by omega) (am_gn (by omega) ht0)) (am_gn (by omega) (am_gn (by omega) ht1)) (am_gn (by omega) (am_gn (by omega) ht2)) (am_gn (by omega) (am_gn (by omega) ht3)) (am_gn (by omega) (am_gn (by omega) ht4)) hn hkk s (by omega) _ _ _ _ _ dy hdy (am_gn (by omega) (am_gn (by omega) hs0)) (am_gn (by omega) (am_gn (by omega) hs1)) (am_gn (by omega) (am_gn (by omega) hs2)) (am_gn (by omega) (am_gn (by omega) hs3)) t (by omega) _ _ _ _ _ _ _ (am_gn (by omega) (am_gn (by omega) hd0)) (am_gn (by omega) (am_gs hd1)) (am_gs (am_gn (by omega) hd2)) (am_gn (by omega) (am_gn (by omega) hd3)) (am_gn (by omega) (am_gn (by omega) hd4)) (am_gn (by omega) (am_gn (by omega) hd5)) (am_gn (by omega) (am_gn (by omega) hd6)) (am_gn (by omega) (am_gn (by omega) hd7)) (by omega) (by omega) (by omega) od hod inj) (fun r10 w10 q10 => ?_)
  obtain ⟨a3, a4, a5, a6, a7, rfl, hw2, q3, q4, q5, q6, q7⟩ := q10
  rw [hw2]
  show am_Go 54 (13, [.ref t, .ref d, .ref s], [], (((((((w.set (t + 1) (.inl (0, 6, .inl fw))).set (t + 2) (.inl (0, 6, .inl fs))).set (t + 3) (.inl (0, 6, .inl a3))).set (t + 4) (.inl (0, 6, .inl a4))).set (t + 5) (.inl (0, 6, .inl a5))).set (t + 6) (.inl (0, 6, .inl a6))).set (t + 7) (.inl (0, 6, .inl a7))), 0, 0) _
  refine ar_return hM rfl ?_
  exact ⟨fw, fs, a3, a4, a5, a6, a7, rfl, rfl, hfw, hfs, i_lkp_of hfw hfs (fun p hp => (hod p hp).2) q3 q4 q5 q6 q7⟩
set_option maxRecDepth 100000 in
set_option maxHeartbeats 4000000 in
theorem c_pass (w : am_W) (d : Nat) (h2d : 2 ≤ d) (tr ri : Int32) (n kk : Nat) (wa ki ba he : Nat → Int32) (ht0 : w[d]? = some (.inr (9, [.int tr, .int ri, .int (nI n), .int (nI kk), .ref (d + 1), .ref (d + 2), .ref (d + 3), .ref (d + 4)]))) (ht1 : w[d + 1]? = some (.inl (0, 6, .inl wa))) (ht2 : w[d + 2]? = some (.inl (0, 6, .inl ki))) (ht3 : w[d + 3]? = some (.inl (0, 6, .inl ba))) (ht4 : w[d + 4]? = some (.inl (0, 5, .inl he))) (hn : n ≤ 6) (hkk : kk ≤ 5) (s : Nat) (h2s : 2 ≤ s) (so ss sl : Nat → Int32) (sa sw : Int32) (dy : Nat) (hdy : dy < 2 ^ 31) (hs0 : w[s]? = some (.inr (6, [.ref (s + 1), .ref (s + 2), .ref (s + 3), .int sa, .int sw, .int (nI dy)]))) (hs1 : w[s + 1]? = some (.inl (0, 6, .inl so))) (hs2 : w[s + 2]? = some (.inl (0, 6, .inl ss))) (hs3 : w[s + 3]? = some (.inl (0, 6, .inl sl))) (t : Nat) (h2t : 2 ≤ t) (dw ds dg dd dl df dv : Nat → Int32) (hd0 : w[t]? = some (.inr (8, [.ref (t + 1), .ref (t + 2), .ref (t + 3), .ref (t + 4), .ref (t + 5), .ref (t + 6), .ref (t + 7)]))) (hd1 : w[t + 1]? = some (.inl (0, 6, .inl dw))) (hd2 : w[t + 2]? = some (.inl (0, 6, .inl ds))) (hd3 : w[t + 3]? = some (.inl (0, 6, .inl dg))) (hd4 : w[t + 4]? = some (.inl (0, 6, .inl dd))) (hd5 : w[t + 5]? = some (.inl (0, 6, .inl dl))) (hd6 : w[t + 6]? = some (.inl (0, 6, .inl df))) (hd7 : w[t + 7]? = some (.inl (0, 6, .inl dv))) (j1 : t + 8 ≤ d ∨ d + 5 ≤ t) (j2 : t + 8 ≤ s ∨ s + 4 ≤ t) (j3 : d + 5 ≤ s ∨ s + 4 ≤ d) (od : Nat → Nat) (hod : ∀ p, p < n → so p = nI (od p) ∧ od p < n) (inj : ∀ p q, p < n → q < n → od p = od q → p = q) : am_Go 58 (0, [.ref t, .ref d, .ref s, .float 0], [], w, 0, 0) (fun res w' => ∃ fw fs a3 a4 a5 a6 a7 b2 b3, res = none ∧ w' = (((((((((w.set (t + 1) (.inl (0, 6, .inl fw))).set (t + 2) (.inl (0, 6, .inl fs))).set (t + 3) (.inl (0, 6, .inl a3))).set (t + 4) (.inl (0, 6, .inl a4))).set (t + 5) (.inl (0, 6, .inl a5))).set (t + 6) (.inl (0, 6, .inl a6))).set (t + 7) (.inl (0, 6, .inl a7))).set (s + 2) (.inl (0, 6, .inl b2))).set (s + 3) (.inl (0, 6, .inl b3))).set s (.inr (6, [.ref (s + 1), .ref (s + 2), .ref (s + 3), .int 0, .int sw, .int (nI (dy + 1))])) ∧ (∀ h, h < n → fw h = (i_wnt wa ki (i_heat kk he dy) sa sw 0) h) ∧ (∀ h, h < n → fs h = (i_say wa ki (i_heat kk he dy) sa sw 0) h) ∧ i_lkp n od ri tr ss ba (i_wnt wa ki (i_heat kk he dy) sa sw 0) (i_say wa ki (i_heat kk he dy) sa sw 0) a3 a4 a5 a6 a7 ∧ (∀ h, h < n → b2 h = a6 h) ∧ (∀ h, h < n → b3 h = sl h + a5 h)) := by
  have hM : am_P[58]? = some zm_X8_pass := rfl
  refine ar_aload_n (pc' := 1) hM rfl rfl rfl ?_
  refine ar_aload_n (pc' := 2) hM rfl rfl rfl ?_
  refine ar_aload_n (pc' := 3) hM rfl rfl rfl ?_
  refine ar_virtual (pc' := 6) (k3 := 0) (k4 := 0) hM rfl rfl hd0 ⟨rfl, (by omega)⟩ rfl rfl (c_lookAt _ d (by omega) _ _ _ _ _ _ _ _ ht0 ht1 ht2 ht3 ht4 hn hkk s (by omega) _ _ _ _ _ dy hdy hs0 hs1 hs2 hs3 t (by omega) _ _ _ _ _ _ _ hd0 hd1 hd2 hd3 hd4 hd5 hd6 hd7 (by omega) (by omega) (by omega) od hod inj) (fun r3 w3 q3 => ?_)
  obtain ⟨fw, fs, a3, a4, a5, a6, a7, rfl, hw, hfw, hfs, hlk⟩ := q3
  rw [hw]
  show am_Go 58 (6, [.ref t, .ref d, .ref s, .float 0], [], (((((((w.set (t + 1) (.inl (0, 6, .inl fw))).set (t + 2) (.inl (0, 6, .inl fs))).set (t + 3) (.inl (0, 6, .inl a3))).set (t + 4) (.inl (0, 6, .inl a4))).set (t + 5) (.inl (0, 6, .inl a5))).set (t + 6) (.inl (0, 6, .inl a6))).set (t + 7) (.inl (0, 6, .inl a7))), 0, 0) _
  refine ar_iconst (x := 0) (pc' := 7) hM rfl (by decide) rfl ?_
  refine ar_istore_n (pc' := 8) hM rfl rfl rfl rfl ?_
  have loop : ∀ (dj j : Nat) (b2 : Nat → Int32) (b3 : Nat → Int32), dj + j = n → (∀ p, p < j → b2 p = a6 p) → (∀ p, p < j → b3 p = (fun h => sl h + a5 h) p) → (∀ p, j ≤ p → b3 p = sl p) → am_Go 58 (8, [.ref t, .ref d, .ref s, .int (nI j)], [], (((((((((w.set (t + 1) (.inl (0, 6, .inl fw))).set (t + 2) (.inl (0, 6, .inl fs))).set (t + 3) (.inl (0, 6, .inl a3))).set (t + 4) (.inl (0, 6, .inl a4))).set (t + 5) (.inl (0, 6, .inl a5))).set (t + 6) (.inl (0, 6, .inl a6))).set (t + 7) (.inl (0, 6, .inl a7))).set (s + 2) (.inl (0, 6, .inl b2))).set (s + 3) (.inl (0, 6, .inl b3))), 0, 0) (fun res w' => ∃ fw fs a3 a4 a5 a6 a7 b2 b3, res = none ∧ w' = (((((((((w.set (t + 1) (.inl (0, 6, .inl fw))).set (t + 2) (.inl (0, 6, .inl fs))).set (t + 3) (.inl (0, 6, .inl a3))).set (t + 4) (.inl (0, 6, .inl a4))).set (t + 5) (.inl (0, 6, .inl a5))).set (t + 6) (.inl (0, 6, .inl a6))).set (t + 7) (.inl (0, 6, .inl a7))).set (s + 2) (.inl (0, 6, .inl b2))).set (s + 3) (.inl (0, 6, .inl b3))).set s (.inr (6, [.ref (s + 1), .ref (s + 2), .ref (s + 3), .int 0, .int sw, .int (nI (dy + 1))])) ∧ (∀ h, h < n → fw h = (i_wnt wa ki (i_heat kk he dy) sa sw 0) h) ∧ (∀ h, h < n → fs h = (i_say wa ki (i_heat kk he dy) sa sw 0) h) ∧ i_lkp n od ri tr ss ba (i_wnt wa ki (i_heat kk he dy) sa sw 0) (i_say wa ki (i_heat kk he dy) sa sw 0) a3 a4 a5 a6 a7 ∧ (∀ h, h < n → b2 h = a6 h) ∧ (∀ h, h < n → b3 h = sl h + a5 h)) := by
    intro dj
    induction dj with
    | zero =>
      intro j b2 b3 hj h2 h3 h4
      refine ar_iload_n (pc' := 9) hM rfl rfl rfl ?_
      refine ar_aload_n (pc' := 10) hM rfl rfl rfl ?_
      refine ar_getfield (pc' := 13) hM rfl (am_gn (by omega) (am_gn (by omega) (am_gn (by omega) (am_gn (by omega) (am_gn (by omega) (am_gn (by omega) (am_gn (by omega) (am_gn (by omega) (am_gn (by omega) ht0))))))))) rfl rfl ?_
      refine ar_icmp_ge (pc' := 16) hM rfl rfl (fun _ => ?_) (fun q => absurd (nI_le (a := n) (b := j) (by omega) (by omega)) q)
      refine ar_aload_n (pc' := 50) hM rfl rfl rfl ?_
      refine ar_iconst (x := 0) (pc' := 51) hM rfl (by decide) rfl ?_
      refine ar_putfield (pc' := 54) hM rfl (am_gn (by omega) (am_gn (by omega) (am_gn (by omega) (am_gn (by omega) (am_gn (by omega) (am_gn (by omega) (am_gn (by omega) (am_gn (by omega) (am_gn (by omega) hs0))))))))) (Nat.le_of_ble_eq_true rfl) rfl (by omega) rfl ?_
      show am_Go 58 (54, [.ref t, .ref d, .ref s, .int (nI j)], [], ((((((((((w.set (t + 1) (.inl (0, 6, .inl fw))).set (t + 2) (.inl (0, 6, .inl fs))).set (t + 3) (.inl (0, 6, .inl a3))).set (t + 4) (.inl (0, 6, .inl a4))).set (t + 5) (.inl (0, 6, .inl a5))).set (t + 6) (.inl (0, 6, .inl a6))).set (t + 7) (.inl (0, 6, .inl a7))).set (s + 2) (.inl (0, 6, .inl b2))).set (s + 3) (.inl (0, 6, .inl b3))).set s (.inr (6, [.ref (s + 1), .ref (s + 2), .ref (s + 3), .int 0, .int sw, .int (nI dy)]))), 0, 0) _
      refine ar_aload_n (pc' := 55) hM rfl rfl rfl ?_
      refine ar_dup (pc' := 56) hM rfl rfl rfl ?_
      refine ar_getfield (pc' := 59) hM rfl (am_gs (am_gn (by omega) (am_gn (by omega) (am_gn (by omega) (am_gn (by omega) (am_gn (by omega) (am_gn (by omega) (am_gn (by omega) (am_gn (by omega) (am_gn (by omega) hs0)))))))))) rfl rfl ?_
      refine ar_iconst (x := 1) (pc' := 60) hM rfl (by decide) rfl ?_
      refine ar_iadd (pc' := 61) hM rfl rfl ?_
      rw [show ((nI dy) + 1 : Int32) = nI (dy + 1) from nI_1 dy]
      refine ar_putfield (pc' := 64) hM rfl (am_gs (am_gn (by omega) (am_gn (by omega) (am_gn (by omega) (am_gn (by omega) (am_gn (by omega) (am_gn (by omega) (am_gn (by omega) (am_gn (by omega) (am_gn (by omega) hs0)))))))))) (Nat.le_of_ble_eq_true rfl) rfl (by omega) rfl ?_
      show am_Go 58 (64, [.ref t, .ref d, .ref s, .int (nI j)], [], (((((((((((w.set (t + 1) (.inl (0, 6, .inl fw))).set (t + 2) (.inl (0, 6, .inl fs))).set (t + 3) (.inl (0, 6, .inl a3))).set (t + 4) (.inl (0, 6, .inl a4))).set (t + 5) (.inl (0, 6, .inl a5))).set (t + 6) (.inl (0, 6, .inl a6))).set (t + 7) (.inl (0, 6, .inl a7))).set (s + 2) (.inl (0, 6, .inl b2))).set (s + 3) (.inl (0, 6, .inl b3))).set s (.inr (6, [.ref (s + 1), .ref (s + 2), .ref (s + 3), .int 0, .int sw, .int (nI dy)]))).set s (.inr (6, [.ref (s + 1), .ref (s + 2), .ref (s + 3), .int 0, .int sw, .int (nI (dy + 1))]))), 0, 0) _
      refine ar_return hM rfl ?_
      rw [show (((((((((((w.set (t + 1) (.inl (0, 6, .inl fw))).set (t + 2) (.inl (0, 6, .inl fs))).set (t + 3) (.inl (0, 6, .inl a3))).set (t + 4) (.inl (0, 6, .inl a4))).set (t + 5) (.inl (0, 6, .inl a5))).set (t + 6) (.inl (0, 6, .inl a6))).set (t + 7) (.inl (0, 6, .inl a7))).set (s + 2) (.inl (0, 6, .inl b2))).set (s + 3) (.inl (0, 6, .inl b3))).set s (.inr (6, [.ref (s + 1), .ref (s + 2), .ref (s + 3), .int 0, .int sw, .int (nI dy)]))).set s (.inr (6, [.ref (s + 1), .ref (s + 2), .ref (s + 3), .int 0, .int sw, .int (nI (dy + 1))]))) = ((((((((((w.set (t + 1) (.inl (0, 6, .inl fw))).set (t + 2) (.inl (0, 6, .inl fs))).set (t + 3) (.inl (0, 6, .inl a3))).set (t + 4) (.inl (0, 6, .inl a4))).set (t + 5) (.inl (0, 6, .inl a5))).set (t + 6) (.inl (0, 6, .inl a6))).set (t + 7) (.inl (0, 6, .inl a7))).set (s + 2) (.inl (0, 6, .inl b2))).set (s + 3) (.inl (0, 6, .inl b3))).set s (.inr (6, [.ref (s + 1), .ref (s + 2), .ref (s + 3), .int 0, .int sw, .int (nI (dy + 1))]))) from by rw [List.set_set]]
      exact ⟨fw, fs, a3, a4, a5, a6, a7, b2, b3, rfl, rfl, hfw, hfs, hlk, fun p hp => h2 p (by omega), fun p hp => h3 p (by omega)⟩
    | succ dj ih =>
      intro j b2 b3 hj h2 h3 h4
      refine ar_iload_n (pc' := 9) hM rfl rfl rfl ?_
      refine ar_aload_n (pc' := 10) hM rfl rfl rfl ?_
      refine ar_getfield (pc' := 13) hM rfl (am_gn (by omega) (am_gn (by omega) (am_gn (by omega) (am_gn (by omega) (am_gn (by omega) (am_gn (by omega) (am_gn (by omega) (am_gn (by omega) (am_gn (by omega) ht0))))))))) rfl rfl ?_
      refine ar_icmp_ge (pc' := 16) hM rfl rfl (fun q => absurd q (nI_ge (a := j) (b := n) (by omega) (by omega))) (fun _ => ?_)
      refine ar_aload_n (pc' := 17) hM rfl rfl rfl ?_
      refine ar_getfield (pc' := 20) hM rfl (am_gn (by omega) (am_gn (by omega) (am_gn (by omega) (am_gn (by omega) (am_gn (by omega) (am_gn (by omega) (am_gn (by omega) (am_gn (by omega) (am_gn (by omega) hs0))))))))) rfl rfl ?_
      refine ar_iload_n (pc' := 21) hM rfl rfl rfl ?_
      refine ar_aload_n (pc' := 22) hM rfl rfl rfl ?_
      refine ar_getfield (pc' := 25) hM rfl (am_gn (by omega) (am_gn (by omega) (am_gn (by omega) (am_gn (by omega) (am_gn (by omega) (am_gn (by omega) (am_gn (by omega) (am_gn (by omega) (am_gn (by omega) hd0))))))))) rfl rfl ?_
      refine ar_iload_n (pc' := 26) hM rfl rfl rfl ?_
      refine ar_ialoadN (j := j) (pc' := 27) hM rfl (am_gn (by omega) (am_gn (by omega) (am_gn (by omega) (am_gs (am_gn (by omega) (am_gn (by omega) (am_gn (by omega) (am_gn (by omega) (am_gn (by omega) hd6))))))))) rfl (by omega) (Nat.le_of_ble_eq_true rfl) rfl ?_
      refine ar_iastoreN (j := j) (pc' := 28) hM rfl (am_gn (by omega) (am_gs (am_gn (by omega) (am_gn (by omega) (am_gn (by omega) (am_gn (by omega) (am_gn (by omega) (am_gn (by omega) (am_gn (by omega) hs2))))))))) rfl (by omega) (Nat.le_of_ble_eq_true rfl) (by omega) rfl ?_
      refine ar_aload_n (pc' := 29) hM rfl rfl rfl ?_
      refine ar_getfield (pc' := 32) hM rfl (am_gn (by omega) (am_gn (by omega) (am_gn (by omega) (am_gn (by omega) (am_gn (by omega) (am_gn (by omega) (am_gn (by omega) (am_gn (by omega) (am_gn (by omega) (am_gn (by omega) hs0)))))))))) rfl rfl ?_
      refine ar_iload_n (pc' := 33) hM rfl rfl rfl ?_
      refine ar_dup2 (pc' := 34) hM rfl rfl rfl rfl ?_
      refine ar_ialoadN (j := j) (pc' := 35) hM rfl (am_gn (by omega) (am_gs (am_gn (by omega) (am_gn (by omega) (am_gn (by omega) (am_gn (by omega) (am_gn (by omega) (am_gn (by omega) (am_gn (by omega) (am_gn (by omega) hs3)))))))))) rfl (by omega) (Nat.le_of_ble_eq_true rfl) rfl ?_
      refine ar_aload_n (pc' := 36) hM rfl rfl rfl ?_
      refine ar_getfield (pc' := 39) hM rfl (am_gn (by omega) (am_gn (by omega) (am_gn (by omega) (am_gn (by omega) (am_gn (by omega) (am_gn (by omega) (am_gn (by omega) (am_gn (by omega) (am_gn (by omega) (am_gn (by omega) hd0)))))))))) rfl rfl ?_
      refine ar_iload_n (pc' := 40) hM rfl rfl rfl ?_
      refine ar_ialoadN (j := j) (pc' := 41) hM rfl (am_gn (by omega) (am_gn (by omega) (am_gn (by omega) (am_gn (by omega) (am_gn (by omega) (am_gs (am_gn (by omega) (am_gn (by omega) (am_gn (by omega) (am_gn (by omega) hd5)))))))))) rfl (by omega) (Nat.le_of_ble_eq_true rfl) rfl ?_
      refine ar_iadd (pc' := 42) hM rfl rfl ?_
      refine ar_iastoreN (j := j) (pc' := 43) hM rfl (am_gn (by omega) (am_gs (am_gn (by omega) (am_gn (by omega) (am_gn (by omega) (am_gn (by omega) (am_gn (by omega) (am_gn (by omega) (am_gn (by omega) (am_gn (by omega) hs3)))))))))) rfl (by omega) (Nat.le_of_ble_eq_true rfl) (by omega) rfl ?_
      refine ar_iinc (z := nI (j + 1)) (pc' := 46) hM rfl rfl (nI_1 _) rfl rfl rfl ?_
      refine ar_goto hM rfl ?_
      rw [show ((((((((((w.set (t + 1) (.inl (0, 6, .inl fw))).set (t + 2) (.inl (0, 6, .inl fs))).set (t + 3) (.inl (0, 6, .inl a3))).set (t + 4) (.inl (0, 6, .inl a4))).set (t + 5) (.inl (0, 6, .inl a5))).set (t + 6) (.inl (0, 6, .inl a6))).set (t + 7) (.inl (0, 6, .inl a7))).set (s + 2) (.inl (0, 6, .inl b2))).set (s + 3) (.inl (0, 6, .inl b3))).set (s + 2) (.inl (0, 6, .inl (upd b2 j (a6 j))))) = (((((((((w.set (t + 1) (.inl (0, 6, .inl fw))).set (t + 2) (.inl (0, 6, .inl fs))).set (t + 3) (.inl (0, 6, .inl a3))).set (t + 4) (.inl (0, 6, .inl a4))).set (t + 5) (.inl (0, 6, .inl a5))).set (t + 6) (.inl (0, 6, .inl a6))).set (t + 7) (.inl (0, 6, .inl a7))).set (s + 2) (.inl (0, 6, .inl (upd b2 j (a6 j))))).set (s + 3) (.inl (0, 6, .inl b3))) from by rw [List.set_comm _ _ (show s + 3 ≠ s + 2 by omega), List.set_set]]
      rw [show ((((((((((w.set (t + 1) (.inl (0, 6, .inl fw))).set (t + 2) (.inl (0, 6, .inl fs))).set (t + 3) (.inl (0, 6, .inl a3))).set (t + 4) (.inl (0, 6, .inl a4))).set (t + 5) (.inl (0, 6, .inl a5))).set (t + 6) (.inl (0, 6, .inl a6))).set (t + 7) (.inl (0, 6, .inl a7))).set (s + 2) (.inl (0, 6, .inl (upd b2 j (a6 j))))).set (s + 3) (.inl (0, 6, .inl b3))).set (s + 3) (.inl (0, 6, .inl (upd b3 j ((b3 j) + (a5 j)))))) = (((((((((w.set (t + 1) (.inl (0, 6, .inl fw))).set (t + 2) (.inl (0, 6, .inl fs))).set (t + 3) (.inl (0, 6, .inl a3))).set (t + 4) (.inl (0, 6, .inl a4))).set (t + 5) (.inl (0, 6, .inl a5))).set (t + 6) (.inl (0, 6, .inl a6))).set (t + 7) (.inl (0, 6, .inl a7))).set (s + 2) (.inl (0, 6, .inl (upd b2 j (a6 j))))).set (s + 3) (.inl (0, 6, .inl (upd b3 j ((b3 j) + (a5 j)))))) from by rw [List.set_set]]
      exact ih (j + 1) (upd b2 j (a6 j)) (upd b3 j ((b3 j) + (a5 j))) (by omega) (am_fs h2 rfl) (am_fs (F := fun h => sl h + a5 h) h3 (by rw [h4 j (by omega)])) (am_ft h4)
  have hl0 := loop (n) 0 ss sl (by omega) (fun p hp => by omega) (fun p hp => by omega) (fun p hp => rfl)
  rw [am_si (am_gn (by omega) (am_gn (by omega) (am_gn (by omega) (am_gn (by omega) (am_gn (by omega) (am_gn (by omega) (am_gn (by omega) hs2))))))), am_si (am_gn (by omega) (am_gn (by omega) (am_gn (by omega) (am_gn (by omega) (am_gn (by omega) (am_gn (by omega) (am_gn (by omega) hs3)))))))] at hl0
  exact hl0
set_option maxRecDepth 100000 in
set_option maxHeartbeats 4000000 in
theorem c_sum (w : am_W) (q : Nat) (f : Nat → Int32) (hq : w[q]? = some (.inl (0, 6, .inl f))) (n : Nat) (hn : n ≤ 6) : am_Go 96 (0, [.ref q, .int (nI n), .float 0, .float 0], [], w, 0, 0) (fun res w' => res = some (.int (i_sum f n)) ∧ w' = w) := by
  have hM : am_P[96]? = some zm_X10_sum := rfl
  refine ar_iconst (x := 0) (pc' := 1) hM rfl (by decide) rfl ?_
  refine ar_istore_n (pc' := 2) hM rfl rfl rfl rfl ?_
  refine ar_iconst (x := 0) (pc' := 3) hM rfl (by decide) rfl ?_
  refine ar_istore_n (pc' := 4) hM rfl rfl rfl rfl ?_
  have loop : ∀ (dj j : Nat) (x : Int32), dj + j = n → (x = i_sum f j) → am_Go 96 (4, [.ref q, .int (nI n), .int x, .int (nI j)], [], w, 0, 0) (fun res w' => res = some (.int (i_sum f n)) ∧ w' = w) := by
    intro dj
    induction dj with
    | zero =>
      intro j x hj hx
      refine ar_iload_n (pc' := 5) hM rfl rfl rfl ?_
      refine ar_iload_n (pc' := 6) hM rfl rfl rfl ?_
      refine ar_icmp_ge (pc' := 9) hM rfl rfl (fun _ => ?_) (fun q => absurd (nI_le (a := n) (b := j) (by omega) (by omega)) q)
      refine ar_iload_n (pc' := 28) hM rfl rfl rfl ?_
      refine ar_ireturn hM rfl (Or.inl rfl) ?_
      exact ⟨by rw [hx, show j = n by omega], rfl⟩
    | succ dj ih =>
      intro j x hj hx
      refine ar_iload_n (pc' := 5) hM rfl rfl rfl ?_
      refine ar_iload_n (pc' := 6) hM rfl rfl rfl ?_
      refine ar_icmp_ge (pc' := 9) hM rfl rfl (fun q => absurd q (nI_ge (a := j) (b := n) (by omega) (by omega))) (fun _ => ?_)
      refine ar_iload_n (pc' := 10) hM rfl rfl rfl ?_
      refine ar_aload_n (pc' := 11) hM rfl rfl rfl ?_
      refine ar_arraylength (x := nI 6) (pc' := 12) hM rfl hq rfl rfl ?_
      refine ar_icmp_ge (pc' := 15) hM rfl rfl (fun q => absurd q (nI_ge (a := j) (b := 6) (by omega) (by omega))) (fun _ => ?_)
      refine ar_iload_n (pc' := 16) hM rfl rfl rfl ?_
      refine ar_aload_n (pc' := 17) hM rfl rfl rfl ?_
      refine ar_iload_n (pc' := 18) hM rfl rfl rfl ?_
      refine ar_ialoadN (j := j) (pc' := 19) hM rfl hq rfl (by omega) (Nat.le_of_ble_eq_true rfl) rfl ?_
      refine ar_iadd (pc' := 20) hM rfl rfl ?_
      refine ar_istore_n (pc' := 21) hM rfl rfl rfl rfl ?_
      refine ar_iinc (z := nI (j + 1)) (pc' := 24) hM rfl rfl (nI_1 _) rfl rfl rfl ?_
      refine ar_goto hM rfl ?_
      exact ih (j + 1) (x + (f j)) (by omega) (by rw [hx] <;> rfl)
  exact loop (n) 0 0 (by omega) rfl
set_option maxRecDepth 100000 in
set_option maxHeartbeats 4000000 in
theorem c_greatest (w : am_W) (q : Nat) (f : Nat → Int32) (hq : w[q]? = some (.inl (0, 6, .inl f))) (n : Nat) (hn : n ≤ 6) : am_Go 97 (0, [.ref q, .int (nI n), .float 0, .float 0], [], w, 0, 0) (fun res w' => res = some (.int (i_grt f n)) ∧ w' = w) := by
  have hM : am_P[97]? = some zm_X10_greatest := rfl
  refine ar_iconst (x := 0) (pc' := 1) hM rfl (by decide) rfl ?_
  refine ar_istore_n (pc' := 2) hM rfl rfl rfl rfl ?_
  refine ar_iconst (x := 0) (pc' := 3) hM rfl (by decide) rfl ?_
  refine ar_istore_n (pc' := 4) hM rfl rfl rfl rfl ?_
  have loop : ∀ (dj j : Nat) (x : Int32), dj + j = n → (x = i_grt f j) → am_Go 97 (4, [.ref q, .int (nI n), .int x, .int (nI j)], [], w, 0, 0) (fun res w' => res = some (.int (i_grt f n)) ∧ w' = w) := by
    intro dj
    induction dj with
    | zero =>
      intro j x hj hx
      refine ar_iload_n (pc' := 5) hM rfl rfl rfl ?_
      refine ar_iload_n (pc' := 6) hM rfl rfl rfl ?_
      refine ar_icmp_ge (pc' := 9) hM rfl rfl (fun _ => ?_) (fun q => absurd (nI_le (a := n) (b := j) (by omega) (by omega)) q)
      refine ar_iload_n (pc' := 30) hM rfl rfl rfl ?_
      refine ar_ireturn hM rfl (Or.inl rfl) ?_
      exact ⟨by rw [hx, show j = n by omega], rfl⟩
    | succ dj ih =>
      intro j x hj hx
      refine ar_iload_n (pc' := 5) hM rfl rfl rfl ?_
      refine ar_iload_n (pc' := 6) hM rfl rfl rfl ?_
      refine ar_icmp_ge (pc' := 9) hM rfl rfl (fun q => absurd q (nI_ge (a := j) (b := n) (by omega) (by omega))) (fun _ => ?_)
      refine ar_iload_n (pc' := 10) hM rfl rfl rfl ?_
      refine ar_aload_n (pc' := 11) hM rfl rfl rfl ?_
      refine ar_arraylength (x := nI 6) (pc' := 12) hM rfl hq rfl rfl ?_
      refine ar_icmp_ge (pc' := 15) hM rfl rfl (fun q => absurd q (nI_ge (a := j) (b := 6) (by omega) (by omega))) (fun _ => ?_)
      refine ar_iload_n (pc' := 16) hM rfl rfl rfl ?_
      refine ar_aload_n (pc' := 17) hM rfl rfl rfl ?_
      refine ar_iload_n (pc' := 18) hM rfl rfl rfl ?_
      refine ar_ialoadN (j := j) (pc' := 19) hM rfl hq rfl (by omega) (Nat.le_of_ble_eq_true rfl) rfl ?_
      refine ar_static (pc' := 22) (k3 := 0) (k4 := 0) hM rfl (by decide) rfl rfl (c_max _ _ _) (fun r19 w19 q19 => ?_)
      obtain ⟨rfl, q19w⟩ := q19
      rw [q19w]
      show am_Go 97 (22, [.ref q, .int (nI n), .int x, .int (nI j)], [.int (i_max x (f j))], w, 0, 0) _
      refine ar_istore_n (pc' := 23) hM rfl rfl rfl rfl ?_
      refine ar_iinc (z := nI (j + 1)) (pc' := 26) hM rfl rfl (nI_1 _) rfl rfl rfl ?_
      refine ar_goto hM rfl ?_
      exact ih (j + 1) (i_max x (f j)) (by omega) (by rw [hx] <;> rfl)
  exact loop (n) 0 0 (by omega) rfl
set_option maxRecDepth 100000 in
set_option maxHeartbeats 4000000 in
theorem c_ordersOf (w : am_W) (hq : w[0]? = some (.inl (0, 7, .inl am_fac))) (m : Nat) (hm : m ≤ 6) : am_Go 98 (0, [.int (nI m)], [], w, 0, 0) (fun res w' => res = some (.int (am_fac m)) ∧ w' = w) := by
  have hM : am_P[98]? = some zm_X10_ordersOf := rfl
  refine ar_iload_n (pc' := 1) hM rfl rfl rfl ?_
  refine ar_iconst (x := 0) (pc' := 2) hM rfl (by decide) rfl ?_
  refine ar_getstatic (pc' := 5) hM rfl rfl ?_
  refine ar_arraylength (x := nI 7) (pc' := 6) hM rfl hq rfl rfl ?_
  refine ar_iconst (x := 1) (pc' := 7) hM rfl (by decide) rfl ?_
  refine ar_isub (pc' := 8) hM rfl rfl ?_
  refine ar_static (pc' := 11) (k3 := 0) (k4 := 0) hM rfl (by decide) rfl rfl (c_within _ _ _ _) (fun r8 w8 q8 => ?_)
  obtain ⟨rfl, q8w⟩ := q8
  rw [q8w]
  show am_Go 98 (11, [.int (nI m)], [.int (if 0 ≤ (nI m) ∧ (nI m) ≤ ((nI 7) - 1) then 1 else 0)], w, 0, 0) _
  refine ar_if_eq (pc' := 14) hM rfl rfl (fun q => absurd q (by rw [if_pos ⟨nI_pos' (by omega), (show nI m ≤ nI 7 - 1 from by rw [show nI 7 - 1 = nI 6 by decide]; exact nI_le hm (by omega))⟩]; decide)) (fun _ => ?_)
  refine ar_getstatic (pc' := 17) hM rfl rfl ?_
  refine ar_iload_n (pc' := 18) hM rfl rfl rfl ?_
  refine ar_ialoadN (j := m) (pc' := 19) hM rfl hq rfl (by omega) (Nat.le_of_ble_eq_true rfl) rfl ?_
  refine ar_goto hM rfl ?_
  refine ar_ireturn hM rfl (Or.inl rfl) ?_
  exact ⟨rfl, rfl⟩
set_option maxRecDepth 100000 in
set_option maxHeartbeats 4000000 in
theorem c_power (w : am_W) (b : Int32) (e : Nat) (he : e < 2 ^ 31) : am_Go 99 (0, [.int b, .int (nI e), .float 0, .float 0], [], w, 0, 0) (fun res w' => res = some (.int (i_pow b e)) ∧ w' = w) := by
  have hM : am_P[99]? = some zm_X10_power := rfl
  refine ar_iconst (x := 1) (pc' := 1) hM rfl (by decide) rfl ?_
  refine ar_istore_n (pc' := 2) hM rfl rfl rfl rfl ?_
  refine ar_iconst (x := 0) (pc' := 3) hM rfl (by decide) rfl ?_
  refine ar_istore_n (pc' := 4) hM rfl rfl rfl rfl ?_
  have loop : ∀ (dj j : Nat) (x : Int32), dj + j = e → (x = i_pow b j) → am_Go 99 (4, [.int b, .int (nI e), .int x, .int (nI j)], [], w, 0, 0) (fun res w' => res = some (.int (i_pow b e)) ∧ w' = w) := by
    intro dj
    induction dj with
    | zero =>
      intro j x hj hx
      refine ar_iload_n (pc' := 5) hM rfl rfl rfl ?_
      refine ar_iload_n (pc' := 6) hM rfl rfl rfl ?_
      refine ar_icmp_ge (pc' := 9) hM rfl rfl (fun _ => ?_) (fun q => absurd (nI_le (a := e) (b := j) (by omega) (by omega)) q)
      refine ar_iload_n (pc' := 20) hM rfl rfl rfl ?_
      refine ar_ireturn hM rfl (Or.inl rfl) ?_
      exact ⟨by rw [hx, show j = e by omega], rfl⟩
    | succ dj ih =>
      intro j x hj hx
      refine ar_iload_n (pc' := 5) hM rfl rfl rfl ?_
      refine ar_iload_n (pc' := 6) hM rfl rfl rfl ?_
      refine ar_icmp_ge (pc' := 9) hM rfl rfl (fun q => absurd q (nI_ge (a := j) (b := e) (by omega) (by omega))) (fun _ => ?_)
      refine ar_iload_n (pc' := 10) hM rfl rfl rfl ?_
      refine ar_iload_n (pc' := 11) hM rfl rfl rfl ?_
      refine ar_imul (pc' := 12) hM rfl rfl ?_
      refine ar_istore_n (pc' := 13) hM rfl rfl rfl rfl ?_
      refine ar_iinc (z := nI (j + 1)) (pc' := 16) hM rfl rfl (nI_1 _) rfl rfl rfl ?_
      refine ar_goto hM rfl ?_
      exact ih (j + 1) (x * b) (by omega) (by rw [hx] <;> rfl)
  exact loop (e) 0 1 (by omega) rfl
set_option maxRecDepth 100000 in
set_option maxHeartbeats 4000000 in
theorem c_withoutDoings (w : am_W) (r : Int64) (k : Nat) (hk : k < 2 ^ 31) : am_Go 102 (0, [.long r, .float 0, .int (nI k), .float 0, .float 0, .float 0], [], w, 0, 0) (fun res w' => res = some (.long (l_wd r k)) ∧ w' = w) := by
  have hM : am_P[102]? = some zm_X10_withoutDoings := rfl
  refine ar_lload_n (pc' := 1) hM rfl rfl rfl ?_
  refine ar_lstore_n (pc' := 2) hM rfl rfl rfl rfl ?_
  refine ar_iconst (x := 0) (pc' := 3) hM rfl (by decide) rfl ?_
  refine ar_istore (pc' := 5) hM rfl rfl rfl rfl ?_
  have loop : ∀ (dj j : Nat) (x : Int64), dj + j = k → (x = l_wd r j) → am_Go 102 (5, [.long r, .float 0, .int (nI k), .long x, .float 0, .int (nI j)], [], w, 0, 0) (fun res w' => res = some (.long (l_wd r k)) ∧ w' = w) := by
    intro dj
    induction dj with
    | zero =>
      intro j x hj hx
      refine ar_iload (pc' := 7) hM rfl rfl rfl ?_
      refine ar_iload_n (pc' := 8) hM rfl rfl rfl ?_
      refine ar_icmp_ge (pc' := 11) hM rfl rfl (fun _ => ?_) (fun q => absurd (nI_le (a := k) (b := j) (by omega) (by omega)) q)
      refine ar_lload_n (pc' := 24) hM rfl rfl rfl ?_
      refine ar_lreturn hM rfl ?_
      exact ⟨by rw [hx, show j = k by omega], rfl⟩
    | succ dj ih =>
      intro j x hj hx
      refine ar_iload (pc' := 7) hM rfl rfl rfl ?_
      refine ar_iload_n (pc' := 8) hM rfl rfl rfl ?_
      refine ar_icmp_ge (pc' := 11) hM rfl rfl (fun q => absurd q (nI_ge (a := j) (b := k) (by omega) (by omega))) (fun _ => ?_)
      refine ar_lload_n (pc' := 12) hM rfl rfl rfl ?_
      refine ar_ldc2_w (x := 1000) (pc' := 15) hM rfl (by decide) rfl ?_
      refine ar_ldiv (pc' := 16) hM rfl (by decide) rfl ?_
      refine ar_lstore_n (pc' := 17) hM rfl rfl rfl rfl ?_
      refine ar_iinc (z := nI (j + 1)) (pc' := 20) hM rfl rfl (nI_1 _) rfl rfl rfl ?_
      refine ar_goto hM rfl ?_
      exact ih (j + 1) (x / 1000) (by omega) (by rw [hx] <;> rfl)
  exact loop (k) 0 r (by omega) rfl
set_option maxRecDepth 100000 in
set_option maxHeartbeats 4000000 in
theorem c_commonDivisor (w : am_W) (x y : Int32) : am_Go 104 (0, [.int x, .int y, .float 0, .float 0, .float 0, .float 0], [], w, 0, 0) (fun res w' => res = some (.int (i_eu 64 x y)) ∧ w' = w) := by
  have hM : am_P[104]? = some zm_X10_commonDivisor := rfl
  refine ar_iload_n (pc' := 1) hM rfl rfl rfl ?_
  refine ar_istore_n (pc' := 2) hM rfl rfl rfl rfl ?_
  refine ar_iload_n (pc' := 3) hM rfl rfl rfl ?_
  refine ar_istore_n (pc' := 4) hM rfl rfl rfl rfl ?_
  refine ar_iconst (x := 0) (pc' := 5) hM rfl (by decide) rfl ?_
  refine ar_istore (pc' := 7) hM rfl rfl rfl rfl ?_
  have loop : ∀ (dj j : Nat) (u : Int32) (v : Int32) (z5 : Value), dj + j = 64 → (i_eu dj u v = i_eu 64 x y) → am_Go 104 (7, [.int x, .int y, .int u, .int v, .int (nI j), z5], [], w, 0, 0) (fun res w' => res = some (.int (i_eu 64 x y)) ∧ w' = w) := by
    intro dj
    induction dj with
    | zero =>
      intro j u v z5 hj hx
      refine ar_iload (pc' := 9) hM rfl rfl rfl ?_
      refine ar_bipush (x := 64) (pc' := 11) hM rfl (by decide) rfl ?_
      refine ar_icmp_ge (pc' := 14) hM rfl rfl (fun _ => ?_) (fun q => absurd (nI_le (a := 64) (b := j) (by omega) (by omega)) q)
      refine ar_iload_n (pc' := 35) hM rfl rfl rfl ?_
      refine ar_ireturn hM rfl (Or.inl rfl) ?_
      exact ⟨by rw [← hx]; rfl, rfl⟩
    | succ dj ih =>
      intro j u v z5 hj hx
      refine ar_iload (pc' := 9) hM rfl rfl rfl ?_
      refine ar_bipush (x := 64) (pc' := 11) hM rfl (by decide) rfl ?_
      refine ar_icmp_ge (pc' := 14) hM rfl rfl (fun q => absurd q (nI_ge (a := j) (b := 64) (by omega) (by omega))) (fun _ => ?_)
      refine ar_iload_n (pc' := 15) hM rfl rfl rfl ?_
      refine ar_if_eq (pc' := 18) hM rfl rfl (fun c15 => ?_) (fun c15 => ?_)
      · refine ar_iload_n (pc' := 35) hM rfl rfl rfl ?_
        refine ar_ireturn hM rfl (Or.inl rfl) ?_
        exact ⟨by rw [← hx]; show _ = some (Value.int (if v = 0 then u else _)); rw [if_pos c15], rfl⟩
      · refine ar_iload_n (pc' := 19) hM rfl rfl rfl ?_
        refine ar_iload_n (pc' := 20) hM rfl rfl rfl ?_
        refine ar_irem (pc' := 21) hM rfl c15 rfl ?_
        refine ar_istore (pc' := 23) hM rfl rfl rfl rfl ?_
        refine ar_iload_n (pc' := 24) hM rfl rfl rfl ?_
        refine ar_istore_n (pc' := 25) hM rfl rfl rfl rfl ?_
        refine ar_iload (pc' := 27) hM rfl rfl rfl ?_
        refine ar_istore_n (pc' := 28) hM rfl rfl rfl rfl ?_
        refine ar_iinc (z := nI (j + 1)) (pc' := 31) hM rfl rfl (nI_1 _) rfl rfl rfl ?_
        refine ar_goto hM rfl ?_
        exact ih (j + 1) v (u - u / v * v) (.int (u - u / v * v)) (by omega) (by rw [← hx]; show _ = (if v = 0 then u else _); rw [if_neg c15])
  exact loop (64) 0 x y (.float 0) (by omega) rfl
def i_com (x y : Int32) : Int32 := i_max 1 (i_eu 64 (i_abs x) y)
set_option maxRecDepth 100000 in
set_option maxHeartbeats 4000000 in
theorem c_inLeastTerms (w : am_W) (x y u : Int32) (hz : ¬ i_com x y = 0) : am_Go 103 (0, [.int x, .int y, .int u, .float 0], [], w, 0, 0) (fun res w' => res = some (.int ((if u = 0 then y else x) / i_com x y)) ∧ w' = w) := by
  have hM : am_P[103]? = some zm_X10_inLeastTerms := rfl
  refine ar_iconst (x := 1) (pc' := 1) hM rfl (by decide) rfl ?_
  refine ar_iload_n (pc' := 2) hM rfl rfl rfl ?_
  refine ar_static (pc' := 5) (k3 := 0) (k4 := 0) hM rfl (by decide) rfl rfl (c_abs _ _) (fun r2 w2 q2 => ?_)
  obtain ⟨rfl, q2w⟩ := q2
  rw [q2w]
  show am_Go 103 (5, [.int x, .int y, .int u, .float 0], [.int (i_abs x), .int 1], w, 0, 0) _
  refine ar_iload_n (pc' := 6) hM rfl rfl rfl ?_
  refine ar_static (pc' := 9) (k3 := 0) (k4 := 0) hM rfl (by decide) rfl rfl (c_commonDivisor _ _ _) (fun r6 w6 q6 => ?_)
  obtain ⟨rfl, q6w⟩ := q6
  rw [q6w]
  show am_Go 103 (9, [.int x, .int y, .int u, .float 0], [.int (i_eu 64 (i_abs x) y), .int 1], w, 0, 0) _
  refine ar_static (pc' := 12) (k3 := 0) (k4 := 0) hM rfl (by decide) rfl rfl (c_max _ _ _) (fun r9 w9 q9 => ?_)
  obtain ⟨rfl, q9w⟩ := q9
  rw [q9w]
  show am_Go 103 (12, [.int x, .int y, .int u, .float 0], [.int (i_max 1 (i_eu 64 (i_abs x) y))], w, 0, 0) _
  refine ar_istore_n (pc' := 13) hM rfl rfl rfl rfl ?_
  refine ar_iload_n (pc' := 14) hM rfl rfl rfl ?_
  suffices hj14 : ∀ z_14 : Int32, z_14 = (if u = (0 : Int32) then y else x) → am_Go 103 (22, [.int x, .int y, .int u, .int (i_max 1 (i_eu 64 (i_abs x) y))], [.int z_14], w, 0, 0) _ by
    refine ar_if_eq (pc' := 17) hM rfl rfl (fun c => ?_) (fun c => ?_)
    · refine ar_iload_n (pc' := 22) hM rfl rfl rfl ?_
      exact hj14 _ (if_pos c).symm
    · refine ar_iload_n (pc' := 18) hM rfl rfl rfl ?_
      refine ar_goto hM rfl ?_
      exact hj14 _ (if_neg c).symm
  rintro _ rfl
  refine ar_iload_n (pc' := 23) hM rfl rfl rfl ?_
  refine ar_idiv (pc' := 24) hM rfl hz rfl ?_
  refine ar_ireturn hM rfl (Or.inl rfl) ?_
  exact ⟨rfl, rfl⟩
end
section
/-! Acts, Slots, Seen -/
def b_agr (sh st sv : Nat → Int32) (h v : Int32) : Nat → Bool
  | 0 => true
  | i + 1 => b_agr sh st sv h v i && (!decide (sh i = h) || decide (sv i = v + st i))
theorem b_agr_f {sh st sv : Nat → Int32} {h v : Int32} {j n : Nat} (hj : j ≤ n) (hf : b_agr sh st sv h v j = false) : b_agr sh st sv h v n = false := by
  induction n with
  | zero => rw [show j = 0 by omega] at hf; exact hf
  | succ n ih =>
    rcases Nat.lt_or_ge j (n + 1) with q | q
    · show (b_agr sh st sv h v n && _) = false
      rw [ih (by omega)]; rfl
    · rw [show j = n + 1 by omega] at hf; exact hf
def i_pw (sh st sv : Nat → Int32) (sc : Nat) (h k : Int32) : Nat → Int32
  | 0 => 0
  | w + 1 => if b_agr sh st sv h (i_wbk (nI w) k + i_lie k) sc = true then i_pw sh st sv sc h k w ||| (1 <<< (nI w &&& 31)) else i_pw sh st sv sc h k w
set_option maxRecDepth 100000 in
set_option maxHeartbeats 4000000 in
theorem c_actsClear (w : am_W) (f c : Nat) (hf : f < 14) (hc : c ≤ 14) (ha0 : w[20]? = some (.inr (0, [.ref 21, .int (nI f), .int (nI c)]))) : am_Go 1 (0, [.ref 20], [], w, 0, 0) (fun res w' => res = none ∧ w' = w.set 20 (.inr (0, [.ref 21, .int 0, .int 0]))) := by
  have hM : am_P[1]? = some zm_X0_clear := rfl
  refine ar_aload_n (pc' := 1) hM rfl rfl rfl ?_
  refine ar_iconst (x := 0) (pc' := 2) hM rfl (by decide) rfl ?_
  refine ar_putfield (pc' := 5) hM rfl ha0 (Nat.le_of_ble_eq_true rfl) rfl (by decide) rfl ?_
  show am_Go 1 (5, [.ref 20], [], (w.set 20 (.inr (0, [.ref 21, .int 0, .int (nI c)]))), 0, 0) _
  refine ar_aload_n (pc' := 6) hM rfl rfl rfl ?_
  refine ar_iconst (x := 0) (pc' := 7) hM rfl (by decide) rfl ?_
  refine ar_putfield (pc' := 10) hM rfl (am_gs ha0) (Nat.le_of_ble_eq_true rfl) rfl (by decide) rfl ?_
  show am_Go 1 (10, [.ref 20], [], ((w.set 20 (.inr (0, [.ref 21, .int 0, .int (nI c)]))).set 20 (.inr (0, [.ref 21, .int 0, .int 0]))), 0, 0) _
  refine ar_return hM rfl ?_
  rw [show ((w.set 20 (.inr (0, [.ref 21, .int 0, .int (nI c)]))).set 20 (.inr (0, [.ref 21, .int 0, .int 0]))) = (w.set 20 (.inr (0, [.ref 21, .int 0, .int 0]))) from by rw [List.set_set]]
  exact ⟨rfl, rfl⟩
set_option maxRecDepth 100000 in
set_option maxHeartbeats 4000000 in
theorem c_remember (w : am_W) (f c : Nat) (hf : f < 14) (hc : c ≤ 14) (ha0 : w[20]? = some (.inr (0, [.ref 21, .int (nI f), .int (nI c)]))) (bf : Nat → Option Nat) (bo bs bl : Nat → Nat → Int32) (ba bw bd : Nat → Int32) (hbf : ∀ i, i < 14 → bf i = some (22 + 4 * i)) (hb0 : ∀ i, i < 14 → w[22 + 4 * i]? = some (.inr (6, [.ref (22 + 4 * i + 1), .ref (22 + 4 * i + 2), .ref (22 + 4 * i + 3), .int (ba i), .int (bw i), .int (bd i)]))) (hb1 : ∀ i, i < 14 → w[22 + 4 * i + 1]? = some (.inl (0, 6, .inl (bo i)))) (hb2 : ∀ i, i < 14 → w[22 + 4 * i + 2]? = some (.inl (0, 6, .inl (bs i)))) (hb3 : ∀ i, i < 14 → w[22 + 4 * i + 3]? = some (.inl (0, 6, .inl (bl i)))) (ha1 : w[21]? = some (.inl (2, 14, .inr bf))) (so ss sl : Nat → Int32) (sa sw sd : Int32) (hs0 : w[16]? = some (.inr (6, [.ref 17, .ref 18, .ref 19, .int sa, .int sw, .int sd]))) (hs1 : w[17]? = some (.inl (0, 6, .inl so))) (hs2 : w[18]? = some (.inl (0, 6, .inl ss))) (hs3 : w[19]? = some (.inl (0, 6, .inl sl))) (hc1 : c < 14) (j : Nat) (hj14 : j < 14) (hj : j = (f + c) % 14) : am_Go 2 (0, [.ref 20, .ref 16], [], w, 0, 0) (fun res w' => res = none ∧ w' = ((((w.set (22 + 4 * j + 1) (.inl (0, 6, .inl (va_cpy so (bo j) 0 0 6)))).set (22 + 4 * j + 2) (.inl (0, 6, .inl (va_cpy ss (bs j) 0 0 6)))).set (22 + 4 * j + 3) (.inl (0, 6, .inl (va_cpy sl (bl j) 0 0 6)))).set (22 + 4 * j) (.inr (6, [.ref (22 + 4 * j + 1), .ref (22 + 4 * j + 2), .ref (22 + 4 * j + 3), .int sa, .int sw, .int sd]))).set 20 (.inr (0, [.ref 21, .int (nI f), .int (nI (c + 1))]))) := by
  have hM : am_P[2]? = some zm_X0_remember := rfl
  refine ar_aload_n (pc' := 1) hM rfl rfl rfl ?_
  refine ar_getfield (pc' := 4) hM rfl ha0 rfl rfl ?_
  refine ar_bipush (x := 14) (pc' := 6) hM rfl (by decide) rfl ?_
  refine ar_icmp_lt (pc' := 9) hM rfl rfl (fun _ => ?_) (fun q => absurd (nI_lt (a := c) (b := 14) hc1 (by omega)) q)
  refine ar_aload_n (pc' := 29) hM rfl rfl rfl ?_
  refine ar_getfield (pc' := 32) hM rfl ha0 rfl rfl ?_
  refine ar_aload_n (pc' := 33) hM rfl rfl rfl ?_
  refine ar_getfield (pc' := 36) hM rfl ha0 rfl rfl ?_
  refine ar_aload_n (pc' := 37) hM rfl rfl rfl ?_
  refine ar_getfield (pc' := 40) hM rfl ha0 rfl rfl ?_
  refine ar_iadd (pc' := 41) hM rfl rfl ?_
  rw [show ((nI f) + (nI c) : Int32) = nI (f + c) from nI_add f c]
  refine ar_bipush (x := 14) (pc' := 43) hM rfl (by decide) rfl ?_
  refine ar_irem (pc' := 44) hM rfl (by decide) rfl ?_
  rw [show ((nI (f + c)) - (nI (f + c)) / 14 * 14 : Int32) = nI j from (by rw [hj]; exact pk_rem (by omega) (by decide) (by decide))]
  refine ar_aaloadN (j := j) (z := 22 + 4 * j) (pc' := 45) hM rfl ha1 rfl (by omega) (Nat.le_of_ble_eq_true rfl) (by decide) (hbf j hj14) rfl ?_
  refine ar_aload_n (pc' := 46) hM rfl rfl rfl ?_
  refine ar_virtual (pc' := 49) (k3 := 0) (k4 := 0) hM rfl rfl (hb0 j hj14) ⟨rfl, (by omega)⟩ rfl rfl (c_copyFrom _ (22 + 4 * j) (by omega) _ _ _ _ _ _ (hb0 j hj14) (hb1 j hj14) (hb2 j hj14) (hb3 j hj14) 16 (by decide) (by omega) _ _ _ _ _ _ hs0 hs1 hs2 hs3) (fun r46 w46 q46 => ?_)
  obtain ⟨rfl, q46w⟩ := q46
  rw [q46w]
  show am_Go 2 (49, [.ref 20, .ref 16], [], ((((w.set (22 + 4 * j + 1) (.inl (0, 6, .inl (va_cpy so (bo j) 0 0 6)))).set (22 + 4 * j + 2) (.inl (0, 6, .inl (va_cpy ss (bs j) 0 0 6)))).set (22 + 4 * j + 3) (.inl (0, 6, .inl (va_cpy sl (bl j) 0 0 6)))).set (22 + 4 * j) (.inr (6, [.ref (22 + 4 * j + 1), .ref (22 + 4 * j + 2), .ref (22 + 4 * j + 3), .int sa, .int sw, .int sd]))), 0, 0) _
  refine ar_aload_n (pc' := 50) hM rfl rfl rfl ?_
  refine ar_dup (pc' := 51) hM rfl rfl rfl ?_
  refine ar_getfield (pc' := 54) hM rfl (am_gn (by omega) (am_gn (by omega) (am_gn (by omega) (am_gn (by omega) ha0)))) rfl rfl ?_
  refine ar_iconst (x := 1) (pc' := 55) hM rfl (by decide) rfl ?_
  refine ar_iadd (pc' := 56) hM rfl rfl ?_
  rw [show ((nI c) + 1 : Int32) = nI (c + 1) from nI_1 c]
  refine ar_putfield (pc' := 59) hM rfl (am_gn (by omega) (am_gn (by omega) (am_gn (by omega) (am_gn (by omega) ha0)))) (Nat.le_of_ble_eq_true rfl) rfl (by decide) rfl ?_
  show am_Go 2 (59, [.ref 20, .ref 16], [], (((((w.set (22 + 4 * j + 1) (.inl (0, 6, .inl (va_cpy so (bo j) 0 0 6)))).set (22 + 4 * j + 2) (.inl (0, 6, .inl (va_cpy ss (bs j) 0 0 6)))).set (22 + 4 * j + 3) (.inl (0, 6, .inl (va_cpy sl (bl j) 0 0 6)))).set (22 + 4 * j) (.inr (6, [.ref (22 + 4 * j + 1), .ref (22 + 4 * j + 2), .ref (22 + 4 * j + 3), .int sa, .int sw, .int sd]))).set 20 (.inr (0, [.ref 21, .int (nI f), .int (nI (c + 1))]))), 0, 0) _
  refine ar_return hM rfl ?_
  exact ⟨rfl, rfl⟩
set_option maxRecDepth 100000 in
set_option maxHeartbeats 4000000 in
theorem c_rememberF (w : am_W) (f c : Nat) (hf : f < 14) (hc : c ≤ 14) (ha0 : w[20]? = some (.inr (0, [.ref 21, .int (nI f), .int (nI c)]))) (bf : Nat → Option Nat) (bo bs bl : Nat → Nat → Int32) (ba bw bd : Nat → Int32) (hbf : ∀ i, i < 14 → bf i = some (22 + 4 * i)) (hb0 : ∀ i, i < 14 → w[22 + 4 * i]? = some (.inr (6, [.ref (22 + 4 * i + 1), .ref (22 + 4 * i + 2), .ref (22 + 4 * i + 3), .int (ba i), .int (bw i), .int (bd i)]))) (hb1 : ∀ i, i < 14 → w[22 + 4 * i + 1]? = some (.inl (0, 6, .inl (bo i)))) (hb2 : ∀ i, i < 14 → w[22 + 4 * i + 2]? = some (.inl (0, 6, .inl (bs i)))) (hb3 : ∀ i, i < 14 → w[22 + 4 * i + 3]? = some (.inl (0, 6, .inl (bl i)))) (ha1 : w[21]? = some (.inl (2, 14, .inr bf))) (so ss sl : Nat → Int32) (sa sw sd : Int32) (hs0 : w[16]? = some (.inr (6, [.ref 17, .ref 18, .ref 19, .int sa, .int sw, .int sd]))) (hs1 : w[17]? = some (.inl (0, 6, .inl so))) (hs2 : w[18]? = some (.inl (0, 6, .inl ss))) (hs3 : w[19]? = some (.inl (0, 6, .inl sl))) (hc1 : c = 14) (f2 : Nat) (hf2 : f2 = (f + 1) % 14) (j : Nat) (hj14 : j < 14) (hj : j = (f2 + 13) % 14) : am_Go 2 (0, [.ref 20, .ref 16], [], w, 0, 0) (fun res w' => res = none ∧ w' = (((((w.set 20 (.inr (0, [.ref 21, .int (nI f2), .int (nI 14)]))).set (22 + 4 * j + 1) (.inl (0, 6, .inl (va_cpy so (bo j) 0 0 6)))).set (22 + 4 * j + 2) (.inl (0, 6, .inl (va_cpy ss (bs j) 0 0 6)))).set (22 + 4 * j + 3) (.inl (0, 6, .inl (va_cpy sl (bl j) 0 0 6)))).set (22 + 4 * j) (.inr (6, [.ref (22 + 4 * j + 1), .ref (22 + 4 * j + 2), .ref (22 + 4 * j + 3), .int sa, .int sw, .int sd])))) := by
  have hM : am_P[2]? = some zm_X0_remember := rfl
  refine ar_aload_n (pc' := 1) hM rfl rfl rfl ?_
  refine ar_getfield (pc' := 4) hM rfl ha0 rfl rfl ?_
  refine ar_bipush (x := 14) (pc' := 6) hM rfl (by decide) rfl ?_
  refine ar_icmp_lt (pc' := 9) hM rfl rfl (fun q => absurd q (nI_nlt (a := c) (b := 14) (by omega) (by omega))) (fun _ => ?_)
  refine ar_aload_n (pc' := 10) hM rfl rfl rfl ?_
  refine ar_aload_n (pc' := 11) hM rfl rfl rfl ?_
  refine ar_getfield (pc' := 14) hM rfl ha0 rfl rfl ?_
  refine ar_iconst (x := 1) (pc' := 15) hM rfl (by decide) rfl ?_
  refine ar_iadd (pc' := 16) hM rfl rfl ?_
  rw [show ((nI f) + 1 : Int32) = nI (f + 1) from nI_1 f]
  refine ar_bipush (x := 14) (pc' := 18) hM rfl (by decide) rfl ?_
  refine ar_irem (pc' := 19) hM rfl (by decide) rfl ?_
  rw [show ((nI (f + 1)) - (nI (f + 1)) / 14 * 14 : Int32) = nI f2 from (by rw [hf2]; exact pk_rem (by omega) (by decide) (by decide))]
  refine ar_putfield (pc' := 22) hM rfl ha0 (Nat.le_of_ble_eq_true rfl) rfl (by decide) rfl ?_
  show am_Go 2 (22, [.ref 20, .ref 16], [], (w.set 20 (.inr (0, [.ref 21, .int (nI f2), .int (nI c)]))), 0, 0) _
  refine ar_aload_n (pc' := 23) hM rfl rfl rfl ?_
  refine ar_bipush (x := 13) (pc' := 25) hM rfl (by decide) rfl ?_
  refine ar_putfield (pc' := 28) hM rfl (am_gs ha0) (Nat.le_of_ble_eq_true rfl) rfl (by decide) rfl ?_
  show am_Go 2 (28, [.ref 20, .ref 16], [], ((w.set 20 (.inr (0, [.ref 21, .int (nI f2), .int (nI c)]))).set 20 (.inr (0, [.ref 21, .int (nI f2), .int 13]))), 0, 0) _
  refine ar_aload_n (pc' := 29) hM rfl rfl rfl ?_
  refine ar_getfield (pc' := 32) hM rfl (am_gs (am_gs ha0)) rfl rfl ?_
  refine ar_aload_n (pc' := 33) hM rfl rfl rfl ?_
  refine ar_getfield (pc' := 36) hM rfl (am_gs (am_gs ha0)) rfl rfl ?_
  refine ar_aload_n (pc' := 37) hM rfl rfl rfl ?_
  refine ar_getfield (pc' := 40) hM rfl (am_gs (am_gs ha0)) rfl rfl ?_
  refine ar_iadd (pc' := 41) hM rfl rfl ?_
  rw [show ((nI f2) + 13 : Int32) = nI (f2 + 13) from nI_add f2 13]
  refine ar_bipush (x := 14) (pc' := 43) hM rfl (by decide) rfl ?_
  refine ar_irem (pc' := 44) hM rfl (by decide) rfl ?_
  rw [show ((nI (f2 + 13)) - (nI (f2 + 13)) / 14 * 14 : Int32) = nI j from (by rw [hj]; exact pk_rem (by have := Nat.mod_lt (f + 1) (show 0 < 14 by decide); omega) (by decide) (by decide))]
  refine ar_aaloadN (j := j) (z := 22 + 4 * j) (pc' := 45) hM rfl (am_gn (by decide) (am_gn (by decide) ha1)) rfl (by omega) (Nat.le_of_ble_eq_true rfl) (by decide) (hbf j hj14) rfl ?_
  refine ar_aload_n (pc' := 46) hM rfl rfl rfl ?_
  refine ar_virtual (pc' := 49) (k3 := 0) (k4 := 0) hM rfl rfl (am_gn (by omega) (am_gn (by omega) (hb0 j hj14))) ⟨rfl, (by omega)⟩ rfl rfl (c_copyFrom _ (22 + 4 * j) (by omega) _ _ _ _ _ _ (am_gn (by omega) (am_gn (by omega) (hb0 j hj14))) (am_gn (by omega) (am_gn (by omega) (hb1 j hj14))) (am_gn (by omega) (am_gn (by omega) (hb2 j hj14))) (am_gn (by omega) (am_gn (by omega) (hb3 j hj14))) 16 (by decide) (by omega) _ _ _ _ _ _ (am_gn (by decide) (am_gn (by decide) hs0)) (am_gn (by decide) (am_gn (by decide) hs1)) (am_gn (by decide) (am_gn (by decide) hs2)) (am_gn (by decide) (am_gn (by decide) hs3))) (fun r46 w46 q46 => ?_)
  obtain ⟨rfl, q46w⟩ := q46
  rw [q46w]
  show am_Go 2 (49, [.ref 20, .ref 16], [], ((((((w.set 20 (.inr (0, [.ref 21, .int (nI f2), .int (nI c)]))).set 20 (.inr (0, [.ref 21, .int (nI f2), .int 13]))).set (22 + 4 * j + 1) (.inl (0, 6, .inl (va_cpy so (bo j) 0 0 6)))).set (22 + 4 * j + 2) (.inl (0, 6, .inl (va_cpy ss (bs j) 0 0 6)))).set (22 + 4 * j + 3) (.inl (0, 6, .inl (va_cpy sl (bl j) 0 0 6)))).set (22 + 4 * j) (.inr (6, [.ref (22 + 4 * j + 1), .ref (22 + 4 * j + 2), .ref (22 + 4 * j + 3), .int sa, .int sw, .int sd]))), 0, 0) _
  refine ar_aload_n (pc' := 50) hM rfl rfl rfl ?_
  refine ar_dup (pc' := 51) hM rfl rfl rfl ?_
  refine ar_getfield (pc' := 54) hM rfl (am_gn (by omega) (am_gn (by omega) (am_gn (by omega) (am_gn (by omega) (am_gs (am_gs ha0)))))) rfl rfl ?_
  refine ar_iconst (x := 1) (pc' := 55) hM rfl (by decide) rfl ?_
  refine ar_iadd (pc' := 56) hM rfl rfl ?_
  rw [show (13 + 1 : Int32) = nI 14 from (by decide)]
  refine ar_putfield (pc' := 59) hM rfl (am_gn (by omega) (am_gn (by omega) (am_gn (by omega) (am_gn (by omega) (am_gs (am_gs ha0)))))) (Nat.le_of_ble_eq_true rfl) rfl (by decide) rfl ?_
  show am_Go 2 (59, [.ref 20, .ref 16], [], (((((((w.set 20 (.inr (0, [.ref 21, .int (nI f2), .int (nI c)]))).set 20 (.inr (0, [.ref 21, .int (nI f2), .int 13]))).set (22 + 4 * j + 1) (.inl (0, 6, .inl (va_cpy so (bo j) 0 0 6)))).set (22 + 4 * j + 2) (.inl (0, 6, .inl (va_cpy ss (bs j) 0 0 6)))).set (22 + 4 * j + 3) (.inl (0, 6, .inl (va_cpy sl (bl j) 0 0 6)))).set (22 + 4 * j) (.inr (6, [.ref (22 + 4 * j + 1), .ref (22 + 4 * j + 2), .ref (22 + 4 * j + 3), .int sa, .int sw, .int sd]))).set 20 (.inr (0, [.ref 21, .int (nI f2), .int (nI 14)]))), 0, 0) _
  refine ar_return hM rfl ?_
  rw [show ((w.set 20 (.inr (0, [.ref 21, .int (nI f2), .int (nI c)]))).set 20 (.inr (0, [.ref 21, .int (nI f2), .int 13]))) = (w.set 20 (.inr (0, [.ref 21, .int (nI f2), .int 13]))) from by rw [List.set_set]]
  rw [show ((((((w.set 20 (.inr (0, [.ref 21, .int (nI f2), .int 13]))).set (22 + 4 * j + 1) (.inl (0, 6, .inl (va_cpy so (bo j) 0 0 6)))).set (22 + 4 * j + 2) (.inl (0, 6, .inl (va_cpy ss (bs j) 0 0 6)))).set (22 + 4 * j + 3) (.inl (0, 6, .inl (va_cpy sl (bl j) 0 0 6)))).set (22 + 4 * j) (.inr (6, [.ref (22 + 4 * j + 1), .ref (22 + 4 * j + 2), .ref (22 + 4 * j + 3), .int sa, .int sw, .int sd]))).set 20 (.inr (0, [.ref 21, .int (nI f2), .int (nI 14)]))) = (((((w.set 20 (.inr (0, [.ref 21, .int (nI f2), .int (nI 14)]))).set (22 + 4 * j + 1) (.inl (0, 6, .inl (va_cpy so (bo j) 0 0 6)))).set (22 + 4 * j + 2) (.inl (0, 6, .inl (va_cpy ss (bs j) 0 0 6)))).set (22 + 4 * j + 3) (.inl (0, 6, .inl (va_cpy sl (bl j) 0 0 6)))).set (22 + 4 * j) (.inr (6, [.ref (22 + 4 * j + 1), .ref (22 + 4 * j + 2), .ref (22 + 4 * j + 3), .int sa, .int sw, .int sd]))) from by rw [List.set_comm _ _ (show 22 + 4 * j ≠ 20 by omega), List.set_comm _ _ (show 22 + 4 * j + 3 ≠ 20 by omega), List.set_comm _ _ (show 22 + 4 * j + 2 ≠ 20 by omega), List.set_comm _ _ (show 22 + 4 * j + 1 ≠ 20 by omega), List.set_set]]
  exact ⟨rfl, rfl⟩
set_option maxRecDepth 100000 in
set_option maxHeartbeats 4000000 in
theorem c_takeBack0 (w : am_W) (f c : Nat) (hf : f < 14) (hc : c = 0) (ha0 : w[20]? = some (.inr (0, [.ref 21, .int (nI f), .int (nI c)]))) : am_Go 3 (0, [.ref 20, .ref 16], [], w, 0, 0) (fun res w' => res = some (.int 0) ∧ w' = w) := by
  have hM : am_P[3]? = some zm_X0_takeBack := rfl
  refine ar_aload_n (pc' := 1) hM rfl rfl rfl ?_
  refine ar_getfield (pc' := 4) hM rfl ha0 rfl rfl ?_
  refine ar_if_gt (pc' := 7) hM rfl rfl (fun q => absurd q (by rw [hc]; decide)) (fun _ => ?_)
  refine ar_iconst (x := 0) (pc' := 8) hM rfl (by decide) rfl ?_
  refine ar_ireturn hM rfl (Or.inr (Or.inl rfl)) ?_
  exact ⟨rfl, rfl⟩
set_option maxRecDepth 100000 in
set_option maxHeartbeats 4000000 in
theorem c_takeBack (w : am_W) (f c : Nat) (hf : f < 14) (hc : c ≤ 14) (ha0 : w[20]? = some (.inr (0, [.ref 21, .int (nI f), .int (nI c)]))) (bf : Nat → Option Nat) (bo bs bl : Nat → Nat → Int32) (ba bw bd : Nat → Int32) (hbf : ∀ i, i < 14 → bf i = some (22 + 4 * i)) (hb0 : ∀ i, i < 14 → w[22 + 4 * i]? = some (.inr (6, [.ref (22 + 4 * i + 1), .ref (22 + 4 * i + 2), .ref (22 + 4 * i + 3), .int (ba i), .int (bw i), .int (bd i)]))) (hb1 : ∀ i, i < 14 → w[22 + 4 * i + 1]? = some (.inl (0, 6, .inl (bo i)))) (hb2 : ∀ i, i < 14 → w[22 + 4 * i + 2]? = some (.inl (0, 6, .inl (bs i)))) (hb3 : ∀ i, i < 14 → w[22 + 4 * i + 3]? = some (.inl (0, 6, .inl (bl i)))) (ha1 : w[21]? = some (.inl (2, 14, .inr bf))) (so ss sl : Nat → Int32) (sa sw sd : Int32) (hs0 : w[16]? = some (.inr (6, [.ref 17, .ref 18, .ref 19, .int sa, .int sw, .int sd]))) (hs1 : w[17]? = some (.inl (0, 6, .inl so))) (hs2 : w[18]? = some (.inl (0, 6, .inl ss))) (hs3 : w[19]? = some (.inl (0, 6, .inl sl))) (hc1 : 0 < c) (j : Nat) (hj14 : j < 14) (hj : j = (f + (c - 1)) % 14) : am_Go 3 (0, [.ref 20, .ref 16], [], w, 0, 0) (fun res w' => res = some (.int 1) ∧ w' = (((((w.set 20 (.inr (0, [.ref 21, .int (nI f), .int (nI (c - 1))]))).set (17) (.inl (0, 6, .inl (va_cpy (bo j) so 0 0 6)))).set (18) (.inl (0, 6, .inl (va_cpy (bs j) ss 0 0 6)))).set (19) (.inl (0, 6, .inl (va_cpy (bl j) sl 0 0 6)))).set (16) (.inr (6, [.ref 17, .ref 18, .ref 19, .int (ba j), .int (bw j), .int (bd j)])))) := by
  have hM : am_P[3]? = some zm_X0_takeBack := rfl
  refine ar_aload_n (pc' := 1) hM rfl rfl rfl ?_
  refine ar_getfield (pc' := 4) hM rfl ha0 rfl rfl ?_
  refine ar_if_gt (pc' := 7) hM rfl rfl (fun _ => ?_) (fun q => absurd (nI_lt (a := 0) hc1 (by omega)) q)
  refine ar_aload_n (pc' := 10) hM rfl rfl rfl ?_
  refine ar_dup (pc' := 11) hM rfl rfl rfl ?_
  refine ar_getfield (pc' := 14) hM rfl ha0 rfl rfl ?_
  refine ar_iconst (x := 1) (pc' := 15) hM rfl (by decide) rfl ?_
  refine ar_isub (pc' := 16) hM rfl rfl ?_
  rw [show ((nI c) - 1 : Int32) = nI (c - 1) from i_pred hc1]
  refine ar_putfield (pc' := 19) hM rfl ha0 (Nat.le_of_ble_eq_true rfl) rfl (by decide) rfl ?_
  show am_Go 3 (19, [.ref 20, .ref 16], [], (w.set 20 (.inr (0, [.ref 21, .int (nI f), .int (nI (c - 1))]))), 0, 0) _
  refine ar_aload_n (pc' := 20) hM rfl rfl rfl ?_
  refine ar_aload_n (pc' := 21) hM rfl rfl rfl ?_
  refine ar_getfield (pc' := 24) hM rfl (am_gs ha0) rfl rfl ?_
  refine ar_aload_n (pc' := 25) hM rfl rfl rfl ?_
  refine ar_getfield (pc' := 28) hM rfl (am_gs ha0) rfl rfl ?_
  refine ar_aload_n (pc' := 29) hM rfl rfl rfl ?_
  refine ar_getfield (pc' := 32) hM rfl (am_gs ha0) rfl rfl ?_
  refine ar_iadd (pc' := 33) hM rfl rfl ?_
  rw [show ((nI f) + (nI (c - 1)) : Int32) = nI (f + (c - 1)) from nI_add f (c - 1)]
  refine ar_bipush (x := 14) (pc' := 35) hM rfl (by decide) rfl ?_
  refine ar_irem (pc' := 36) hM rfl (by decide) rfl ?_
  rw [show ((nI (f + (c - 1))) - (nI (f + (c - 1))) / 14 * 14 : Int32) = nI j from (by rw [hj]; exact pk_rem (by omega) (by decide) (by decide))]
  refine ar_aaloadN (j := j) (z := 22 + 4 * j) (pc' := 37) hM rfl (am_gn (by decide) ha1) rfl (by omega) (Nat.le_of_ble_eq_true rfl) (by decide) (hbf j hj14) rfl ?_
  refine ar_virtual (pc' := 40) (k3 := 0) (k4 := 0) hM rfl rfl (am_gn (by decide) hs0) ⟨rfl, (by decide)⟩ rfl rfl (c_copyFrom _ 16 (by decide) _ _ _ _ _ _ (am_gn (by decide) hs0) (am_gn (by decide) hs1) (am_gn (by decide) hs2) (am_gn (by decide) hs3) (22 + 4 * j) (by omega) (by omega) _ _ _ _ _ _ (am_gn (by omega) (hb0 j hj14)) (am_gn (by omega) (hb1 j hj14)) (am_gn (by omega) (hb2 j hj14)) (am_gn (by omega) (hb3 j hj14))) (fun r37 w37 q37 => ?_)
  obtain ⟨rfl, q37w⟩ := q37
  rw [q37w]
  show am_Go 3 (40, [.ref 20, .ref 16], [], (((((w.set 20 (.inr (0, [.ref 21, .int (nI f), .int (nI (c - 1))]))).set 17 (.inl (0, 6, .inl (va_cpy (bo j) so 0 0 6)))).set 18 (.inl (0, 6, .inl (va_cpy (bs j) ss 0 0 6)))).set 19 (.inl (0, 6, .inl (va_cpy (bl j) sl 0 0 6)))).set 16 (.inr (6, [.ref 17, .ref 18, .ref 19, .int (ba j), .int (bw j), .int (bd j)]))), 0, 0) _
  refine ar_iconst (x := 1) (pc' := 41) hM rfl (by decide) rfl ?_
  refine ar_ireturn hM rfl (Or.inr (Or.inr rfl)) ?_
  exact ⟨rfl, rfl⟩
set_option maxRecDepth 100000 in
set_option maxHeartbeats 4000000 in
theorem c_slotsClear (w : am_W) (kb : Int32) (hk0 : w[78]? = some (.inr (5, [.ref 79, .int kb]))) : am_Go 36 (0, [.ref 78], [], w, 0, 0) (fun res w' => res = none ∧ w' = w.set 78 (.inr (5, [.ref 79, .int 0]))) := by
  have hM : am_P[36]? = some zm_X5_clear := rfl
  refine ar_aload_n (pc' := 1) hM rfl rfl rfl ?_
  refine ar_iconst (x := 0) (pc' := 2) hM rfl (by decide) rfl ?_
  refine ar_putfield (pc' := 5) hM rfl hk0 (Nat.le_of_ble_eq_true rfl) rfl (by decide) rfl ?_
  show am_Go 36 (5, [.ref 78], [], (w.set 78 (.inr (5, [.ref 79, .int 0]))), 0, 0) _
  refine ar_return hM rfl ?_
  exact ⟨rfl, rfl⟩
set_option maxRecDepth 100000 in
set_option maxHeartbeats 4000000 in
theorem c_put (w : am_W) (kb : Int32) (hk0 : w[78]? = some (.inr (5, [.ref 79, .int kb]))) (kf : Nat → Option Nat) (ko ks kl : Nat → Nat → Int32) (ka kw kd : Nat → Int32) (hkf : ∀ i, i < 2 → kf i = some (80 + 4 * i)) (hk2 : ∀ i, i < 2 → w[80 + 4 * i]? = some (.inr (6, [.ref (80 + 4 * i + 1), .ref (80 + 4 * i + 2), .ref (80 + 4 * i + 3), .int (ka i), .int (kw i), .int (kd i)]))) (hk3 : ∀ i, i < 2 → w[80 + 4 * i + 1]? = some (.inl (0, 6, .inl (ko i)))) (hk4 : ∀ i, i < 2 → w[80 + 4 * i + 2]? = some (.inl (0, 6, .inl (ks i)))) (hk5 : ∀ i, i < 2 → w[80 + 4 * i + 3]? = some (.inl (0, 6, .inl (kl i)))) (hk1 : w[79]? = some (.inl (2, 2, .inr kf))) (so ss sl : Nat → Int32) (sa sw sd : Int32) (hs0 : w[16]? = some (.inr (6, [.ref 17, .ref 18, .ref 19, .int sa, .int sw, .int sd]))) (hs1 : w[17]? = some (.inl (0, 6, .inl so))) (hs2 : w[18]? = some (.inl (0, 6, .inl ss))) (hs3 : w[19]? = some (.inl (0, 6, .inl sl))) (j : Nat) (hj2 : j < 2) : am_Go 37 (0, [.ref 78, .int (nI j), .ref 16], [], w, 0, 0) (fun res w' => res = none ∧ w' = ((((w.set (80 + 4 * j + 1) (.inl (0, 6, .inl (va_cpy so (ko j) 0 0 6)))).set (80 + 4 * j + 2) (.inl (0, 6, .inl (va_cpy ss (ks j) 0 0 6)))).set (80 + 4 * j + 3) (.inl (0, 6, .inl (va_cpy sl (kl j) 0 0 6)))).set (80 + 4 * j) (.inr (6, [.ref (80 + 4 * j + 1), .ref (80 + 4 * j + 2), .ref (80 + 4 * j + 3), .int sa, .int sw, .int sd]))).set 78 (.inr (5, [.ref 79, .int (kb ||| (1 <<< (nI j &&& 31)))]))) := by
  have hM : am_P[37]? = some zm_X5_put := rfl
  refine ar_aload_n (pc' := 1) hM rfl rfl rfl ?_
  refine ar_getfield (pc' := 4) hM rfl hk0 rfl rfl ?_
  refine ar_iload_n (pc' := 5) hM rfl rfl rfl ?_
  refine ar_aaloadN (j := j) (z := 80 + 4 * j) (pc' := 6) hM rfl hk1 rfl (by omega) (Nat.le_of_ble_eq_true rfl) (by decide) (hkf j hj2) rfl ?_
  refine ar_aload_n (pc' := 7) hM rfl rfl rfl ?_
  refine ar_virtual (pc' := 10) (k3 := 0) (k4 := 0) hM rfl rfl (hk2 j hj2) ⟨rfl, (by omega)⟩ rfl rfl (c_copyFrom _ (80 + 4 * j) (by omega) _ _ _ _ _ _ (hk2 j hj2) (hk3 j hj2) (hk4 j hj2) (hk5 j hj2) 16 (by decide) (by omega) _ _ _ _ _ _ hs0 hs1 hs2 hs3) (fun r7 w7 q7 => ?_)
  obtain ⟨rfl, q7w⟩ := q7
  rw [q7w]
  show am_Go 37 (10, [.ref 78, .int (nI j), .ref 16], [], ((((w.set (80 + 4 * j + 1) (.inl (0, 6, .inl (va_cpy so (ko j) 0 0 6)))).set (80 + 4 * j + 2) (.inl (0, 6, .inl (va_cpy ss (ks j) 0 0 6)))).set (80 + 4 * j + 3) (.inl (0, 6, .inl (va_cpy sl (kl j) 0 0 6)))).set (80 + 4 * j) (.inr (6, [.ref (80 + 4 * j + 1), .ref (80 + 4 * j + 2), .ref (80 + 4 * j + 3), .int sa, .int sw, .int sd]))), 0, 0) _
  refine ar_aload_n (pc' := 11) hM rfl rfl rfl ?_
  refine ar_dup (pc' := 12) hM rfl rfl rfl ?_
  refine ar_getfield (pc' := 15) hM rfl (am_gn (by omega) (am_gn (by omega) (am_gn (by omega) (am_gn (by omega) hk0)))) rfl rfl ?_
  refine ar_iconst (x := 1) (pc' := 16) hM rfl (by decide) rfl ?_
  refine ar_iload_n (pc' := 17) hM rfl rfl rfl ?_
  refine ar_ishl (pc' := 18) hM rfl rfl ?_
  refine ar_ior (pc' := 19) hM rfl rfl ?_
  refine ar_putfield (pc' := 22) hM rfl (am_gn (by omega) (am_gn (by omega) (am_gn (by omega) (am_gn (by omega) hk0)))) (Nat.le_of_ble_eq_true rfl) rfl (by decide) rfl ?_
  show am_Go 37 (22, [.ref 78, .int (nI j), .ref 16], [], (((((w.set (80 + 4 * j + 1) (.inl (0, 6, .inl (va_cpy so (ko j) 0 0 6)))).set (80 + 4 * j + 2) (.inl (0, 6, .inl (va_cpy ss (ks j) 0 0 6)))).set (80 + 4 * j + 3) (.inl (0, 6, .inl (va_cpy sl (kl j) 0 0 6)))).set (80 + 4 * j) (.inr (6, [.ref (80 + 4 * j + 1), .ref (80 + 4 * j + 2), .ref (80 + 4 * j + 3), .int sa, .int sw, .int sd]))).set 78 (.inr (5, [.ref 79, .int (kb ||| (1 <<< ((nI j) &&& 31)))]))), 0, 0) _
  refine ar_return hM rfl ?_
  exact ⟨rfl, rfl⟩
set_option maxRecDepth 100000 in
set_option maxHeartbeats 4000000 in
theorem c_fetch0 (w : am_W) (kb : Int32) (hk0 : w[78]? = some (.inr (5, [.ref 79, .int kb]))) (j : Nat) (hb : (kb >>> (nI j &&& 31)) &&& 1 = 0) : am_Go 38 (0, [.ref 78, .int (nI j), .ref 16], [], w, 0, 0) (fun res w' => res = some (.int 0) ∧ w' = w) := by
  have hM : am_P[38]? = some zm_X5_fetch := rfl
  refine ar_aload_n (pc' := 1) hM rfl rfl rfl ?_
  refine ar_getfield (pc' := 4) hM rfl hk0 rfl rfl ?_
  refine ar_iload_n (pc' := 5) hM rfl rfl rfl ?_
  refine ar_ishr (pc' := 6) hM rfl rfl ?_
  refine ar_iconst (x := 1) (pc' := 7) hM rfl (by decide) rfl ?_
  refine ar_iand (pc' := 8) hM rfl rfl ?_
  refine ar_if_ne (pc' := 11) hM rfl rfl (fun q => absurd hb q) (fun _ => ?_)
  refine ar_iconst (x := 0) (pc' := 12) hM rfl (by decide) rfl ?_
  refine ar_ireturn hM rfl (Or.inr (Or.inl rfl)) ?_
  exact ⟨rfl, rfl⟩
set_option maxRecDepth 100000 in
set_option maxHeartbeats 4000000 in
theorem c_fetch (w : am_W) (kb : Int32) (hk0 : w[78]? = some (.inr (5, [.ref 79, .int kb]))) (kf : Nat → Option Nat) (ko ks kl : Nat → Nat → Int32) (ka kw kd : Nat → Int32) (hkf : ∀ i, i < 2 → kf i = some (80 + 4 * i)) (hk2 : ∀ i, i < 2 → w[80 + 4 * i]? = some (.inr (6, [.ref (80 + 4 * i + 1), .ref (80 + 4 * i + 2), .ref (80 + 4 * i + 3), .int (ka i), .int (kw i), .int (kd i)]))) (hk3 : ∀ i, i < 2 → w[80 + 4 * i + 1]? = some (.inl (0, 6, .inl (ko i)))) (hk4 : ∀ i, i < 2 → w[80 + 4 * i + 2]? = some (.inl (0, 6, .inl (ks i)))) (hk5 : ∀ i, i < 2 → w[80 + 4 * i + 3]? = some (.inl (0, 6, .inl (kl i)))) (hk1 : w[79]? = some (.inl (2, 2, .inr kf))) (so ss sl : Nat → Int32) (sa sw sd : Int32) (hs0 : w[16]? = some (.inr (6, [.ref 17, .ref 18, .ref 19, .int sa, .int sw, .int sd]))) (hs1 : w[17]? = some (.inl (0, 6, .inl so))) (hs2 : w[18]? = some (.inl (0, 6, .inl ss))) (hs3 : w[19]? = some (.inl (0, 6, .inl sl))) (j : Nat) (hj2 : j < 2) (hb : ¬ (kb >>> (nI j &&& 31)) &&& 1 = 0) : am_Go 38 (0, [.ref 78, .int (nI j), .ref 16], [], w, 0, 0) (fun res w' => res = some (.int 1) ∧ w' = ((((w.set (17) (.inl (0, 6, .inl (va_cpy (ko j) so 0 0 6)))).set (18) (.inl (0, 6, .inl (va_cpy (ks j) ss 0 0 6)))).set (19) (.inl (0, 6, .inl (va_cpy (kl j) sl 0 0 6)))).set (16) (.inr (6, [.ref 17, .ref 18, .ref 19, .int (ka j), .int (kw j), .int (kd j)])))) := by
  have hM : am_P[38]? = some zm_X5_fetch := rfl
  refine ar_aload_n (pc' := 1) hM rfl rfl rfl ?_
  refine ar_getfield (pc' := 4) hM rfl hk0 rfl rfl ?_
  refine ar_iload_n (pc' := 5) hM rfl rfl rfl ?_
  refine ar_ishr (pc' := 6) hM rfl rfl ?_
  refine ar_iconst (x := 1) (pc' := 7) hM rfl (by decide) rfl ?_
  refine ar_iand (pc' := 8) hM rfl rfl ?_
  refine ar_if_ne (pc' := 11) hM rfl rfl (fun _ => ?_) (fun q => absurd q hb)
  refine ar_aload_n (pc' := 14) hM rfl rfl rfl ?_
  refine ar_aload_n (pc' := 15) hM rfl rfl rfl ?_
  refine ar_getfield (pc' := 18) hM rfl hk0 rfl rfl ?_
  refine ar_iload_n (pc' := 19) hM rfl rfl rfl ?_
  refine ar_aaloadN (j := j) (z := 80 + 4 * j) (pc' := 20) hM rfl hk1 rfl (by omega) (Nat.le_of_ble_eq_true rfl) (by decide) (hkf j hj2) rfl ?_
  refine ar_virtual (pc' := 23) (k3 := 0) (k4 := 0) hM rfl rfl hs0 ⟨rfl, (by decide)⟩ rfl rfl (c_copyFrom _ 16 (by decide) _ _ _ _ _ _ hs0 hs1 hs2 hs3 (80 + 4 * j) (by omega) (by omega) _ _ _ _ _ _ (hk2 j hj2) (hk3 j hj2) (hk4 j hj2) (hk5 j hj2)) (fun r20 w20 q20 => ?_)
  obtain ⟨rfl, q20w⟩ := q20
  rw [q20w]
  show am_Go 38 (23, [.ref 78, .int (nI j), .ref 16], [], ((((w.set 17 (.inl (0, 6, .inl (va_cpy (ko j) so 0 0 6)))).set 18 (.inl (0, 6, .inl (va_cpy (ks j) ss 0 0 6)))).set 19 (.inl (0, 6, .inl (va_cpy (kl j) sl 0 0 6)))).set 16 (.inr (6, [.ref 17, .ref 18, .ref 19, .int (ka j), .int (kw j), .int (kd j)]))), 0, 0) _
  refine ar_iconst (x := 1) (pc' := 24) hM rfl (by decide) rfl ?_
  refine ar_ireturn hM rfl (Or.inr (Or.inr rfl)) ?_
  exact ⟨rfl, rfl⟩
set_option maxRecDepth 100000 in
set_option maxHeartbeats 4000000 in
theorem c_add (w : am_W) (sc : Nat) (hsc : sc ≤ 6) (sh st sv : Nat → Int32) (hn0 : w[88]? = some (.inr (4, [.ref 89, .ref 90, .ref 91, .int (nI sc)]))) (hn1 : w[89]? = some (.inl (0, 6, .inl sh))) (hn2 : w[90]? = some (.inl (0, 6, .inl st))) (hn3 : w[91]? = some (.inl (0, 6, .inl sv))) (h t v : Int32) (hc : sc < 6) : am_Go 31 (0, [.ref 88, .int h, .int t, .int v], [], w, 0, 0) (fun res w' => res = some (.int (nI (sc + 1))) ∧ w' = (((w.set 89 (.inl (0, 6, .inl (upd sh sc h)))).set 90 (.inl (0, 6, .inl (upd st sc t)))).set 91 (.inl (0, 6, .inl (upd sv sc v)))).set 88 (.inr (4, [.ref 89, .ref 90, .ref 91, .int (nI (sc + 1))]))) := by
  have hM : am_P[31]? = some zm_X4_add := rfl
  refine ar_aload_n (pc' := 1) hM rfl rfl rfl ?_
  refine ar_getfield (pc' := 4) hM rfl hn0 rfl rfl ?_
  refine ar_bipush (x := 6) (pc' := 6) hM rfl (by decide) rfl ?_
  refine ar_icmp_lt (pc' := 9) hM rfl rfl (fun _ => ?_) (fun q => absurd (nI_lt (a := sc) (b := 6) hc (by omega)) q)
  refine ar_aload_n (pc' := 13) hM rfl rfl rfl ?_
  refine ar_getfield (pc' := 16) hM rfl hn0 rfl rfl ?_
  refine ar_aload_n (pc' := 17) hM rfl rfl rfl ?_
  refine ar_getfield (pc' := 20) hM rfl hn0 rfl rfl ?_
  refine ar_iload_n (pc' := 21) hM rfl rfl rfl ?_
  refine ar_iastoreN (j := sc) (pc' := 22) hM rfl hn1 rfl (by omega) (Nat.le_of_ble_eq_true rfl) (by decide) rfl ?_
  refine ar_aload_n (pc' := 23) hM rfl rfl rfl ?_
  refine ar_getfield (pc' := 26) hM rfl (am_gn (by decide) hn0) rfl rfl ?_
  refine ar_aload_n (pc' := 27) hM rfl rfl rfl ?_
  refine ar_getfield (pc' := 30) hM rfl (am_gn (by decide) hn0) rfl rfl ?_
  refine ar_iload_n (pc' := 31) hM rfl rfl rfl ?_
  refine ar_iastoreN (j := sc) (pc' := 32) hM rfl (am_gn (by decide) hn2) rfl (by omega) (Nat.le_of_ble_eq_true rfl) (by decide) rfl ?_
  refine ar_aload_n (pc' := 33) hM rfl rfl rfl ?_
  refine ar_getfield (pc' := 36) hM rfl (am_gn (by decide) (am_gn (by decide) hn0)) rfl rfl ?_
  refine ar_aload_n (pc' := 37) hM rfl rfl rfl ?_
  refine ar_getfield (pc' := 40) hM rfl (am_gn (by decide) (am_gn (by decide) hn0)) rfl rfl ?_
  refine ar_iload_n (pc' := 41) hM rfl rfl rfl ?_
  refine ar_iastoreN (j := sc) (pc' := 42) hM rfl (am_gn (by decide) (am_gn (by decide) hn3)) rfl (by omega) (Nat.le_of_ble_eq_true rfl) (by decide) rfl ?_
  refine ar_aload_n (pc' := 43) hM rfl rfl rfl ?_
  refine ar_dup (pc' := 44) hM rfl rfl rfl ?_
  refine ar_getfield (pc' := 47) hM rfl (am_gn (by decide) (am_gn (by decide) (am_gn (by decide) hn0))) rfl rfl ?_
  refine ar_iconst (x := 1) (pc' := 48) hM rfl (by decide) rfl ?_
  refine ar_iadd (pc' := 49) hM rfl rfl ?_
  rw [show ((nI sc) + 1 : Int32) = nI (sc + 1) from nI_1 sc]
  refine ar_putfield (pc' := 52) hM rfl (am_gn (by decide) (am_gn (by decide) (am_gn (by decide) hn0))) (Nat.le_of_ble_eq_true rfl) rfl (by decide) rfl ?_
  show am_Go 31 (52, [.ref 88, .int h, .int t, .int v], [], ((((w.set 89 (.inl (0, 6, .inl (upd sh sc h)))).set 90 (.inl (0, 6, .inl (upd st sc t)))).set 91 (.inl (0, 6, .inl (upd sv sc v)))).set 88 (.inr (4, [.ref 89, .ref 90, .ref 91, .int (nI (sc + 1))]))), 0, 0) _
  refine ar_aload_n (pc' := 53) hM rfl rfl rfl ?_
  refine ar_getfield (pc' := 56) hM rfl (am_gs (am_gn (by decide) (am_gn (by decide) (am_gn (by decide) hn0)))) rfl rfl ?_
  refine ar_ireturn hM rfl (Or.inl rfl) ?_
  exact ⟨rfl, rfl⟩
set_option maxRecDepth 100000 in
set_option maxHeartbeats 4000000 in
theorem c_addF (w : am_W) (sc : Nat) (hsc : sc ≤ 6) (sh st sv : Nat → Int32) (hn0 : w[88]? = some (.inr (4, [.ref 89, .ref 90, .ref 91, .int (nI sc)]))) (hn1 : w[89]? = some (.inl (0, 6, .inl sh))) (hn2 : w[90]? = some (.inl (0, 6, .inl st))) (hn3 : w[91]? = some (.inl (0, 6, .inl sv))) (h t v : Int32) (hc : sc = 6) : am_Go 31 (0, [.ref 88, .int h, .int t, .int v], [], w, 0, 0) (fun res w' => res = some (.int (-4)) ∧ w' = w) := by
  have hM : am_P[31]? = some zm_X4_add := rfl
  refine ar_aload_n (pc' := 1) hM rfl rfl rfl ?_
  refine ar_getfield (pc' := 4) hM rfl hn0 rfl rfl ?_
  refine ar_bipush (x := 6) (pc' := 6) hM rfl (by decide) rfl ?_
  refine ar_icmp_lt (pc' := 9) hM rfl rfl (fun q => absurd q (nI_nlt (a := sc) (b := 6) (by omega) (by omega))) (fun _ => ?_)
  refine ar_bipush (x := (-4)) (pc' := 11) hM rfl (by decide) rfl ?_
  refine ar_ireturn hM rfl (Or.inl rfl) ?_
  exact ⟨rfl, rfl⟩
set_option maxRecDepth 100000 in
set_option maxHeartbeats 4000000 in
theorem c_nclear (w : am_W) (sc : Nat) (hsc : sc ≤ 6) (sh st sv : Nat → Int32) (hn0 : w[88]? = some (.inr (4, [.ref 89, .ref 90, .ref 91, .int (nI sc)]))) (hn1 : w[89]? = some (.inl (0, 6, .inl sh))) (hn2 : w[90]? = some (.inl (0, 6, .inl st))) (hn3 : w[91]? = some (.inl (0, 6, .inl sv))) : am_Go 32 (0, [.ref 88, .float 0], [], w, 0, 0) (fun res w' => res = some (.int (nI sc)) ∧ w' = w.set 88 (.inr (4, [.ref 89, .ref 90, .ref 91, .int 0]))) := by
  have hM : am_P[32]? = some zm_X4_clear := rfl
  refine ar_aload_n (pc' := 1) hM rfl rfl rfl ?_
  refine ar_getfield (pc' := 4) hM rfl hn0 rfl rfl ?_
  refine ar_istore_n (pc' := 5) hM rfl rfl rfl rfl ?_
  refine ar_aload_n (pc' := 6) hM rfl rfl rfl ?_
  refine ar_iconst (x := 0) (pc' := 7) hM rfl (by decide) rfl ?_
  refine ar_putfield (pc' := 10) hM rfl hn0 (Nat.le_of_ble_eq_true rfl) rfl (by decide) rfl ?_
  show am_Go 32 (10, [.ref 88, .int (nI sc)], [], (w.set 88 (.inr (4, [.ref 89, .ref 90, .ref 91, .int 0]))), 0, 0) _
  refine ar_iload_n (pc' := 11) hM rfl rfl rfl ?_
  refine ar_ireturn hM rfl (Or.inl rfl) ?_
  exact ⟨rfl, rfl⟩
set_option maxRecDepth 100000 in
set_option maxHeartbeats 4000000 in
theorem c_agrees (w : am_W) (sc : Nat) (hsc : sc ≤ 6) (sh st sv : Nat → Int32) (hn0 : w[88]? = some (.inr (4, [.ref 89, .ref 90, .ref 91, .int (nI sc)]))) (hn1 : w[89]? = some (.inl (0, 6, .inl sh))) (hn2 : w[90]? = some (.inl (0, 6, .inl st))) (hn3 : w[91]? = some (.inl (0, 6, .inl sv))) (h v : Int32) : am_Go 34 (0, [.ref 88, .int h, .int v, .float 0], [], w, 0, 0) (fun res w' => res = some (.int (if b_agr sh st sv h v sc = true then 1 else 0)) ∧ w' = w) := by
  have hM : am_P[34]? = some zm_X4_agrees := rfl
  refine ar_iconst (x := 0) (pc' := 1) hM rfl (by decide) rfl ?_
  refine ar_istore_n (pc' := 2) hM rfl rfl rfl rfl ?_
  have loop : ∀ (dj j : Nat) , dj + j = sc → (b_agr sh st sv h v j = true) → am_Go 34 (2, [.ref 88, .int h, .int v, .int (nI j)], [], w, 0, 0) (fun res w' => res = some (.int (if b_agr sh st sv h v sc = true then 1 else 0)) ∧ w' = w) := by
    intro dj
    induction dj with
    | zero =>
      intro j  hj hx
      refine ar_iload_n (pc' := 3) hM rfl rfl rfl ?_
      refine ar_aload_n (pc' := 4) hM rfl rfl rfl ?_
      refine ar_getfield (pc' := 7) hM rfl hn0 rfl rfl ?_
      refine ar_icmp_ge (pc' := 10) hM rfl rfl (fun _ => ?_) (fun q => absurd (nI_le (a := sc) (b := j) (by omega) (by omega)) q)
      refine ar_iconst (x := 1) (pc' := 46) hM rfl (by decide) rfl ?_
      refine ar_ireturn hM rfl (Or.inr (Or.inr rfl)) ?_
      exact ⟨by rw [show j = sc by omega] at hx; rw [if_pos hx], rfl⟩
    | succ dj ih =>
      intro j  hj hx
      refine ar_iload_n (pc' := 3) hM rfl rfl rfl ?_
      refine ar_aload_n (pc' := 4) hM rfl rfl rfl ?_
      refine ar_getfield (pc' := 7) hM rfl hn0 rfl rfl ?_
      refine ar_icmp_ge (pc' := 10) hM rfl rfl (fun q => absurd q (nI_ge (a := j) (b := sc) (by omega) (by omega))) (fun _ => ?_)
      refine ar_aload_n (pc' := 11) hM rfl rfl rfl ?_
      refine ar_getfield (pc' := 14) hM rfl hn0 rfl rfl ?_
      refine ar_iload_n (pc' := 15) hM rfl rfl rfl ?_
      refine ar_ialoadN (j := j) (pc' := 16) hM rfl hn1 rfl (by omega) (Nat.le_of_ble_eq_true rfl) rfl ?_
      refine ar_iload_n (pc' := 17) hM rfl rfl rfl ?_
      refine ar_icmp_ne (pc' := 20) hM rfl rfl (fun c17 => ?_) (fun c17 => ?_)
      · refine ar_iinc (z := nI (j + 1)) (pc' := 42) hM rfl rfl (nI_1 _) rfl rfl rfl ?_
        refine ar_goto hM rfl ?_
        exact ih (j + 1) (by omega) (by show (b_agr sh st sv h v j && _) = true; rw [hx, decide_eq_false c17]; rfl)
      · refine ar_aload_n (pc' := 21) hM rfl rfl rfl ?_
        refine ar_getfield (pc' := 24) hM rfl hn0 rfl rfl ?_
        refine ar_iload_n (pc' := 25) hM rfl rfl rfl ?_
        refine ar_ialoadN (j := j) (pc' := 26) hM rfl hn3 rfl (by omega) (Nat.le_of_ble_eq_true rfl) rfl ?_
        refine ar_iload_n (pc' := 27) hM rfl rfl rfl ?_
        refine ar_aload_n (pc' := 28) hM rfl rfl rfl ?_
        refine ar_getfield (pc' := 31) hM rfl hn0 rfl rfl ?_
        refine ar_iload_n (pc' := 32) hM rfl rfl rfl ?_
        refine ar_ialoadN (j := j) (pc' := 33) hM rfl hn2 rfl (by omega) (Nat.le_of_ble_eq_true rfl) rfl ?_
        refine ar_iadd (pc' := 34) hM rfl rfl ?_
        refine ar_icmp_eq (pc' := 37) hM rfl rfl (fun c34 => ?_) (fun c34 => ?_)
        · refine ar_iinc (z := nI (j + 1)) (pc' := 42) hM rfl rfl (nI_1 _) rfl rfl rfl ?_
          refine ar_goto hM rfl ?_
          exact ih (j + 1) (by omega) (by show (b_agr sh st sv h v j && _) = true; rw [hx, decide_eq_true c34]; simp)
        · refine ar_iconst (x := 0) (pc' := 38) hM rfl (by decide) rfl ?_
          refine ar_ireturn hM rfl (Or.inr (Or.inl rfl)) ?_
          exact ⟨by rw [if_neg (by rw [b_agr_f (j := j + 1) (by omega) (by show (b_agr sh st sv h v j && _) = false; rw [decide_eq_true c17, decide_eq_false c34]; simp)]; decide)], rfl⟩
  exact loop (sc) 0  (by omega) rfl
set_option maxRecDepth 100000 in
set_option maxHeartbeats 4000000 in
theorem c_possibleWants (w : am_W) (sc : Nat) (hsc : sc ≤ 6) (sh st sv : Nat → Int32) (hn0 : w[88]? = some (.inr (4, [.ref 89, .ref 90, .ref 91, .int (nI sc)]))) (hn1 : w[89]? = some (.inl (0, 6, .inl sh))) (hn2 : w[90]? = some (.inl (0, 6, .inl st))) (hn3 : w[91]? = some (.inl (0, 6, .inl sv))) (h k : Int32) : am_Go 33 (0, [.ref 88, .int h, .int k, .float 0, .float 0], [], w, 0, 0) (fun res w' => res = some (.int (i_pw sh st sv sc h k 10)) ∧ w' = w) := by
  have hM : am_P[33]? = some zm_X4_possibleWants := rfl
  refine ar_iconst (x := 0) (pc' := 1) hM rfl (by decide) rfl ?_
  refine ar_istore_n (pc' := 2) hM rfl rfl rfl rfl ?_
  refine ar_iconst (x := 0) (pc' := 3) hM rfl (by decide) rfl ?_
  refine ar_istore (pc' := 5) hM rfl rfl rfl rfl ?_
  have loop : ∀ (dj j : Nat) (x : Int32), dj + j = 10 → (x = i_pw sh st sv sc h k j) → am_Go 33 (5, [.ref 88, .int h, .int k, .int x, .int (nI j)], [], w, 0, 0) (fun res w' => res = some (.int (i_pw sh st sv sc h k 10)) ∧ w' = w) := by
    intro dj
    induction dj with
    | zero =>
      intro j x hj hx
      refine ar_iload (pc' := 7) hM rfl rfl rfl ?_
      refine ar_bipush (x := 9) (pc' := 9) hM rfl (by decide) rfl ?_
      refine ar_icmp_gt (pc' := 12) hM rfl rfl (fun _ => ?_) (fun q => absurd (nI_lt (a := 9) (b := j) (by omega) (by omega)) q)
      refine ar_iload_n (pc' := 45) hM rfl rfl rfl ?_
      refine ar_ireturn hM rfl (Or.inl rfl) ?_
      exact ⟨by rw [hx, show j = 10 by omega], rfl⟩
    | succ dj ih =>
      intro j x hj hx
      refine ar_iload (pc' := 7) hM rfl rfl rfl ?_
      refine ar_bipush (x := 9) (pc' := 9) hM rfl (by decide) rfl ?_
      refine ar_icmp_gt (pc' := 12) hM rfl rfl (fun q => absurd q (nI_nlt (a := 9) (b := j) (by omega) (by omega))) (fun _ => ?_)
      refine ar_aload_n (pc' := 13) hM rfl rfl rfl ?_
      refine ar_iload_n (pc' := 14) hM rfl rfl rfl ?_
      refine ar_iload (pc' := 16) hM rfl rfl rfl ?_
      refine ar_iload_n (pc' := 17) hM rfl rfl rfl ?_
      refine ar_static (pc' := 20) (k3 := 0) (k4 := 0) hM rfl (by decide) rfl rfl (c_wantByKind _ _ _) (fun r17 w17 q17 => ?_)
      obtain ⟨rfl, q17w⟩ := q17
      rw [q17w]
      show am_Go 33 (20, [.ref 88, .int h, .int k, .int x, .int (nI j)], [.int (i_wbk (nI j) k), .int h, .ref 88], w, 0, 0) _
      refine ar_iload_n (pc' := 21) hM rfl rfl rfl ?_
      refine ar_static (pc' := 24) (k3 := 0) (k4 := 0) hM rfl (by decide) rfl rfl (c_lieOf _ _) (fun r21 w21 q21 => ?_)
      obtain ⟨rfl, q21w⟩ := q21
      rw [q21w]
      show am_Go 33 (24, [.ref 88, .int h, .int k, .int x, .int (nI j)], [.int (i_lie k), .int (i_wbk (nI j) k), .int h, .ref 88], w, 0, 0) _
      refine ar_iadd (pc' := 25) hM rfl rfl ?_
      refine ar_virtual (pc' := 28) (k3 := 0) (k4 := 0) hM rfl rfl hn0 ⟨rfl, (by decide)⟩ rfl rfl (c_agrees _ sc hsc sh st sv hn0 hn1 hn2 hn3 _ _) (fun r25 w25 q25 => ?_)
      obtain ⟨rfl, q25w⟩ := q25
      rw [q25w]
      show am_Go 33 (28, [.ref 88, .int h, .int k, .int x, .int (nI j)], [.int (if b_agr sh st sv h ((i_wbk (nI j) k) + (i_lie k)) sc = true then 1 else 0)], w, 0, 0) _
      refine ar_if_eq (pc' := 31) hM rfl rfl (fun c28 => ?_) (fun c28 => ?_)
      · refine ar_iinc (z := nI (j + 1)) (pc' := 41) hM rfl rfl (nI_1 _) rfl rfl rfl ?_
        refine ar_goto hM rfl ?_
        exact ih (j + 1) x (by omega) (by show _ = (if _ then _ else _); rw [if_neg (am_eq0 c28), hx])
      · refine ar_iload_n (pc' := 32) hM rfl rfl rfl ?_
        refine ar_iconst (x := 1) (pc' := 33) hM rfl (by decide) rfl ?_
        refine ar_iload (pc' := 35) hM rfl rfl rfl ?_
        refine ar_ishl (pc' := 36) hM rfl rfl ?_
        refine ar_ior (pc' := 37) hM rfl rfl ?_
        refine ar_istore_n (pc' := 38) hM rfl rfl rfl rfl ?_
        refine ar_iinc (z := nI (j + 1)) (pc' := 41) hM rfl rfl (nI_1 _) rfl rfl rfl ?_
        refine ar_goto hM rfl ?_
        exact ih (j + 1) (x ||| (1 <<< ((nI j) &&& 31))) (by omega) (by show _ = (if _ then _ else _); rw [if_pos (am_ne0 c28), hx])
  exact loop (10) 0 0 (by omega) rfl
end
section
/-! the reader -/
abbrev p_D : Type := Int32 × Int32 × Nat × Nat × (Nat → Int32) × (Nat → Int32) × (Nat → Int32) × (Nat → Int32)
def p_step (st : Nat) (D : p_D) (c : Int32) : Option (Nat × p_D) := match D with
  | (tr, ri, n, kk, wa, ki, ba, he) => match st with
    | 0 => if c = 84 then some (1, D) else none
    | 1 => if 0 ≤ c - 48 ∧ c - 48 ≤ 9 then some (2, (c - 48, ri, n, kk, wa, ki, ba, he)) else none
    | 2 => if 0 ≤ c - 48 ∧ c - 48 ≤ 1 then some (3, (tr, (if c - 48 = 1 then 1 else 0), n, kk, wa, ki, ba, he)) else none
    | 3 => if c = 72 ∧ n < 6 then some (4, (tr, ri, n + 1, kk, wa, ki, ba, he)) else if c = 68 ∧ kk < 5 then some (7, (tr, ri, n, kk + 1, wa, ki, ba, he)) else none
    | 4 => if 0 ≤ c - 48 ∧ c - 48 ≤ 9 then some (5, (tr, ri, n, kk, upd wa (n - 1) (c - 48), ki, ba, he)) else none
    | 5 => if 0 ≤ c - 48 ∧ c - 48 ≤ 3 then some (6, (tr, ri, n, kk, wa, upd ki (n - 1) (c - 48), ba, he)) else none
    | 6 => if 0 ≤ c - 48 ∧ c - 48 ≤ 9 then some (3, (tr, ri, n, kk, wa, ki, upd ba (n - 1) (c - 48), he)) else none
    | 7 => if 0 ≤ c - 48 ∧ c - 48 ≤ 3 then some (3, (tr, ri, n, kk, wa, ki, ba, upd he (kk - 1) (c - 48))) else none
    | _ => none
def p_is (w : am_W) (D : p_D) : Prop := match D with
  | (tr, ri, n, kk, wa, ki, ba, he) => w[6]? = some (.inr (9, [.int tr, .int ri, .int (nI n), .int (nI kk), .ref 7, .ref 8, .ref 9, .ref 10])) ∧ w[7]? = some (.inl (0, 6, .inl wa)) ∧ w[8]? = some (.inl (0, 6, .inl ki)) ∧ w[9]? = some (.inl (0, 6, .inl ba)) ∧ w[10]? = some (.inl (0, 5, .inl he))
def p_X : Nat → Prop := fun b => 6 ≤ b ∧ b ≤ 10
/-- what a stage says of the draft -/
def p_ok (st : Nat) (D : p_D) : Prop := st ≤ 7 ∧ D.2.2.1 ≤ 6 ∧ D.2.2.2.1 ≤ 5 ∧ (st = 4 ∨ st = 5 ∨ st = 6 → 0 < D.2.2.1) ∧ (st = 7 → 0 < D.2.2.2.1) ∧ (D.2.1 = 0 ∨ D.2.1 = 1)
def p_post (w : am_W) (st : Nat) (D : p_D) (c : Int32) (res : Option Value) (w' : am_W) : Prop := match p_step st D c with
  | some q => res = some (.int (nI q.1)) ∧ p_is w' q.2 ∧ am_same p_X w w'
  | none => res = some (.int (-9)) ∧ w' = w
theorem p_post_s {w : am_W} {st : Nat} {D : p_D} {c : Int32} {res : Option Value} {w' : am_W} {q : Nat × p_D} (h : p_step st D c = some q) (h2 : res = some (.int (nI q.1)) ∧ p_is w' q.2 ∧ am_same p_X w w') : p_post w st D c res w' := by unfold p_post; rw [h]; exact h2
theorem p_post_n {w : am_W} {st : Nat} {D : p_D} {c : Int32} {res : Option Value} {w' : am_W} (h : p_step st D c = none) (h2 : res = some (.int (-9)) ∧ w' = w) : p_post w st D c res w' := by unfold p_post; rw [h]; exact h2
set_option maxRecDepth 100000 in
set_option maxHeartbeats 4000000 in
theorem c_putLast6 (w : am_W) (q : Nat) (h2q : 2 ≤ q) (f : Nat → Int32) (hq : w[q]? = some (.inl (0, 6, .inl f))) (m : Nat) (hm : 0 < m) (hm6 : m ≤ 6) (x nx : Int32) : am_Go 29 (0, [.ref q, .int (nI m), .int x, .int nx], [], w, 0, 0) (fun res w' => res = some (.int nx) ∧ w' = w.set q (.inl (0, 6, .inl (upd f (m - 1) x)))) := by
  have hM : am_P[29]? = some zm_X3_putLast := rfl
  refine ar_iload_n (pc' := 1) hM rfl rfl rfl ?_
  refine ar_iconst (x := 1) (pc' := 2) hM rfl (by decide) rfl ?_
  refine ar_aload_n (pc' := 3) hM rfl rfl rfl ?_
  refine ar_arraylength (x := nI 6) (pc' := 4) hM rfl hq rfl rfl ?_
  refine ar_static (pc' := 7) (k3 := 0) (k4 := 0) hM rfl (by decide) rfl rfl (c_within _ _ _ _) (fun r4 w4 q4 => ?_)
  obtain ⟨rfl, q4w⟩ := q4
  rw [q4w]
  show am_Go 29 (7, [.ref q, .int (nI m), .int x, .int nx], [.int (if 1 ≤ (nI m) ∧ (nI m) ≤ (nI 6) then 1 else 0)], w, 0, 0) _
  refine ar_if_ne (pc' := 10) hM rfl rfl (fun _ => ?_) (fun q => absurd q (by rw [if_pos ⟨nI_le (a := 1) hm (by omega), nI_le (b := 6) hm6 (by omega)⟩]; decide))
  refine ar_aload_n (pc' := 14) hM rfl rfl rfl ?_
  refine ar_iload_n (pc' := 15) hM rfl rfl rfl ?_
  refine ar_iconst (x := 1) (pc' := 16) hM rfl (by decide) rfl ?_
  refine ar_isub (pc' := 17) hM rfl rfl ?_
  rw [show ((nI m) - 1 : Int32) = nI (m - 1) from i_pred hm]
  refine ar_iload_n (pc' := 18) hM rfl rfl rfl ?_
  refine ar_iastoreN (j := (m - 1)) (pc' := 19) hM rfl hq rfl (by omega) (Nat.le_of_ble_eq_true rfl) (by omega) rfl ?_
  refine ar_iload_n (pc' := 20) hM rfl rfl rfl ?_
  refine ar_ireturn hM rfl (Or.inl rfl) ?_
  exact ⟨rfl, rfl⟩
set_option maxRecDepth 100000 in
set_option maxHeartbeats 4000000 in
theorem c_putLast5 (w : am_W) (q : Nat) (h2q : 2 ≤ q) (f : Nat → Int32) (hq : w[q]? = some (.inl (0, 5, .inl f))) (m : Nat) (hm : 0 < m) (hm6 : m ≤ 5) (x nx : Int32) : am_Go 29 (0, [.ref q, .int (nI m), .int x, .int nx], [], w, 0, 0) (fun res w' => res = some (.int nx) ∧ w' = w.set q (.inl (0, 5, .inl (upd f (m - 1) x)))) := by
  have hM : am_P[29]? = some zm_X3_putLast := rfl
  refine ar_iload_n (pc' := 1) hM rfl rfl rfl ?_
  refine ar_iconst (x := 1) (pc' := 2) hM rfl (by decide) rfl ?_
  refine ar_aload_n (pc' := 3) hM rfl rfl rfl ?_
  refine ar_arraylength (x := nI 5) (pc' := 4) hM rfl hq rfl rfl ?_
  refine ar_static (pc' := 7) (k3 := 0) (k4 := 0) hM rfl (by decide) rfl rfl (c_within _ _ _ _) (fun r4 w4 q4 => ?_)
  obtain ⟨rfl, q4w⟩ := q4
  rw [q4w]
  show am_Go 29 (7, [.ref q, .int (nI m), .int x, .int nx], [.int (if 1 ≤ (nI m) ∧ (nI m) ≤ (nI 5) then 1 else 0)], w, 0, 0) _
  refine ar_if_ne (pc' := 10) hM rfl rfl (fun _ => ?_) (fun q => absurd q (by rw [if_pos ⟨nI_le (a := 1) hm (by omega), nI_le (b := 5) hm6 (by omega)⟩]; decide))
  refine ar_aload_n (pc' := 14) hM rfl rfl rfl ?_
  refine ar_iload_n (pc' := 15) hM rfl rfl rfl ?_
  refine ar_iconst (x := 1) (pc' := 16) hM rfl (by decide) rfl ?_
  refine ar_isub (pc' := 17) hM rfl rfl ?_
  rw [show ((nI m) - 1 : Int32) = nI (m - 1) from i_pred hm]
  refine ar_iload_n (pc' := 18) hM rfl rfl rfl ?_
  refine ar_iastoreN (j := (m - 1)) (pc' := 19) hM rfl hq rfl (by omega) (Nat.le_of_ble_eq_true rfl) (by omega) rfl ?_
  refine ar_iload_n (pc' := 20) hM rfl rfl rfl ?_
  refine ar_ireturn hM rfl (Or.inl rfl) ?_
  exact ⟨rfl, rfl⟩
set_option maxRecDepth 100000 in
set_option maxHeartbeats 4000000 in
theorem c_tf1 (w : am_W) (tr ri : Int32) (n kk : Nat) (hn : n ≤ 6) (hkk : kk ≤ 5) (wa ki ba he : Nat → Int32) (hr0 : w[6]? = some (.inr (9, [.int tr, .int ri, .int (nI n), .int (nI kk), .ref 7, .ref 8, .ref 9, .ref 10]))) (hr1 : w[7]? = some (.inl (0, 6, .inl wa))) (hr2 : w[8]? = some (.inl (0, 6, .inl ki))) (hr3 : w[9]? = some (.inl (0, 6, .inl ba))) (hr4 : w[10]? = some (.inl (0, 5, .inl he))) (hr9 : w[5]? = some (.inr (3, [.ref 6]))) (c : Int32) : am_Go 28 (0, [.ref 5, .int 1, .int (c - 48), .int 9], [], w, 0, 0) (fun res w' => p_post w 1 (tr, ri, n, kk, wa, ki, ba, he) c res w') := by
  have hM : am_P[28]? = some zm_X3_takeFigure := rfl
  refine ar_iload_n (pc' := 1) hM rfl rfl rfl ?_
  refine ar_iconst (x := 0) (pc' := 2) hM rfl (by decide) rfl ?_
  refine ar_iload_n (pc' := 3) hM rfl rfl rfl ?_
  refine ar_static (pc' := 6) (k3 := 0) (k4 := 0) hM rfl (by decide) rfl rfl (c_within _ _ _ _) (fun r3 w3 q3 => ?_)
  obtain ⟨rfl, q3w⟩ := q3
  rw [q3w]
  show am_Go 28 (6, [.ref 5, .int 1, .int (c - 48), .int 9], [.int (if 0 ≤ (c - 48) ∧ (c - 48) ≤ 9 then 1 else 0)], w, 0, 0) _
  refine ar_if_ne (pc' := 9) hM rfl rfl (fun c6 => ?_) (fun c6 => ?_)
  · refine ar_iload_n (pc' := 13) hM rfl rfl rfl ?_
    refine ar_tableIn (off := 43) (t := 56) hM rfl (by decide) (by decide) (by decide) ?_
    refine ar_aload_n (pc' := 57) hM rfl rfl rfl ?_
    refine ar_getfield (pc' := 60) hM rfl hr9 rfl rfl ?_
    refine ar_iload_n (pc' := 61) hM rfl rfl rfl ?_
    refine ar_putfield (pc' := 64) hM rfl hr0 (Nat.le_of_ble_eq_true rfl) rfl (by decide) rfl ?_
    show am_Go 28 (64, [.ref 5, .int 1, .int (c - 48), .int 9], [], (w.set 6 (.inr (9, [.int (c - 48), .int ri, .int (nI n), .int (nI kk), .ref 7, .ref 8, .ref 9, .ref 10]))), 0, 0) _
    refine ar_iconst (x := 2) (pc' := 65) hM rfl (by decide) rfl ?_
    refine ar_ireturn hM rfl (Or.inl rfl) ?_
    exact p_post_s (by simp only [p_step]; rw [if_pos (am_ne0 c6)]) ⟨rfl, ⟨(am_gs hr0), (am_gn (by decide) hr1), (am_gn (by decide) hr2), (am_gn (by decide) hr3), (am_gn (by decide) hr4)⟩, (am_same.set am_same.rf (by unfold p_X; omega))⟩
  · refine ar_bipush (x := (-9)) (pc' := 11) hM rfl (by decide) rfl ?_
    refine ar_ireturn hM rfl (Or.inl rfl) ?_
    exact p_post_n (by simp only [p_step]; rw [if_neg (am_eq0 c6)]) ⟨rfl, rfl⟩
set_option maxRecDepth 100000 in
set_option maxHeartbeats 4000000 in
theorem c_tf2 (w : am_W) (tr ri : Int32) (n kk : Nat) (hn : n ≤ 6) (hkk : kk ≤ 5) (wa ki ba he : Nat → Int32) (hr0 : w[6]? = some (.inr (9, [.int tr, .int ri, .int (nI n), .int (nI kk), .ref 7, .ref 8, .ref 9, .ref 10]))) (hr1 : w[7]? = some (.inl (0, 6, .inl wa))) (hr2 : w[8]? = some (.inl (0, 6, .inl ki))) (hr3 : w[9]? = some (.inl (0, 6, .inl ba))) (hr4 : w[10]? = some (.inl (0, 5, .inl he))) (hr9 : w[5]? = some (.inr (3, [.ref 6]))) (c : Int32) : am_Go 28 (0, [.ref 5, .int 2, .int (c - 48), .int 1], [], w, 0, 0) (fun res w' => p_post w 2 (tr, ri, n, kk, wa, ki, ba, he) c res w') := by
  have hM : am_P[28]? = some zm_X3_takeFigure := rfl
  refine ar_iload_n (pc' := 1) hM rfl rfl rfl ?_
  refine ar_iconst (x := 0) (pc' := 2) hM rfl (by decide) rfl ?_
  refine ar_iload_n (pc' := 3) hM rfl rfl rfl ?_
  refine ar_static (pc' := 6) (k3 := 0) (k4 := 0) hM rfl (by decide) rfl rfl (c_within _ _ _ _) (fun r3 w3 q3 => ?_)
  obtain ⟨rfl, q3w⟩ := q3
  rw [q3w]
  show am_Go 28 (6, [.ref 5, .int 2, .int (c - 48), .int 1], [.int (if 0 ≤ (c - 48) ∧ (c - 48) ≤ 1 then 1 else 0)], w, 0, 0) _
  refine ar_if_ne (pc' := 9) hM rfl rfl (fun c6 => ?_) (fun c6 => ?_)
  · refine ar_iload_n (pc' := 13) hM rfl rfl rfl ?_
    refine ar_tableIn (off := 53) (t := 66) hM rfl (by decide) (by decide) (by decide) ?_
    refine ar_aload_n (pc' := 67) hM rfl rfl rfl ?_
    refine ar_getfield (pc' := 70) hM rfl hr9 rfl rfl ?_
    refine ar_iload_n (pc' := 71) hM rfl rfl rfl ?_
    refine ar_iconst (x := 1) (pc' := 72) hM rfl (by decide) rfl ?_
    suffices hj72 : ∀ z_72 : Int32, z_72 = (if (c - 48) = (1 : Int32) then 1 else 0) → am_Go 28 (80, [.ref 5, .int 2, .int (c - 48), .int 1], [.int z_72, .ref 6], w, 0, 0) _ by
      refine ar_icmp_ne (pc' := 75) hM rfl rfl (fun c => ?_) (fun c => ?_)
      · refine ar_iconst (x := 0) (pc' := 80) hM rfl (by decide) rfl ?_
        exact hj72 _ (if_neg c).symm
      · refine ar_iconst (x := 1) (pc' := 76) hM rfl (by decide) rfl ?_
        refine ar_goto hM rfl ?_
        exact hj72 _ (if_pos c).symm
    rintro _ rfl
    refine ar_putfield (pc' := 83) hM rfl hr0 (Nat.le_of_ble_eq_true rfl) (i_fit1 (am_b01)) (by decide) rfl ?_
    show am_Go 28 (83, [.ref 5, .int 2, .int (c - 48), .int 1], [], (w.set 6 (.inr (9, [.int tr, .int (if (c - 48) = (1 : Int32) then 1 else 0), .int (nI n), .int (nI kk), .ref 7, .ref 8, .ref 9, .ref 10]))), 0, 0) _
    refine ar_iconst (x := 3) (pc' := 84) hM rfl (by decide) rfl ?_
    refine ar_ireturn hM rfl (Or.inl rfl) ?_
    exact p_post_s (by simp only [p_step]; rw [if_pos (am_ne0 c6)]) ⟨rfl, ⟨(am_gs hr0), (am_gn (by decide) hr1), (am_gn (by decide) hr2), (am_gn (by decide) hr3), (am_gn (by decide) hr4)⟩, (am_same.set am_same.rf (by unfold p_X; omega))⟩
  · refine ar_bipush (x := (-9)) (pc' := 11) hM rfl (by decide) rfl ?_
    refine ar_ireturn hM rfl (Or.inl rfl) ?_
    exact p_post_n (by simp only [p_step]; rw [if_neg (am_eq0 c6)]) ⟨rfl, rfl⟩
set_option maxRecDepth 100000 in
set_option maxHeartbeats 4000000 in
theorem c_tf4 (w : am_W) (tr ri : Int32) (n kk : Nat) (hn : n ≤ 6) (hkk : kk ≤ 5) (wa ki ba he : Nat → Int32) (hr0 : w[6]? = some (.inr (9, [.int tr, .int ri, .int (nI n), .int (nI kk), .ref 7, .ref 8, .ref 9, .ref 10]))) (hr1 : w[7]? = some (.inl (0, 6, .inl wa))) (hr2 : w[8]? = some (.inl (0, 6, .inl ki))) (hr3 : w[9]? = some (.inl (0, 6, .inl ba))) (hr4 : w[10]? = some (.inl (0, 5, .inl he))) (hr9 : w[5]? = some (.inr (3, [.ref 6]))) (hpos : 0 < n) (c : Int32) : am_Go 28 (0, [.ref 5, .int 4, .int (c - 48), .int 9], [], w, 0, 0) (fun res w' => p_post w 4 (tr, ri, n, kk, wa, ki, ba, he) c res w') := by
  have hM : am_P[28]? = some zm_X3_takeFigure := rfl
  refine ar_iload_n (pc' := 1) hM rfl rfl rfl ?_
  refine ar_iconst (x := 0) (pc' := 2) hM rfl (by decide) rfl ?_
  refine ar_iload_n (pc' := 3) hM rfl rfl rfl ?_
  refine ar_static (pc' := 6) (k3 := 0) (k4 := 0) hM rfl (by decide) rfl rfl (c_within _ _ _ _) (fun r3 w3 q3 => ?_)
  obtain ⟨rfl, q3w⟩ := q3
  rw [q3w]
  show am_Go 28 (6, [.ref 5, .int 4, .int (c - 48), .int 9], [.int (if 0 ≤ (c - 48) ∧ (c - 48) ≤ 9 then 1 else 0)], w, 0, 0) _
  refine ar_if_ne (pc' := 9) hM rfl rfl (fun c6 => ?_) (fun c6 => ?_)
  · refine ar_iload_n (pc' := 13) hM rfl rfl rfl ?_
    refine ar_tableIn (off := 92) (t := 105) hM rfl (by decide) (by decide) (by decide) ?_
    refine ar_aload_n (pc' := 106) hM rfl rfl rfl ?_
    refine ar_getfield (pc' := 109) hM rfl hr9 rfl rfl ?_
    refine ar_getfield (pc' := 112) hM rfl hr0 rfl rfl ?_
    refine ar_aload_n (pc' := 113) hM rfl rfl rfl ?_
    refine ar_getfield (pc' := 116) hM rfl hr9 rfl rfl ?_
    refine ar_getfield (pc' := 119) hM rfl hr0 rfl rfl ?_
    refine ar_iload_n (pc' := 120) hM rfl rfl rfl ?_
    refine ar_iconst (x := 5) (pc' := 121) hM rfl (by decide) rfl ?_
    refine ar_static (pc' := 124) (k3 := 0) (k4 := 0) hM rfl (by decide) rfl rfl (c_putLast6 _ 7 (by decide) _ hr1 n hpos (by omega) _ _) (fun r121 w121 q121 => ?_)
    obtain ⟨rfl, q121w⟩ := q121
    rw [q121w]
    show am_Go 28 (124, [.ref 5, .int 4, .int (c - 48), .int 9], [.int 5], (w.set 7 (.inl (0, 6, .inl (upd wa (n - 1) (c - 48))))), 0, 0) _
    refine ar_ireturn hM rfl (Or.inl rfl) ?_
    exact p_post_s (by simp only [p_step]; rw [if_pos (am_ne0 c6)]) ⟨rfl, ⟨(am_gn (by decide) hr0), (am_gs hr1), (am_gn (by decide) hr2), (am_gn (by decide) hr3), (am_gn (by decide) hr4)⟩, (am_same.set am_same.rf (by unfold p_X; omega))⟩
  · refine ar_bipush (x := (-9)) (pc' := 11) hM rfl (by decide) rfl ?_
    refine ar_ireturn hM rfl (Or.inl rfl) ?_
    exact p_post_n (by simp only [p_step]; rw [if_neg (am_eq0 c6)]) ⟨rfl, rfl⟩
set_option maxRecDepth 100000 in
set_option maxHeartbeats 4000000 in
theorem c_tf5 (w : am_W) (tr ri : Int32) (n kk : Nat) (hn : n ≤ 6) (hkk : kk ≤ 5) (wa ki ba he : Nat → Int32) (hr0 : w[6]? = some (.inr (9, [.int tr, .int ri, .int (nI n), .int (nI kk), .ref 7, .ref 8, .ref 9, .ref 10]))) (hr1 : w[7]? = some (.inl (0, 6, .inl wa))) (hr2 : w[8]? = some (.inl (0, 6, .inl ki))) (hr3 : w[9]? = some (.inl (0, 6, .inl ba))) (hr4 : w[10]? = some (.inl (0, 5, .inl he))) (hr9 : w[5]? = some (.inr (3, [.ref 6]))) (hpos : 0 < n) (c : Int32) : am_Go 28 (0, [.ref 5, .int 5, .int (c - 48), .int 3], [], w, 0, 0) (fun res w' => p_post w 5 (tr, ri, n, kk, wa, ki, ba, he) c res w') := by
  have hM : am_P[28]? = some zm_X3_takeFigure := rfl
  refine ar_iload_n (pc' := 1) hM rfl rfl rfl ?_
  refine ar_iconst (x := 0) (pc' := 2) hM rfl (by decide) rfl ?_
  refine ar_iload_n (pc' := 3) hM rfl rfl rfl ?_
  refine ar_static (pc' := 6) (k3 := 0) (k4 := 0) hM rfl (by decide) rfl rfl (c_within _ _ _ _) (fun r3 w3 q3 => ?_)
  obtain ⟨rfl, q3w⟩ := q3
  rw [q3w]
  show am_Go 28 (6, [.ref 5, .int 5, .int (c - 48), .int 3], [.int (if 0 ≤ (c - 48) ∧ (c - 48) ≤ 3 then 1 else 0)], w, 0, 0) _
  refine ar_if_ne (pc' := 9) hM rfl rfl (fun c6 => ?_) (fun c6 => ?_)
  · refine ar_iload_n (pc' := 13) hM rfl rfl rfl ?_
    refine ar_tableIn (off := 112) (t := 125) hM rfl (by decide) (by decide) (by decide) ?_
    refine ar_aload_n (pc' := 126) hM rfl rfl rfl ?_
    refine ar_getfield (pc' := 129) hM rfl hr9 rfl rfl ?_
    refine ar_getfield (pc' := 132) hM rfl hr0 rfl rfl ?_
    refine ar_aload_n (pc' := 133) hM rfl rfl rfl ?_
    refine ar_getfield (pc' := 136) hM rfl hr9 rfl rfl ?_
    refine ar_getfield (pc' := 139) hM rfl hr0 rfl rfl ?_
    refine ar_iload_n (pc' := 140) hM rfl rfl rfl ?_
    refine ar_bipush (x := 6) (pc' := 142) hM rfl (by decide) rfl ?_
    refine ar_static (pc' := 145) (k3 := 0) (k4 := 0) hM rfl (by decide) rfl rfl (c_putLast6 _ 8 (by decide) _ hr2 n hpos (by omega) _ _) (fun r142 w142 q142 => ?_)
    obtain ⟨rfl, q142w⟩ := q142
    rw [q142w]
    show am_Go 28 (145, [.ref 5, .int 5, .int (c - 48), .int 3], [.int 6], (w.set 8 (.inl (0, 6, .inl (upd ki (n - 1) (c - 48))))), 0, 0) _
    refine ar_ireturn hM rfl (Or.inl rfl) ?_
    exact p_post_s (by simp only [p_step]; rw [if_pos (am_ne0 c6)]) ⟨rfl, ⟨(am_gn (by decide) hr0), (am_gn (by decide) hr1), (am_gs hr2), (am_gn (by decide) hr3), (am_gn (by decide) hr4)⟩, (am_same.set am_same.rf (by unfold p_X; omega))⟩
  · refine ar_bipush (x := (-9)) (pc' := 11) hM rfl (by decide) rfl ?_
    refine ar_ireturn hM rfl (Or.inl rfl) ?_
    exact p_post_n (by simp only [p_step]; rw [if_neg (am_eq0 c6)]) ⟨rfl, rfl⟩
set_option maxRecDepth 100000 in
set_option maxHeartbeats 4000000 in
theorem c_tf6 (w : am_W) (tr ri : Int32) (n kk : Nat) (hn : n ≤ 6) (hkk : kk ≤ 5) (wa ki ba he : Nat → Int32) (hr0 : w[6]? = some (.inr (9, [.int tr, .int ri, .int (nI n), .int (nI kk), .ref 7, .ref 8, .ref 9, .ref 10]))) (hr1 : w[7]? = some (.inl (0, 6, .inl wa))) (hr2 : w[8]? = some (.inl (0, 6, .inl ki))) (hr3 : w[9]? = some (.inl (0, 6, .inl ba))) (hr4 : w[10]? = some (.inl (0, 5, .inl he))) (hr9 : w[5]? = some (.inr (3, [.ref 6]))) (hpos : 0 < n) (c : Int32) : am_Go 28 (0, [.ref 5, .int 6, .int (c - 48), .int 9], [], w, 0, 0) (fun res w' => p_post w 6 (tr, ri, n, kk, wa, ki, ba, he) c res w') := by
  have hM : am_P[28]? = some zm_X3_takeFigure := rfl
  refine ar_iload_n (pc' := 1) hM rfl rfl rfl ?_
  refine ar_iconst (x := 0) (pc' := 2) hM rfl (by decide) rfl ?_
  refine ar_iload_n (pc' := 3) hM rfl rfl rfl ?_
  refine ar_static (pc' := 6) (k3 := 0) (k4 := 0) hM rfl (by decide) rfl rfl (c_within _ _ _ _) (fun r3 w3 q3 => ?_)
  obtain ⟨rfl, q3w⟩ := q3
  rw [q3w]
  show am_Go 28 (6, [.ref 5, .int 6, .int (c - 48), .int 9], [.int (if 0 ≤ (c - 48) ∧ (c - 48) ≤ 9 then 1 else 0)], w, 0, 0) _
  refine ar_if_ne (pc' := 9) hM rfl rfl (fun c6 => ?_) (fun c6 => ?_)
  · refine ar_iload_n (pc' := 13) hM rfl rfl rfl ?_
    refine ar_tableIn (off := 133) (t := 146) hM rfl (by decide) (by decide) (by decide) ?_
    refine ar_aload_n (pc' := 147) hM rfl rfl rfl ?_
    refine ar_getfield (pc' := 150) hM rfl hr9 rfl rfl ?_
    refine ar_getfield (pc' := 153) hM rfl hr0 rfl rfl ?_
    refine ar_aload_n (pc' := 154) hM rfl rfl rfl ?_
    refine ar_getfield (pc' := 157) hM rfl hr9 rfl rfl ?_
    refine ar_getfield (pc' := 160) hM rfl hr0 rfl rfl ?_
    refine ar_iload_n (pc' := 161) hM rfl rfl rfl ?_
    refine ar_iconst (x := 3) (pc' := 162) hM rfl (by decide) rfl ?_
    refine ar_static (pc' := 165) (k3 := 0) (k4 := 0) hM rfl (by decide) rfl rfl (c_putLast6 _ 9 (by decide) _ hr3 n hpos (by omega) _ _) (fun r162 w162 q162 => ?_)
    obtain ⟨rfl, q162w⟩ := q162
    rw [q162w]
    show am_Go 28 (165, [.ref 5, .int 6, .int (c - 48), .int 9], [.int 3], (w.set 9 (.inl (0, 6, .inl (upd ba (n - 1) (c - 48))))), 0, 0) _
    refine ar_ireturn hM rfl (Or.inl rfl) ?_
    exact p_post_s (by simp only [p_step]; rw [if_pos (am_ne0 c6)]) ⟨rfl, ⟨(am_gn (by decide) hr0), (am_gn (by decide) hr1), (am_gn (by decide) hr2), (am_gs hr3), (am_gn (by decide) hr4)⟩, (am_same.set am_same.rf (by unfold p_X; omega))⟩
  · refine ar_bipush (x := (-9)) (pc' := 11) hM rfl (by decide) rfl ?_
    refine ar_ireturn hM rfl (Or.inl rfl) ?_
    exact p_post_n (by simp only [p_step]; rw [if_neg (am_eq0 c6)]) ⟨rfl, rfl⟩
set_option maxRecDepth 100000 in
set_option maxHeartbeats 4000000 in
theorem c_tf7 (w : am_W) (tr ri : Int32) (n kk : Nat) (hn : n ≤ 6) (hkk : kk ≤ 5) (wa ki ba he : Nat → Int32) (hr0 : w[6]? = some (.inr (9, [.int tr, .int ri, .int (nI n), .int (nI kk), .ref 7, .ref 8, .ref 9, .ref 10]))) (hr1 : w[7]? = some (.inl (0, 6, .inl wa))) (hr2 : w[8]? = some (.inl (0, 6, .inl ki))) (hr3 : w[9]? = some (.inl (0, 6, .inl ba))) (hr4 : w[10]? = some (.inl (0, 5, .inl he))) (hr9 : w[5]? = some (.inr (3, [.ref 6]))) (hpos : 0 < kk) (c : Int32) : am_Go 28 (0, [.ref 5, .int 7, .int (c - 48), .int 3], [], w, 0, 0) (fun res w' => p_post w 7 (tr, ri, n, kk, wa, ki, ba, he) c res w') := by
  have hM : am_P[28]? = some zm_X3_takeFigure := rfl
  refine ar_iload_n (pc' := 1) hM rfl rfl rfl ?_
  refine ar_iconst (x := 0) (pc' := 2) hM rfl (by decide) rfl ?_
  refine ar_iload_n (pc' := 3) hM rfl rfl rfl ?_
  refine ar_static (pc' := 6) (k3 := 0) (k4 := 0) hM rfl (by decide) rfl rfl (c_within _ _ _ _) (fun r3 w3 q3 => ?_)
  obtain ⟨rfl, q3w⟩ := q3
  rw [q3w]
  show am_Go 28 (6, [.ref 5, .int 7, .int (c - 48), .int 3], [.int (if 0 ≤ (c - 48) ∧ (c - 48) ≤ 3 then 1 else 0)], w, 0, 0) _
  refine ar_if_ne (pc' := 9) hM rfl rfl (fun c6 => ?_) (fun c6 => ?_)
  · refine ar_iload_n (pc' := 13) hM rfl rfl rfl ?_
    refine ar_tableIn (off := 72) (t := 85) hM rfl (by decide) (by decide) (by decide) ?_
    refine ar_aload_n (pc' := 86) hM rfl rfl rfl ?_
    refine ar_getfield (pc' := 89) hM rfl hr9 rfl rfl ?_
    refine ar_getfield (pc' := 92) hM rfl hr0 rfl rfl ?_
    refine ar_aload_n (pc' := 93) hM rfl rfl rfl ?_
    refine ar_getfield (pc' := 96) hM rfl hr9 rfl rfl ?_
    refine ar_getfield (pc' := 99) hM rfl hr0 rfl rfl ?_
    refine ar_iload_n (pc' := 100) hM rfl rfl rfl ?_
    refine ar_iconst (x := 3) (pc' := 101) hM rfl (by decide) rfl ?_
    refine ar_static (pc' := 104) (k3 := 0) (k4 := 0) hM rfl (by decide) rfl rfl (c_putLast5 _ 10 (by decide) _ hr4 kk hpos (by omega) _ _) (fun r101 w101 q101 => ?_)
    obtain ⟨rfl, q101w⟩ := q101
    rw [q101w]
    show am_Go 28 (104, [.ref 5, .int 7, .int (c - 48), .int 3], [.int 3], (w.set 10 (.inl (0, 5, .inl (upd he (kk - 1) (c - 48))))), 0, 0) _
    refine ar_ireturn hM rfl (Or.inl rfl) ?_
    exact p_post_s (by simp only [p_step]; rw [if_pos (am_ne0 c6)]) ⟨rfl, ⟨(am_gn (by decide) hr0), (am_gn (by decide) hr1), (am_gn (by decide) hr2), (am_gn (by decide) hr3), (am_gs hr4)⟩, (am_same.set am_same.rf (by unfold p_X; omega))⟩
  · refine ar_bipush (x := (-9)) (pc' := 11) hM rfl (by decide) rfl ?_
    refine ar_ireturn hM rfl (Or.inl rfl) ?_
    exact p_post_n (by simp only [p_step]; rw [if_neg (am_eq0 c6)]) ⟨rfl, rfl⟩
theorem i_nge {a b : Nat} (h : ¬ nI b ≤ nI a) (ha : a < 2 ^ 31) : a < b := by
  rcases Nat.lt_or_ge a b with q | q
  · exact q
  · exact absurd (nI_le q ha) h
set_option maxRecDepth 100000 in
set_option maxHeartbeats 4000000 in
theorem c_takePart (w : am_W) (tr ri : Int32) (n kk : Nat) (hn : n ≤ 6) (hkk : kk ≤ 5) (wa ki ba he : Nat → Int32) (hr0 : w[6]? = some (.inr (9, [.int tr, .int ri, .int (nI n), .int (nI kk), .ref 7, .ref 8, .ref 9, .ref 10]))) (hr1 : w[7]? = some (.inl (0, 6, .inl wa))) (hr2 : w[8]? = some (.inl (0, 6, .inl ki))) (hr3 : w[9]? = some (.inl (0, 6, .inl ba))) (hr4 : w[10]? = some (.inl (0, 5, .inl he))) (hr9 : w[5]? = some (.inr (3, [.ref 6]))) (c : Int32) : am_Go 27 (0, [.ref 5, .int c], [], w, 0, 0) (fun res w' => p_post w 3 (tr, ri, n, kk, wa, ki, ba, he) c res w') := by
  have hM : am_P[27]? = some zm_X3_takePart := rfl
  refine ar_iload_n (pc' := 1) hM rfl rfl rfl ?_
  refine ar_bipush (x := 72) (pc' := 3) hM rfl (by decide) rfl ?_
  refine ar_icmp_ne (pc' := 6) hM rfl rfl (fun c3 => ?_) (fun c3 => ?_)
  · refine ar_iload_n (pc' := 34) hM rfl rfl rfl ?_
    refine ar_bipush (x := 68) (pc' := 36) hM rfl (by decide) rfl ?_
    refine ar_icmp_ne (pc' := 39) hM rfl rfl (fun c36 => ?_) (fun c36 => ?_)
    · refine ar_bipush (x := (-9)) (pc' := 68) hM rfl (by decide) rfl ?_
      refine ar_ireturn hM rfl (Or.inl rfl) ?_
      exact p_post_n (by simp only [p_step]; rw [if_neg (fun h => c3 h.1), if_neg (fun h => c36 h.1)]) ⟨rfl, rfl⟩
    · refine ar_aload_n (pc' := 40) hM rfl rfl rfl ?_
      refine ar_getfield (pc' := 43) hM rfl hr9 rfl rfl ?_
      refine ar_getfield (pc' := 46) hM rfl hr0 rfl rfl ?_
      refine ar_iconst (x := 5) (pc' := 47) hM rfl (by decide) rfl ?_
      refine ar_icmp_ge (pc' := 50) hM rfl rfl (fun c47 => ?_) (fun c47 => ?_)
      · refine ar_bipush (x := (-9)) (pc' := 68) hM rfl (by decide) rfl ?_
        refine ar_ireturn hM rfl (Or.inl rfl) ?_
        exact p_post_n (by simp only [p_step]; rw [if_neg (fun h => c3 h.1), if_neg (fun h => absurd c47 (nI_ge (a := kk) (b := 5) h.2 (by omega)))]) ⟨rfl, rfl⟩
      · refine ar_aload_n (pc' := 51) hM rfl rfl rfl ?_
        refine ar_getfield (pc' := 54) hM rfl hr9 rfl rfl ?_
        refine ar_dup (pc' := 55) hM rfl rfl rfl ?_
        refine ar_getfield (pc' := 58) hM rfl hr0 rfl rfl ?_
        refine ar_iconst (x := 1) (pc' := 59) hM rfl (by decide) rfl ?_
        refine ar_iadd (pc' := 60) hM rfl rfl ?_
        rw [show ((nI kk) + 1 : Int32) = nI (kk + 1) from nI_1 kk]
        refine ar_putfield (pc' := 63) hM rfl hr0 (Nat.le_of_ble_eq_true rfl) rfl (by decide) rfl ?_
        show am_Go 27 (63, [.ref 5, .int c], [], (w.set 6 (.inr (9, [.int tr, .int ri, .int (nI n), .int (nI (kk + 1)), .ref 7, .ref 8, .ref 9, .ref 10]))), 0, 0) _
        refine ar_bipush (x := 7) (pc' := 65) hM rfl (by decide) rfl ?_
        refine ar_ireturn hM rfl (Or.inl rfl) ?_
        exact p_post_s (by simp only [p_step]; rw [if_neg (fun h => c3 h.1), if_pos ⟨c36, i_nge c47 (by omega)⟩]) ⟨rfl, ⟨(am_gs hr0), (am_gn (by decide) hr1), (am_gn (by decide) hr2), (am_gn (by decide) hr3), (am_gn (by decide) hr4)⟩, (am_same.set am_same.rf (by unfold p_X; omega))⟩
  · refine ar_aload_n (pc' := 7) hM rfl rfl rfl ?_
    refine ar_getfield (pc' := 10) hM rfl hr9 rfl rfl ?_
    refine ar_getfield (pc' := 13) hM rfl hr0 rfl rfl ?_
    refine ar_bipush (x := 6) (pc' := 15) hM rfl (by decide) rfl ?_
    refine ar_icmp_ge (pc' := 18) hM rfl rfl (fun c15 => ?_) (fun c15 => ?_)
    · refine ar_iload_n (pc' := 34) hM rfl rfl rfl ?_
      refine ar_bipush (x := 68) (pc' := 36) hM rfl (by decide) rfl ?_
      refine ar_icmp_ne (pc' := 39) hM rfl rfl (fun c36 => ?_) (fun c36 => ?_)
      · refine ar_bipush (x := (-9)) (pc' := 68) hM rfl (by decide) rfl ?_
        refine ar_ireturn hM rfl (Or.inl rfl) ?_
        exact p_post_n (by simp only [p_step]; rw [if_neg (fun h => absurd c15 (nI_ge (a := n) (b := 6) h.2 (by omega))), if_neg (fun h => c36 h.1)]) ⟨rfl, rfl⟩
      · refine ar_aload_n (pc' := 40) hM rfl rfl rfl ?_
        refine ar_getfield (pc' := 43) hM rfl hr9 rfl rfl ?_
        refine ar_getfield (pc' := 46) hM rfl hr0 rfl rfl ?_
        refine ar_iconst (x := 5) (pc' := 47) hM rfl (by decide) rfl ?_
        refine ar_icmp_ge (pc' := 50) hM rfl rfl (fun c47 => ?_) (fun c47 => ?_)
        · refine ar_bipush (x := (-9)) (pc' := 68) hM rfl (by decide) rfl ?_
          refine ar_ireturn hM rfl (Or.inl rfl) ?_
          exact p_post_n (by simp only [p_step]; rw [if_neg (fun h => absurd c15 (nI_ge (a := n) (b := 6) h.2 (by omega))), if_neg (fun h => absurd c47 (nI_ge (a := kk) (b := 5) h.2 (by omega)))]) ⟨rfl, rfl⟩
        · refine ar_aload_n (pc' := 51) hM rfl rfl rfl ?_
          refine ar_getfield (pc' := 54) hM rfl hr9 rfl rfl ?_
          refine ar_dup (pc' := 55) hM rfl rfl rfl ?_
          refine ar_getfield (pc' := 58) hM rfl hr0 rfl rfl ?_
          refine ar_iconst (x := 1) (pc' := 59) hM rfl (by decide) rfl ?_
          refine ar_iadd (pc' := 60) hM rfl rfl ?_
          rw [show ((nI kk) + 1 : Int32) = nI (kk + 1) from nI_1 kk]
          refine ar_putfield (pc' := 63) hM rfl hr0 (Nat.le_of_ble_eq_true rfl) rfl (by decide) rfl ?_
          show am_Go 27 (63, [.ref 5, .int c], [], (w.set 6 (.inr (9, [.int tr, .int ri, .int (nI n), .int (nI (kk + 1)), .ref 7, .ref 8, .ref 9, .ref 10]))), 0, 0) _
          refine ar_bipush (x := 7) (pc' := 65) hM rfl (by decide) rfl ?_
          refine ar_ireturn hM rfl (Or.inl rfl) ?_
          exact p_post_s (by simp only [p_step]; rw [if_neg (fun h => absurd c15 (nI_ge (a := n) (b := 6) h.2 (by omega))), if_pos ⟨c36, i_nge c47 (by omega)⟩]) ⟨rfl, ⟨(am_gs hr0), (am_gn (by decide) hr1), (am_gn (by decide) hr2), (am_gn (by decide) hr3), (am_gn (by decide) hr4)⟩, (am_same.set am_same.rf (by unfold p_X; omega))⟩
    · refine ar_aload_n (pc' := 19) hM rfl rfl rfl ?_
      refine ar_getfield (pc' := 22) hM rfl hr9 rfl rfl ?_
      refine ar_dup (pc' := 23) hM rfl rfl rfl ?_
      refine ar_getfield (pc' := 26) hM rfl hr0 rfl rfl ?_
      refine ar_iconst (x := 1) (pc' := 27) hM rfl (by decide) rfl ?_
      refine ar_iadd (pc' := 28) hM rfl rfl ?_
      rw [show ((nI n) + 1 : Int32) = nI (n + 1) from nI_1 n]
      refine ar_putfield (pc' := 31) hM rfl hr0 (Nat.le_of_ble_eq_true rfl) rfl (by decide) rfl ?_
      show am_Go 27 (31, [.ref 5, .int c], [], (w.set 6 (.inr (9, [.int tr, .int ri, .int (nI (n + 1)), .int (nI kk), .ref 7, .ref 8, .ref 9, .ref 10]))), 0, 0) _
      refine ar_iconst (x := 4) (pc' := 32) hM rfl (by decide) rfl ?_
      refine ar_ireturn hM rfl (Or.inl rfl) ?_
      exact p_post_s (by simp only [p_step]; rw [if_pos ⟨c3, i_nge c15 (by omega)⟩]) ⟨rfl, ⟨(am_gs hr0), (am_gn (by decide) hr1), (am_gn (by decide) hr2), (am_gn (by decide) hr3), (am_gn (by decide) hr4)⟩, (am_same.set am_same.rf (by unfold p_X; omega))⟩
theorem p_post_int {w : am_W} {st : Nat} {D : p_D} {c : Int32} {res : Option Value} {w' : am_W} (h : p_post w st D c res w') : ∃ z, res = some (.int z) := by
  unfold p_post at h
  split at h
  · exact ⟨_, h.1⟩
  · exact ⟨_, h.1⟩
set_option maxRecDepth 100000 in
set_option maxHeartbeats 4000000 in
theorem c_take0 (w : am_W) (tr ri : Int32) (n kk : Nat) (hn : n ≤ 6) (hkk : kk ≤ 5) (wa ki ba he : Nat → Int32) (hr0 : w[6]? = some (.inr (9, [.int tr, .int ri, .int (nI n), .int (nI kk), .ref 7, .ref 8, .ref 9, .ref 10]))) (hr1 : w[7]? = some (.inl (0, 6, .inl wa))) (hr2 : w[8]? = some (.inl (0, 6, .inl ki))) (hr3 : w[9]? = some (.inl (0, 6, .inl ba))) (hr4 : w[10]? = some (.inl (0, 5, .inl he))) (hr9 : w[5]? = some (.inr (3, [.ref 6]))) (c : Int32) : am_Go 26 (0, [.ref 5, .int 0, .int c], [], w, 0, 0) (fun res w' => p_post w 0 (tr, ri, n, kk, wa, ki, ba, he) c res w') := by
  have hM : am_P[26]? = some zm_X3_take := rfl
  refine ar_iload_n (pc' := 1) hM rfl rfl rfl ?_
  refine ar_tableIn (off := 47) (t := 48) hM rfl (by decide) (by decide) (by decide) ?_
  refine ar_iload_n (pc' := 49) hM rfl rfl rfl ?_
  refine ar_bipush (x := 84) (pc' := 51) hM rfl (by decide) rfl ?_
  refine ar_icmp_ne (pc' := 54) hM rfl rfl (fun c51 => ?_) (fun c51 => ?_)
  · refine ar_bipush (x := (-9)) (pc' := 60) hM rfl (by decide) rfl ?_
    refine ar_ireturn hM rfl (Or.inl rfl) ?_
    exact p_post_n (by simp only [p_step]; rw [if_neg c51]) ⟨rfl, rfl⟩
  · refine ar_iconst (x := 1) (pc' := 55) hM rfl (by decide) rfl ?_
    refine ar_goto hM rfl ?_
    refine ar_ireturn hM rfl (Or.inl rfl) ?_
    exact p_post_s (by simp only [p_step]; rw [if_pos c51]) ⟨rfl, ⟨hr0, hr1, hr2, hr3, hr4⟩, am_same.rf⟩
set_option maxRecDepth 100000 in
set_option maxHeartbeats 4000000 in
theorem c_take1 (w : am_W) (tr ri : Int32) (n kk : Nat) (hn : n ≤ 6) (hkk : kk ≤ 5) (wa ki ba he : Nat → Int32) (hr0 : w[6]? = some (.inr (9, [.int tr, .int ri, .int (nI n), .int (nI kk), .ref 7, .ref 8, .ref 9, .ref 10]))) (hr1 : w[7]? = some (.inl (0, 6, .inl wa))) (hr2 : w[8]? = some (.inl (0, 6, .inl ki))) (hr3 : w[9]? = some (.inl (0, 6, .inl ba))) (hr4 : w[10]? = some (.inl (0, 5, .inl he))) (hr9 : w[5]? = some (.inr (3, [.ref 6]))) (c : Int32) : am_Go 26 (0, [.ref 5, .int 1, .int c], [], w, 0, 0) (fun res w' => p_post w 1 (tr, ri, n, kk, wa, ki, ba, he) c res w') := by
  have hM : am_P[26]? = some zm_X3_take := rfl
  refine ar_iload_n (pc' := 1) hM rfl rfl rfl ?_
  refine ar_tableIn (off := 66) (t := 67) hM rfl (by decide) (by decide) (by decide) ?_
  refine ar_aload_n (pc' := 68) hM rfl rfl rfl ?_
  refine ar_iload_n (pc' := 69) hM rfl rfl rfl ?_
  refine ar_iload_n (pc' := 70) hM rfl rfl rfl ?_
  refine ar_bipush (x := 48) (pc' := 72) hM rfl (by decide) rfl ?_
  refine ar_isub (pc' := 73) hM rfl rfl ?_
  refine ar_bipush (x := 9) (pc' := 75) hM rfl (by decide) rfl ?_
  refine ar_virtual (pc' := 78) (k3 := 0) (k4 := 0) hM rfl rfl hr9 ⟨rfl, (by decide)⟩ rfl rfl (c_tf1 _ tr ri n kk hn hkk wa ki ba he hr0 hr1 hr2 hr3 hr4 hr9 c) (fun r75 w75 q75 => ?_)
  obtain ⟨z, rfl⟩ := p_post_int q75
  show am_Go 26 (78, [.ref 5, .int 1, .int c], [.int z], w75, 0, 0) _
  refine ar_ireturn hM rfl (Or.inl rfl) ?_
  exact q75
set_option maxRecDepth 100000 in
set_option maxHeartbeats 4000000 in
theorem c_take2 (w : am_W) (tr ri : Int32) (n kk : Nat) (hn : n ≤ 6) (hkk : kk ≤ 5) (wa ki ba he : Nat → Int32) (hr0 : w[6]? = some (.inr (9, [.int tr, .int ri, .int (nI n), .int (nI kk), .ref 7, .ref 8, .ref 9, .ref 10]))) (hr1 : w[7]? = some (.inl (0, 6, .inl wa))) (hr2 : w[8]? = some (.inl (0, 6, .inl ki))) (hr3 : w[9]? = some (.inl (0, 6, .inl ba))) (hr4 : w[10]? = some (.inl (0, 5, .inl he))) (hr9 : w[5]? = some (.inr (3, [.ref 6]))) (c : Int32) : am_Go 26 (0, [.ref 5, .int 2, .int c], [], w, 0, 0) (fun res w' => p_post w 2 (tr, ri, n, kk, wa, ki, ba, he) c res w') := by
  have hM : am_P[26]? = some zm_X3_take := rfl
  refine ar_iload_n (pc' := 1) hM rfl rfl rfl ?_
  refine ar_tableIn (off := 78) (t := 79) hM rfl (by decide) (by decide) (by decide) ?_
  refine ar_aload_n (pc' := 80) hM rfl rfl rfl ?_
  refine ar_iload_n (pc' := 81) hM rfl rfl rfl ?_
  refine ar_iload_n (pc' := 82) hM rfl rfl rfl ?_
  refine ar_bipush (x := 48) (pc' := 84) hM rfl (by decide) rfl ?_
  refine ar_isub (pc' := 85) hM rfl rfl ?_
  refine ar_iconst (x := 1) (pc' := 86) hM rfl (by decide) rfl ?_
  refine ar_virtual (pc' := 89) (k3 := 0) (k4 := 0) hM rfl rfl hr9 ⟨rfl, (by decide)⟩ rfl rfl (c_tf2 _ tr ri n kk hn hkk wa ki ba he hr0 hr1 hr2 hr3 hr4 hr9 c) (fun r86 w86 q86 => ?_)
  obtain ⟨z, rfl⟩ := p_post_int q86
  show am_Go 26 (89, [.ref 5, .int 2, .int c], [.int z], w86, 0, 0) _
  refine ar_ireturn hM rfl (Or.inl rfl) ?_
  exact q86
set_option maxRecDepth 100000 in
set_option maxHeartbeats 4000000 in
theorem c_take3 (w : am_W) (tr ri : Int32) (n kk : Nat) (hn : n ≤ 6) (hkk : kk ≤ 5) (wa ki ba he : Nat → Int32) (hr0 : w[6]? = some (.inr (9, [.int tr, .int ri, .int (nI n), .int (nI kk), .ref 7, .ref 8, .ref 9, .ref 10]))) (hr1 : w[7]? = some (.inl (0, 6, .inl wa))) (hr2 : w[8]? = some (.inl (0, 6, .inl ki))) (hr3 : w[9]? = some (.inl (0, 6, .inl ba))) (hr4 : w[10]? = some (.inl (0, 5, .inl he))) (hr9 : w[5]? = some (.inr (3, [.ref 6]))) (c : Int32) : am_Go 26 (0, [.ref 5, .int 3, .int c], [], w, 0, 0) (fun res w' => p_post w 3 (tr, ri, n, kk, wa, ki, ba, he) c res w') := by
  have hM : am_P[26]? = some zm_X3_take := rfl
  refine ar_iload_n (pc' := 1) hM rfl rfl rfl ?_
  refine ar_tableIn (off := 60) (t := 61) hM rfl (by decide) (by decide) (by decide) ?_
  refine ar_aload_n (pc' := 62) hM rfl rfl rfl ?_
  refine ar_iload_n (pc' := 63) hM rfl rfl rfl ?_
  refine ar_virtual (pc' := 66) (k3 := 0) (k4 := 0) hM rfl rfl hr9 ⟨rfl, (by decide)⟩ rfl rfl (c_takePart _ tr ri n kk hn hkk wa ki ba he hr0 hr1 hr2 hr3 hr4 hr9 c) (fun r63 w63 q63 => ?_)
  obtain ⟨z, rfl⟩ := p_post_int q63
  show am_Go 26 (66, [.ref 5, .int 3, .int c], [.int z], w63, 0, 0) _
  refine ar_ireturn hM rfl (Or.inl rfl) ?_
  exact q63
set_option maxRecDepth 100000 in
set_option maxHeartbeats 4000000 in
theorem c_take4 (w : am_W) (tr ri : Int32) (n kk : Nat) (hn : n ≤ 6) (hkk : kk ≤ 5) (wa ki ba he : Nat → Int32) (hr0 : w[6]? = some (.inr (9, [.int tr, .int ri, .int (nI n), .int (nI kk), .ref 7, .ref 8, .ref 9, .ref 10]))) (hr1 : w[7]? = some (.inl (0, 6, .inl wa))) (hr2 : w[8]? = some (.inl (0, 6, .inl ki))) (hr3 : w[9]? = some (.inl (0, 6, .inl ba))) (hr4 : w[10]? = some (.inl (0, 5, .inl he))) (hr9 : w[5]? = some (.inr (3, [.ref 6]))) (hpos : 0 < n) (c : Int32) : am_Go 26 (0, [.ref 5, .int 4, .int c], [], w, 0, 0) (fun res w' => p_post w 4 (tr, ri, n, kk, wa, ki, ba, he) c res w') := by
  have hM : am_P[26]? = some zm_X3_take := rfl
  refine ar_iload_n (pc' := 1) hM rfl rfl rfl ?_
  refine ar_tableIn (off := 66) (t := 67) hM rfl (by decide) (by decide) (by decide) ?_
  refine ar_aload_n (pc' := 68) hM rfl rfl rfl ?_
  refine ar_iload_n (pc' := 69) hM rfl rfl rfl ?_
  refine ar_iload_n (pc' := 70) hM rfl rfl rfl ?_
  refine ar_bipush (x := 48) (pc' := 72) hM rfl (by decide) rfl ?_
  refine ar_isub (pc' := 73) hM rfl rfl ?_
  refine ar_bipush (x := 9) (pc' := 75) hM rfl (by decide) rfl ?_
  refine ar_virtual (pc' := 78) (k3 := 0) (k4 := 0) hM rfl rfl hr9 ⟨rfl, (by decide)⟩ rfl rfl (c_tf4 _ tr ri n kk hn hkk wa ki ba he hr0 hr1 hr2 hr3 hr4 hr9 hpos c) (fun r75 w75 q75 => ?_)
  obtain ⟨z, rfl⟩ := p_post_int q75
  show am_Go 26 (78, [.ref 5, .int 4, .int c], [.int z], w75, 0, 0) _
  refine ar_ireturn hM rfl (Or.inl rfl) ?_
  exact q75
set_option maxRecDepth 100000 in
set_option maxHeartbeats 4000000 in
theorem c_take5 (w : am_W) (tr ri : Int32) (n kk : Nat) (hn : n ≤ 6) (hkk : kk ≤ 5) (wa ki ba he : Nat → Int32) (hr0 : w[6]? = some (.inr (9, [.int tr, .int ri, .int (nI n), .int (nI kk), .ref 7, .ref 8, .ref 9, .ref 10]))) (hr1 : w[7]? = some (.inl (0, 6, .inl wa))) (hr2 : w[8]? = some (.inl (0, 6, .inl ki))) (hr3 : w[9]? = some (.inl (0, 6, .inl ba))) (hr4 : w[10]? = some (.inl (0, 5, .inl he))) (hr9 : w[5]? = some (.inr (3, [.ref 6]))) (hpos : 0 < n) (c : Int32) : am_Go 26 (0, [.ref 5, .int 5, .int c], [], w, 0, 0) (fun res w' => p_post w 5 (tr, ri, n, kk, wa, ki, ba, he) c res w') := by
  have hM : am_P[26]? = some zm_X3_take := rfl
  refine ar_iload_n (pc' := 1) hM rfl rfl rfl ?_
  refine ar_tableIn (off := 89) (t := 90) hM rfl (by decide) (by decide) (by decide) ?_
  refine ar_aload_n (pc' := 91) hM rfl rfl rfl ?_
  refine ar_iload_n (pc' := 92) hM rfl rfl rfl ?_
  refine ar_iload_n (pc' := 93) hM rfl rfl rfl ?_
  refine ar_bipush (x := 48) (pc' := 95) hM rfl (by decide) rfl ?_
  refine ar_isub (pc' := 96) hM rfl rfl ?_
  refine ar_iconst (x := 3) (pc' := 97) hM rfl (by decide) rfl ?_
  refine ar_virtual (pc' := 100) (k3 := 0) (k4 := 0) hM rfl rfl hr9 ⟨rfl, (by decide)⟩ rfl rfl (c_tf5 _ tr ri n kk hn hkk wa ki ba he hr0 hr1 hr2 hr3 hr4 hr9 hpos c) (fun r97 w97 q97 => ?_)
  obtain ⟨z, rfl⟩ := p_post_int q97
  show am_Go 26 (100, [.ref 5, .int 5, .int c], [.int z], w97, 0, 0) _
  refine ar_ireturn hM rfl (Or.inl rfl) ?_
  exact q97
set_option maxRecDepth 100000 in
set_option maxHeartbeats 4000000 in
theorem c_take6 (w : am_W) (tr ri : Int32) (n kk : Nat) (hn : n ≤ 6) (hkk : kk ≤ 5) (wa ki ba he : Nat → Int32) (hr0 : w[6]? = some (.inr (9, [.int tr, .int ri, .int (nI n), .int (nI kk), .ref 7, .ref 8, .ref 9, .ref 10]))) (hr1 : w[7]? = some (.inl (0, 6, .inl wa))) (hr2 : w[8]? = some (.inl (0, 6, .inl ki))) (hr3 : w[9]? = some (.inl (0, 6, .inl ba))) (hr4 : w[10]? = some (.inl (0, 5, .inl he))) (hr9 : w[5]? = some (.inr (3, [.ref 6]))) (hpos : 0 < n) (c : Int32) : am_Go 26 (0, [.ref 5, .int 6, .int c], [], w, 0, 0) (fun res w' => p_post w 6 (tr, ri, n, kk, wa, ki, ba, he) c res w') := by
  have hM : am_P[26]? = some zm_X3_take := rfl
  refine ar_iload_n (pc' := 1) hM rfl rfl rfl ?_
  refine ar_tableIn (off := 66) (t := 67) hM rfl (by decide) (by decide) (by decide) ?_
  refine ar_aload_n (pc' := 68) hM rfl rfl rfl ?_
  refine ar_iload_n (pc' := 69) hM rfl rfl rfl ?_
  refine ar_iload_n (pc' := 70) hM rfl rfl rfl ?_
  refine ar_bipush (x := 48) (pc' := 72) hM rfl (by decide) rfl ?_
  refine ar_isub (pc' := 73) hM rfl rfl ?_
  refine ar_bipush (x := 9) (pc' := 75) hM rfl (by decide) rfl ?_
  refine ar_virtual (pc' := 78) (k3 := 0) (k4 := 0) hM rfl rfl hr9 ⟨rfl, (by decide)⟩ rfl rfl (c_tf6 _ tr ri n kk hn hkk wa ki ba he hr0 hr1 hr2 hr3 hr4 hr9 hpos c) (fun r75 w75 q75 => ?_)
  obtain ⟨z, rfl⟩ := p_post_int q75
  show am_Go 26 (78, [.ref 5, .int 6, .int c], [.int z], w75, 0, 0) _
  refine ar_ireturn hM rfl (Or.inl rfl) ?_
  exact q75
set_option maxRecDepth 100000 in
set_option maxHeartbeats 4000000 in
theorem c_take7 (w : am_W) (tr ri : Int32) (n kk : Nat) (hn : n ≤ 6) (hkk : kk ≤ 5) (wa ki ba he : Nat → Int32) (hr0 : w[6]? = some (.inr (9, [.int tr, .int ri, .int (nI n), .int (nI kk), .ref 7, .ref 8, .ref 9, .ref 10]))) (hr1 : w[7]? = some (.inl (0, 6, .inl wa))) (hr2 : w[8]? = some (.inl (0, 6, .inl ki))) (hr3 : w[9]? = some (.inl (0, 6, .inl ba))) (hr4 : w[10]? = some (.inl (0, 5, .inl he))) (hr9 : w[5]? = some (.inr (3, [.ref 6]))) (hpos : 0 < kk) (c : Int32) : am_Go 26 (0, [.ref 5, .int 7, .int c], [], w, 0, 0) (fun res w' => p_post w 7 (tr, ri, n, kk, wa, ki, ba, he) c res w') := by
  have hM : am_P[26]? = some zm_X3_take := rfl
  refine ar_iload_n (pc' := 1) hM rfl rfl rfl ?_
  refine ar_tableIn (off := 100) (t := 101) hM rfl (by decide) (by decide) (by decide) ?_
  refine ar_aload_n (pc' := 102) hM rfl rfl rfl ?_
  refine ar_iload_n (pc' := 103) hM rfl rfl rfl ?_
  refine ar_iload_n (pc' := 104) hM rfl rfl rfl ?_
  refine ar_bipush (x := 48) (pc' := 106) hM rfl (by decide) rfl ?_
  refine ar_isub (pc' := 107) hM rfl rfl ?_
  refine ar_iconst (x := 3) (pc' := 108) hM rfl (by decide) rfl ?_
  refine ar_virtual (pc' := 111) (k3 := 0) (k4 := 0) hM rfl rfl hr9 ⟨rfl, (by decide)⟩ rfl rfl (c_tf7 _ tr ri n kk hn hkk wa ki ba he hr0 hr1 hr2 hr3 hr4 hr9 hpos c) (fun r108 w108 q108 => ?_)
  obtain ⟨z, rfl⟩ := p_post_int q108
  show am_Go 26 (111, [.ref 5, .int 7, .int c], [.int z], w108, 0, 0) _
  refine ar_ireturn hM rfl (Or.inl rfl) ?_
  exact q108
theorem c_take (w : am_W) (st : Nat) (D : p_D) (hok : p_ok st D) (his : p_is w D) (hr9 : w[5]? = some (.inr (3, [.ref 6]))) (c : Int32) : am_Go 26 (0, [.ref 5, .int (nI st), .int c], [], w, 0, 0) (fun res w' => p_post w st D c res w') := by
  obtain ⟨tr, ri, n, kk, wa, ki, ba, he⟩ := D
  obtain ⟨hr0, hr1, hr2, hr3, hr4⟩ := his
  obtain ⟨h7, hn, hkk, hp1, hp2, -⟩ := hok
  match st, h7, hp1, hp2 with
  | 0, _, _, _ => exact c_take0 w tr ri n kk hn hkk wa ki ba he hr0 hr1 hr2 hr3 hr4 hr9 c
  | 1, _, _, _ => exact c_take1 w tr ri n kk hn hkk wa ki ba he hr0 hr1 hr2 hr3 hr4 hr9 c
  | 2, _, _, _ => exact c_take2 w tr ri n kk hn hkk wa ki ba he hr0 hr1 hr2 hr3 hr4 hr9 c
  | 3, _, _, _ => exact c_take3 w tr ri n kk hn hkk wa ki ba he hr0 hr1 hr2 hr3 hr4 hr9 c
  | 4, _, hp1, _ => exact c_take4 w tr ri n kk hn hkk wa ki ba he hr0 hr1 hr2 hr3 hr4 hr9 (hp1 (Or.inl rfl)) c
  | 5, _, hp1, _ => exact c_take5 w tr ri n kk hn hkk wa ki ba he hr0 hr1 hr2 hr3 hr4 hr9 (hp1 (Or.inr (Or.inl rfl))) c
  | 6, _, hp1, _ => exact c_take6 w tr ri n kk hn hkk wa ki ba he hr0 hr1 hr2 hr3 hr4 hr9 (hp1 (Or.inr (Or.inr rfl))) c
  | 7, _, _, hp2 => exact c_take7 w tr ri n kk hn hkk wa ki ba he hr0 hr1 hr2 hr3 hr4 hr9 (hp2 rfl) c
  | k + 8, h7, _, _ => omega
theorem p_step_ok {st : Nat} {D : p_D} {c : Int32} {q : Nat × p_D} (hok : p_ok st D) (h : p_step st D c = some q) : p_ok q.1 q.2 := by
  obtain ⟨tr, ri, n, kk, wa, ki, ba, he⟩ := D
  obtain ⟨h7, hn, hkk, hp1, hp2, hb⟩ := hok
  simp only at hn hkk hp1 hp2 hb
  match st, h7, hp1, hp2, h with
  | 0, _, _, _, h => simp only [p_step] at h; split at h <;> cases h; refine ⟨?_, hn, hkk, ?_, ?_, hb⟩ <;> simp
  | 1, _, _, _, h => simp only [p_step] at h; split at h <;> cases h; refine ⟨?_, hn, hkk, ?_, ?_, hb⟩ <;> simp
  | 2, _, _, _, h => simp only [p_step] at h; split at h <;> cases h; refine ⟨by simp, hn, hkk, by simp, by simp, ?_⟩; exact am_b01
  | 3, _, _, _, h =>
    simp only [p_step] at h
    split at h
    · next q => cases h; refine ⟨by simp, ?_, hkk, ?_, ?_, hb⟩ <;> simp <;> omega
    · split at h
      · next q => cases h; refine ⟨by simp, hn, ?_, ?_, ?_, hb⟩ <;> simp <;> omega
      · cases h
  | 4, _, hp1, _, h => simp only [p_step] at h; split at h <;> cases h; refine ⟨by simp, hn, hkk, fun _ => hp1 (Or.inl rfl), by simp, hb⟩
  | 5, _, hp1, _, h => simp only [p_step] at h; split at h <;> cases h; refine ⟨by simp, hn, hkk, fun _ => hp1 (Or.inr (Or.inl rfl)), by simp, hb⟩
  | 6, _, _, _, h => simp only [p_step] at h; split at h <;> cases h; refine ⟨?_, hn, hkk, ?_, ?_, hb⟩ <;> simp
  | 7, _, _, _, h => simp only [p_step] at h; split at h <;> cases h; refine ⟨?_, hn, hkk, ?_, ?_, hb⟩ <;> simp
  | k + 8, h7, _, _, _ => omega
def p_run (tx : Nat → Int32) (D0 : p_D) : Nat → Option (Nat × p_D)
  | 0 => some (0, D0)
  | i + 1 => match p_run tx D0 i with
    | none => none
    | some q => p_step q.1 q.2 (tx i)
theorem p_run_s {tx : Nat → Int32} {D0 : p_D} {i : Nat} {q : Nat × p_D} (h : p_run tx D0 i = some q) : p_run tx D0 (i + 1) = p_step q.1 q.2 (tx i) := by show (match p_run tx D0 i with | none => none | some q => p_step q.1 q.2 (tx i)) = _; rw [h]
def p_read (tx : Nat → Int32) (D0 : p_D) (tl : Nat) (res : Option Value) (w' : am_W) : Prop := (∃ st D, p_run tx D0 tl = some (st, D) ∧ res = some (.int (if st = 3 then -9 else nI tl)) ∧ p_is w' D ∧ p_ok st D) ∨ (∃ f st D, f < tl ∧ p_run tx D0 f = some (st, D) ∧ p_run tx D0 (f + 1) = none ∧ res = some (.int (nI f)) ∧ p_is w' D ∧ p_ok st D)
theorem i_nm9 : ∀ st, st ≤ 7 → ¬ nI st = -9 := by decide
theorem i_nI3 {st : Nat} (h : st ≤ 7) (e : nI st = 3) : st = 3 := (nI_eq (b := 3) (by omega) (by omega)).mp e
set_option maxRecDepth 100000 in
set_option maxHeartbeats 4000000 in
theorem c_read (w : am_W) (tr ri : Int32) (n kk : Nat) (hn : n ≤ 6) (hkk : kk ≤ 5) (wa ki ba he : Nat → Int32) (hr0 : w[6]? = some (.inr (9, [.int tr, .int ri, .int (nI n), .int (nI kk), .ref 7, .ref 8, .ref 9, .ref 10]))) (hr1 : w[7]? = some (.inl (0, 6, .inl wa))) (hr2 : w[8]? = some (.inl (0, 6, .inl ki))) (hr3 : w[9]? = some (.inl (0, 6, .inl ba))) (hr4 : w[10]? = some (.inl (0, 5, .inl he))) (hr9 : w[5]? = some (.inr (3, [.ref 6]))) (tl : Nat) (htl : tl ≤ 40) (tx : Nat → Int32) (hx0 : w[3]? = some (.inr (7, [.ref 4, .int (nI tl)]))) (hx1 : w[4]? = some (.inl (0, 40, .inl tx))) : am_Go 25 (0, [.ref 5, .ref 3, .float 0, .float 0], [], w, 0, 0) (fun res w' => p_read tx (0, 0, 0, 0, wa, ki, ba, he) tl res w' ∧ am_same p_X w w') := by
  have hM : am_P[25]? = some zm_X3_read := rfl
  refine ar_aload_n (pc' := 1) hM rfl rfl rfl ?_
  refine ar_getfield (pc' := 4) hM rfl hr9 rfl rfl ?_
  refine ar_virtual (pc' := 7) (k3 := 0) (k4 := 0) hM rfl rfl hr0 ⟨rfl, (by decide)⟩ rfl rfl (c_dclear _ 6 (by decide) _ _ _ _ _ _ _ _ hr0 hr1 hr2 hr3 hr4) (fun r4 w4 q4 => ?_)
  obtain ⟨rfl, q4w⟩ := q4
  rw [q4w]
  show am_Go 25 (7, [.ref 5, .ref 3, .float 0, .float 0], [], (w.set 6 (.inr (9, [.int 0, .int 0, .int 0, .int 0, .ref 7, .ref 8, .ref 9, .ref 10]))), 0, 0) _
  refine ar_iconst (x := 0) (pc' := 8) hM rfl (by decide) rfl ?_
  refine ar_istore_n (pc' := 9) hM rfl rfl rfl rfl ?_
  refine ar_iconst (x := 0) (pc' := 10) hM rfl (by decide) rfl ?_
  refine ar_istore_n (pc' := 11) hM rfl rfl rfl rfl ?_
  have loop : ∀ (dj j : Nat) (st : Nat) (D : p_D) (wj : am_W), dj + j = tl → (p_run tx (0, 0, 0, 0, wa, ki, ba, he) j = some (st, D)) → (p_is wj D) → (p_ok st D) → (am_same p_X w wj) → am_Go 25 (11, [.ref 5, .ref 3, .int (nI st), .int (nI j)], [], wj, 0, 0) (fun res w' => p_read tx (0, 0, 0, 0, wa, ki, ba, he) tl res w' ∧ am_same p_X w w') := by
    intro dj
    induction dj with
    | zero =>
      intro j st D wj hj hrun his hok hsm
      refine ar_iload_n (pc' := 12) hM rfl rfl rfl ?_
      refine ar_aload_n (pc' := 13) hM rfl rfl rfl ?_
      refine ar_getfield (pc' := 16) hM rfl (hsm.at (by unfold p_X; omega) hx0) rfl rfl ?_
      refine ar_icmp_ge (pc' := 19) hM rfl rfl (fun _ => ?_) (fun q => absurd (nI_le (a := tl) (b := j) (by omega) (by omega)) q)
      refine ar_iload_n (pc' := 46) hM rfl rfl rfl ?_
      refine ar_iconst (x := 3) (pc' := 47) hM rfl (by decide) rfl ?_
      refine ar_icmp_ne (pc' := 50) hM rfl rfl (fun c47 => ?_) (fun c47 => ?_)
      · refine ar_aload_n (pc' := 56) hM rfl rfl rfl ?_
        refine ar_getfield (pc' := 59) hM rfl (hsm.at (by unfold p_X; omega) hx0) rfl rfl ?_
        refine ar_ireturn hM rfl (Or.inl rfl) ?_
        exact ⟨Or.inl ⟨st, D, (by rw [show j = tl by omega] at hrun; exact hrun), (by rw [if_neg (fun h3 => c47 (by rw [h3]; rfl))]), his, hok⟩, hsm⟩
      · refine ar_bipush (x := (-9)) (pc' := 52) hM rfl (by decide) rfl ?_
        refine ar_goto hM rfl ?_
        refine ar_ireturn hM rfl (Or.inl rfl) ?_
        exact ⟨Or.inl ⟨st, D, (by rw [show j = tl by omega] at hrun; exact hrun), (by have h3 : st = 3 := i_nI3 hok.1 c47; rw [if_pos h3]), his, hok⟩, hsm⟩
    | succ dj ih =>
      intro j st D wj hj hrun his hok hsm
      refine ar_iload_n (pc' := 12) hM rfl rfl rfl ?_
      refine ar_aload_n (pc' := 13) hM rfl rfl rfl ?_
      refine ar_getfield (pc' := 16) hM rfl (hsm.at (by unfold p_X; omega) hx0) rfl rfl ?_
      refine ar_icmp_ge (pc' := 19) hM rfl rfl (fun q => absurd q (nI_ge (a := j) (b := tl) (by omega) (by omega))) (fun _ => ?_)
      refine ar_aload_n (pc' := 20) hM rfl rfl rfl ?_
      refine ar_iload_n (pc' := 21) hM rfl rfl rfl ?_
      refine ar_aload_n (pc' := 22) hM rfl rfl rfl ?_
      refine ar_getfield (pc' := 25) hM rfl (hsm.at (by unfold p_X; omega) hx0) rfl rfl ?_
      refine ar_iload_n (pc' := 26) hM rfl rfl rfl ?_
      refine ar_ialoadN (j := j) (pc' := 27) hM rfl (hsm.at (by unfold p_X; omega) hx1) rfl (by omega) (Nat.le_of_ble_eq_true rfl) rfl ?_
      refine ar_virtual (pc' := 30) (k3 := 0) (k4 := 0) hM rfl rfl (hsm.at (by unfold p_X; omega) hr9) ⟨rfl, (by decide)⟩ rfl rfl (c_take _ st D hok his (hsm.at (by unfold p_X; omega) hr9) _) (fun r27 w27 q27 => ?_)
      obtain ⟨z, rfl⟩ := p_post_int q27
      show am_Go 25 (30, [.ref 5, .ref 3, .int (nI st), .int (nI j)], [.int z], w27, 0, 0) _
      refine ar_istore_n (pc' := 31) hM rfl rfl rfl rfl ?_
      refine ar_iload_n (pc' := 32) hM rfl rfl rfl ?_
      refine ar_bipush (x := (-9)) (pc' := 34) hM rfl (by decide) rfl ?_
      unfold p_post at q27
      split at q27
      · next qq hq =>
          obtain ⟨hz, his2, q27s⟩ := q27
          cases hz
          have hok2 := p_step_ok hok hq
          refine ar_icmp_ne (pc' := 37) hM rfl rfl (fun _ => ?_) (fun q => absurd q (i_nm9 _ hok2.1))
          refine ar_iinc (z := nI (j + 1)) (pc' := 42) hM rfl rfl (nI_1 _) rfl rfl rfl ?_
          refine ar_goto hM rfl ?_
          exact ih (j + 1) qq.1 qq.2 w27 (by omega) (by rw [p_run_s hrun]; exact hq) his2 hok2 (hsm.tr q27s)
      · next hq =>
          obtain ⟨hz, hw9⟩ := q27
          cases hz
          refine ar_icmp_ne (pc' := 37) hM rfl rfl (fun q => absurd rfl q) (fun _ => ?_)
          refine ar_iload_n (pc' := 38) hM rfl rfl rfl ?_
          refine ar_ireturn hM rfl (Or.inl rfl) ?_
          exact ⟨Or.inr ⟨j, st, D, by omega, hrun, by rw [p_run_s hrun]; exact hq, rfl, by rw [hw9]; exact his, hok⟩, by rw [hw9]; exact hsm⟩
  exact loop (tl) 0 0 (0, 0, 0, 0, wa, ki, ba, he) (w.set 6 (.inr (9, [.int 0, .int 0, .int 0, .int 0, .ref 7, .ref 8, .ref 9, .ref 10]))) (by omega) rfl ⟨am_gs hr0, am_gn (by decide) hr1, am_gn (by decide) hr2, am_gn (by decide) hr3, am_gn (by decide) hr4⟩ ⟨Nat.zero_le _, Nat.zero_le _, Nat.zero_le _, by simp, by simp, Or.inl rfl⟩ (am_same.set am_same.rf (by unfold p_X; omega))
end
section
/-! the class's parts as numbers: THE ROW as told (p_D), a standing (s_S): places to houses, houses to places, what is in the barrels, what was lacked, who is salted, away, the day -/
abbrev s_S : Type := (Nat → Nat) × (Nat → Nat) × (Nat → Int32) × (Nat → Int32) × Int32 × Int32 × Nat
def v_S (n : Nat) (S : s_S) : Prop := (∀ p, p < n → S.1 p < n ∧ S.2.1 (S.1 p) = p) ∧ (∀ h, h < n → S.2.1 h < n ∧ S.1 (S.2.1 h) = h) ∧ (∀ p, n ≤ p → p < 6 → S.1 p = p) ∧ S.2.2.2.2.2.2 < 2 ^ 30
def v_T (T : p_D) : Prop := T.2.2.1 ≤ 6 ∧ T.2.2.2.1 ≤ 5 ∧ (T.2.1 = 0 ∨ T.2.1 = 1)
/-- a standing lies at a -/
def c_S (w : am_W) (a n : Nat) (S : s_S) : Prop := ∃ so ss sl : Nat → Int32, w[a]? = some (.inr (6, [.ref (a + 1), .ref (a + 2), .ref (a + 3), .int S.2.2.2.2.1, .int S.2.2.2.2.2.1, .int (nI S.2.2.2.2.2.2)])) ∧ w[a + 1]? = some (.inl (0, 6, .inl so)) ∧ w[a + 2]? = some (.inl (0, 6, .inl ss)) ∧ w[a + 3]? = some (.inl (0, 6, .inl sl)) ∧ (∀ p, p < 6 → so p = nI (S.1 p)) ∧ (∀ h, h < n → ss h = S.2.2.1 h) ∧ (∀ h, h < n → sl h = S.2.2.2.1 h)
/-- the row as told lies at d -/
def c_T (w : am_W) (d : Nat) (T : p_D) : Prop := ∃ wa ki ba he : Nat → Int32, w[d]? = some (.inr (9, [.int T.1, .int T.2.1, .int (nI T.2.2.1), .int (nI T.2.2.2.1), .ref (d + 1), .ref (d + 2), .ref (d + 3), .ref (d + 4)])) ∧ w[d + 1]? = some (.inl (0, 6, .inl wa)) ∧ w[d + 2]? = some (.inl (0, 6, .inl ki)) ∧ w[d + 3]? = some (.inl (0, 6, .inl ba)) ∧ w[d + 4]? = some (.inl (0, 5, .inl he)) ∧ (∀ h, h < T.2.2.1 → wa h = T.2.2.2.2.1 h ∧ ki h = T.2.2.2.2.2.1 h ∧ ba h = T.2.2.2.2.2.2.1 h) ∧ (∀ i, i < T.2.2.2.1 → he i = T.2.2.2.2.2.2.2 i)
/-- a Today lies at t -/
def c_D (w : am_W) (t : Nat) : Prop := ∃ dw ds dg dd dl df dv : Nat → Int32, w[t]? = some (.inr (8, [.ref (t + 1), .ref (t + 2), .ref (t + 3), .ref (t + 4), .ref (t + 5), .ref (t + 6), .ref (t + 7)])) ∧ w[t + 1]? = some (.inl (0, 6, .inl dw)) ∧ w[t + 2]? = some (.inl (0, 6, .inl ds)) ∧ w[t + 3]? = some (.inl (0, 6, .inl dg)) ∧ w[t + 4]? = some (.inl (0, 6, .inl dd)) ∧ w[t + 5]? = some (.inl (0, 6, .inl dl)) ∧ w[t + 6]? = some (.inl (0, 6, .inl df)) ∧ w[t + 7]? = some (.inl (0, 6, .inl dv))
/-- .. and holds a look: by houses -/
def c_L (w : am_W) (t n : Nat) (ps : Nat → Nat) (ri tr : Int32) (od : Nat → Nat) (sb ba wt sy : Nat → Int32) : Prop := ∃ dw ds dg dd dl df dv : Nat → Int32, (w[t]? = some (.inr (8, [.ref (t + 1), .ref (t + 2), .ref (t + 3), .ref (t + 4), .ref (t + 5), .ref (t + 6), .ref (t + 7)])) ∧ w[t + 1]? = some (.inl (0, 6, .inl dw)) ∧ w[t + 2]? = some (.inl (0, 6, .inl ds)) ∧ w[t + 3]? = some (.inl (0, 6, .inl dg)) ∧ w[t + 4]? = some (.inl (0, 6, .inl dd)) ∧ w[t + 5]? = some (.inl (0, 6, .inl dl)) ∧ w[t + 6]? = some (.inl (0, 6, .inl df)) ∧ w[t + 7]? = some (.inl (0, 6, .inl dv))) ∧ ∀ h, h < n → dw h = wt h ∧ ds h = sy h ∧ dg h = i_gv ri tr n sy od (ps h) ∧ dd h = i_dr (wt h) (i_gv ri tr n sy od (ps h)) (sb h) ∧ dl h = i_lk (wt h) (i_gv ri tr n sy od (ps h)) (sb h) ∧ df h = i_lf (wt h) (i_gv ri tr n sy od (ps h)) (sb h) (ba h) ∧ dv h = i_sp (wt h) (i_gv ri tr n sy od (ps h)) (sb h) (ba h)
theorem c_L.d {w : am_W} {t n : Nat} {ps : Nat → Nat} {ri tr : Int32} {od : Nat → Nat} {sb ba wt sy : Nat → Int32} (h : c_L w t n ps ri tr od sb ba wt sy) : c_D w t := by
  obtain ⟨dw, ds, dg, dd, dl, df, dv, h, -⟩ := h
  exact ⟨dw, ds, dg, dd, dl, df, dv, h⟩
def rg (a k : Nat) : Nat → Prop := fun b => a ≤ b ∧ b < a + k
theorem c_S.same {w w' : am_W} {a n : Nat} {S : s_S} {X : Nat → Prop} (h : c_S w a n S) (hs : am_same X w w') (hx : ∀ b, a ≤ b → b < a + 4 → ¬ X b) : c_S w' a n S := by
  obtain ⟨so, ss, sl, h0, h1, h2, h3, h4⟩ := h
  exact ⟨so, ss, sl, hs.at (hx _ (by omega) (by omega)) h0, hs.at (hx _ (by omega) (by omega)) h1, hs.at (hx _ (by omega) (by omega)) h2, hs.at (hx _ (by omega) (by omega)) h3, h4⟩
theorem c_T.same {w w' : am_W} {d : Nat} {T : p_D} {X : Nat → Prop} (h : c_T w d T) (hs : am_same X w w') (hx : ∀ b, d ≤ b → b < d + 5 → ¬ X b) : c_T w' d T := by
  obtain ⟨wa, ki, ba, he, h0, h1, h2, h3, h4, h5⟩ := h
  exact ⟨wa, ki, ba, he, hs.at (hx _ (by omega) (by omega)) h0, hs.at (hx _ (by omega) (by omega)) h1, hs.at (hx _ (by omega) (by omega)) h2, hs.at (hx _ (by omega) (by omega)) h3, hs.at (hx _ (by omega) (by omega)) h4, h5⟩
theorem c_D.same {w w' : am_W} {t : Nat} {X : Nat → Prop} (h : c_D w t) (hs : am_same X w w') (hx : ∀ b, t ≤ b → b < t + 8 → ¬ X b) : c_D w' t := by
  obtain ⟨dw, ds, dg, dd, dl, df, dv, h0, h1, h2, h3, h4, h5, h6, h7⟩ := h
  exact ⟨dw, ds, dg, dd, dl, df, dv, hs.at (hx _ (by omega) (by omega)) h0, hs.at (hx _ (by omega) (by omega)) h1, hs.at (hx _ (by omega) (by omega)) h2, hs.at (hx _ (by omega) (by omega)) h3, hs.at (hx _ (by omega) (by omega)) h4, hs.at (hx _ (by omega) (by omega)) h5, hs.at (hx _ (by omega) (by omega)) h6, hs.at (hx _ (by omega) (by omega)) h7⟩
theorem c_L.same {w w' : am_W} {t n : Nat} {ps : Nat → Nat} {ri tr : Int32} {od : Nat → Nat} {sb ba wt sy : Nat → Int32} {X : Nat → Prop} (h : c_L w t n ps ri tr od sb ba wt sy) (hs : am_same X w w') (hx : ∀ b, t ≤ b → b < t + 8 → ¬ X b) : c_L w' t n ps ri tr od sb ba wt sy := by
  obtain ⟨dw, ds, dg, dd, dl, df, dv, ⟨h0, h1, h2, h3, h4, h5, h6, h7⟩, h8⟩ := h
  exact ⟨dw, ds, dg, dd, dl, df, dv, ⟨hs.at (hx _ (by omega) (by omega)) h0, hs.at (hx _ (by omega) (by omega)) h1, hs.at (hx _ (by omega) (by omega)) h2, hs.at (hx _ (by omega) (by omega)) h3, hs.at (hx _ (by omega) (by omega)) h4, hs.at (hx _ (by omega) (by omega)) h5, hs.at (hx _ (by omega) (by omega)) h6, hs.at (hx _ (by omega) (by omega)) h7⟩, h8⟩
/-- what a house wants, says, of T and S -/
def m_wt (T : p_D) (S : s_S) (g : Int32) : Nat → Int32 := i_wnt T.2.2.2.2.1 T.2.2.2.2.2.1 (i_heat T.2.2.2.1 T.2.2.2.2.2.2.2 S.2.2.2.2.2.2) S.2.2.2.2.1 S.2.2.2.2.2.1 g
def m_sy (T : p_D) (S : s_S) (g : Int32) : Nat → Int32 := i_say T.2.2.2.2.1 T.2.2.2.2.2.1 (i_heat T.2.2.2.1 T.2.2.2.2.2.2.2 S.2.2.2.2.2.2) S.2.2.2.2.1 S.2.2.2.2.2.1 g
def m_gv (T : p_D) (S : s_S) (g : Int32) (h : Nat) : Int32 := i_gv T.2.1 T.1 T.2.2.1 (m_sy T S g) S.1 (S.2.1 h)
def m_dr (T : p_D) (S : s_S) (g : Int32) (h : Nat) : Int32 := i_dr (m_wt T S g h) (m_gv T S g h) (S.2.2.1 h)
def m_lk (T : p_D) (S : s_S) (g : Int32) (h : Nat) : Int32 := i_lk (m_wt T S g h) (m_gv T S g h) (S.2.2.1 h)
def m_lf (T : p_D) (S : s_S) (g : Int32) (h : Nat) : Int32 := i_lf (m_wt T S g h) (m_gv T S g h) (S.2.2.1 h) (T.2.2.2.2.2.2.1 h)
def m_sp (T : p_D) (S : s_S) (g : Int32) (h : Nat) : Int32 := i_sp (m_wt T S g h) (m_gv T S g h) (S.2.2.1 h) (T.2.2.2.2.2.2.1 h)
/-- the look of T and S at t -/
def c_LS (w : am_W) (t : Nat) (T : p_D) (S : s_S) (g : Int32) : Prop := ∃ dw ds dg dd dl df dv : Nat → Int32, (w[t]? = some (.inr (8, [.ref (t + 1), .ref (t + 2), .ref (t + 3), .ref (t + 4), .ref (t + 5), .ref (t + 6), .ref (t + 7)])) ∧ w[t + 1]? = some (.inl (0, 6, .inl dw)) ∧ w[t + 2]? = some (.inl (0, 6, .inl ds)) ∧ w[t + 3]? = some (.inl (0, 6, .inl dg)) ∧ w[t + 4]? = some (.inl (0, 6, .inl dd)) ∧ w[t + 5]? = some (.inl (0, 6, .inl dl)) ∧ w[t + 6]? = some (.inl (0, 6, .inl df)) ∧ w[t + 7]? = some (.inl (0, 6, .inl dv))) ∧ ∀ h, h < T.2.2.1 → dw h = m_wt T S g h ∧ ds h = m_sy T S g h ∧ dg h = m_gv T S g h ∧ dd h = m_dr T S g h ∧ dl h = m_lk T S g h ∧ df h = m_lf T S g h ∧ dv h = m_sp T S g h
/-- a day goes by -/
def m_pass (T : p_D) (S : s_S) : s_S := (S.1, S.2.1, m_lf T S 0, (fun h => S.2.2.2.1 h + m_lk T S 0 h), 0, S.2.2.2.2.2.1, S.2.2.2.2.2.2 + 1)
def m_salt (S : s_S) (h : Int32) : s_S := (S.1, S.2.1, S.2.2.1, S.2.2.2.1, S.2.2.2.2.1 ||| (1 <<< (h &&& 31)), S.2.2.2.2.2)
def m_away (S : s_S) (h : Int32) : s_S := (S.1, S.2.1, S.2.2.1, S.2.2.2.1, S.2.2.2.2.1, S.2.2.2.2.2.1 ^^^ (1 <<< (h &&& 31)), S.2.2.2.2.2.2)
def m_swapf (f : Nat → Nat) (a b : Nat) : Nat → Nat := fun p => if f p = a then b else if f p = b then a else f p
def m_swap (S : s_S) (a b : Nat) : s_S := (m_swapf S.1 a b, (fun h => S.2.1 (if h = a then b else if h = b then a else h)), S.2.2)

theorem i_wnt_congr {wa ki wa' ki' : Nat → Int32} {ht sa aw g : Int32} {h : Nat} (h1 : wa h = wa' h) (h2 : ki h = ki' h) : i_wnt wa ki ht sa aw g h = i_wnt wa' ki' ht sa aw g h := by unfold i_wnt; rw [h1, h2]
theorem i_say_congr {wa ki wa' ki' : Nat → Int32} {ht sa aw g : Int32} {h : Nat} (h1 : wa h = wa' h) (h2 : ki h = ki' h) : i_say wa ki ht sa aw g h = i_say wa' ki' ht sa aw g h := by unfold i_say; rw [i_wnt_congr h1 h2, h2]
theorem i_heat_congr {kk : Nat} {he he' : Nat → Int32} {d : Nat} (h : ∀ i, i < kk → he i = he' i) : i_heat kk he d = i_heat kk he' d := by
  unfold i_heat
  by_cases q : kk = 0
  · rw [if_pos q, if_pos q]
  · rw [if_neg q, if_neg q, h _ (Nat.mod_lt _ (by omega))]
theorem v_S.od {n : Nat} {S : s_S} (h : v_S n S) (hn : n ≤ 6) {so : Nat → Int32} (ho : ∀ p, p < 6 → so p = nI (S.1 p)) : ∀ p, p < n → so p = nI (S.1 p) ∧ S.1 p < n := fun p hp => ⟨ho p (by omega), (h.1 p hp).1⟩
theorem v_S.inj {n : Nat} {S : s_S} (h : v_S n S) : ∀ p q, p < n → q < n → S.1 p = S.1 q → p = q := fun p q hp hq e => by rw [← (h.1 p hp).2, ← (h.1 q hq).2, e]
set_option maxHeartbeats 4000000 in
theorem c_L_of {w : am_W} {t : Nat} {T : p_D} {S : s_S} {g : Int32} {wa ki ba he ss fw fs a3 a4 a5 a6 a7 : Nat → Int32} (hv : v_S T.2.2.1 S) (hw : ∀ h, h < T.2.2.1 → wa h = T.2.2.2.2.1 h ∧ ki h = T.2.2.2.2.2.1 h ∧ ba h = T.2.2.2.2.2.2.1 h) (hh : ∀ i, i < T.2.2.2.1 → he i = T.2.2.2.2.2.2.2 i) (hs : ∀ h, h < T.2.2.1 → ss h = S.2.2.1 h)
    (l : w[t]? = some (.inr (8, [.ref (t + 1), .ref (t + 2), .ref (t + 3), .ref (t + 4), .ref (t + 5), .ref (t + 6), .ref (t + 7)])) ∧ w[t + 1]? = some (.inl (0, 6, .inl fw)) ∧ w[t + 2]? = some (.inl (0, 6, .inl fs)) ∧ w[t + 3]? = some (.inl (0, 6, .inl a3)) ∧ w[t + 4]? = some (.inl (0, 6, .inl a4)) ∧ w[t + 5]? = some (.inl (0, 6, .inl a5)) ∧ w[t + 6]? = some (.inl (0, 6, .inl a6)) ∧ w[t + 7]? = some (.inl (0, 6, .inl a7)))
    (h1 : ∀ h, h < T.2.2.1 → fw h = i_wnt wa ki (i_heat T.2.2.2.1 he S.2.2.2.2.2.2) S.2.2.2.2.1 S.2.2.2.2.2.1 g h) (h2 : ∀ h, h < T.2.2.1 → fs h = i_say wa ki (i_heat T.2.2.2.1 he S.2.2.2.2.2.2) S.2.2.2.2.1 S.2.2.2.2.2.1 g h)
    (h3 : i_lkp T.2.2.1 S.1 T.2.1 T.1 ss ba (i_wnt wa ki (i_heat T.2.2.2.1 he S.2.2.2.2.2.2) S.2.2.2.2.1 S.2.2.2.2.2.1 g) (i_say wa ki (i_heat T.2.2.2.1 he S.2.2.2.2.2.2) S.2.2.2.2.1 S.2.2.2.2.2.1 g) a3 a4 a5 a6 a7) : c_LS w t T S g := by
  refine ⟨fw, fs, a3, a4, a5, a6, a7, l, fun h hh0 => ?_⟩
  have eh := i_heat_congr (d := S.2.2.2.2.2.2) hh
  have ew : ∀ k, k < T.2.2.1 → i_wnt wa ki (i_heat T.2.2.2.1 he S.2.2.2.2.2.2) S.2.2.2.2.1 S.2.2.2.2.2.1 g k = m_wt T S g k := fun k hk => by unfold m_wt; rw [eh]; exact i_wnt_congr (hw k hk).1 (hw k hk).2.1
  have es : ∀ k, k < T.2.2.1 → i_say wa ki (i_heat T.2.2.2.1 he S.2.2.2.2.2.2) S.2.2.2.2.1 S.2.2.2.2.2.1 g k = m_sy T S g k := fun k hk => by unfold m_sy; rw [eh]; exact i_say_congr (hw k hk).1 (hw k hk).2.1
  obtain ⟨p1, p2⟩ := hv.2.1 h hh0
  obtain ⟨q3, q4, q5, q6, q7⟩ := h3 (S.2.1 h) p1
  have eg : i_gv T.2.1 T.1 T.2.2.1 (i_say wa ki (i_heat T.2.2.2.1 he S.2.2.2.2.2.2) S.2.2.2.2.1 S.2.2.2.2.2.1 g) S.1 (S.2.1 h) = m_gv T S g h := i_gv_congr es (fun p hp => (hv.1 p hp).1) p1
  rw [p2] at q3 q4 q5 q6 q7
  rw [eg] at q3 q4 q5 q6 q7
  rw [ew h hh0] at q4 q5 q6 q7
  rw [hs h hh0] at q4 q5 q6 q7
  rw [(hw h hh0).2.2] at q6 q7
  exact ⟨(h1 h hh0).trans (ew h hh0), (h2 h hh0).trans (es h hh0), q3, q4, q5, q6, q7⟩
set_option maxHeartbeats 4000000 in
theorem k_lookAt (w : am_W) (t d s : Nat) (T : p_D) (S : s_S) (hvT : v_T T) (hvS : v_S T.2.2.1 S) (hT : c_T w d T) (hS : c_S w s T.2.2.1 S) (hD : c_D w t) (h2t : 2 ≤ t) (h2d : 2 ≤ d) (h2s : 2 ≤ s) (j1 : t + 8 ≤ d ∨ d + 5 ≤ t) (j2 : t + 8 ≤ s ∨ s + 4 ≤ t) (j3 : d + 5 ≤ s ∨ s + 4 ≤ d) : am_Go 54 (0, [.ref t, .ref d, .ref s], [], w, 0, 0) (fun res w' => res = none ∧ c_LS w' t T S 0 ∧ am_same (rg t 8) w w') := by
  obtain ⟨wa, ki, ba, he, ht0, ht1, ht2, ht3, ht4, hw, hh⟩ := hT
  obtain ⟨so, ss, sl, hs0, hs1, hs2, hs3, ho, hs, hl⟩ := hS
  obtain ⟨dw, ds, dg, dd, dl, df, dv, hd0, hd1, hd2, hd3, hd4, hd5, hd6, hd7⟩ := hD
  refine (c_lookAt w d h2d T.1 T.2.1 T.2.2.1 T.2.2.2.1 wa ki ba he ht0 ht1 ht2 ht3 ht4 hvT.1 hvT.2.1 s h2s so ss sl S.2.2.2.2.1 S.2.2.2.2.2.1 S.2.2.2.2.2.2 (Nat.lt_trans hvS.2.2.2 (by decide)) hs0 hs1 hs2 hs3 t h2t dw ds dg dd dl df dv hd0 hd1 hd2 hd3 hd4 hd5 hd6 hd7 j1 j2 j3 S.1 (hvS.od hvT.1 ho) hvS.inj).mono ?_
  rintro res w' ⟨fw, fs, a3, a4, a5, a6, a7, rfl, rfl, h1, h2, h3⟩
  refine ⟨rfl, c_L_of hvS hw hh hs ?_ h1 h2 h3, ?_⟩
  · exact ⟨am_gn (by omega) (am_gn (by omega) (am_gn (by omega) (am_gn (by omega) (am_gn (by omega) (am_gn (by omega) (am_gn (by omega) hd0)))))), (am_gn (by omega) (am_gn (by omega) (am_gn (by omega) (am_gn (by omega) (am_gn (by omega) (am_gn (by omega) (am_gs hd1))))))), (am_gn (by omega) (am_gn (by omega) (am_gn (by omega) (am_gn (by omega) (am_gn (by omega) (am_gs (am_gn (by omega) hd2))))))), (am_gn (by omega) (am_gn (by omega) (am_gn (by omega) (am_gn (by omega) (am_gs (am_gn (by omega) (am_gn (by omega) hd3))))))), (am_gn (by omega) (am_gn (by omega) (am_gn (by omega) (am_gs (am_gn (by omega) (am_gn (by omega) (am_gn (by omega) hd4))))))), (am_gn (by omega) (am_gn (by omega) (am_gs (am_gn (by omega) (am_gn (by omega) (am_gn (by omega) (am_gn (by omega) hd5))))))), (am_gn (by omega) (am_gs (am_gn (by omega) (am_gn (by omega) (am_gn (by omega) (am_gn (by omega) (am_gn (by omega) hd6))))))), (am_gs (am_gn (by omega) (am_gn (by omega) (am_gn (by omega) (am_gn (by omega) (am_gn (by omega) (am_gn (by omega) hd7)))))))⟩
  · exact (am_same.set (am_same.set (am_same.set (am_same.set (am_same.set (am_same.set (am_same.set am_same.rf (by unfold rg; omega)) (by unfold rg; omega)) (by unfold rg; omega)) (by unfold rg; omega)) (by unfold rg; omega)) (by unfold rg; omega)) (by unfold rg; omega))
set_option maxHeartbeats 4000000 in
theorem k_pass (w : am_W) (t d s : Nat) (T : p_D) (S : s_S) (hvT : v_T T) (hvS : v_S T.2.2.1 S) (hT : c_T w d T) (hS : c_S w s T.2.2.1 S) (hD : c_D w t) (h2t : 2 ≤ t) (h2d : 2 ≤ d) (h2s : 2 ≤ s) (j1 : t + 8 ≤ d ∨ d + 5 ≤ t) (j2 : t + 8 ≤ s ∨ s + 4 ≤ t) (j3 : d + 5 ≤ s ∨ s + 4 ≤ d) : am_Go 58 (0, [.ref t, .ref d, .ref s, .float 0], [], w, 0, 0) (fun res w' => res = none ∧ c_S w' s T.2.2.1 (m_pass T S) ∧ c_LS w' t T S 0 ∧ am_same (fun b => rg t 8 b ∨ rg s 4 b) w w') := by
  obtain ⟨wa, ki, ba, he, ht0, ht1, ht2, ht3, ht4, hw, hh⟩ := hT
  obtain ⟨so, ss, sl, hs0, hs1, hs2, hs3, ho, hs, hl⟩ := hS
  obtain ⟨dw, ds, dg, dd, dl, df, dv, hd0, hd1, hd2, hd3, hd4, hd5, hd6, hd7⟩ := hD
  refine (c_pass w d h2d T.1 T.2.1 T.2.2.1 T.2.2.2.1 wa ki ba he ht0 ht1 ht2 ht3 ht4 hvT.1 hvT.2.1 s h2s so ss sl S.2.2.2.2.1 S.2.2.2.2.2.1 S.2.2.2.2.2.2 (Nat.lt_trans hvS.2.2.2 (by decide)) hs0 hs1 hs2 hs3 t h2t dw ds dg dd dl df dv hd0 hd1 hd2 hd3 hd4 hd5 hd6 hd7 j1 j2 j3 S.1 (hvS.od hvT.1 ho) hvS.inj).mono ?_
  rintro res w' ⟨fw, fs, a3, a4, a5, a6, a7, b2, b3, rfl, rfl, h1, h2, h3, h4, h5⟩
  have hL : c_LS (((((((w.set (t + 1) (.inl (0, 6, .inl fw))).set (t + 2) (.inl (0, 6, .inl fs))).set (t + 3) (.inl (0, 6, .inl a3))).set (t + 4) (.inl (0, 6, .inl a4))).set (t + 5) (.inl (0, 6, .inl a5))).set (t + 6) (.inl (0, 6, .inl a6))).set (t + 7) (.inl (0, 6, .inl a7))) t T S 0 := c_L_of hvS hw hh hs ⟨(am_gn (by omega) (am_gn (by omega) (am_gn (by omega) (am_gn (by omega) (am_gn (by omega) (am_gn (by omega) (am_gn (by omega) hd0))))))), (am_gn (by omega) (am_gn (by omega) (am_gn (by omega) (am_gn (by omega) (am_gn (by omega) (am_gn (by omega) (am_gs hd1))))))), (am_gn (by omega) (am_gn (by omega) (am_gn (by omega) (am_gn (by omega) (am_gn (by omega) (am_gs (am_gn (by omega) hd2))))))), (am_gn (by omega) (am_gn (by omega) (am_gn (by omega) (am_gn (by omega) (am_gs (am_gn (by omega) (am_gn (by omega) hd3))))))), (am_gn (by omega) (am_gn (by omega) (am_gn (by omega) (am_gs (am_gn (by omega) (am_gn (by omega) (am_gn (by omega) hd4))))))), (am_gn (by omega) (am_gn (by omega) (am_gs (am_gn (by omega) (am_gn (by omega) (am_gn (by omega) (am_gn (by omega) hd5))))))), (am_gn (by omega) (am_gs (am_gn (by omega) (am_gn (by omega) (am_gn (by omega) (am_gn (by omega) (am_gn (by omega) hd6))))))), (am_gs (am_gn (by omega) (am_gn (by omega) (am_gn (by omega) (am_gn (by omega) (am_gn (by omega) (am_gn (by omega) hd7)))))))⟩ h1 h2 h3
  have hL2 : c_LS ((((((((((w.set (t + 1) (.inl (0, 6, .inl fw))).set (t + 2) (.inl (0, 6, .inl fs))).set (t + 3) (.inl (0, 6, .inl a3))).set (t + 4) (.inl (0, 6, .inl a4))).set (t + 5) (.inl (0, 6, .inl a5))).set (t + 6) (.inl (0, 6, .inl a6))).set (t + 7) (.inl (0, 6, .inl a7))).set (s + 2) (.inl (0, 6, .inl b2))).set (s + 3) (.inl (0, 6, .inl b3))).set s (.inr (6, [.ref (s + 1), .ref (s + 2), .ref (s + 3), .int 0, .int S.2.2.2.2.2.1, .int (nI (S.2.2.2.2.2.2 + 1))]))) t T S 0 := c_L_of hvS hw hh hs ⟨(am_gn (by omega) (am_gn (by omega) (am_gn (by omega) (am_gn (by omega) (am_gn (by omega) (am_gn (by omega) (am_gn (by omega) (am_gn (by omega) (am_gn (by omega) (am_gn (by omega) hd0)))))))))), (am_gn (by omega) (am_gn (by omega) (am_gn (by omega) (am_gn (by omega) (am_gn (by omega) (am_gn (by omega) (am_gn (by omega) (am_gn (by omega) (am_gn (by omega) (am_gs hd1)))))))))), (am_gn (by omega) (am_gn (by omega) (am_gn (by omega) (am_gn (by omega) (am_gn (by omega) (am_gn (by omega) (am_gn (by omega) (am_gn (by omega) (am_gs (am_gn (by omega) hd2)))))))))), (am_gn (by omega) (am_gn (by omega) (am_gn (by omega) (am_gn (by omega) (am_gn (by omega) (am_gn (by omega) (am_gn (by omega) (am_gs (am_gn (by omega) (am_gn (by omega) hd3)))))))))), (am_gn (by omega) (am_gn (by omega) (am_gn (by omega) (am_gn (by omega) (am_gn (by omega) (am_gn (by omega) (am_gs (am_gn (by omega) (am_gn (by omega) (am_gn (by omega) hd4)))))))))), (am_gn (by omega) (am_gn (by omega) (am_gn (by omega) (am_gn (by omega) (am_gn (by omega) (am_gs (am_gn (by omega) (am_gn (by omega) (am_gn (by omega) (am_gn (by omega) hd5)))))))))), (am_gn (by omega) (am_gn (by omega) (am_gn (by omega) (am_gn (by omega) (am_gs (am_gn (by omega) (am_gn (by omega) (am_gn (by omega) (am_gn (by omega) (am_gn (by omega) hd6)))))))))), (am_gn (by omega) (am_gn (by omega) (am_gn (by omega) (am_gs (am_gn (by omega) (am_gn (by omega) (am_gn (by omega) (am_gn (by omega) (am_gn (by omega) (am_gn (by omega) hd7))))))))))⟩ h1 h2 h3
  obtain ⟨_, _, _, _, _, _, _, ⟨-, -, -, -, -, e5, e6, -⟩, hL3⟩ := hL
  have e5 := e5.symm.trans (am_gn (by omega) (am_gn (by omega) (am_gs (am_gn (by omega) (am_gn (by omega) (am_gn (by omega) (am_gn (by omega) hd5)))))))
  have e6 := e6.symm.trans (am_gn (by omega) (am_gs (am_gn (by omega) (am_gn (by omega) (am_gn (by omega) (am_gn (by omega) (am_gn (by omega) hd6)))))))
  cases e5
  cases e6
  refine ⟨rfl, ⟨so, b2, b3, am_gs (am_gn (by omega) (am_gn (by omega) (am_gn (by omega) (am_gn (by omega) (am_gn (by omega) (am_gn (by omega) (am_gn (by omega) (am_gn (by omega) (am_gn (by omega) hs0))))))))), (am_gn (by omega) (am_gn (by omega) (am_gn (by omega) (am_gn (by omega) (am_gn (by omega) (am_gn (by omega) (am_gn (by omega) (am_gn (by omega) (am_gn (by omega) (am_gn (by omega) hs1)))))))))), (am_gn (by omega) (am_gn (by omega) (am_gs (am_gn (by omega) (am_gn (by omega) (am_gn (by omega) (am_gn (by omega) (am_gn (by omega) (am_gn (by omega) (am_gn (by omega) hs2)))))))))), (am_gn (by omega) (am_gs (am_gn (by omega) (am_gn (by omega) (am_gn (by omega) (am_gn (by omega) (am_gn (by omega) (am_gn (by omega) (am_gn (by omega) (am_gn (by omega) hs3)))))))))), ho, fun h hh0 => ?_, fun h hh0 => ?_⟩, hL2, ?_⟩
  · rw [h4 h hh0]; exact (hL3 h hh0).2.2.2.2.2.1
  · rw [h5 h hh0, hl h hh0, (hL3 h hh0).2.2.2.2.1]; rfl
  · exact (am_same.set (am_same.set (am_same.set (am_same.set (am_same.set (am_same.set (am_same.set (am_same.set (am_same.set (am_same.set am_same.rf (Or.inl (by unfold rg; omega))) (Or.inl (by unfold rg; omega))) (Or.inl (by unfold rg; omega))) (Or.inl (by unfold rg; omega))) (Or.inl (by unfold rg; omega))) (Or.inl (by unfold rg; omega))) (Or.inl (by unfold rg; omega))) (Or.inr (by unfold rg; omega))) (Or.inr (by unfold rg; omega))) (Or.inr (by unfold rg; omega)))
theorem m_pass_v {n : Nat} {T : p_D} {S : s_S} (h : v_S n S) (hd : S.2.2.2.2.2.2 + 1 < 2 ^ 30) : v_S n (m_pass T S) := ⟨h.1, h.2.1, h.2.2.1, hd⟩
theorem m_salt_v {n : Nat} {S : s_S} (h : v_S n S) (x : Int32) : v_S n (m_salt S x) := h
theorem m_away_v {n : Nat} {S : s_S} (h : v_S n S) (x : Int32) : v_S n (m_away S x) := h
theorem m_swap_v {n : Nat} {S : s_S} (hn : n ≤ 6) (h : v_S n S) {a b : Nat} (ha : a < n) (hb : b < n) : v_S n (m_swap S a b) := by
  obtain ⟨h1, h2, h3, h4⟩ := h
  refine ⟨fun p hp => ?_, fun x hx => ?_, fun p hp h6 => ?_, h4⟩
  · obtain ⟨q1, q2⟩ := h1 p hp
    show m_swapf S.1 a b p < n ∧ S.2.1 (if m_swapf S.1 a b p = a then b else if m_swapf S.1 a b p = b then a else m_swapf S.1 a b p) = p
    unfold m_swapf
    by_cases e1 : S.1 p = a
    · rw [if_pos e1]
      refine ⟨hb, ?_⟩
      by_cases e3 : b = a
      · rw [if_pos e3, e3, ← e1]; exact q2
      · rw [if_neg e3, if_pos rfl, ← e1]; exact q2
    · rw [if_neg e1]
      by_cases e2 : S.1 p = b
      · rw [if_pos e2]
        exact ⟨ha, by rw [if_pos rfl, ← e2]; exact q2⟩
      · rw [if_neg e2]
        exact ⟨q1, by rw [if_neg e1, if_neg e2]; exact q2⟩
  · show S.2.1 (if x = a then b else if x = b then a else x) < n ∧ m_swapf S.1 a b (S.2.1 (if x = a then b else if x = b then a else x)) = x
    unfold m_swapf
    by_cases e1 : x = a
    · rw [if_pos e1]
      obtain ⟨q1, q2⟩ := h2 b hb
      refine ⟨q1, ?_⟩
      rw [q2]
      by_cases e3 : b = a
      · rw [if_pos e3, e3, e1]
      · rw [if_neg e3, if_pos rfl, e1]
    · rw [if_neg e1]
      by_cases e2 : x = b
      · rw [if_pos e2]
        obtain ⟨q1, q2⟩ := h2 a ha
        exact ⟨q1, by rw [q2, if_pos rfl, e2]⟩
      · rw [if_neg e2]
        obtain ⟨q1, q2⟩ := h2 x hx
        exact ⟨q1, by rw [q2, if_neg e1, if_neg e2]⟩
  · show m_swapf S.1 a b p = p
    unfold m_swapf
    rw [h3 p hp h6, if_neg (by omega), if_neg (by omega)]
theorem k_copy (w : am_W) (s o n : Nat) (S S2 : s_S) (hS : c_S w s n S) (hO : c_S w o n S2) (h6 : n ≤ 6) (h2s : 2 ≤ s) (h2o : 2 ≤ o) (hdj : s + 4 ≤ o ∨ o + 4 ≤ s) : am_Go 42 (0, [.ref s, .ref o], [], w, 0, 0) (fun res w' => res = none ∧ c_S w' s n S2 ∧ am_same (rg s 4) w w') := by
  obtain ⟨so, ss, sl, hs0, hs1, hs2, hs3, -⟩ := hS
  obtain ⟨oo, os, ol, ho0, ho1, ho2, ho3, q1, q2, q3⟩ := hO
  refine (c_copyFrom w s h2s so ss sl _ _ _ hs0 hs1 hs2 hs3 o h2o hdj oo os ol _ _ _ ho0 ho1 ho2 ho3).mono ?_
  rintro res w' ⟨rfl, rfl⟩
  refine ⟨rfl, ⟨_, _, _, am_gs (am_gn (by omega) (am_gn (by omega) (am_gn (by omega) hs0))), am_gn (by omega) (am_gn (by omega) (am_gn (by omega) (am_gs hs1))), am_gn (by omega) (am_gn (by omega) (am_gs (am_gn (by omega) hs2))), am_gn (by omega) (am_gs (am_gn (by omega) (am_gn (by omega) hs3))), fun p hp => ?_, fun h hh => ?_, fun h hh => ?_⟩, ?_⟩
  · rw [pk_cpy_in (by omega) (by omega)]; simpa using q1 p hp
  · rw [pk_cpy_in (by omega) (by omega)]; simpa using q2 h hh
  · rw [pk_cpy_in (by omega) (by omega)]; simpa using q3 h hh
  · exact am_same.set (am_same.set (am_same.set (am_same.set am_same.rf (by unfold rg; omega)) (by unfold rg; omega)) (by unfold rg; omega)) (by unfold rg; omega)
theorem k_giveSalt (w : am_W) (s n : Nat) (S : s_S) (hS : c_S w s n S) (h2s : 2 ≤ s) (x : Int32) : am_Go 46 (0, [.ref s, .int x], [], w, 0, 0) (fun res w' => res = none ∧ c_S w' s n (m_salt S x) ∧ am_same (rg s 4) w w') := by
  obtain ⟨so, ss, sl, hs0, hs1, hs2, hs3, q1, q2, q3⟩ := hS
  refine (c_giveSalt w s h2s so ss sl _ _ _ hs0 hs1 hs2 hs3 x).mono ?_
  rintro res w' ⟨rfl, rfl⟩
  exact ⟨rfl, ⟨so, ss, sl, am_gs hs0, am_gn (by omega) hs1, am_gn (by omega) hs2, am_gn (by omega) hs3, q1, q2, q3⟩, am_same.set am_same.rf (by unfold rg; omega)⟩
theorem k_turnAway (w : am_W) (s n : Nat) (S : s_S) (hS : c_S w s n S) (h2s : 2 ≤ s) (x : Int32) : am_Go 48 (0, [.ref s, .int x], [], w, 0, 0) (fun res w' => res = none ∧ c_S w' s n (m_away S x) ∧ am_same (rg s 4) w w') := by
  obtain ⟨so, ss, sl, hs0, hs1, hs2, hs3, q1, q2, q3⟩ := hS
  refine (c_turnAway w s h2s so ss sl _ _ _ hs0 hs1 hs2 hs3 x).mono ?_
  rintro res w' ⟨rfl, rfl⟩
  exact ⟨rfl, ⟨so, ss, sl, am_gs hs0, am_gn (by omega) hs1, am_gn (by omega) hs2, am_gn (by omega) hs3, q1, q2, q3⟩, am_same.set am_same.rf (by unfold rg; omega)⟩
theorem k_exchange (w : am_W) (s n : Nat) (S : s_S) (hvS : v_S n S) (hS : c_S w s n S) (h6 : n ≤ 6) (h2s : 2 ≤ s) (a b : Nat) (ha : a < n) (hb : b < n) : am_Go 44 (0, [.ref s, .int (nI a), .int (nI b), .float 0], [], w, 0, 0) (fun res w' => res = none ∧ c_S w' s n (m_swap S a b) ∧ am_same (rg s 4) w w') := by
  obtain ⟨so, ss, sl, hs0, hs1, hs2, hs3, q1, q2, q3⟩ := hS
  refine (c_exchange w s h2s so ss sl _ _ _ hs0 hs1 hs2 hs3 (nI a) (nI b)).mono ?_
  rintro res w' ⟨f, rfl, rfl, hf⟩
  have h66 : ∀ p, p < 6 → S.1 p < 6 := fun p hp => by
    rcases Nat.lt_or_ge p n with q | q
    · have := (hvS.1 p q).1; omega
    · rw [hvS.2.2.1 p q hp]; exact hp
  refine ⟨rfl, ⟨f, ss, sl, am_gn (by omega) hs0, am_gs hs1, am_gn (by omega) hs2, am_gn (by omega) hs3, fun p hp => ?_, q2, q3⟩, am_same.set am_same.rf (by unfold rg; omega)⟩
  rw [hf p hp, q1 p hp]
  have hp6 := h66 p hp
  show _ = nI (m_swapf S.1 a b p)
  unfold m_swapf
  by_cases e1 : S.1 p = a
  · rw [if_pos e1, if_pos (by rw [e1])]
  · rw [if_neg e1, if_neg (fun e => e1 ((nI_eq (by omega) (by omega)).mp e))]
    by_cases e2 : S.1 p = b
    · rw [if_pos e2, if_pos (by rw [e2])]
    · rw [if_neg e2, if_neg (fun e => e2 ((nI_eq (by omega) (by omega)).mp e))]
theorem k_placeOf (w : am_W) (s n : Nat) (S : s_S) (hvS : v_S n S) (hS : c_S w s n S) (h6 : n ≤ 6) (h2s : 2 ≤ s) (h : Nat) (hh : h < n) : am_Go 43 (0, [.ref s, .int (nI h), .float 0], [], w, 0, 0) (fun res w' => res = some (.int (nI (S.2.1 h))) ∧ w' = w) := by
  obtain ⟨so, ss, sl, hs0, hs1, hs2, hs3, q1, q2, q3⟩ := hS
  obtain ⟨p1, p2⟩ := hvS.2.1 h hh
  refine c_placeOf w s h2s so ss sl _ _ _ hs0 hs1 hs2 hs3 (nI h) (S.2.1 h) (by omega) (by rw [q1 _ (by omega), p2]) (fun i hi e => ?_)
  rw [q1 i (by omega)] at e
  have e2 := (nI_eq (by have := (hvS.1 i (by omega)).1; omega) (by omega)).mp e
  have e3 := (hvS.1 i (by omega)).2
  rw [e2] at e3
  omega
end
section
/-! Outlook: days to come -/
/-- a standing's cells, whatever they hold -/
def c_R (w : am_W) (a : Nat) : Prop := ∃ (so ss sl : Nat → Int32) (x y z : Int32), w[a]? = some (.inr (6, [.ref (a + 1), .ref (a + 2), .ref (a + 3), .int x, .int y, .int z])) ∧ w[a + 1]? = some (.inl (0, 6, .inl so)) ∧ w[a + 2]? = some (.inl (0, 6, .inl ss)) ∧ w[a + 3]? = some (.inl (0, 6, .inl sl))
theorem c_S.r {w : am_W} {a n : Nat} {S : s_S} (h : c_S w a n S) : c_R w a := by
  obtain ⟨so, ss, sl, h0, h1, h2, h3, -⟩ := h
  exact ⟨so, ss, sl, _, _, _, h0, h1, h2, h3⟩
theorem c_S.o {w : am_W} {a n : Nat} {S : s_S} (h : c_S w a n S) : w[a]? = some (.inr (6, [.ref (a + 1), .ref (a + 2), .ref (a + 3), .int S.2.2.2.2.1, .int S.2.2.2.2.2.1, .int (nI S.2.2.2.2.2.2)])) := by obtain ⟨so, ss, sl, h0, -⟩ := h; exact h0
theorem c_D.o {w : am_W} {t : Nat} (h : c_D w t) : w[t]? = some (.inr (8, [.ref (t + 1), .ref (t + 2), .ref (t + 3), .ref (t + 4), .ref (t + 5), .ref (t + 6), .ref (t + 7)])) := by obtain ⟨dw, ds, dg, dd, dl, df, dv, h0, -⟩ := h; exact h0
theorem c_R.same {w w' : am_W} {a : Nat} {X : Nat → Prop} (h : c_R w a) (hs : am_same X w w') (hx : ∀ b, a ≤ b → b < a + 4 → ¬ X b) : c_R w' a := by
  obtain ⟨so, ss, sl, x, y, z, h0, h1, h2, h3⟩ := h
  exact ⟨so, ss, sl, x, y, z, hs.at (hx _ (by omega) (by omega)) h0, hs.at (hx _ (by omega) (by omega)) h1, hs.at (hx _ (by omega) (by omega)) h2, hs.at (hx _ (by omega) (by omega)) h3⟩
theorem k_copyR (w : am_W) (s o n : Nat) (S2 : s_S) (hS : c_R w s) (hO : c_S w o n S2) (h6 : n ≤ 6) (h2s : 2 ≤ s) (h2o : 2 ≤ o) (hdj : s + 4 ≤ o ∨ o + 4 ≤ s) : am_Go 42 (0, [.ref s, .ref o], [], w, 0, 0) (fun res w' => res = none ∧ c_S w' s n S2 ∧ am_same (rg s 4) w w') := by
  obtain ⟨so, ss, sl, x, y, z, hs0, hs1, hs2, hs3⟩ := hS
  obtain ⟨oo, os, ol, ho0, ho1, ho2, ho3, q1, q2, q3⟩ := hO
  refine (c_copyFrom w s h2s so ss sl _ _ _ hs0 hs1 hs2 hs3 o h2o hdj oo os ol _ _ _ ho0 ho1 ho2 ho3).mono ?_
  rintro res w' ⟨rfl, rfl⟩
  refine ⟨rfl, ⟨_, _, _, am_gs (am_gn (by omega) (am_gn (by omega) (am_gn (by omega) hs0))), am_gn (by omega) (am_gn (by omega) (am_gn (by omega) (am_gs hs1))), am_gn (by omega) (am_gn (by omega) (am_gs (am_gn (by omega) hs2))), am_gn (by omega) (am_gs (am_gn (by omega) (am_gn (by omega) hs3))), fun p hp => ?_, fun h hh => ?_, fun h hh => ?_⟩, ?_⟩
  · rw [pk_cpy_in (by omega) (by omega)]; simpa using q1 p hp
  · rw [pk_cpy_in (by omega) (by omega)]; simpa using q2 h hh
  · rw [pk_cpy_in (by omega) (by omega)]; simpa using q3 h hh
  · exact am_same.set (am_same.set (am_same.set (am_same.set am_same.rf (by unfold rg; omega)) (by unfold rg; omega)) (by unfold rg; omega)) (by unfold rg; omega)
theorem i_sum_congr {f g : Nat → Int32} : ∀ {n : Nat}, (∀ h, h < n → f h = g h) → i_sum f n = i_sum g n
  | 0, _ => rfl
  | n + 1, h => by show i_sum f n + f n = i_sum g n + g n; rw [i_sum_congr (fun k hk => h k (by omega)), h n (by omega)]
theorem i_grt_congr {f g : Nat → Int32} : ∀ {n : Nat}, (∀ h, h < n → f h = g h) → i_grt f n = i_grt g n
  | 0, _ => rfl
  | n + 1, h => by show i_max (i_grt f n) (f n) = i_max (i_grt g n) (g n); rw [i_grt_congr (fun k hk => h k (by omega)), h n (by omega)]
def m_it (T : p_D) (S : s_S) : Nat → s_S
  | 0 => S
  | k + 1 => m_pass T (m_it T S k)
theorem m_it_day (T : p_D) (S : s_S) : ∀ k, (m_it T S k).2.2.2.2.2.2 = S.2.2.2.2.2.2 + k
  | 0 => rfl
  | k + 1 => by show (m_it T S k).2.2.2.2.2.2 + 1 = _; rw [m_it_day T S k]; omega
theorem m_it_v {T : p_D} {S : s_S} {n : Nat} (h : v_S n S) : ∀ k, S.2.2.2.2.2.2 + k < 2 ^ 30 → v_S n (m_it T S k)
  | 0, _ => h
  | k + 1, hd => m_pass_v (m_it_v h k (by omega)) (by rw [m_it_day]; omega)
/-- what is lacked (or runs over) in k days -/
def m_tot (T : p_D) (S : s_S) (over : Int32) : Nat → Int32
  | 0 => 0
  | k + 1 => m_tot T S over k + i_sum (if over = 0 then m_lk T (m_it T S k) 0 else m_sp T (m_it T S k) 0) T.2.2.1
set_option maxRecDepth 100000 in
set_option maxHeartbeats 4000000 in
theorem k_inDays (w : am_W) (T : p_D) (S : s_S) (bl bo : Int32) (hvT : v_T T) (hvS : v_S T.2.2.1 S) (hT : c_T w 11 T) (hN : c_S w 16 T.2.2.1 S) (hR : c_R w 106) (hD : c_D w 110) (ho0 : w[100]? = some (.inr (2, [.ref 101, .ref 106, .ref 110, .int bl, .int bo]))) (k : Nat) (hk : k ≤ 30) (hdy : S.2.2.2.2.2.2 + k < 2 ^ 30) (ov : Int32) : am_Go 13 (0, [.ref 100, .ref 11, .ref 16, .int (nI k), .int ov, .float 0, .float 0], [], w, 0, 0) (fun res w' => res = some (.int (m_tot T S ov k)) ∧ am_same (rg 106 12) w w' ∧ c_R w' 106 ∧ c_D w' 110) := by
  have hM : am_P[13]? = some zm_X2_inDays := rfl
  have ht0 : w[11]? = some (.inr (9, [.int T.1, .int T.2.1, .int (nI T.2.2.1), .int (nI T.2.2.2.1), .ref 12, .ref 13, .ref 14, .ref 15])) := by obtain ⟨_, _, _, _, h, -⟩ := hT; exact h
  have hn6 : T.2.2.1 ≤ 6 := hvT.1
  obtain ⟨_, _, _, x6, y6, z6, hr6, -⟩ := id hR
  refine ar_aload_n (pc' := 1) hM rfl rfl rfl ?_
  refine ar_getfield (pc' := 4) hM rfl ho0 rfl rfl ?_
  refine ar_aload_n (pc' := 5) hM rfl rfl rfl ?_
  refine ar_virtual (pc' := 8) (k3 := 0) (k4 := 0) hM rfl rfl hr6 ⟨rfl, (by decide)⟩ rfl rfl (k_copyR _ 106 16 _ S hR hN hn6 (by decide) (by decide) (by omega)) (fun r5 w5 q5 => ?_)
  obtain ⟨rfl, hS1, q5s⟩ := q5
  have hsm0 : am_same (rg 106 12) w w5 := q5s.mono (fun b hb => by unfold rg at *; omega)
  show am_Go 13 (8, [.ref 100, .ref 11, .ref 16, .int (nI k), .int ov, .float 0, .float 0], [], w5, 0, 0) _
  refine ar_iconst (x := 0) (pc' := 9) hM rfl (by decide) rfl ?_
  refine ar_istore (pc' := 11) hM rfl rfl rfl rfl ?_
  refine ar_iconst (x := 0) (pc' := 12) hM rfl (by decide) rfl ?_
  refine ar_istore (pc' := 14) hM rfl rfl rfl rfl ?_
  have loop : ∀ (dj j : Nat) (x : Int32) (wj : am_W), dj + j = k → (x = m_tot T S ov j) → (c_S wj 106 T.2.2.1 (m_it T S j)) → (c_D wj 110) → (am_same (rg 106 12) w wj) → am_Go 13 (14, [.ref 100, .ref 11, .ref 16, .int (nI k), .int ov, .int x, .int (nI j)], [], wj, 0, 0) (fun res w' => res = some (.int (m_tot T S ov k)) ∧ am_same (rg 106 12) w w' ∧ c_R w' 106 ∧ c_D w' 110) := by
    intro dj
    induction dj with
    | zero =>
      intro j x wj hj hx hS hD hsm
      refine ar_iload (pc' := 16) hM rfl rfl rfl ?_
      refine ar_iload_n (pc' := 17) hM rfl rfl rfl ?_
      refine ar_icmp_ge (pc' := 20) hM rfl rfl (fun _ => ?_) (fun q => absurd (nI_le (a := k) (b := j) (by omega) (by omega)) q)
      refine ar_iload (pc' := 74) hM rfl rfl rfl ?_
      refine ar_ireturn hM rfl (Or.inl rfl) ?_
      exact ⟨by rw [hx, show j = k by omega], hsm, hS.r, hD⟩
    | succ dj ih =>
      intro j x wj hj hx hS hD hsm
      refine ar_iload (pc' := 16) hM rfl rfl rfl ?_
      refine ar_iload_n (pc' := 17) hM rfl rfl rfl ?_
      refine ar_icmp_ge (pc' := 20) hM rfl rfl (fun q => absurd q (nI_ge (a := j) (b := k) (by omega) (by omega))) (fun _ => ?_)
      refine ar_aload_n (pc' := 21) hM rfl rfl rfl ?_
      refine ar_getfield (pc' := 24) hM rfl (hsm.at (by unfold rg; omega) ho0) rfl rfl ?_
      refine ar_aload_n (pc' := 25) hM rfl rfl rfl ?_
      refine ar_aload_n (pc' := 26) hM rfl rfl rfl ?_
      refine ar_getfield (pc' := 29) hM rfl (hsm.at (by unfold rg; omega) ho0) rfl rfl ?_
      refine ar_virtual (pc' := 32) (k3 := 0) (k4 := 0) hM rfl rfl (hD.o) ⟨rfl, (by decide)⟩ rfl rfl (k_pass _ 110 11 106 T (m_it T S j) hvT (m_it_v hvS j (by omega)) (hT.same hsm (fun b h1 h2 => by unfold rg; omega)) hS hD (by decide) (by decide) (by decide) (by omega) (by omega) (by omega)) (fun r29 w29 q29 => ?_)
      obtain ⟨rfl, hS2, hL2, q29s⟩ := q29
      have hsm2 : am_same (rg 106 12) w w29 := hsm.tr (q29s.mono (fun b hb => by rcases hb with hb | hb <;> unfold rg at * <;> omega))
      obtain ⟨dw, ds, dg, dd, dl, df, dv, ⟨hd0, hd1, hd2, hd3, hd4, hd5, hd6, hd7⟩, hdl⟩ := id hL2
      show am_Go 13 (32, [.ref 100, .ref 11, .ref 16, .int (nI k), .int ov, .int x, .int (nI j)], [], w29, 0, 0) _
      refine ar_iload (pc' := 34) hM rfl rfl rfl ?_
      refine ar_iload (pc' := 36) hM rfl rfl rfl ?_
      refine ar_if_eq (pc' := 39) hM rfl rfl (fun c36 => ?_) (fun c36 => ?_)
      · refine ar_aload_n (pc' := 50) hM rfl rfl rfl ?_
        refine ar_getfield (pc' := 53) hM rfl (hsm2.at (by unfold rg; omega) ho0) rfl rfl ?_
        refine ar_getfield (pc' := 56) hM rfl hd0 rfl rfl ?_
        refine ar_aload_n (pc' := 57) hM rfl rfl rfl ?_
        refine ar_getfield (pc' := 60) hM rfl (hsm2.at (by unfold rg; omega) ht0) rfl rfl ?_
        refine ar_static (pc' := 63) (k3 := 0) (k4 := 0) hM rfl (by decide) rfl rfl (c_sum _ _ _ hd5 _ (by omega)) (fun r60 w60 q60 => ?_)
        obtain ⟨rfl, q60w⟩ := q60
        rw [q60w]
        show am_Go 13 (63, [.ref 100, .ref 11, .ref 16, .int (nI k), .int ov, .int x, .int (nI j)], [.int (i_sum dl T.2.2.1), .int x], w29, 0, 0) _
        refine ar_iadd (pc' := 64) hM rfl rfl ?_
        refine ar_istore (pc' := 66) hM rfl rfl rfl rfl ?_
        refine ar_iinc (z := nI (j + 1)) (pc' := 69) hM rfl rfl (nI_1 _) rfl rfl rfl ?_
        refine ar_goto hM rfl ?_
        exact ih (j + 1) (x + (i_sum dl T.2.2.1)) w29 (by omega) (by show _ = m_tot T S ov j + i_sum _ _; rw [hx, if_pos c36]; congr 1; exact i_sum_congr (fun h hh => (hdl h hh).2.2.2.2.1)) hS2 (by obtain ⟨a1, a2, a3, a4, a5, a6, a7, a8, -⟩ := hL2; exact ⟨a1, a2, a3, a4, a5, a6, a7, a8⟩) hsm2
      · refine ar_aload_n (pc' := 40) hM rfl rfl rfl ?_
        refine ar_getfield (pc' := 43) hM rfl (hsm2.at (by unfold rg; omega) ho0) rfl rfl ?_
        refine ar_getfield (pc' := 46) hM rfl hd0 rfl rfl ?_
        refine ar_goto hM rfl ?_
        refine ar_aload_n (pc' := 57) hM rfl rfl rfl ?_
        refine ar_getfield (pc' := 60) hM rfl (hsm2.at (by unfold rg; omega) ht0) rfl rfl ?_
        refine ar_static (pc' := 63) (k3 := 0) (k4 := 0) hM rfl (by decide) rfl rfl (c_sum _ _ _ hd7 _ (by omega)) (fun r60 w60 q60 => ?_)
        obtain ⟨rfl, q60w⟩ := q60
        rw [q60w]
        show am_Go 13 (63, [.ref 100, .ref 11, .ref 16, .int (nI k), .int ov, .int x, .int (nI j)], [.int (i_sum dv T.2.2.1), .int x], w29, 0, 0) _
        refine ar_iadd (pc' := 64) hM rfl rfl ?_
        refine ar_istore (pc' := 66) hM rfl rfl rfl rfl ?_
        refine ar_iinc (z := nI (j + 1)) (pc' := 69) hM rfl rfl (nI_1 _) rfl rfl rfl ?_
        refine ar_goto hM rfl ?_
        exact ih (j + 1) (x + (i_sum dv T.2.2.1)) w29 (by omega) (by show _ = m_tot T S ov j + i_sum _ _; rw [hx, if_neg c36]; congr 1; exact i_sum_congr (fun h hh => (hdl h hh).2.2.2.2.2.2)) hS2 (by obtain ⟨a1, a2, a3, a4, a5, a6, a7, a8, -⟩ := hL2; exact ⟨a1, a2, a3, a4, a5, a6, a7, a8⟩) hsm2
  exact loop (k) 0 0 w5 (by omega) rfl hS1 (hD.same q5s (fun b h1 h2 => by unfold rg; omega)) hsm0
end
section
/-! Outlook: salts, barrels -/
theorem i_shl1 : ∀ n, n ≤ 6 → (1 : Int32) <<< (nI n &&& 31) = nI (2 ^ n) := by decide
/-- a standing with other bits and day -/
def m_set (S : s_S) (x y : Int32) (d : Nat) : s_S := (S.1, S.2.1, S.2.2.1, S.2.2.2.1, x, y, d)
theorem c_S.setO {w : am_W} {a n : Nat} {S : s_S} (h : c_S w a n S) (x y : Int32) (d : Nat) : c_S (w.set a (.inr (6, [.ref (a + 1), .ref (a + 2), .ref (a + 3), .int x, .int y, .int (nI d)]))) a n (m_set S x y d) := by
  obtain ⟨so, ss, sl, h0, h1, h2, h3, h4⟩ := h
  exact ⟨so, ss, sl, am_gs h0, am_gn (by omega) h1, am_gn (by omega) h2, am_gn (by omega) h3, h4⟩
theorem c_LS.d {w : am_W} {t : Nat} {T : p_D} {S : s_S} {g : Int32} (h : c_LS w t T S g) : c_D w t := by
  obtain ⟨dw, ds, dg, dd, dl, df, dv, h, -⟩ := h
  exact ⟨dw, ds, dg, dd, dl, df, dv, h⟩
/-- the fewest to salt: the best and its number, of the first b sets -/
def m_few (T : p_D) (S : s_S) (h : Nat) : Nat → Int32 × Int32
  | 0 => (-9, 7)
  | b + 1 => if (nI b &&& S.2.2.2.2.1 = 0 ∧ i_bc (nI b) < (m_few T S h b).2) ∧ m_lk T (m_set S (S.2.2.2.2.1 ||| nI b) S.2.2.2.2.2.1 S.2.2.2.2.2.2) 0 h = 0 then (nI b, i_bc (nI b)) else m_few T S h b
set_option maxRecDepth 100000 in
set_option maxHeartbeats 4000000 in
theorem k_lackOf (w : am_W) (T : p_D) (S1 : s_S) (bl bo : Int32) (hvT : v_T T) (hvS1 : v_S T.2.2.1 S1) (hT : c_T w 11 T) (hS1 : c_S w 106 T.2.2.1 S1) (hD : c_D w 110) (ho0 : w[100]? = some (.inr (2, [.ref 101, .ref 106, .ref 110, .int bl, .int bo]))) (h : Nat) (hh : h < T.2.2.1) : am_Go 22 (0, [.ref 100, .ref 11, .int (nI h)], [], w, 0, 0) (fun res w' => res = some (.int (m_lk T S1 0 h)) ∧ am_same (rg 110 8) w w' ∧ c_D w' 110) := by
  have hM : am_P[22]? = some zm_X2_lackOf := rfl
  refine ar_aload_n (pc' := 1) hM rfl rfl rfl ?_
  refine ar_getfield (pc' := 4) hM rfl ho0 rfl rfl ?_
  refine ar_aload_n (pc' := 5) hM rfl rfl rfl ?_
  refine ar_aload_n (pc' := 6) hM rfl rfl rfl ?_
  refine ar_getfield (pc' := 9) hM rfl ho0 rfl rfl ?_
  refine ar_virtual (pc' := 12) (k3 := 0) (k4 := 0) hM rfl rfl (hD.o) ⟨rfl, (by decide)⟩ rfl rfl (k_lookAt _ 110 11 106 T S1 hvT hvS1 hT hS1 hD (by decide) (by decide) (by decide) (by omega) (by omega) (by omega)) (fun r9 w9 q9 => ?_)
  obtain ⟨rfl, hL2, hsm⟩ := q9
  obtain ⟨dw, ds, dg, dd, dl, df, dv, ⟨hd0, hd1, hd2, hd3, hd4, hd5, hd6, hd7⟩, hdl⟩ := id hL2
  show am_Go 22 (12, [.ref 100, .ref 11, .int (nI h)], [], w9, 0, 0) _
  refine ar_aload_n (pc' := 13) hM rfl rfl rfl ?_
  refine ar_getfield (pc' := 16) hM rfl (hsm.at (by unfold rg; omega) ho0) rfl rfl ?_
  refine ar_getfield (pc' := 19) hM rfl hd0 rfl rfl ?_
  refine ar_iload_n (pc' := 20) hM rfl rfl rfl ?_
  refine ar_ialoadN (j := h) (pc' := 21) hM rfl hd5 rfl (by have := hvT.1; omega) (Nat.le_of_ble_eq_true rfl) rfl ?_
  rw [show (dl h : Int32) = m_lk T S1 0 h from (hdl h hh).2.2.2.2.1]
  refine ar_ireturn hM rfl (Or.inl rfl) ?_
  exact ⟨rfl, hsm, hL2.d⟩
set_option maxRecDepth 100000 in
set_option maxHeartbeats 4000000 in
theorem k_fewestSalts (w : am_W) (T : p_D) (S : s_S) (bl bo : Int32) (hvT : v_T T) (hvS : v_S T.2.2.1 S) (hT : c_T w 11 T) (hN : c_S w 16 T.2.2.1 S) (hR : c_R w 106) (hD : c_D w 110) (ho0 : w[100]? = some (.inr (2, [.ref 101, .ref 106, .ref 110, .int bl, .int bo]))) (h : Nat) (hh : h < T.2.2.1) : am_Go 18 (0, [.ref 100, .ref 11, .ref 16, .int (nI h), .float 0, .float 0, .float 0, .float 0], [], w, 0, 0) (fun res w' => res = some (.int (m_few T S h (2 ^ T.2.2.1)).1) ∧ am_same (rg 106 12) w w' ∧ c_R w' 106 ∧ c_D w' 110) := by
  have hM : am_P[18]? = some zm_X2_fewestSalts := rfl
  have ht0 : w[11]? = some (.inr (9, [.int T.1, .int T.2.1, .int (nI T.2.2.1), .int (nI T.2.2.2.1), .ref 12, .ref 13, .ref 14, .ref 15])) := by obtain ⟨_, _, _, _, h, -⟩ := hT; exact h
  have hn6 : T.2.2.1 ≤ 6 := hvT.1
  obtain ⟨_, _, _, x6, y6, z6, hr6, -⟩ := id hR
  have h64 : 2 ^ T.2.2.1 ≤ 64 := by have := Nat.pow_le_pow_right (show 0 < 2 by decide) hn6; omega
  refine ar_aload_n (pc' := 1) hM rfl rfl rfl ?_
  refine ar_getfield (pc' := 4) hM rfl ho0 rfl rfl ?_
  refine ar_aload_n (pc' := 5) hM rfl rfl rfl ?_
  refine ar_virtual (pc' := 8) (k3 := 0) (k4 := 0) hM rfl rfl hr6 ⟨rfl, (by decide)⟩ rfl rfl (k_copyR _ 106 16 _ S hR hN hn6 (by decide) (by decide) (by omega)) (fun r5 w5 q5 => ?_)
  obtain ⟨rfl, hS1, q5s⟩ := q5
  have hsm0 : am_same (rg 106 12) w w5 := q5s.mono (fun b hb => by unfold rg at *; omega)
  show am_Go 18 (8, [.ref 100, .ref 11, .ref 16, .int (nI h), .float 0, .float 0, .float 0, .float 0], [], w5, 0, 0) _
  refine ar_bipush (x := (-9)) (pc' := 10) hM rfl (by decide) rfl ?_
  refine ar_istore (pc' := 12) hM rfl rfl rfl rfl ?_
  refine ar_bipush (x := 7) (pc' := 14) hM rfl (by decide) rfl ?_
  refine ar_istore (pc' := 16) hM rfl rfl rfl rfl ?_
  refine ar_iconst (x := 0) (pc' := 17) hM rfl (by decide) rfl ?_
  refine ar_istore (pc' := 19) hM rfl rfl rfl rfl ?_
  have loop : ∀ (dj j : Nat) (x : Int32) (y : Int32) (z : Int32) (wj : am_W) (z7 : Value), dj + j = 2 ^ T.2.2.1 → (m_few T S h j = (x, y)) → (c_S wj 106 T.2.2.1 (m_set S z S.2.2.2.2.2.1 S.2.2.2.2.2.2)) → (c_D wj 110) → (am_same (rg 106 12) w wj) → am_Go 18 (19, [.ref 100, .ref 11, .ref 16, .int (nI h), .int x, .int y, .int (nI j), z7], [], wj, 0, 0) (fun res w' => res = some (.int (m_few T S h (2 ^ T.2.2.1)).1) ∧ am_same (rg 106 12) w w' ∧ c_R w' 106 ∧ c_D w' 110) := by
    intro dj
    induction dj with
    | zero =>
      intro j x y z wj z7 hj hx hS hD hsm
      refine ar_iload (pc' := 21) hM rfl rfl rfl ?_
      refine ar_iconst (x := 1) (pc' := 22) hM rfl (by decide) rfl ?_
      refine ar_aload_n (pc' := 23) hM rfl rfl rfl ?_
      refine ar_getfield (pc' := 26) hM rfl (hsm.at (by unfold rg; omega) ht0) rfl rfl ?_
      refine ar_ishl (pc' := 27) hM rfl rfl ?_
      rw [show (1 <<< ((nI T.2.2.1) &&& 31) : Int32) = nI (2 ^ T.2.2.1) from i_shl1 _ hn6]
      refine ar_icmp_ge (pc' := 30) hM rfl rfl (fun _ => ?_) (fun q => absurd (nI_le (a := 2 ^ T.2.2.1) (b := j) (by omega) (by omega)) q)
      refine ar_iload (pc' := 119) hM rfl rfl rfl ?_
      refine ar_ireturn hM rfl (Or.inl rfl) ?_
      exact ⟨by rw [show j = 2 ^ T.2.2.1 by omega] at hx; rw [hx], hsm, hS.r, hD⟩
    | succ dj ih =>
      intro j x y z wj z7 hj hx hS hD hsm
      refine ar_iload (pc' := 21) hM rfl rfl rfl ?_
      refine ar_iconst (x := 1) (pc' := 22) hM rfl (by decide) rfl ?_
      refine ar_aload_n (pc' := 23) hM rfl rfl rfl ?_
      refine ar_getfield (pc' := 26) hM rfl (hsm.at (by unfold rg; omega) ht0) rfl rfl ?_
      refine ar_ishl (pc' := 27) hM rfl rfl ?_
      rw [show (1 <<< ((nI T.2.2.1) &&& 31) : Int32) = nI (2 ^ T.2.2.1) from i_shl1 _ hn6]
      refine ar_icmp_ge (pc' := 30) hM rfl rfl (fun q => absurd q (nI_ge (a := j) (b := 2 ^ T.2.2.1) (by omega) (by omega))) (fun _ => ?_)
      refine ar_iload (pc' := 32) hM rfl rfl rfl ?_
      refine ar_aload_n (pc' := 33) hM rfl rfl rfl ?_
      refine ar_getfield (pc' := 36) hM rfl (hsm.at (by unfold rg; omega) hN.o) rfl rfl ?_
      refine ar_iand (pc' := 37) hM rfl rfl ?_
      suffices hj37 : ∀ z_37 : Int32, z_37 = (if ((nI j) &&& S.2.2.2.2.1) = (0 : Int32) then 1 else 0) → am_Go 18 (45, [.ref 100, .ref 11, .ref 16, .int (nI h), .int x, .int y, .int (nI j), z7], [.int z_37], wj, 0, 0) _ by
        refine ar_if_ne (pc' := 40) hM rfl rfl (fun c => ?_) (fun c => ?_)
        · refine ar_iconst (x := 0) (pc' := 45) hM rfl (by decide) rfl ?_
          exact hj37 _ (if_neg c).symm
        · refine ar_iconst (x := 1) (pc' := 41) hM rfl (by decide) rfl ?_
          refine ar_goto hM rfl ?_
          exact hj37 _ (if_pos c).symm
      rintro _ rfl
      refine ar_istore (pc' := 47) hM rfl rfl rfl rfl ?_
      refine ar_iload (pc' := 49) hM rfl rfl rfl ?_
      refine ar_if_eq (pc' := 52) hM rfl rfl (fun c49 => ?_) (fun c49 => ?_)
      · refine ar_iinc (z := nI (j + 1)) (pc' := 114) hM rfl rfl (nI_1 _) rfl rfl rfl ?_
        refine ar_goto hM rfl ?_
        exact ih (j + 1) x y z wj (.int (if ((nI j) &&& S.2.2.2.2.1) = (0 : Int32) then 1 else 0)) (by omega) (by show (if _ then _ else m_few T S h j) = _; rw [if_neg (fun q => am_eq0 c49 q.1.1)]; exact hx) hS hD hsm
      · refine ar_iload (pc' := 54) hM rfl rfl rfl ?_
        refine ar_static (pc' := 57) (k3 := 0) (k4 := 0) hM rfl (by decide) rfl rfl (c_bitCount _ _) (fun r54 w54 q54 => ?_)
        obtain ⟨rfl, q54w⟩ := q54
        rw [q54w]
        show am_Go 18 (57, [.ref 100, .ref 11, .ref 16, .int (nI h), .int x, .int y, .int (nI j), .int (if ((nI j) &&& S.2.2.2.2.1) = (0 : Int32) then 1 else 0)], [.int (i_bc (nI j))], wj, 0, 0) _
        refine ar_iload (pc' := 59) hM rfl rfl rfl ?_
        refine ar_icmp_ge (pc' := 62) hM rfl rfl (fun c59 => ?_) (fun c59 => ?_)
        · refine ar_iinc (z := nI (j + 1)) (pc' := 114) hM rfl rfl (nI_1 _) rfl rfl rfl ?_
          refine ar_goto hM rfl ?_
          exact ih (j + 1) x y z wj (.int (if ((nI j) &&& S.2.2.2.2.1) = (0 : Int32) then 1 else 0)) (by omega) (by show (if _ then _ else m_few T S h j) = _; rw [if_neg (fun q => absurd q.1.2 (by rw [hx]; exact Int32.not_lt.mpr c59))]; exact hx) hS hD hsm
        · refine ar_aload_n (pc' := 63) hM rfl rfl rfl ?_
          refine ar_getfield (pc' := 66) hM rfl (hsm.at (by unfold rg; omega) ho0) rfl rfl ?_
          refine ar_aload_n (pc' := 67) hM rfl rfl rfl ?_
          refine ar_getfield (pc' := 70) hM rfl (hsm.at (by unfold rg; omega) hN.o) rfl rfl ?_
          refine ar_iload (pc' := 72) hM rfl rfl rfl ?_
          refine ar_ior (pc' := 73) hM rfl rfl ?_
          refine ar_putfield (pc' := 76) hM rfl (hS.o) (Nat.le_of_ble_eq_true rfl) rfl (by decide) rfl ?_
          show am_Go 18 (76, [.ref 100, .ref 11, .ref 16, .int (nI h), .int x, .int y, .int (nI j), .int (if ((nI j) &&& S.2.2.2.2.1) = (0 : Int32) then 1 else 0)], [], (wj.set 106 (.inr (6, [.ref 107, .ref 108, .ref 109, .int (S.2.2.2.2.1 ||| (nI j)), .int ((m_set S z S.2.2.2.2.2.1 S.2.2.2.2.2.2).2.2.2.2.2.1), .int (nI (m_set S z S.2.2.2.2.2.1 S.2.2.2.2.2.2).2.2.2.2.2.2)]))), 0, 0) _
          refine ar_aload_n (pc' := 77) hM rfl rfl rfl ?_
          refine ar_getfield (pc' := 80) hM rfl (am_gn (by decide) (hsm.at (by unfold rg; omega) ho0)) rfl rfl ?_
          refine ar_aload_n (pc' := 81) hM rfl rfl rfl ?_
          refine ar_aload_n (pc' := 82) hM rfl rfl rfl ?_
          refine ar_getfield (pc' := 85) hM rfl (am_gn (by decide) (hsm.at (by unfold rg; omega) ho0)) rfl rfl ?_
          refine ar_virtual (pc' := 88) (k3 := 0) (k4 := 0) hM rfl rfl (am_gn (by decide) (hD.o)) ⟨rfl, (by decide)⟩ rfl rfl (k_lookAt _ 110 11 106 T (m_set S (S.2.2.2.2.1 ||| nI j) S.2.2.2.2.2.1 S.2.2.2.2.2.2) hvT hvS (hT.same (am_same.set hsm (by unfold rg; omega)) (fun b h1 h2 => by unfold rg; omega)) (hS.setO (S.2.2.2.2.1 ||| nI j) S.2.2.2.2.2.1 S.2.2.2.2.2.2) (hD.same (am_same.set (X := rg 106 1) am_same.rf (by unfold rg; omega)) (fun b h1 h2 => by unfold rg; omega)) (by decide) (by decide) (by decide) (by omega) (by omega) (by omega)) (fun r85 w85 q85 => ?_)
          obtain ⟨rfl, hL2, q85s⟩ := q85
          have hsm2 : am_same (rg 106 12) w w85 := (am_same.set hsm (by unfold rg; omega)).tr (q85s.mono (fun b hb => by unfold rg at *; omega))
          have hS2 := (c_S.setO hS (S.2.2.2.2.1 ||| nI j) S.2.2.2.2.2.1 S.2.2.2.2.2.2).same q85s (fun b h1 h2 => by unfold rg; omega)
          obtain ⟨dw, ds, dg, dd, dl, df, dv, ⟨hd0, hd1, hd2, hd3, hd4, hd5, hd6, hd7⟩, hdl⟩ := id hL2
          show am_Go 18 (88, [.ref 100, .ref 11, .ref 16, .int (nI h), .int x, .int y, .int (nI j), .int (if ((nI j) &&& S.2.2.2.2.1) = (0 : Int32) then 1 else 0)], [], w85, 0, 0) _
          refine ar_aload_n (pc' := 89) hM rfl rfl rfl ?_
          refine ar_getfield (pc' := 92) hM rfl (hsm2.at (by unfold rg; omega) ho0) rfl rfl ?_
          refine ar_getfield (pc' := 95) hM rfl hd0 rfl rfl ?_
          refine ar_iload_n (pc' := 96) hM rfl rfl rfl ?_
          refine ar_ialoadN (j := h) (pc' := 97) hM rfl hd5 rfl (by omega) (Nat.le_of_ble_eq_true rfl) rfl ?_
          rw [show (dl h : Int32) = m_lk T (m_set S (S.2.2.2.2.1 ||| nI j) S.2.2.2.2.2.1 S.2.2.2.2.2.2) 0 h from (hdl h hh).2.2.2.2.1]
          refine ar_if_ne (pc' := 100) hM rfl rfl (fun c97 => ?_) (fun c97 => ?_)
          · refine ar_iinc (z := nI (j + 1)) (pc' := 114) hM rfl rfl (nI_1 _) rfl rfl rfl ?_
            refine ar_goto hM rfl ?_
            exact ih (j + 1) x y (S.2.2.2.2.1 ||| nI j) w85 (.int (if ((nI j) &&& S.2.2.2.2.1) = (0 : Int32) then 1 else 0)) (by omega) (by show (if _ then _ else m_few T S h j) = _; rw [if_neg (fun q => c97 q.2)]; exact hx) hS2 hL2.d hsm2
          · refine ar_iload (pc' := 102) hM rfl rfl rfl ?_
            refine ar_istore (pc' := 104) hM rfl rfl rfl rfl ?_
            refine ar_iload (pc' := 106) hM rfl rfl rfl ?_
            refine ar_static (pc' := 109) (k3 := 0) (k4 := 0) hM rfl (by decide) rfl rfl (c_bitCount _ _) (fun r106 w106 q106 => ?_)
            obtain ⟨rfl, q106w⟩ := q106
            rw [q106w]
            show am_Go 18 (109, [.ref 100, .ref 11, .ref 16, .int (nI h), .int (nI j), .int y, .int (nI j), .int (if ((nI j) &&& S.2.2.2.2.1) = (0 : Int32) then 1 else 0)], [.int (i_bc (nI j))], w85, 0, 0) _
            refine ar_istore (pc' := 111) hM rfl rfl rfl rfl ?_
            refine ar_iinc (z := nI (j + 1)) (pc' := 114) hM rfl rfl (nI_1 _) rfl rfl rfl ?_
            refine ar_goto hM rfl ?_
            exact ih (j + 1) (nI j) (i_bc (nI j)) (S.2.2.2.2.1 ||| nI j) w85 (.int (if ((nI j) &&& S.2.2.2.2.1) = (0 : Int32) then 1 else 0)) (by omega) (by show (if _ then _ else m_few T S h j) = _; rw [if_pos ⟨⟨am_ne0 c49, by rw [hx]; exact Int32.not_le.mp c59⟩, c97⟩]) hS2 hL2.d hsm2
  exact loop (2 ^ T.2.2.1) 0 (-9) 7 S.2.2.2.2.1 w5 (.float 0) (by omega) rfl hS1 (hD.same q5s (fun b h1 h2 => by unfold rg; omega)) hsm0
end
section
/-! Outlook: how large a barrel -/
def c_Q (w : am_W) (d : Nat) : Prop := ∃ (tr ri : Int32) (n kk : Nat) (wa ki ba he : Nat → Int32), w[d]? = some (.inr (9, [.int tr, .int ri, .int (nI n), .int (nI kk), .ref (d + 1), .ref (d + 2), .ref (d + 3), .ref (d + 4)])) ∧ w[d + 1]? = some (.inl (0, 6, .inl wa)) ∧ w[d + 2]? = some (.inl (0, 6, .inl ki)) ∧ w[d + 3]? = some (.inl (0, 6, .inl ba)) ∧ w[d + 4]? = some (.inl (0, 5, .inl he))
theorem c_T.q {w : am_W} {d : Nat} {T : p_D} (h : c_T w d T) : c_Q w d := by
  obtain ⟨wa, ki, ba, he, h0, h1, h2, h3, h4, -⟩ := h
  exact ⟨_, _, _, _, wa, ki, ba, he, h0, h1, h2, h3, h4⟩
theorem c_Q.same {w w' : am_W} {d : Nat} {X : Nat → Prop} (h : c_Q w d) (hs : am_same X w w') (hx : ∀ b, d ≤ b → b < d + 5 → ¬ X b) : c_Q w' d := by
  obtain ⟨tr, ri, n, kk, wa, ki, ba, he, h0, h1, h2, h3, h4⟩ := h
  exact ⟨tr, ri, n, kk, wa, ki, ba, he, hs.at (hx _ (by omega) (by omega)) h0, hs.at (hx _ (by omega) (by omega)) h1, hs.at (hx _ (by omega) (by omega)) h2, hs.at (hx _ (by omega) (by omega)) h3, hs.at (hx _ (by omega) (by omega)) h4⟩
theorem k_tcopy (w : am_W) (d o : Nat) (T : p_D) (hvT : v_T T) (hQ : c_Q w d) (hT : c_T w o T) (h2d : 2 ≤ d) (h2o : 2 ≤ o) (hdj : d + 5 ≤ o ∨ o + 5 ≤ d) : am_Go 61 (0, [.ref d, .ref o], [], w, 0, 0) (fun res w' => res = none ∧ c_T w' d T ∧ am_same (rg d 5) w w') := by
  obtain ⟨tr, ri, n, kk, wa, ki, ba, he, h0, h1, h2, h3, h4⟩ := hQ
  obtain ⟨owa, oki, oba, ohe, g0, g1, g2, g3, g4, q1, q2⟩ := hT
  refine (c_dcopy w d h2d tr ri n kk wa ki ba he h0 h1 h2 h3 h4 o h2o hdj T.1 T.2.1 T.2.2.1 T.2.2.2.1 owa oki oba ohe hvT.2.2 g0 g1 g2 g3 g4).mono ?_
  rintro res w' ⟨rfl, rfl⟩
  have hn := hvT.1
  have hk := hvT.2.1
  refine ⟨rfl, ⟨_, _, _, _, am_gn (by omega) (am_gn (by omega) (am_gn (by omega) (am_gn (by omega) (am_gs h0)))), am_gn (by omega) (am_gn (by omega) (am_gn (by omega) (am_gs (am_gn (by omega) h1)))), am_gn (by omega) (am_gn (by omega) (am_gs (am_gn (by omega) (am_gn (by omega) h2)))), am_gn (by omega) (am_gs (am_gn (by omega) (am_gn (by omega) (am_gn (by omega) h3)))), am_gs (am_gn (by omega) (am_gn (by omega) (am_gn (by omega) (am_gn (by omega) h4)))), fun h hh => ?_, fun i hi => ?_⟩, ?_⟩
  · rw [pk_cpy_in (by omega) (by omega), pk_cpy_in (by omega) (by omega), pk_cpy_in (by omega) (by omega)]; simpa using q1 h hh
  · rw [pk_cpy_in (by omega) (by omega)]; simpa using q2 i hi
  · exact am_same.set (am_same.set (am_same.set (am_same.set (am_same.set am_same.rf (by unfold rg; omega)) (by unfold rg; omega)) (by unfold rg; omega)) (by unfold rg; omega)) (by unfold rg; omega)
def m_ba (T : p_D) (h : Nat) (x : Int32) : p_D := (T.1, T.2.1, T.2.2.1, T.2.2.2.1, T.2.2.2.2.1, T.2.2.2.2.2.1, upd T.2.2.2.2.2.2.1 h x, T.2.2.2.2.2.2.2)
def m_sb (S : s_S) (h : Nat) (x : Int32) : s_S := (S.1, S.2.1, upd S.2.2.1 h x, S.2.2.2)
theorem c_T_ba0 {w : am_W} {d : Nat} {T : p_D} (hT : c_T w d T) (h : Nat) : c_T w d (m_ba T h (T.2.2.2.2.2.2.1 h)) := by
  obtain ⟨wa, ki, ba, he, h0, h1, h2, h3, h4, q1, q2⟩ := hT
  refine ⟨wa, ki, ba, he, h0, h1, h2, h3, h4, fun k hk => ?_, q2⟩
  obtain ⟨a1, a2, a3⟩ := q1 k hk
  refine ⟨a1, a2, a3.trans ?_⟩
  show _ = upd T.2.2.2.2.2.2.1 h (T.2.2.2.2.2.2.1 h) k
  by_cases e : k = h
  · rw [e, pk_us]
  · rw [pk_un e]
theorem c_T_ba {w : am_W} {d : Nat} {T : p_D} {h : Nat} {x : Int32} (hT : c_T w d (m_ba T h x)) : ∃ b0, w[d + 3]? = some (.inl (0, 6, .inl b0)) ∧ ∀ y, c_T (w.set (d + 3) (.inl (0, 6, .inl (upd b0 h y)))) d (m_ba T h y) := by
  obtain ⟨wa, ki, ba, he, h0, h1, h2, h3, h4, q1, q2⟩ := hT
  refine ⟨ba, h3, fun y => ⟨wa, ki, upd ba h y, he, am_gn (by omega) h0, am_gn (by omega) h1, am_gn (by omega) h2, am_gs h3, am_gn (by omega) h4, fun k hk => ?_, q2⟩⟩
  obtain ⟨a1, a2, a3⟩ := q1 k hk
  refine ⟨a1, a2, ?_⟩
  show upd ba h y k = upd T.2.2.2.2.2.2.1 h y k
  by_cases e : k = h
  · rw [e, pk_us, pk_us]
  · rw [pk_un e, pk_un e]
    have a4 : ba k = upd T.2.2.2.2.2.2.1 h x k := a3
    rw [pk_un e] at a4
    exact a4
theorem c_S_sb {w : am_W} {a n : Nat} {S : s_S} (h : Nat) (hS : c_S w a n S) : ∃ s0, w[a + 2]? = some (.inl (0, 6, .inl s0)) ∧ ∀ y, c_S (w.set (a + 2) (.inl (0, 6, .inl (upd s0 h y)))) a n (m_sb S h y) := by
  obtain ⟨so, ss, sl, h0, h1, h2, h3, q1, q2, q3⟩ := hS
  refine ⟨ss, h2, fun y => ⟨so, upd ss h y, sl, am_gn (by omega) h0, am_gn (by omega) h1, am_gs h2, am_gn (by omega) h3, q1, fun k hk => ?_, q3⟩⟩
  show upd ss h y k = upd S.2.2.1 h y k
  by_cases e : k = h
  · rw [e, pk_us, pk_us]
  · rw [pk_un e, pk_un e]; exact q2 k hk
theorem c_S_lb {w : am_W} {a n : Nat} {S : s_S} (hS : c_S w a n S) : ∃ s0, w[a + 3]? = some (.inl (0, 6, .inl s0)) ∧ ∀ k, k < n → s0 k = S.2.2.2.1 k := by
  obtain ⟨so, ss, sl, h0, h1, h2, h3, q1, q2, q3⟩ := hS
  exact ⟨sl, h3, q3⟩
/-- nothing more is lacked in ten days with a barrel of b -/
def m_ck (T : p_D) (S : s_S) (h b : Nat) : Prop := (m_it (m_ba T h (nI b)) (m_sb S h 0) 10).2.2.2.1 h = S.2.2.2.1 h
def m_cask (T : p_D) (S : s_S) (h : Nat) (r : Option Value) : Prop := (∃ b, b < 10 ∧ m_ck T S h b ∧ (∀ i, i < b → ¬ m_ck T S h i) ∧ r = some (.int (nI b))) ∨ ((∀ i, i < 10 → ¬ m_ck T S h i) ∧ r = some (.int (-9)))
theorem c_T.o {w : am_W} {d : Nat} {T : p_D} (h : c_T w d T) : w[d]? = some (.inr (9, [.int T.1, .int T.2.1, .int (nI T.2.2.1), .int (nI T.2.2.2.1), .ref (d + 1), .ref (d + 2), .ref (d + 3), .ref (d + 4)])) := by obtain ⟨wa, ki, ba, he, h0, -⟩ := h; exact h0
theorem c_R.o {w : am_W} {a : Nat} (h : c_R w a) : ∃ x y z, w[a]? = some (.inr (6, [.ref (a + 1), .ref (a + 2), .ref (a + 3), .int x, .int y, .int z])) := by obtain ⟨_, _, _, x, y, z, h0, -⟩ := h; exact ⟨x, y, z, h0⟩
set_option maxRecDepth 100000 in
set_option maxHeartbeats 4000000 in
theorem k_leastBarrel (w : am_W) (T : p_D) (S : s_S) (bl bo : Int32) (hvT : v_T T) (hvS : v_S T.2.2.1 S) (hT : c_T w 11 T) (hN : c_S w 16 T.2.2.1 S) (hQ : c_Q w 101) (hR : c_R w 106) (hD : c_D w 110) (ho0 : w[100]? = some (.inr (2, [.ref 101, .ref 106, .ref 110, .int bl, .int bo]))) (hdy : S.2.2.2.2.2.2 + 10 < 2 ^ 30) (h : Nat) (hh : h < T.2.2.1) : am_Go 19 (0, [.ref 100, .ref 11, .ref 16, .int (nI h), .float 0, .float 0], [], w, 0, 0) (fun res w' => m_cask T S h res ∧ am_same (rg 101 17) w w' ∧ c_Q w' 101 ∧ c_R w' 106 ∧ c_D w' 110) := by
  have hM : am_P[19]? = some zm_X2_leastBarrel := rfl
  have hn6 : T.2.2.1 ≤ 6 := hvT.1
  obtain ⟨tq, rq, nq, kq, _, _, _, _, hq0, -⟩ := id hQ
  refine ar_aload_n (pc' := 1) hM rfl rfl rfl ?_
  refine ar_getfield (pc' := 4) hM rfl ho0 rfl rfl ?_
  refine ar_aload_n (pc' := 5) hM rfl rfl rfl ?_
  refine ar_virtual (pc' := 8) (k3 := 0) (k4 := 0) hM rfl rfl hq0 ⟨rfl, (by decide)⟩ rfl rfl (k_tcopy _ 101 11 T hvT hQ hT (by decide) (by decide) (by omega)) (fun r5 w5 q5 => ?_)
  obtain ⟨rfl, hT1, q5s⟩ := q5
  have hsm0 : am_same (rg 101 17) w w5 := q5s.mono (fun b hb => by unfold rg at *; omega)
  have hR1 := hR.same q5s (fun b h1 h2 => by unfold rg; omega)
  have hD1 := hD.same q5s (fun b h1 h2 => by unfold rg; omega)
  show am_Go 19 (8, [.ref 100, .ref 11, .ref 16, .int (nI h), .float 0, .float 0], [], w5, 0, 0) _
  refine ar_iconst (x := 0) (pc' := 9) hM rfl (by decide) rfl ?_
  refine ar_istore (pc' := 11) hM rfl rfl rfl rfl ?_
  have loop : ∀ (dj j : Nat) (x : Int32) (wj : am_W) (z5 : Value), dj + j = 10 → (∀ i, i < j → ¬ m_ck T S h i) → (c_T wj 101 (m_ba T h x)) → (c_R wj 106) → (c_D wj 110) → (am_same (rg 101 17) w wj) → am_Go 19 (11, [.ref 100, .ref 11, .ref 16, .int (nI h), .int (nI j), z5], [], wj, 0, 0) (fun res w' => m_cask T S h res ∧ am_same (rg 101 17) w w' ∧ c_Q w' 101 ∧ c_R w' 106 ∧ c_D w' 110) := by
    intro dj
    induction dj with
    | zero =>
      intro j x wj z5 hj hnb hTj hRj hDj hsm
      refine ar_iload (pc' := 13) hM rfl rfl rfl ?_
      refine ar_bipush (x := 9) (pc' := 15) hM rfl (by decide) rfl ?_
      refine ar_icmp_gt (pc' := 18) hM rfl rfl (fun _ => ?_) (fun q => absurd (nI_lt (a := 9) (b := j) (by omega) (by omega)) q)
      refine ar_bipush (x := (-9)) (pc' := 107) hM rfl (by decide) rfl ?_
      refine ar_ireturn hM rfl (Or.inl rfl) ?_
      exact ⟨Or.inr ⟨fun i hi => hnb i (by omega), rfl⟩, hsm, hTj.q, hRj, hDj⟩
    | succ dj ih =>
      intro j x wj z5 hj hnb hTj hRj hDj hsm
      refine ar_iload (pc' := 13) hM rfl rfl rfl ?_
      refine ar_bipush (x := 9) (pc' := 15) hM rfl (by decide) rfl ?_
      refine ar_icmp_gt (pc' := 18) hM rfl rfl (fun q => absurd q (nI_nlt (a := 9) (b := j) (by omega) (by omega))) (fun _ => ?_)
      obtain ⟨b0, hb0, hT2⟩ := c_T_ba hTj
      obtain ⟨x6, y6, z6, hr6⟩ := hRj.o
      refine ar_aload_n (pc' := 19) hM rfl rfl rfl ?_
      refine ar_getfield (pc' := 22) hM rfl (hsm.at (by unfold rg; omega) ho0) rfl rfl ?_
      refine ar_getfield (pc' := 25) hM rfl (hTj.o) rfl rfl ?_
      refine ar_iload_n (pc' := 26) hM rfl rfl rfl ?_
      refine ar_iload (pc' := 28) hM rfl rfl rfl ?_
      refine ar_iastoreN (j := h) (pc' := 29) hM rfl hb0 rfl (by omega) (Nat.le_of_ble_eq_true rfl) (by decide) rfl ?_
      refine ar_aload_n (pc' := 30) hM rfl rfl rfl ?_
      refine ar_getfield (pc' := 33) hM rfl (am_gn (by decide) (hsm.at (by unfold rg; omega) ho0)) rfl rfl ?_
      refine ar_aload_n (pc' := 34) hM rfl rfl rfl ?_
      refine ar_virtual (pc' := 37) (k3 := 0) (k4 := 0) hM rfl rfl (am_gn (by decide) hr6) ⟨rfl, (by decide)⟩ rfl rfl (k_copyR _ 106 16 _ S (hRj.same (am_same.set (X := rg 104 1) am_same.rf (by unfold rg; omega)) (fun b h1 h2 => by unfold rg; omega)) (hN.same (am_same.set hsm (by unfold rg; omega)) (fun b h1 h2 => by unfold rg; omega)) hn6 (by decide) (by decide) (by omega)) (fun r34 w34 q34 => ?_)
      obtain ⟨rfl, hS3, q34s⟩ := q34
      have hsm3 : am_same (rg 101 17) w w34 := (am_same.set hsm (by unfold rg; omega)).tr (q34s.mono (fun b hb => by unfold rg at *; omega))
      have hT3 := (hT2 (nI j)).same q34s (fun b h1 h2 => by unfold rg; omega)
      have hD3 := (hDj.same (am_same.set (X := rg 104 1) am_same.rf (by unfold rg; omega)) (fun b h1 h2 => by unfold rg; omega)).same q34s (fun b h1 h2 => by unfold rg; omega)
      obtain ⟨s0, hs0, hS4⟩ := c_S_sb h hS3
      show am_Go 19 (37, [.ref 100, .ref 11, .ref 16, .int (nI h), .int (nI j), z5], [], w34, 0, 0) _
      refine ar_aload_n (pc' := 38) hM rfl rfl rfl ?_
      refine ar_getfield (pc' := 41) hM rfl (hsm3.at (by unfold rg; omega) ho0) rfl rfl ?_
      refine ar_getfield (pc' := 44) hM rfl (hS3.o) rfl rfl ?_
      refine ar_iload_n (pc' := 45) hM rfl rfl rfl ?_
      refine ar_iconst (x := 0) (pc' := 46) hM rfl (by decide) rfl ?_
      refine ar_iastoreN (j := h) (pc' := 47) hM rfl hs0 rfl (by omega) (Nat.le_of_ble_eq_true rfl) (by decide) rfl ?_
      refine ar_iconst (x := 0) (pc' := 48) hM rfl (by decide) rfl ?_
      refine ar_istore (pc' := 50) hM rfl rfl rfl rfl ?_
      have loopi : ∀ (dj i : Nat) (wi : am_W), dj + i = 10 → (c_S wi 106 T.2.2.1 (m_it (m_ba T h (nI j)) (m_sb S h 0) i)) → (c_T wi 101 (m_ba T h (nI j))) → (c_D wi 110) → (am_same (rg 101 17) w wi) → am_Go 19 (50, [.ref 100, .ref 11, .ref 16, .int (nI h), .int (nI j), .int (nI i)], [], wi, 0, 0) (fun res w' => m_cask T S h res ∧ am_same (rg 101 17) w w' ∧ c_Q w' 101 ∧ c_R w' 106 ∧ c_D w' 110) := by
        intro dj
        induction dj with
        | zero =>
          intro i wi hj hS5 hT5 hD5 hsm5
          refine ar_iload (pc' := 52) hM rfl rfl rfl ?_
          refine ar_bipush (x := 10) (pc' := 54) hM rfl (by decide) rfl ?_
          refine ar_icmp_ge (pc' := 57) hM rfl rfl (fun _ => ?_) (fun q => absurd (nI_le (a := 10) (b := i) (by omega) (by omega)) q)
          obtain ⟨l1, hl1, hl2⟩ := c_S_lb hS5
          obtain ⟨l3, hl3, hl4⟩ := c_S_lb hN
          have hi10 : i = 10 := by omega
          refine ar_aload_n (pc' := 79) hM rfl rfl rfl ?_
          refine ar_getfield (pc' := 82) hM rfl (hsm5.at (by unfold rg; omega) ho0) rfl rfl ?_
          refine ar_getfield (pc' := 85) hM rfl (hS5.o) rfl rfl ?_
          refine ar_iload_n (pc' := 86) hM rfl rfl rfl ?_
          refine ar_ialoadN (j := h) (pc' := 87) hM rfl hl1 rfl (by omega) (Nat.le_of_ble_eq_true rfl) rfl ?_
          refine ar_aload_n (pc' := 88) hM rfl rfl rfl ?_
          refine ar_getfield (pc' := 91) hM rfl (hsm5.at (by unfold rg; omega) hN.o) rfl rfl ?_
          refine ar_iload_n (pc' := 92) hM rfl rfl rfl ?_
          refine ar_ialoadN (j := h) (pc' := 93) hM rfl (hsm5.at (by unfold rg; omega) hl3) rfl (by omega) (Nat.le_of_ble_eq_true rfl) rfl ?_
          refine ar_icmp_ne (pc' := 96) hM rfl rfl (fun c93 => ?_) (fun c93 => ?_)
          · refine ar_iinc (z := nI (j + 1)) (pc' := 102) hM rfl rfl (nI_1 _) rfl rfl rfl ?_
            refine ar_goto hM rfl ?_
            exact ih (j + 1) (nI j) wi (.int (nI i)) (by omega) (fun k hk => by rcases Nat.lt_or_ge k j with q | q; exact hnb k q; rw [show k = j by omega]; intro e; apply c93; show l1 h = l3 h; rw [hl2 h hh, hl4 h hh, hi10]; exact e) hT5 hS5.r hD5 hsm5
          · refine ar_iload (pc' := 98) hM rfl rfl rfl ?_
            refine ar_ireturn hM rfl (Or.inl rfl) ?_
            exact ⟨Or.inl ⟨j, by omega, (by show (m_it _ _ 10).2.2.2.1 h = _; rw [← hi10, ← hl2 h hh, ← hl4 h hh]; exact c93), hnb, rfl⟩, hsm5, hT5.q, hS5.r, hD5⟩
        | succ dj ih =>
          intro i wi hj hS5 hT5 hD5 hsm5
          refine ar_iload (pc' := 52) hM rfl rfl rfl ?_
          refine ar_bipush (x := 10) (pc' := 54) hM rfl (by decide) rfl ?_
          refine ar_icmp_ge (pc' := 57) hM rfl rfl (fun q => absurd q (nI_ge (a := i) (b := 10) (by omega) (by omega))) (fun _ => ?_)
          refine ar_aload_n (pc' := 58) hM rfl rfl rfl ?_
          refine ar_getfield (pc' := 61) hM rfl (hsm5.at (by unfold rg; omega) ho0) rfl rfl ?_
          refine ar_aload_n (pc' := 62) hM rfl rfl rfl ?_
          refine ar_getfield (pc' := 65) hM rfl (hsm5.at (by unfold rg; omega) ho0) rfl rfl ?_
          refine ar_aload_n (pc' := 66) hM rfl rfl rfl ?_
          refine ar_getfield (pc' := 69) hM rfl (hsm5.at (by unfold rg; omega) ho0) rfl rfl ?_
          refine ar_virtual (pc' := 72) (k3 := 0) (k4 := 0) hM rfl rfl (hD5.o) ⟨rfl, (by decide)⟩ rfl rfl (k_pass _ 110 101 106 (m_ba T h (nI j)) (m_it (m_ba T h (nI j)) (m_sb S h 0) i) hvT (m_it_v (S := (m_sb S h 0)) hvS i (by show S.2.2.2.2.2.2 + i < _; omega)) hT5 hS5 hD5 (by decide) (by decide) (by decide) (by omega) (by omega) (by omega)) (fun r69 w69 q69 => ?_)
          obtain ⟨rfl, hS6, hL6, q69s⟩ := q69
          have hsm6 : am_same (rg 101 17) w w69 := hsm5.tr (q69s.mono (fun b hb => by rcases hb with hb | hb <;> unfold rg at * <;> omega))
          have hT6 := hT5.same q69s (fun b h1 h2 => by unfold rg; omega)
          show am_Go 19 (72, [.ref 100, .ref 11, .ref 16, .int (nI h), .int (nI j), .int (nI i)], [], w69, 0, 0) _
          refine ar_iinc (z := nI (i + 1)) (pc' := 75) hM rfl rfl (nI_1 _) rfl rfl rfl ?_
          refine ar_goto hM rfl ?_
          exact ih (i + 1) w69 (by omega) hS6 hT6 hL6.d hsm6
      exact loopi (10) 0 (w34.set 108 (.inl (0, 6, .inl (upd s0 h 0)))) (by omega) (hS4 0) (hT3.same (am_same.set (X := rg 108 1) am_same.rf (by unfold rg; omega)) (fun b h1 h2 => by unfold rg; omega)) (hD3.same (am_same.set (X := rg 108 1) am_same.rf (by unfold rg; omega)) (fun b h1 h2 => by unfold rg; omega)) (am_same.set hsm3 (by unfold rg; omega))
  exact loop (10) 0 (T.2.2.2.2.2.2.1 h) w5 (.float 0) (by omega) (fun i hi => by omega) (c_T_ba0 hT1 h) hR1 hD1 hsm0
end
section
/-! Outlook: told doings judged -/
def m_can (T : p_D) (S : s_S) (a b c : Nat) : Prop := match a with
  | 0 => b = 0 ∧ c = 0
  | 1 => (c < T.2.2.1 ∧ b < T.2.2.1) ∧ b ≠ c
  | 2 => (c < T.2.2.1 ∧ b = 0) ∧ ¬ (S.2.2.2.2.1 >>> (nI c &&& 31)) &&& 1 = 1
  | 3 => c < T.2.2.1 ∧ b = 0
  | 4 => c < T.2.2.1 ∧ m_lk T S 0 c ≤ nI b
  | _ => False
def m_do (T : p_D) (S : s_S) (a b c : Nat) : s_S := match a with
  | 0 => m_pass T S
  | 1 => m_swap S b c
  | 2 => m_salt S (nI c)
  | 3 => m_away S (nI c)
  | _ => S
def m_yes (P : Prop) (r : Option Value) : Prop := (P ∧ r = some (.int 1)) ∨ (¬ P ∧ r = some (.int 0))
theorem m_do_v {n : Nat} {T : p_D} {S : s_S} (hn : n ≤ 6) (h : v_S n S) (hd : S.2.2.2.2.2.2 + 1 < 2 ^ 30) {a b c : Nat} (hT : T.2.2.1 = n) (hc : m_can T S a b c) : v_S n (m_do T S a b c) ∧ (m_do T S a b c).2.2.2.2.2.2 ≤ S.2.2.2.2.2.2 + 1 := by
  match a, hc with
  | 0, hc => exact ⟨m_pass_v h hd, Nat.le_refl _⟩
  | 1, hc => exact ⟨m_swap_v hn h (hT ▸ hc.1.2) (hT ▸ hc.1.1), Nat.le_succ _⟩
  | 2, hc => exact ⟨h, Nat.le_succ _⟩
  | 3, hc => exact ⟨h, Nat.le_succ _⟩
  | 4, hc => exact ⟨h, Nat.le_succ _⟩
set_option maxRecDepth 100000 in
set_option maxHeartbeats 4000000 in
theorem k_canBe0 (w : am_W) (T : p_D) (S1 : s_S) (bl bo : Int32) (hvT : v_T T) (hvS1 : v_S T.2.2.1 S1) (hT : c_T w 11 T) (hS1 : c_S w 106 T.2.2.1 S1) (hD : c_D w 110) (ho0 : w[100]? = some (.inr (2, [.ref 101, .ref 106, .ref 110, .int bl, .int bo]))) (b c : Nat) (hb : b < 10) (hc : c < 10) : am_Go 21 (0, [.ref 100, .ref 11, .int 0, .int (nI b), .int (nI c), .float 0], [], w, 0, 0) (fun res w' => m_yes (m_can T S1 0 b c) res ∧ am_same (rg 110 8) w w' ∧ c_D w' 110) := by
  have hM : am_P[21]? = some zm_X2_canBe := rfl
  have hn6 : T.2.2.1 ≤ 6 := hvT.1
  have hb0 : nI b = 0 ↔ b = 0 := nI_eq (b := 0) (by omega) (by omega)
  have hc0 : nI c = 0 ↔ c = 0 := nI_eq (b := 0) (by omega) (by omega)
  have hcn : nI T.2.2.1 ≤ nI c ↔ T.2.2.1 ≤ c := nI_leI (by omega) (by omega)
  have hbn : nI T.2.2.1 ≤ nI b ↔ T.2.2.1 ≤ b := nI_leI (by omega) (by omega)
  have hbc : nI b = nI c ↔ b = c := nI_eq (by omega) (by omega)
  refine ar_iload (pc' := 2) hM rfl rfl rfl ?_
  refine ar_aload_n (pc' := 3) hM rfl rfl rfl ?_
  refine ar_getfield (pc' := 6) hM rfl hT.o rfl rfl ?_
  suffices hj6 : ∀ z_6 : Int32, z_6 = (if (nI T.2.2.1) ≤ (nI c) then 0 else 1) → am_Go 21 (14, [.ref 100, .ref 11, .int 0, .int (nI b), .int (nI c), .float 0], [.int z_6], w, 0, 0) _ by
    refine ar_icmp_ge (pc' := 9) hM rfl rfl (fun c => ?_) (fun c => ?_)
    · refine ar_iconst (x := 0) (pc' := 14) hM rfl (by decide) rfl ?_
      exact hj6 _ (if_pos c).symm
    · refine ar_iconst (x := 1) (pc' := 10) hM rfl (by decide) rfl ?_
      refine ar_goto hM rfl ?_
      exact hj6 _ (if_neg c).symm
  rintro _ rfl
  refine ar_istore (pc' := 16) hM rfl rfl rfl rfl ?_
  refine ar_iload_n (pc' := 17) hM rfl rfl rfl ?_
  refine ar_tableIn (off := 35) (t := 52) hM rfl (by decide) (by decide) (by decide) ?_
  refine ar_iload_n (pc' := 53) hM rfl rfl rfl ?_
  refine ar_if_ne (pc' := 56) hM rfl rfl (fun c53 => ?_) (fun c53 => ?_)
  · refine ar_iconst (x := 0) (pc' := 66) hM rfl (by decide) rfl ?_
    refine ar_ireturn hM rfl (Or.inr (Or.inl rfl)) ?_
    refine ⟨Or.inr ⟨?_, rfl⟩, am_same.rf, hD⟩
    show ¬ (b = 0 ∧ c = 0)
    grind
  · refine ar_iload (pc' := 58) hM rfl rfl rfl ?_
    refine ar_if_ne (pc' := 61) hM rfl rfl (fun c58 => ?_) (fun c58 => ?_)
    · refine ar_iconst (x := 0) (pc' := 66) hM rfl (by decide) rfl ?_
      refine ar_ireturn hM rfl (Or.inr (Or.inl rfl)) ?_
      refine ⟨Or.inr ⟨?_, rfl⟩, am_same.rf, hD⟩
      show ¬ (b = 0 ∧ c = 0)
      grind
    · refine ar_iconst (x := 1) (pc' := 62) hM rfl (by decide) rfl ?_
      refine ar_goto hM rfl ?_
      refine ar_ireturn hM rfl (Or.inr (Or.inr rfl)) ?_
      refine ⟨Or.inl ⟨?_, rfl⟩, am_same.rf, hD⟩
      show (b = 0 ∧ c = 0)
      grind
set_option maxRecDepth 100000 in
set_option maxHeartbeats 4000000 in
theorem k_canBe1 (w : am_W) (T : p_D) (S1 : s_S) (bl bo : Int32) (hvT : v_T T) (hvS1 : v_S T.2.2.1 S1) (hT : c_T w 11 T) (hS1 : c_S w 106 T.2.2.1 S1) (hD : c_D w 110) (ho0 : w[100]? = some (.inr (2, [.ref 101, .ref 106, .ref 110, .int bl, .int bo]))) (b c : Nat) (hb : b < 10) (hc : c < 10) : am_Go 21 (0, [.ref 100, .ref 11, .int 1, .int (nI b), .int (nI c), .float 0], [], w, 0, 0) (fun res w' => m_yes (m_can T S1 1 b c) res ∧ am_same (rg 110 8) w w' ∧ c_D w' 110) := by
  have hM : am_P[21]? = some zm_X2_canBe := rfl
  have hn6 : T.2.2.1 ≤ 6 := hvT.1
  have hb0 : nI b = 0 ↔ b = 0 := nI_eq (b := 0) (by omega) (by omega)
  have hc0 : nI c = 0 ↔ c = 0 := nI_eq (b := 0) (by omega) (by omega)
  have hcn : nI T.2.2.1 ≤ nI c ↔ T.2.2.1 ≤ c := nI_leI (by omega) (by omega)
  have hbn : nI T.2.2.1 ≤ nI b ↔ T.2.2.1 ≤ b := nI_leI (by omega) (by omega)
  have hbc : nI b = nI c ↔ b = c := nI_eq (by omega) (by omega)
  refine ar_iload (pc' := 2) hM rfl rfl rfl ?_
  refine ar_aload_n (pc' := 3) hM rfl rfl rfl ?_
  refine ar_getfield (pc' := 6) hM rfl hT.o rfl rfl ?_
  suffices hj6 : ∀ z_6 : Int32, z_6 = (if (nI T.2.2.1) ≤ (nI c) then 0 else 1) → am_Go 21 (14, [.ref 100, .ref 11, .int 1, .int (nI b), .int (nI c), .float 0], [.int z_6], w, 0, 0) _ by
    refine ar_icmp_ge (pc' := 9) hM rfl rfl (fun c => ?_) (fun c => ?_)
    · refine ar_iconst (x := 0) (pc' := 14) hM rfl (by decide) rfl ?_
      exact hj6 _ (if_pos c).symm
    · refine ar_iconst (x := 1) (pc' := 10) hM rfl (by decide) rfl ?_
      refine ar_goto hM rfl ?_
      exact hj6 _ (if_neg c).symm
  rintro _ rfl
  refine ar_istore (pc' := 16) hM rfl rfl rfl rfl ?_
  refine ar_iload_n (pc' := 17) hM rfl rfl rfl ?_
  refine ar_tableIn (off := 50) (t := 67) hM rfl (by decide) (by decide) (by decide) ?_
  refine ar_iload (pc' := 69) hM rfl rfl rfl ?_
  refine ar_if_eq (pc' := 72) hM rfl rfl (fun c69 => ?_) (fun c69 => ?_)
  · refine ar_iconst (x := 0) (pc' := 91) hM rfl (by decide) rfl ?_
    refine ar_ireturn hM rfl (Or.inr (Or.inl rfl)) ?_
    refine ⟨Or.inr ⟨?_, rfl⟩, am_same.rf, hD⟩
    show ¬ ((c < T.2.2.1 ∧ b < T.2.2.1) ∧ b ≠ c)
    grind
  · refine ar_iload_n (pc' := 73) hM rfl rfl rfl ?_
    refine ar_aload_n (pc' := 74) hM rfl rfl rfl ?_
    refine ar_getfield (pc' := 77) hM rfl hT.o rfl rfl ?_
    refine ar_icmp_ge (pc' := 80) hM rfl rfl (fun c77 => ?_) (fun c77 => ?_)
    · refine ar_iconst (x := 0) (pc' := 91) hM rfl (by decide) rfl ?_
      refine ar_ireturn hM rfl (Or.inr (Or.inl rfl)) ?_
      refine ⟨Or.inr ⟨?_, rfl⟩, am_same.rf, hD⟩
      show ¬ ((c < T.2.2.1 ∧ b < T.2.2.1) ∧ b ≠ c)
      grind
    · refine ar_iload_n (pc' := 81) hM rfl rfl rfl ?_
      refine ar_iload (pc' := 83) hM rfl rfl rfl ?_
      refine ar_icmp_eq (pc' := 86) hM rfl rfl (fun c83 => ?_) (fun c83 => ?_)
      · refine ar_iconst (x := 0) (pc' := 91) hM rfl (by decide) rfl ?_
        refine ar_ireturn hM rfl (Or.inr (Or.inl rfl)) ?_
        refine ⟨Or.inr ⟨?_, rfl⟩, am_same.rf, hD⟩
        show ¬ ((c < T.2.2.1 ∧ b < T.2.2.1) ∧ b ≠ c)
        grind
      · refine ar_iconst (x := 1) (pc' := 87) hM rfl (by decide) rfl ?_
        refine ar_goto hM rfl ?_
        refine ar_ireturn hM rfl (Or.inr (Or.inr rfl)) ?_
        refine ⟨Or.inl ⟨?_, rfl⟩, am_same.rf, hD⟩
        show ((c < T.2.2.1 ∧ b < T.2.2.1) ∧ b ≠ c)
        grind
set_option maxRecDepth 100000 in
set_option maxHeartbeats 4000000 in
theorem k_canBe2 (w : am_W) (T : p_D) (S1 : s_S) (bl bo : Int32) (hvT : v_T T) (hvS1 : v_S T.2.2.1 S1) (hT : c_T w 11 T) (hS1 : c_S w 106 T.2.2.1 S1) (hD : c_D w 110) (ho0 : w[100]? = some (.inr (2, [.ref 101, .ref 106, .ref 110, .int bl, .int bo]))) (b c : Nat) (hb : b < 10) (hc : c < 10) : am_Go 21 (0, [.ref 100, .ref 11, .int 2, .int (nI b), .int (nI c), .float 0], [], w, 0, 0) (fun res w' => m_yes (m_can T S1 2 b c) res ∧ am_same (rg 110 8) w w' ∧ c_D w' 110) := by
  have hM : am_P[21]? = some zm_X2_canBe := rfl
  have hn6 : T.2.2.1 ≤ 6 := hvT.1
  have hb0 : nI b = 0 ↔ b = 0 := nI_eq (b := 0) (by omega) (by omega)
  have hc0 : nI c = 0 ↔ c = 0 := nI_eq (b := 0) (by omega) (by omega)
  have hcn : nI T.2.2.1 ≤ nI c ↔ T.2.2.1 ≤ c := nI_leI (by omega) (by omega)
  have hbn : nI T.2.2.1 ≤ nI b ↔ T.2.2.1 ≤ b := nI_leI (by omega) (by omega)
  have hbc : nI b = nI c ↔ b = c := nI_eq (by omega) (by omega)
  refine ar_iload (pc' := 2) hM rfl rfl rfl ?_
  refine ar_aload_n (pc' := 3) hM rfl rfl rfl ?_
  refine ar_getfield (pc' := 6) hM rfl hT.o rfl rfl ?_
  suffices hj6 : ∀ z_6 : Int32, z_6 = (if (nI T.2.2.1) ≤ (nI c) then 0 else 1) → am_Go 21 (14, [.ref 100, .ref 11, .int 2, .int (nI b), .int (nI c), .float 0], [.int z_6], w, 0, 0) _ by
    refine ar_icmp_ge (pc' := 9) hM rfl rfl (fun c => ?_) (fun c => ?_)
    · refine ar_iconst (x := 0) (pc' := 14) hM rfl (by decide) rfl ?_
      exact hj6 _ (if_pos c).symm
    · refine ar_iconst (x := 1) (pc' := 10) hM rfl (by decide) rfl ?_
      refine ar_goto hM rfl ?_
      exact hj6 _ (if_neg c).symm
  rintro _ rfl
  refine ar_istore (pc' := 16) hM rfl rfl rfl rfl ?_
  refine ar_iload_n (pc' := 17) hM rfl rfl rfl ?_
  refine ar_tableIn (off := 75) (t := 92) hM rfl (by decide) (by decide) (by decide) ?_
  refine ar_iload (pc' := 94) hM rfl rfl rfl ?_
  refine ar_if_eq (pc' := 97) hM rfl rfl (fun c94 => ?_) (fun c94 => ?_)
  · refine ar_iconst (x := 0) (pc' := 118) hM rfl (by decide) rfl ?_
    refine ar_ireturn hM rfl (Or.inr (Or.inl rfl)) ?_
    refine ⟨Or.inr ⟨?_, rfl⟩, am_same.rf, hD⟩
    show ¬ ((c < T.2.2.1 ∧ b = 0) ∧ ¬ (S1.2.2.2.2.1 >>> (nI c &&& 31)) &&& 1 = 1)
    grind
  · refine ar_iload_n (pc' := 98) hM rfl rfl rfl ?_
    refine ar_if_ne (pc' := 101) hM rfl rfl (fun c98 => ?_) (fun c98 => ?_)
    · refine ar_iconst (x := 0) (pc' := 118) hM rfl (by decide) rfl ?_
      refine ar_ireturn hM rfl (Or.inr (Or.inl rfl)) ?_
      refine ⟨Or.inr ⟨?_, rfl⟩, am_same.rf, hD⟩
      show ¬ ((c < T.2.2.1 ∧ b = 0) ∧ ¬ (S1.2.2.2.2.1 >>> (nI c &&& 31)) &&& 1 = 1)
      grind
    · refine ar_aload_n (pc' := 102) hM rfl rfl rfl ?_
      refine ar_getfield (pc' := 105) hM rfl ho0 rfl rfl ?_
      refine ar_iload (pc' := 107) hM rfl rfl rfl ?_
      refine ar_virtual (pc' := 110) (k3 := 0) (k4 := 0) hM rfl rfl (hS1.o) ⟨rfl, (by decide)⟩ rfl rfl (by obtain ⟨so, ss, sl, g0, g1, g2, g3, -⟩ := hS1; exact c_isSalted _ 106 (by decide) so ss sl _ _ _ g0 g1 g2 g3 (nI c)) (fun r107 w107 q107 => ?_)
      obtain ⟨rfl, q107w⟩ := q107
      rw [q107w]
      show am_Go 21 (110, [.ref 100, .ref 11, .int 2, .int (nI b), .int (nI c), .int (if (nI T.2.2.1) ≤ (nI c) then 0 else 1)], [.int (if (S1.2.2.2.2.1 >>> (nI c &&& 31)) &&& 1 = 1 then 1 else 0)], w, 0, 0) _
      refine ar_if_ne (pc' := 113) hM rfl rfl (fun c110 => ?_) (fun c110 => ?_)
      · refine ar_iconst (x := 0) (pc' := 118) hM rfl (by decide) rfl ?_
        refine ar_ireturn hM rfl (Or.inr (Or.inl rfl)) ?_
        refine ⟨Or.inr ⟨?_, rfl⟩, am_same.rf, hD⟩
        show ¬ ((c < T.2.2.1 ∧ b = 0) ∧ ¬ (S1.2.2.2.2.1 >>> (nI c &&& 31)) &&& 1 = 1)
        grind
      · refine ar_iconst (x := 1) (pc' := 114) hM rfl (by decide) rfl ?_
        refine ar_goto hM rfl ?_
        refine ar_ireturn hM rfl (Or.inr (Or.inr rfl)) ?_
        refine ⟨Or.inl ⟨?_, rfl⟩, am_same.rf, hD⟩
        show ((c < T.2.2.1 ∧ b = 0) ∧ ¬ (S1.2.2.2.2.1 >>> (nI c &&& 31)) &&& 1 = 1)
        grind
set_option maxRecDepth 100000 in
set_option maxHeartbeats 4000000 in
theorem k_canBe3 (w : am_W) (T : p_D) (S1 : s_S) (bl bo : Int32) (hvT : v_T T) (hvS1 : v_S T.2.2.1 S1) (hT : c_T w 11 T) (hS1 : c_S w 106 T.2.2.1 S1) (hD : c_D w 110) (ho0 : w[100]? = some (.inr (2, [.ref 101, .ref 106, .ref 110, .int bl, .int bo]))) (b c : Nat) (hb : b < 10) (hc : c < 10) : am_Go 21 (0, [.ref 100, .ref 11, .int 3, .int (nI b), .int (nI c), .float 0], [], w, 0, 0) (fun res w' => m_yes (m_can T S1 3 b c) res ∧ am_same (rg 110 8) w w' ∧ c_D w' 110) := by
  have hM : am_P[21]? = some zm_X2_canBe := rfl
  have hn6 : T.2.2.1 ≤ 6 := hvT.1
  have hb0 : nI b = 0 ↔ b = 0 := nI_eq (b := 0) (by omega) (by omega)
  have hc0 : nI c = 0 ↔ c = 0 := nI_eq (b := 0) (by omega) (by omega)
  have hcn : nI T.2.2.1 ≤ nI c ↔ T.2.2.1 ≤ c := nI_leI (by omega) (by omega)
  have hbn : nI T.2.2.1 ≤ nI b ↔ T.2.2.1 ≤ b := nI_leI (by omega) (by omega)
  have hbc : nI b = nI c ↔ b = c := nI_eq (by omega) (by omega)
  refine ar_iload (pc' := 2) hM rfl rfl rfl ?_
  refine ar_aload_n (pc' := 3) hM rfl rfl rfl ?_
  refine ar_getfield (pc' := 6) hM rfl hT.o rfl rfl ?_
  suffices hj6 : ∀ z_6 : Int32, z_6 = (if (nI T.2.2.1) ≤ (nI c) then 0 else 1) → am_Go 21 (14, [.ref 100, .ref 11, .int 3, .int (nI b), .int (nI c), .float 0], [.int z_6], w, 0, 0) _ by
    refine ar_icmp_ge (pc' := 9) hM rfl rfl (fun c => ?_) (fun c => ?_)
    · refine ar_iconst (x := 0) (pc' := 14) hM rfl (by decide) rfl ?_
      exact hj6 _ (if_pos c).symm
    · refine ar_iconst (x := 1) (pc' := 10) hM rfl (by decide) rfl ?_
      refine ar_goto hM rfl ?_
      exact hj6 _ (if_neg c).symm
  rintro _ rfl
  refine ar_istore (pc' := 16) hM rfl rfl rfl rfl ?_
  refine ar_iload_n (pc' := 17) hM rfl rfl rfl ?_
  refine ar_tableIn (off := 102) (t := 119) hM rfl (by decide) (by decide) (by decide) ?_
  refine ar_iload (pc' := 121) hM rfl rfl rfl ?_
  refine ar_if_eq (pc' := 124) hM rfl rfl (fun c121 => ?_) (fun c121 => ?_)
  · refine ar_iconst (x := 0) (pc' := 133) hM rfl (by decide) rfl ?_
    refine ar_ireturn hM rfl (Or.inr (Or.inl rfl)) ?_
    refine ⟨Or.inr ⟨?_, rfl⟩, am_same.rf, hD⟩
    show ¬ (c < T.2.2.1 ∧ b = 0)
    grind
  · refine ar_iload_n (pc' := 125) hM rfl rfl rfl ?_
    refine ar_if_ne (pc' := 128) hM rfl rfl (fun c125 => ?_) (fun c125 => ?_)
    · refine ar_iconst (x := 0) (pc' := 133) hM rfl (by decide) rfl ?_
      refine ar_ireturn hM rfl (Or.inr (Or.inl rfl)) ?_
      refine ⟨Or.inr ⟨?_, rfl⟩, am_same.rf, hD⟩
      show ¬ (c < T.2.2.1 ∧ b = 0)
      grind
    · refine ar_iconst (x := 1) (pc' := 129) hM rfl (by decide) rfl ?_
      refine ar_goto hM rfl ?_
      refine ar_ireturn hM rfl (Or.inr (Or.inr rfl)) ?_
      refine ⟨Or.inl ⟨?_, rfl⟩, am_same.rf, hD⟩
      show (c < T.2.2.1 ∧ b = 0)
      grind
set_option maxRecDepth 100000 in
set_option maxHeartbeats 4000000 in
theorem k_canBe4 (w : am_W) (T : p_D) (S1 : s_S) (bl bo : Int32) (hvT : v_T T) (hvS1 : v_S T.2.2.1 S1) (hT : c_T w 11 T) (hS1 : c_S w 106 T.2.2.1 S1) (hD : c_D w 110) (ho0 : w[100]? = some (.inr (2, [.ref 101, .ref 106, .ref 110, .int bl, .int bo]))) (b c : Nat) (hb : b < 10) (hc : c < 10) : am_Go 21 (0, [.ref 100, .ref 11, .int 4, .int (nI b), .int (nI c), .float 0], [], w, 0, 0) (fun res w' => m_yes (m_can T S1 4 b c) res ∧ am_same (rg 110 8) w w' ∧ c_D w' 110) := by
  have hM : am_P[21]? = some zm_X2_canBe := rfl
  have hn6 : T.2.2.1 ≤ 6 := hvT.1
  have hb0 : nI b = 0 ↔ b = 0 := nI_eq (b := 0) (by omega) (by omega)
  have hc0 : nI c = 0 ↔ c = 0 := nI_eq (b := 0) (by omega) (by omega)
  have hcn : nI T.2.2.1 ≤ nI c ↔ T.2.2.1 ≤ c := nI_leI (by omega) (by omega)
  have hbn : nI T.2.2.1 ≤ nI b ↔ T.2.2.1 ≤ b := nI_leI (by omega) (by omega)
  have hbc : nI b = nI c ↔ b = c := nI_eq (by omega) (by omega)
  refine ar_iload (pc' := 2) hM rfl rfl rfl ?_
  refine ar_aload_n (pc' := 3) hM rfl rfl rfl ?_
  refine ar_getfield (pc' := 6) hM rfl hT.o rfl rfl ?_
  suffices hj6 : ∀ z_6 : Int32, z_6 = (if (nI T.2.2.1) ≤ (nI c) then 0 else 1) → am_Go 21 (14, [.ref 100, .ref 11, .int 4, .int (nI b), .int (nI c), .float 0], [.int z_6], w, 0, 0) _ by
    refine ar_icmp_ge (pc' := 9) hM rfl rfl (fun c => ?_) (fun c => ?_)
    · refine ar_iconst (x := 0) (pc' := 14) hM rfl (by decide) rfl ?_
      exact hj6 _ (if_pos c).symm
    · refine ar_iconst (x := 1) (pc' := 10) hM rfl (by decide) rfl ?_
      refine ar_goto hM rfl ?_
      exact hj6 _ (if_neg c).symm
  rintro _ rfl
  refine ar_istore (pc' := 16) hM rfl rfl rfl rfl ?_
  refine ar_iload_n (pc' := 17) hM rfl rfl rfl ?_
  refine ar_tableIn (off := 117) (t := 134) hM rfl (by decide) (by decide) (by decide) ?_
  refine ar_iload (pc' := 136) hM rfl rfl rfl ?_
  refine ar_if_eq (pc' := 139) hM rfl rfl (fun c136 => ?_) (fun c136 => ?_)
  · refine ar_iconst (x := 0) (pc' := 155) hM rfl (by decide) rfl ?_
    refine ar_ireturn hM rfl (Or.inr (Or.inl rfl)) ?_
    refine ⟨Or.inr ⟨?_, rfl⟩, am_same.rf, hD⟩
    show ¬ (c < T.2.2.1 ∧ m_lk T S1 0 c ≤ nI b)
    grind
  · refine ar_aload_n (pc' := 140) hM rfl rfl rfl ?_
    refine ar_aload_n (pc' := 141) hM rfl rfl rfl ?_
    refine ar_iload (pc' := 143) hM rfl rfl rfl ?_
    refine ar_virtual (pc' := 146) (k3 := 0) (k4 := 0) hM rfl rfl ho0 ⟨rfl, (by decide)⟩ rfl rfl (k_lackOf _ T S1 bl bo hvT hvS1 hT hS1 hD ho0 c (by grind)) (fun r143 w143 q143 => ?_)
    obtain ⟨rfl, hsm, hD2⟩ := q143
    show am_Go 21 (146, [.ref 100, .ref 11, .int 4, .int (nI b), .int (nI c), .int (if (nI T.2.2.1) ≤ (nI c) then 0 else 1)], [.int (m_lk T S1 0 c)], w143, 0, 0) _
    refine ar_iload_n (pc' := 147) hM rfl rfl rfl ?_
    refine ar_icmp_gt (pc' := 150) hM rfl rfl (fun c147 => ?_) (fun c147 => ?_)
    · refine ar_iconst (x := 0) (pc' := 155) hM rfl (by decide) rfl ?_
      refine ar_ireturn hM rfl (Or.inr (Or.inl rfl)) ?_
      refine ⟨Or.inr ⟨?_, rfl⟩, hsm, hD2⟩
      show ¬ (c < T.2.2.1 ∧ m_lk T S1 0 c ≤ nI b)
      grind
    · refine ar_iconst (x := 1) (pc' := 151) hM rfl (by decide) rfl ?_
      refine ar_goto hM rfl ?_
      refine ar_ireturn hM rfl (Or.inr (Or.inr rfl)) ?_
      refine ⟨Or.inl ⟨?_, rfl⟩, hsm, hD2⟩
      show (c < T.2.2.1 ∧ m_lk T S1 0 c ≤ nI b)
      grind
set_option maxRecDepth 100000 in
set_option maxHeartbeats 4000000 in
theorem k_canBe5 (w : am_W) (T : p_D) (S1 : s_S) (bl bo : Int32) (hvT : v_T T) (hvS1 : v_S T.2.2.1 S1) (hT : c_T w 11 T) (hS1 : c_S w 106 T.2.2.1 S1) (hD : c_D w 110) (ho0 : w[100]? = some (.inr (2, [.ref 101, .ref 106, .ref 110, .int bl, .int bo]))) (b c : Nat) (hb : b < 10) (hc : c < 10) : am_Go 21 (0, [.ref 100, .ref 11, .int 5, .int (nI b), .int (nI c), .float 0], [], w, 0, 0) (fun res w' => m_yes (m_can T S1 5 b c) res ∧ am_same (rg 110 8) w w' ∧ c_D w' 110) := by
  have hM : am_P[21]? = some zm_X2_canBe := rfl
  have hn6 : T.2.2.1 ≤ 6 := hvT.1
  have hb0 : nI b = 0 ↔ b = 0 := nI_eq (b := 0) (by omega) (by omega)
  have hc0 : nI c = 0 ↔ c = 0 := nI_eq (b := 0) (by omega) (by omega)
  have hcn : nI T.2.2.1 ≤ nI c ↔ T.2.2.1 ≤ c := nI_leI (by omega) (by omega)
  have hbn : nI T.2.2.1 ≤ nI b ↔ T.2.2.1 ≤ b := nI_leI (by omega) (by omega)
  have hbc : nI b = nI c ↔ b = c := nI_eq (by omega) (by omega)
  refine ar_iload (pc' := 2) hM rfl rfl rfl ?_
  refine ar_aload_n (pc' := 3) hM rfl rfl rfl ?_
  refine ar_getfield (pc' := 6) hM rfl hT.o rfl rfl ?_
  suffices hj6 : ∀ z_6 : Int32, z_6 = (if (nI T.2.2.1) ≤ (nI c) then 0 else 1) → am_Go 21 (14, [.ref 100, .ref 11, .int 5, .int (nI b), .int (nI c), .float 0], [.int z_6], w, 0, 0) _ by
    refine ar_icmp_ge (pc' := 9) hM rfl rfl (fun c => ?_) (fun c => ?_)
    · refine ar_iconst (x := 0) (pc' := 14) hM rfl (by decide) rfl ?_
      exact hj6 _ (if_pos c).symm
    · refine ar_iconst (x := 1) (pc' := 10) hM rfl (by decide) rfl ?_
      refine ar_goto hM rfl ?_
      exact hj6 _ (if_neg c).symm
  rintro _ rfl
  refine ar_istore (pc' := 16) hM rfl rfl rfl rfl ?_
  refine ar_iload_n (pc' := 17) hM rfl rfl rfl ?_
  refine ar_tableOut (t := 156) hM rfl (by decide) (by decide) ?_
  refine ar_iconst (x := 0) (pc' := 157) hM rfl (by decide) rfl ?_
  refine ar_ireturn hM rfl (Or.inr (Or.inl rfl)) ?_
  refine ⟨Or.inr ⟨?_, rfl⟩, am_same.rf, hD⟩
  show ¬ (False)
  grind
set_option maxRecDepth 100000 in
set_option maxHeartbeats 4000000 in
theorem k_canBe6 (w : am_W) (T : p_D) (S1 : s_S) (bl bo : Int32) (hvT : v_T T) (hvS1 : v_S T.2.2.1 S1) (hT : c_T w 11 T) (hS1 : c_S w 106 T.2.2.1 S1) (hD : c_D w 110) (ho0 : w[100]? = some (.inr (2, [.ref 101, .ref 106, .ref 110, .int bl, .int bo]))) (b c : Nat) (hb : b < 10) (hc : c < 10) : am_Go 21 (0, [.ref 100, .ref 11, .int 6, .int (nI b), .int (nI c), .float 0], [], w, 0, 0) (fun res w' => m_yes (m_can T S1 6 b c) res ∧ am_same (rg 110 8) w w' ∧ c_D w' 110) := by
  have hM : am_P[21]? = some zm_X2_canBe := rfl
  have hn6 : T.2.2.1 ≤ 6 := hvT.1
  have hb0 : nI b = 0 ↔ b = 0 := nI_eq (b := 0) (by omega) (by omega)
  have hc0 : nI c = 0 ↔ c = 0 := nI_eq (b := 0) (by omega) (by omega)
  have hcn : nI T.2.2.1 ≤ nI c ↔ T.2.2.1 ≤ c := nI_leI (by omega) (by omega)
  have hbn : nI T.2.2.1 ≤ nI b ↔ T.2.2.1 ≤ b := nI_leI (by omega) (by omega)
  have hbc : nI b = nI c ↔ b = c := nI_eq (by omega) (by omega)
  refine ar_iload (pc' := 2) hM rfl rfl rfl ?_
  refine ar_aload_n (pc' := 3) hM rfl rfl rfl ?_
  refine ar_getfield (pc' := 6) hM rfl hT.o rfl rfl ?_
  suffices hj6 : ∀ z_6 : Int32, z_6 = (if (nI T.2.2.1) ≤ (nI c) then 0 else 1) → am_Go 21 (14, [.ref 100, .ref 11, .int 6, .int (nI b), .int (nI c), .float 0], [.int z_6], w, 0, 0) _ by
    refine ar_icmp_ge (pc' := 9) hM rfl rfl (fun c => ?_) (fun c => ?_)
    · refine ar_iconst (x := 0) (pc' := 14) hM rfl (by decide) rfl ?_
      exact hj6 _ (if_pos c).symm
    · refine ar_iconst (x := 1) (pc' := 10) hM rfl (by decide) rfl ?_
      refine ar_goto hM rfl ?_
      exact hj6 _ (if_neg c).symm
  rintro _ rfl
  refine ar_istore (pc' := 16) hM rfl rfl rfl rfl ?_
  refine ar_iload_n (pc' := 17) hM rfl rfl rfl ?_
  refine ar_tableOut (t := 156) hM rfl (by decide) (by decide) ?_
  refine ar_iconst (x := 0) (pc' := 157) hM rfl (by decide) rfl ?_
  refine ar_ireturn hM rfl (Or.inr (Or.inl rfl)) ?_
  refine ⟨Or.inr ⟨?_, rfl⟩, am_same.rf, hD⟩
  show ¬ (False)
  grind
set_option maxRecDepth 100000 in
set_option maxHeartbeats 4000000 in
theorem k_canBe7 (w : am_W) (T : p_D) (S1 : s_S) (bl bo : Int32) (hvT : v_T T) (hvS1 : v_S T.2.2.1 S1) (hT : c_T w 11 T) (hS1 : c_S w 106 T.2.2.1 S1) (hD : c_D w 110) (ho0 : w[100]? = some (.inr (2, [.ref 101, .ref 106, .ref 110, .int bl, .int bo]))) (b c : Nat) (hb : b < 10) (hc : c < 10) : am_Go 21 (0, [.ref 100, .ref 11, .int 7, .int (nI b), .int (nI c), .float 0], [], w, 0, 0) (fun res w' => m_yes (m_can T S1 7 b c) res ∧ am_same (rg 110 8) w w' ∧ c_D w' 110) := by
  have hM : am_P[21]? = some zm_X2_canBe := rfl
  have hn6 : T.2.2.1 ≤ 6 := hvT.1
  have hb0 : nI b = 0 ↔ b = 0 := nI_eq (b := 0) (by omega) (by omega)
  have hc0 : nI c = 0 ↔ c = 0 := nI_eq (b := 0) (by omega) (by omega)
  have hcn : nI T.2.2.1 ≤ nI c ↔ T.2.2.1 ≤ c := nI_leI (by omega) (by omega)
  have hbn : nI T.2.2.1 ≤ nI b ↔ T.2.2.1 ≤ b := nI_leI (by omega) (by omega)
  have hbc : nI b = nI c ↔ b = c := nI_eq (by omega) (by omega)
  refine ar_iload (pc' := 2) hM rfl rfl rfl ?_
  refine ar_aload_n (pc' := 3) hM rfl rfl rfl ?_
  refine ar_getfield (pc' := 6) hM rfl hT.o rfl rfl ?_
  suffices hj6 : ∀ z_6 : Int32, z_6 = (if (nI T.2.2.1) ≤ (nI c) then 0 else 1) → am_Go 21 (14, [.ref 100, .ref 11, .int 7, .int (nI b), .int (nI c), .float 0], [.int z_6], w, 0, 0) _ by
    refine ar_icmp_ge (pc' := 9) hM rfl rfl (fun c => ?_) (fun c => ?_)
    · refine ar_iconst (x := 0) (pc' := 14) hM rfl (by decide) rfl ?_
      exact hj6 _ (if_pos c).symm
    · refine ar_iconst (x := 1) (pc' := 10) hM rfl (by decide) rfl ?_
      refine ar_goto hM rfl ?_
      exact hj6 _ (if_neg c).symm
  rintro _ rfl
  refine ar_istore (pc' := 16) hM rfl rfl rfl rfl ?_
  refine ar_iload_n (pc' := 17) hM rfl rfl rfl ?_
  refine ar_tableOut (t := 156) hM rfl (by decide) (by decide) ?_
  refine ar_iconst (x := 0) (pc' := 157) hM rfl (by decide) rfl ?_
  refine ar_ireturn hM rfl (Or.inr (Or.inl rfl)) ?_
  refine ⟨Or.inr ⟨?_, rfl⟩, am_same.rf, hD⟩
  show ¬ (False)
  grind
set_option maxRecDepth 100000 in
set_option maxHeartbeats 4000000 in
theorem k_canBe8 (w : am_W) (T : p_D) (S1 : s_S) (bl bo : Int32) (hvT : v_T T) (hvS1 : v_S T.2.2.1 S1) (hT : c_T w 11 T) (hS1 : c_S w 106 T.2.2.1 S1) (hD : c_D w 110) (ho0 : w[100]? = some (.inr (2, [.ref 101, .ref 106, .ref 110, .int bl, .int bo]))) (b c : Nat) (hb : b < 10) (hc : c < 10) : am_Go 21 (0, [.ref 100, .ref 11, .int 8, .int (nI b), .int (nI c), .float 0], [], w, 0, 0) (fun res w' => m_yes (m_can T S1 8 b c) res ∧ am_same (rg 110 8) w w' ∧ c_D w' 110) := by
  have hM : am_P[21]? = some zm_X2_canBe := rfl
  have hn6 : T.2.2.1 ≤ 6 := hvT.1
  have hb0 : nI b = 0 ↔ b = 0 := nI_eq (b := 0) (by omega) (by omega)
  have hc0 : nI c = 0 ↔ c = 0 := nI_eq (b := 0) (by omega) (by omega)
  have hcn : nI T.2.2.1 ≤ nI c ↔ T.2.2.1 ≤ c := nI_leI (by omega) (by omega)
  have hbn : nI T.2.2.1 ≤ nI b ↔ T.2.2.1 ≤ b := nI_leI (by omega) (by omega)
  have hbc : nI b = nI c ↔ b = c := nI_eq (by omega) (by omega)
  refine ar_iload (pc' := 2) hM rfl rfl rfl ?_
  refine ar_aload_n (pc' := 3) hM rfl rfl rfl ?_
  refine ar_getfield (pc' := 6) hM rfl hT.o rfl rfl ?_
  suffices hj6 : ∀ z_6 : Int32, z_6 = (if (nI T.2.2.1) ≤ (nI c) then 0 else 1) → am_Go 21 (14, [.ref 100, .ref 11, .int 8, .int (nI b), .int (nI c), .float 0], [.int z_6], w, 0, 0) _ by
    refine ar_icmp_ge (pc' := 9) hM rfl rfl (fun c => ?_) (fun c => ?_)
    · refine ar_iconst (x := 0) (pc' := 14) hM rfl (by decide) rfl ?_
      exact hj6 _ (if_pos c).symm
    · refine ar_iconst (x := 1) (pc' := 10) hM rfl (by decide) rfl ?_
      refine ar_goto hM rfl ?_
      exact hj6 _ (if_neg c).symm
  rintro _ rfl
  refine ar_istore (pc' := 16) hM rfl rfl rfl rfl ?_
  refine ar_iload_n (pc' := 17) hM rfl rfl rfl ?_
  refine ar_tableOut (t := 156) hM rfl (by decide) (by decide) ?_
  refine ar_iconst (x := 0) (pc' := 157) hM rfl (by decide) rfl ?_
  refine ar_ireturn hM rfl (Or.inr (Or.inl rfl)) ?_
  refine ⟨Or.inr ⟨?_, rfl⟩, am_same.rf, hD⟩
  show ¬ (False)
  grind
set_option maxRecDepth 100000 in
set_option maxHeartbeats 4000000 in
theorem k_canBe9 (w : am_W) (T : p_D) (S1 : s_S) (bl bo : Int32) (hvT : v_T T) (hvS1 : v_S T.2.2.1 S1) (hT : c_T w 11 T) (hS1 : c_S w 106 T.2.2.1 S1) (hD : c_D w 110) (ho0 : w[100]? = some (.inr (2, [.ref 101, .ref 106, .ref 110, .int bl, .int bo]))) (b c : Nat) (hb : b < 10) (hc : c < 10) : am_Go 21 (0, [.ref 100, .ref 11, .int 9, .int (nI b), .int (nI c), .float 0], [], w, 0, 0) (fun res w' => m_yes (m_can T S1 9 b c) res ∧ am_same (rg 110 8) w w' ∧ c_D w' 110) := by
  have hM : am_P[21]? = some zm_X2_canBe := rfl
  have hn6 : T.2.2.1 ≤ 6 := hvT.1
  have hb0 : nI b = 0 ↔ b = 0 := nI_eq (b := 0) (by omega) (by omega)
  have hc0 : nI c = 0 ↔ c = 0 := nI_eq (b := 0) (by omega) (by omega)
  have hcn : nI T.2.2.1 ≤ nI c ↔ T.2.2.1 ≤ c := nI_leI (by omega) (by omega)
  have hbn : nI T.2.2.1 ≤ nI b ↔ T.2.2.1 ≤ b := nI_leI (by omega) (by omega)
  have hbc : nI b = nI c ↔ b = c := nI_eq (by omega) (by omega)
  refine ar_iload (pc' := 2) hM rfl rfl rfl ?_
  refine ar_aload_n (pc' := 3) hM rfl rfl rfl ?_
  refine ar_getfield (pc' := 6) hM rfl hT.o rfl rfl ?_
  suffices hj6 : ∀ z_6 : Int32, z_6 = (if (nI T.2.2.1) ≤ (nI c) then 0 else 1) → am_Go 21 (14, [.ref 100, .ref 11, .int 9, .int (nI b), .int (nI c), .float 0], [.int z_6], w, 0, 0) _ by
    refine ar_icmp_ge (pc' := 9) hM rfl rfl (fun c => ?_) (fun c => ?_)
    · refine ar_iconst (x := 0) (pc' := 14) hM rfl (by decide) rfl ?_
      exact hj6 _ (if_pos c).symm
    · refine ar_iconst (x := 1) (pc' := 10) hM rfl (by decide) rfl ?_
      refine ar_goto hM rfl ?_
      exact hj6 _ (if_neg c).symm
  rintro _ rfl
  refine ar_istore (pc' := 16) hM rfl rfl rfl rfl ?_
  refine ar_iload_n (pc' := 17) hM rfl rfl rfl ?_
  refine ar_tableOut (t := 156) hM rfl (by decide) (by decide) ?_
  refine ar_iconst (x := 0) (pc' := 157) hM rfl (by decide) rfl ?_
  refine ar_ireturn hM rfl (Or.inr (Or.inl rfl)) ?_
  refine ⟨Or.inr ⟨?_, rfl⟩, am_same.rf, hD⟩
  show ¬ (False)
  grind
theorem k_canBe (w : am_W) (T : p_D) (S1 : s_S) (bl bo : Int32) (hvT : v_T T) (hvS1 : v_S T.2.2.1 S1) (hT : c_T w 11 T) (hS1 : c_S w 106 T.2.2.1 S1) (hD : c_D w 110) (ho0 : w[100]? = some (.inr (2, [.ref 101, .ref 106, .ref 110, .int bl, .int bo]))) (a b c : Nat) (ha : a < 10) (hb : b < 10) (hc : c < 10) : am_Go 21 (0, [.ref 100, .ref 11, .int (nI a), .int (nI b), .int (nI c), .float 0], [], w, 0, 0) (fun res w' => m_yes (m_can T S1 a b c) res ∧ am_same (rg 110 8) w w' ∧ c_D w' 110) := by
  match a, ha with
  | 0, _ => exact k_canBe0 w T S1 bl bo hvT hvS1 hT hS1 hD ho0 b c hb hc
  | 1, _ => exact k_canBe1 w T S1 bl bo hvT hvS1 hT hS1 hD ho0 b c hb hc
  | 2, _ => exact k_canBe2 w T S1 bl bo hvT hvS1 hT hS1 hD ho0 b c hb hc
  | 3, _ => exact k_canBe3 w T S1 bl bo hvT hvS1 hT hS1 hD ho0 b c hb hc
  | 4, _ => exact k_canBe4 w T S1 bl bo hvT hvS1 hT hS1 hD ho0 b c hb hc
  | 5, _ => exact k_canBe5 w T S1 bl bo hvT hvS1 hT hS1 hD ho0 b c hb hc
  | 6, _ => exact k_canBe6 w T S1 bl bo hvT hvS1 hT hS1 hD ho0 b c hb hc
  | 7, _ => exact k_canBe7 w T S1 bl bo hvT hvS1 hT hS1 hD ho0 b c hb hc
  | 8, _ => exact k_canBe8 w T S1 bl bo hvT hvS1 hT hS1 hD ho0 b c hb hc
  | 9, _ => exact k_canBe9 w T S1 bl bo hvT hvS1 hT hS1 hD ho0 b c hb hc
  | a + 10, h => omega
set_option maxRecDepth 100000 in
set_option maxHeartbeats 4000000 in
theorem k_carry0 (w : am_W) (T : p_D) (S1 : s_S) (bl bo : Int32) (hvT : v_T T) (hvS1 : v_S T.2.2.1 S1) (hT : c_T w 11 T) (hS1 : c_S w 106 T.2.2.1 S1) (hD : c_D w 110) (ho0 : w[100]? = some (.inr (2, [.ref 101, .ref 106, .ref 110, .int bl, .int bo]))) (b c : Nat) (hb : b < 10) (hc : c < 10) (hcan : m_can T S1 0 b c) : am_Go 23 (0, [.ref 100, .ref 11, .int 0, .int (nI b), .int (nI c)], [], w, 0, 0) (fun res w' => res = none ∧ c_S w' 106 T.2.2.1 (m_do T S1 0 b c) ∧ am_same (rg 106 12) w w' ∧ c_D w' 110) := by
  have hM : am_P[23]? = some zm_X2_carryOut := rfl
  have hn6 : T.2.2.1 ≤ 6 := hvT.1
  refine ar_iload_n (pc' := 1) hM rfl rfl rfl ?_
  refine ar_tableIn (off := 31) (t := 32) hM rfl (by decide) (by decide) (by decide) ?_
  refine ar_aload_n (pc' := 33) hM rfl rfl rfl ?_
  refine ar_getfield (pc' := 36) hM rfl ho0 rfl rfl ?_
  refine ar_aload_n (pc' := 37) hM rfl rfl rfl ?_
  refine ar_aload_n (pc' := 38) hM rfl rfl rfl ?_
  refine ar_getfield (pc' := 41) hM rfl ho0 rfl rfl ?_
  refine ar_virtual (pc' := 44) (k3 := 0) (k4 := 0) hM rfl rfl (hD.o) ⟨rfl, (by decide)⟩ rfl rfl (k_pass _ 110 11 106 T S1 hvT hvS1 hT hS1 hD (by decide) (by decide) (by decide) (by omega) (by omega) (by omega)) (fun r41 w41 q41 => ?_)
  obtain ⟨rfl, hS2, hL2, q41s⟩ := q41
  have hD2 := hL2.d
  have hsm2 : am_same (rg 106 12) w w41 := q41s.mono (fun b hb => by rcases hb with hb | hb <;> unfold rg at * <;> omega)
  show am_Go 23 (44, [.ref 100, .ref 11, .int 0, .int (nI b), .int (nI c)], [], w41, 0, 0) _
  refine ar_goto hM rfl ?_
  refine ar_return hM rfl ?_
  exact ⟨rfl, hS2, hsm2, hD2⟩
set_option maxRecDepth 100000 in
set_option maxHeartbeats 4000000 in
theorem k_carry1 (w : am_W) (T : p_D) (S1 : s_S) (bl bo : Int32) (hvT : v_T T) (hvS1 : v_S T.2.2.1 S1) (hT : c_T w 11 T) (hS1 : c_S w 106 T.2.2.1 S1) (hD : c_D w 110) (ho0 : w[100]? = some (.inr (2, [.ref 101, .ref 106, .ref 110, .int bl, .int bo]))) (b c : Nat) (hb : b < 10) (hc : c < 10) (hcan : m_can T S1 1 b c) : am_Go 23 (0, [.ref 100, .ref 11, .int 1, .int (nI b), .int (nI c)], [], w, 0, 0) (fun res w' => res = none ∧ c_S w' 106 T.2.2.1 (m_do T S1 1 b c) ∧ am_same (rg 106 12) w w' ∧ c_D w' 110) := by
  have hM : am_P[23]? = some zm_X2_carryOut := rfl
  have hn6 : T.2.2.1 ≤ 6 := hvT.1
  refine ar_iload_n (pc' := 1) hM rfl rfl rfl ?_
  refine ar_tableIn (off := 46) (t := 47) hM rfl (by decide) (by decide) (by decide) ?_
  refine ar_aload_n (pc' := 48) hM rfl rfl rfl ?_
  refine ar_getfield (pc' := 51) hM rfl ho0 rfl rfl ?_
  refine ar_iload_n (pc' := 52) hM rfl rfl rfl ?_
  refine ar_iload (pc' := 54) hM rfl rfl rfl ?_
  refine ar_virtual (pc' := 57) (k3 := 0) (k4 := 0) hM rfl rfl (hS1.o) ⟨rfl, (by decide)⟩ rfl rfl (k_exchange _ 106 _ S1 hvS1 hS1 hn6 (by decide) b c hcan.1.2 hcan.1.1) (fun r54 w54 q54 => ?_)
  obtain ⟨rfl, hS2, q54s⟩ := q54
  have hD2 := hD.same q54s (fun b h1 h2 => by unfold rg; omega)
  have hsm2 : am_same (rg 106 12) w w54 := q54s.mono (fun b hb => by unfold rg at *; omega)
  show am_Go 23 (57, [.ref 100, .ref 11, .int 1, .int (nI b), .int (nI c)], [], w54, 0, 0) _
  refine ar_goto hM rfl ?_
  refine ar_return hM rfl ?_
  exact ⟨rfl, hS2, hsm2, hD2⟩
set_option maxRecDepth 100000 in
set_option maxHeartbeats 4000000 in
theorem k_carry2 (w : am_W) (T : p_D) (S1 : s_S) (bl bo : Int32) (hvT : v_T T) (hvS1 : v_S T.2.2.1 S1) (hT : c_T w 11 T) (hS1 : c_S w 106 T.2.2.1 S1) (hD : c_D w 110) (ho0 : w[100]? = some (.inr (2, [.ref 101, .ref 106, .ref 110, .int bl, .int bo]))) (b c : Nat) (hb : b < 10) (hc : c < 10) (hcan : m_can T S1 2 b c) : am_Go 23 (0, [.ref 100, .ref 11, .int 2, .int (nI b), .int (nI c)], [], w, 0, 0) (fun res w' => res = none ∧ c_S w' 106 T.2.2.1 (m_do T S1 2 b c) ∧ am_same (rg 106 12) w w' ∧ c_D w' 110) := by
  have hM : am_P[23]? = some zm_X2_carryOut := rfl
  have hn6 : T.2.2.1 ≤ 6 := hvT.1
  refine ar_iload_n (pc' := 1) hM rfl rfl rfl ?_
  refine ar_tableIn (off := 59) (t := 60) hM rfl (by decide) (by decide) (by decide) ?_
  refine ar_aload_n (pc' := 61) hM rfl rfl rfl ?_
  refine ar_getfield (pc' := 64) hM rfl ho0 rfl rfl ?_
  refine ar_iload (pc' := 66) hM rfl rfl rfl ?_
  refine ar_virtual (pc' := 69) (k3 := 0) (k4 := 0) hM rfl rfl (hS1.o) ⟨rfl, (by decide)⟩ rfl rfl (k_giveSalt _ 106 _ S1 hS1 (by decide) (nI c)) (fun r66 w66 q66 => ?_)
  obtain ⟨rfl, hS2, q66s⟩ := q66
  have hD2 := hD.same q66s (fun b h1 h2 => by unfold rg; omega)
  have hsm2 : am_same (rg 106 12) w w66 := q66s.mono (fun b hb => by unfold rg at *; omega)
  show am_Go 23 (69, [.ref 100, .ref 11, .int 2, .int (nI b), .int (nI c)], [], w66, 0, 0) _
  refine ar_goto hM rfl ?_
  refine ar_return hM rfl ?_
  exact ⟨rfl, hS2, hsm2, hD2⟩
set_option maxRecDepth 100000 in
set_option maxHeartbeats 4000000 in
theorem k_carry3 (w : am_W) (T : p_D) (S1 : s_S) (bl bo : Int32) (hvT : v_T T) (hvS1 : v_S T.2.2.1 S1) (hT : c_T w 11 T) (hS1 : c_S w 106 T.2.2.1 S1) (hD : c_D w 110) (ho0 : w[100]? = some (.inr (2, [.ref 101, .ref 106, .ref 110, .int bl, .int bo]))) (b c : Nat) (hb : b < 10) (hc : c < 10) (hcan : m_can T S1 3 b c) : am_Go 23 (0, [.ref 100, .ref 11, .int 3, .int (nI b), .int (nI c)], [], w, 0, 0) (fun res w' => res = none ∧ c_S w' 106 T.2.2.1 (m_do T S1 3 b c) ∧ am_same (rg 106 12) w w' ∧ c_D w' 110) := by
  have hM : am_P[23]? = some zm_X2_carryOut := rfl
  have hn6 : T.2.2.1 ≤ 6 := hvT.1
  refine ar_iload_n (pc' := 1) hM rfl rfl rfl ?_
  refine ar_tableIn (off := 71) (t := 72) hM rfl (by decide) (by decide) (by decide) ?_
  refine ar_aload_n (pc' := 73) hM rfl rfl rfl ?_
  refine ar_getfield (pc' := 76) hM rfl ho0 rfl rfl ?_
  refine ar_iload (pc' := 78) hM rfl rfl rfl ?_
  refine ar_virtual (pc' := 81) (k3 := 0) (k4 := 0) hM rfl rfl (hS1.o) ⟨rfl, (by decide)⟩ rfl rfl (k_turnAway _ 106 _ S1 hS1 (by decide) (nI c)) (fun r78 w78 q78 => ?_)
  obtain ⟨rfl, hS2, q78s⟩ := q78
  have hD2 := hD.same q78s (fun b h1 h2 => by unfold rg; omega)
  have hsm2 : am_same (rg 106 12) w w78 := q78s.mono (fun b hb => by unfold rg at *; omega)
  show am_Go 23 (81, [.ref 100, .ref 11, .int 3, .int (nI b), .int (nI c)], [], w78, 0, 0) _
  refine ar_goto hM rfl ?_
  refine ar_return hM rfl ?_
  exact ⟨rfl, hS2, hsm2, hD2⟩
set_option maxRecDepth 100000 in
set_option maxHeartbeats 4000000 in
theorem k_carry4 (w : am_W) (T : p_D) (S1 : s_S) (bl bo : Int32) (hvT : v_T T) (hvS1 : v_S T.2.2.1 S1) (hT : c_T w 11 T) (hS1 : c_S w 106 T.2.2.1 S1) (hD : c_D w 110) (ho0 : w[100]? = some (.inr (2, [.ref 101, .ref 106, .ref 110, .int bl, .int bo]))) (b c : Nat) (hb : b < 10) (hc : c < 10) (hcan : m_can T S1 4 b c) : am_Go 23 (0, [.ref 100, .ref 11, .int 4, .int (nI b), .int (nI c)], [], w, 0, 0) (fun res w' => res = none ∧ c_S w' 106 T.2.2.1 (m_do T S1 4 b c) ∧ am_same (rg 106 12) w w' ∧ c_D w' 110) := by
  have hM : am_P[23]? = some zm_X2_carryOut := rfl
  have hn6 : T.2.2.1 ≤ 6 := hvT.1
  refine ar_iload_n (pc' := 1) hM rfl rfl rfl ?_
  refine ar_tableOut (t := 84) hM rfl (by decide) (by decide) ?_
  refine ar_return hM rfl ?_
  exact ⟨rfl, hS1, am_same.rf, hD⟩
set_option maxRecDepth 100000 in
set_option maxHeartbeats 4000000 in
theorem k_carry5 (w : am_W) (T : p_D) (S1 : s_S) (bl bo : Int32) (hvT : v_T T) (hvS1 : v_S T.2.2.1 S1) (hT : c_T w 11 T) (hS1 : c_S w 106 T.2.2.1 S1) (hD : c_D w 110) (ho0 : w[100]? = some (.inr (2, [.ref 101, .ref 106, .ref 110, .int bl, .int bo]))) (b c : Nat) (hb : b < 10) (hc : c < 10) (hcan : m_can T S1 5 b c) : am_Go 23 (0, [.ref 100, .ref 11, .int 5, .int (nI b), .int (nI c)], [], w, 0, 0) (fun res w' => res = none ∧ c_S w' 106 T.2.2.1 (m_do T S1 5 b c) ∧ am_same (rg 106 12) w w' ∧ c_D w' 110) := by
  have hM : am_P[23]? = some zm_X2_carryOut := rfl
  have hn6 : T.2.2.1 ≤ 6 := hvT.1
  refine ar_iload_n (pc' := 1) hM rfl rfl rfl ?_
  refine ar_tableOut (t := 84) hM rfl (by decide) (by decide) ?_
  refine ar_return hM rfl ?_
  exact ⟨rfl, hS1, am_same.rf, hD⟩
set_option maxRecDepth 100000 in
set_option maxHeartbeats 4000000 in
theorem k_carry6 (w : am_W) (T : p_D) (S1 : s_S) (bl bo : Int32) (hvT : v_T T) (hvS1 : v_S T.2.2.1 S1) (hT : c_T w 11 T) (hS1 : c_S w 106 T.2.2.1 S1) (hD : c_D w 110) (ho0 : w[100]? = some (.inr (2, [.ref 101, .ref 106, .ref 110, .int bl, .int bo]))) (b c : Nat) (hb : b < 10) (hc : c < 10) (hcan : m_can T S1 6 b c) : am_Go 23 (0, [.ref 100, .ref 11, .int 6, .int (nI b), .int (nI c)], [], w, 0, 0) (fun res w' => res = none ∧ c_S w' 106 T.2.2.1 (m_do T S1 6 b c) ∧ am_same (rg 106 12) w w' ∧ c_D w' 110) := by
  have hM : am_P[23]? = some zm_X2_carryOut := rfl
  have hn6 : T.2.2.1 ≤ 6 := hvT.1
  refine ar_iload_n (pc' := 1) hM rfl rfl rfl ?_
  refine ar_tableOut (t := 84) hM rfl (by decide) (by decide) ?_
  refine ar_return hM rfl ?_
  exact ⟨rfl, hS1, am_same.rf, hD⟩
set_option maxRecDepth 100000 in
set_option maxHeartbeats 4000000 in
theorem k_carry7 (w : am_W) (T : p_D) (S1 : s_S) (bl bo : Int32) (hvT : v_T T) (hvS1 : v_S T.2.2.1 S1) (hT : c_T w 11 T) (hS1 : c_S w 106 T.2.2.1 S1) (hD : c_D w 110) (ho0 : w[100]? = some (.inr (2, [.ref 101, .ref 106, .ref 110, .int bl, .int bo]))) (b c : Nat) (hb : b < 10) (hc : c < 10) (hcan : m_can T S1 7 b c) : am_Go 23 (0, [.ref 100, .ref 11, .int 7, .int (nI b), .int (nI c)], [], w, 0, 0) (fun res w' => res = none ∧ c_S w' 106 T.2.2.1 (m_do T S1 7 b c) ∧ am_same (rg 106 12) w w' ∧ c_D w' 110) := by
  have hM : am_P[23]? = some zm_X2_carryOut := rfl
  have hn6 : T.2.2.1 ≤ 6 := hvT.1
  refine ar_iload_n (pc' := 1) hM rfl rfl rfl ?_
  refine ar_tableOut (t := 84) hM rfl (by decide) (by decide) ?_
  refine ar_return hM rfl ?_
  exact ⟨rfl, hS1, am_same.rf, hD⟩
set_option maxRecDepth 100000 in
set_option maxHeartbeats 4000000 in
theorem k_carry8 (w : am_W) (T : p_D) (S1 : s_S) (bl bo : Int32) (hvT : v_T T) (hvS1 : v_S T.2.2.1 S1) (hT : c_T w 11 T) (hS1 : c_S w 106 T.2.2.1 S1) (hD : c_D w 110) (ho0 : w[100]? = some (.inr (2, [.ref 101, .ref 106, .ref 110, .int bl, .int bo]))) (b c : Nat) (hb : b < 10) (hc : c < 10) (hcan : m_can T S1 8 b c) : am_Go 23 (0, [.ref 100, .ref 11, .int 8, .int (nI b), .int (nI c)], [], w, 0, 0) (fun res w' => res = none ∧ c_S w' 106 T.2.2.1 (m_do T S1 8 b c) ∧ am_same (rg 106 12) w w' ∧ c_D w' 110) := by
  have hM : am_P[23]? = some zm_X2_carryOut := rfl
  have hn6 : T.2.2.1 ≤ 6 := hvT.1
  refine ar_iload_n (pc' := 1) hM rfl rfl rfl ?_
  refine ar_tableOut (t := 84) hM rfl (by decide) (by decide) ?_
  refine ar_return hM rfl ?_
  exact ⟨rfl, hS1, am_same.rf, hD⟩
set_option maxRecDepth 100000 in
set_option maxHeartbeats 4000000 in
theorem k_carry9 (w : am_W) (T : p_D) (S1 : s_S) (bl bo : Int32) (hvT : v_T T) (hvS1 : v_S T.2.2.1 S1) (hT : c_T w 11 T) (hS1 : c_S w 106 T.2.2.1 S1) (hD : c_D w 110) (ho0 : w[100]? = some (.inr (2, [.ref 101, .ref 106, .ref 110, .int bl, .int bo]))) (b c : Nat) (hb : b < 10) (hc : c < 10) (hcan : m_can T S1 9 b c) : am_Go 23 (0, [.ref 100, .ref 11, .int 9, .int (nI b), .int (nI c)], [], w, 0, 0) (fun res w' => res = none ∧ c_S w' 106 T.2.2.1 (m_do T S1 9 b c) ∧ am_same (rg 106 12) w w' ∧ c_D w' 110) := by
  have hM : am_P[23]? = some zm_X2_carryOut := rfl
  have hn6 : T.2.2.1 ≤ 6 := hvT.1
  refine ar_iload_n (pc' := 1) hM rfl rfl rfl ?_
  refine ar_tableOut (t := 84) hM rfl (by decide) (by decide) ?_
  refine ar_return hM rfl ?_
  exact ⟨rfl, hS1, am_same.rf, hD⟩
theorem k_carry (w : am_W) (T : p_D) (S1 : s_S) (bl bo : Int32) (hvT : v_T T) (hvS1 : v_S T.2.2.1 S1) (hT : c_T w 11 T) (hS1 : c_S w 106 T.2.2.1 S1) (hD : c_D w 110) (ho0 : w[100]? = some (.inr (2, [.ref 101, .ref 106, .ref 110, .int bl, .int bo]))) (a b c : Nat) (ha : a < 10) (hb : b < 10) (hc : c < 10) (hcan : m_can T S1 a b c) : am_Go 23 (0, [.ref 100, .ref 11, .int (nI a), .int (nI b), .int (nI c)], [], w, 0, 0) (fun res w' => res = none ∧ c_S w' 106 T.2.2.1 (m_do T S1 a b c) ∧ am_same (rg 106 12) w w' ∧ c_D w' 110) := by
  match a, ha, hcan with
  | 0, _, hcan => exact k_carry0 w T S1 bl bo hvT hvS1 hT hS1 hD ho0 b c hb hc hcan
  | 1, _, hcan => exact k_carry1 w T S1 bl bo hvT hvS1 hT hS1 hD ho0 b c hb hc hcan
  | 2, _, hcan => exact k_carry2 w T S1 bl bo hvT hvS1 hT hS1 hD ho0 b c hb hc hcan
  | 3, _, hcan => exact k_carry3 w T S1 bl bo hvT hvS1 hT hS1 hD ho0 b c hb hc hcan
  | 4, _, hcan => exact k_carry4 w T S1 bl bo hvT hvS1 hT hS1 hD ho0 b c hb hc hcan
  | 5, _, hcan => exact k_carry5 w T S1 bl bo hvT hvS1 hT hS1 hD ho0 b c hb hc hcan
  | 6, _, hcan => exact k_carry6 w T S1 bl bo hvT hvS1 hT hS1 hD ho0 b c hb hc hcan
  | 7, _, hcan => exact k_carry7 w T S1 bl bo hvT hvS1 hT hS1 hD ho0 b c hb hc hcan
  | 8, _, hcan => exact k_carry8 w T S1 bl bo hvT hvS1 hT hS1 hD ho0 b c hb hc hcan
  | 9, _, hcan => exact k_carry9 w T S1 bl bo hvT hvS1 hT hS1 hD ho0 b c hb hc hcan
  | a + 10, h, _ => omega
theorem l_wd_N : ∀ (k R : Nat), R < 2 ^ 63 → l_wd (lN R) k = lN (R / 1000 ^ k)
  | 0, R, _ => by show lN R = lN (R / 1); rw [Nat.div_one]
  | k + 1, R, h => by
    show l_wd (lN R) k / 1000 = _
    rw [l_wd_N k R h, show (1000 : Int64) = lN 1000 from rfl, pk_lDiv (Nat.lt_of_le_of_lt (Nat.div_le_self _ _) h) (by decide) (by decide), Nat.div_div_eq_div_mul, Nat.pow_succ]
theorem l_toI {m : Nat} (h : m < 2 ^ 31) : Int64.toInt32 (lN m) = nI m := by
  rw [← nI_l h]; exact Int32.toInt32_toInt64 _
/-- the doing at a place -/
def m_dg (n R j : Nat) : Nat := R / 1000 ^ (n - 1 - j) % 1000
/-- the standing after the first doings, if they can be -/
def m_jd (T : p_D) (S : s_S) (n R : Nat) : Nat → s_S
  | 0 => S
  | j + 1 => m_do T (m_jd T S n R j) (m_dg n R j / 100) (m_dg n R j / 10 % 10) (m_dg n R j % 10)
def m_ok (T : p_D) (S : s_S) (n R j : Nat) : Prop := m_can T (m_jd T S n R j) (m_dg n R j / 100) (m_dg n R j / 10 % 10) (m_dg n R j % 10)
/-- the first doing that cannot be -/
def m_jr (T : p_D) (S : s_S) (n R : Nat) (r : Option Value) : Prop := (∃ j, j < n ∧ ¬ m_ok T S n R j ∧ (∀ i, i < j → m_ok T S n R i) ∧ r = some (.int (nI j))) ∨ ((∀ i, i < n → m_ok T S n R i) ∧ r = some (.int (-9)))
theorem m_jd_v {T : p_D} {S : s_S} {n R : Nat} (hn : T.2.2.1 ≤ 6) (h : v_S T.2.2.1 S) : ∀ j, S.2.2.2.2.2.2 + j < 2 ^ 30 → (∀ i, i < j → m_ok T S n R i) → v_S T.2.2.1 (m_jd T S n R j) ∧ (m_jd T S n R j).2.2.2.2.2.2 ≤ S.2.2.2.2.2.2 + j
  | 0, _, _ => ⟨h, Nat.le_refl _⟩
  | j + 1, hd, hi => by
    obtain ⟨a1, a2⟩ := m_jd_v hn h j (by omega) (fun i q => hi i (by omega))
    obtain ⟨b1, b2⟩ := m_do_v hn a1 (by omega) rfl (hi j (by omega))
    exact ⟨b1, Nat.le_trans b2 (by omega)⟩
set_option maxRecDepth 100000 in
set_option maxHeartbeats 4000000 in
theorem k_firstNotSo (w : am_W) (T : p_D) (S : s_S) (bl bo : Int32) (hvT : v_T T) (hvS : v_S T.2.2.1 S) (hT : c_T w 11 T) (hN : c_S w 16 T.2.2.1 S) (hR : c_R w 106) (hD : c_D w 110) (ho0 : w[100]? = some (.inr (2, [.ref 101, .ref 106, .ref 110, .int bl, .int bo]))) (hdy : S.2.2.2.2.2.2 + 10 < 2 ^ 30) (k R : Nat) (hk : k ≤ 4) (hRR : R < 2 ^ 63) : am_Go 20 (0, [.ref 100, .ref 11, .ref 16, .int (nI k), .long (lN R), .float 0, .float 0, .float 0, .float 0, .float 0, .float 0], [], w, 0, 0) (fun res w' => m_jr T S k R res ∧ am_same (rg 106 12) w w' ∧ c_R w' 106 ∧ c_D w' 110) := by
  have hM : am_P[20]? = some zm_X2_firstNotSo := rfl
  have ht0 : w[11]? = some (.inr (9, [.int T.1, .int T.2.1, .int (nI T.2.2.1), .int (nI T.2.2.2.1), .ref 12, .ref 13, .ref 14, .ref 15])) := by obtain ⟨_, _, _, _, h, -⟩ := hT; exact h
  have hn6 : T.2.2.1 ≤ 6 := hvT.1
  obtain ⟨_, _, _, x6, y6, z6, hr6, -⟩ := id hR
  refine ar_aload_n (pc' := 1) hM rfl rfl rfl ?_
  refine ar_getfield (pc' := 4) hM rfl ho0 rfl rfl ?_
  refine ar_aload_n (pc' := 5) hM rfl rfl rfl ?_
  refine ar_virtual (pc' := 8) (k3 := 0) (k4 := 0) hM rfl rfl hr6 ⟨rfl, (by decide)⟩ rfl rfl (k_copyR _ 106 16 _ S hR hN hn6 (by decide) (by decide) (by omega)) (fun r5 w5 q5 => ?_)
  obtain ⟨rfl, hS1, q5s⟩ := q5
  have hsm0 : am_same (rg 106 12) w w5 := q5s.mono (fun b hb => by unfold rg at *; omega)
  show am_Go 20 (8, [.ref 100, .ref 11, .ref 16, .int (nI k), .long (lN R), .float 0, .float 0, .float 0, .float 0, .float 0, .float 0], [], w5, 0, 0) _
  refine ar_iconst (x := 0) (pc' := 9) hM rfl (by decide) rfl ?_
  refine ar_istore (pc' := 11) hM rfl rfl rfl rfl ?_
  have loop : ∀ (dj j : Nat) (wj : am_W) (z7 : Value) (z8 : Value) (z9 : Value) (z10 : Value), dj + j = k → (∀ i, i < j → m_ok T S k R i) → (c_S wj 106 T.2.2.1 (m_jd T S k R j)) → (c_D wj 110) → (am_same (rg 106 12) w wj) → am_Go 20 (11, [.ref 100, .ref 11, .ref 16, .int (nI k), .long (lN R), .float 0, .int (nI j), z7, z8, z9, z10], [], wj, 0, 0) (fun res w' => m_jr T S k R res ∧ am_same (rg 106 12) w w' ∧ c_R w' 106 ∧ c_D w' 110) := by
    intro dj
    induction dj with
    | zero =>
      intro j wj z7 z8 z9 z10 hj hall hS hD hsm
      refine ar_iload (pc' := 13) hM rfl rfl rfl ?_
      refine ar_iload_n (pc' := 14) hM rfl rfl rfl ?_
      refine ar_icmp_ge (pc' := 17) hM rfl rfl (fun _ => ?_) (fun q => absurd (nI_le (a := k) (b := j) (by omega) (by omega)) q)
      refine ar_bipush (x := (-9)) (pc' := 95) hM rfl (by decide) rfl ?_
      refine ar_ireturn hM rfl (Or.inl rfl) ?_
      exact ⟨Or.inr ⟨fun i hi => hall i (by omega), rfl⟩, hsm, hS.r, hD⟩
    | succ dj ih =>
      intro j wj z7 z8 z9 z10 hj hall hS hD hsm
      have hvj := (m_jd_v hn6 hvS j (by omega) hall).1
      have hd0 : m_dg k R j < 1000 := Nat.mod_lt _ (by decide)
      have hd1 : m_dg k R j / 100 < 10 := by omega
      have hd2 : m_dg k R j / 10 % 10 < 10 := by omega
      have hd3 : m_dg k R j % 10 < 10 := by omega
      refine ar_iload (pc' := 13) hM rfl rfl rfl ?_
      refine ar_iload_n (pc' := 14) hM rfl rfl rfl ?_
      refine ar_icmp_ge (pc' := 17) hM rfl rfl (fun q => absurd q (nI_ge (a := j) (b := k) (by omega) (by omega))) (fun _ => ?_)
      refine ar_lload (pc' := 19) hM rfl rfl rfl ?_
      refine ar_iload_n (pc' := 20) hM rfl rfl rfl ?_
      refine ar_iconst (x := 1) (pc' := 21) hM rfl (by decide) rfl ?_
      refine ar_isub (pc' := 22) hM rfl rfl ?_
      refine ar_iload (pc' := 24) hM rfl rfl rfl ?_
      refine ar_isub (pc' := 25) hM rfl rfl ?_
      rw [show (((nI k) - 1) - (nI j) : Int32) = nI (k - 1 - j) from (by rw [i_pred (by omega), pk_sub (by omega)])]
      refine ar_static (pc' := 28) (k3 := 0) (k4 := 0) hM rfl (by decide) rfl rfl (c_withoutDoings _ (lN R) (k - 1 - j) (by omega)) (fun r25 w25 q25 => ?_)
      obtain ⟨rfl, q25w⟩ := q25
      rw [q25w]
      show am_Go 20 (28, [.ref 100, .ref 11, .ref 16, .int (nI k), .long (lN R), .float 0, .int (nI j), z7, z8, z9, z10], [.long (l_wd (lN R) (k - 1 - j))], wj, 0, 0) _
      refine ar_ldc2_w (x := 1000) (pc' := 31) hM rfl (by decide) rfl ?_
      refine ar_lrem (pc' := 32) hM rfl (by decide) rfl ?_
      refine ar_l2i (pc' := 33) hM rfl rfl ?_
      rw [show (Int64.toInt32 ((l_wd (lN R) (k - 1 - j)) - (l_wd (lN R) (k - 1 - j)) / 1000 * 1000) : Int32) = nI (m_dg k R j) from (by rw [l_wd_N _ _ hRR, show (1000 : Int64) = lN 1000 from rfl, pk_lRem (Nat.lt_of_le_of_lt (Nat.div_le_self _ _) hRR) (by decide) (by decide)]; exact l_toI (by omega))]
      refine ar_istore (pc' := 35) hM rfl rfl rfl rfl ?_
      refine ar_iload (pc' := 37) hM rfl rfl rfl ?_
      refine ar_bipush (x := 100) (pc' := 39) hM rfl (by decide) rfl ?_
      refine ar_idiv (pc' := 40) hM rfl (by decide) rfl ?_
      rw [show ((nI (m_dg k R j)) / 100 : Int32) = nI ((m_dg k R j) / 100) from (pk_div (d := 100) (by omega) (by decide) (by decide))]
      refine ar_istore (pc' := 42) hM rfl rfl rfl rfl ?_
      refine ar_iload (pc' := 44) hM rfl rfl rfl ?_
      refine ar_bipush (x := 10) (pc' := 46) hM rfl (by decide) rfl ?_
      refine ar_idiv (pc' := 47) hM rfl (by decide) rfl ?_
      rw [show ((nI (m_dg k R j)) / 10 : Int32) = nI ((m_dg k R j) / 10) from (pk_div (d := 10) (by omega) (by decide) (by decide))]
      refine ar_bipush (x := 10) (pc' := 49) hM rfl (by decide) rfl ?_
      refine ar_irem (pc' := 50) hM rfl (by decide) rfl ?_
      rw [show ((nI ((m_dg k R j) / 10)) - (nI ((m_dg k R j) / 10)) / 10 * 10 : Int32) = nI ((m_dg k R j) / 10 % 10) from (pk_rem (d := 10) (by omega) (by decide) (by decide))]
      refine ar_istore (pc' := 52) hM rfl rfl rfl rfl ?_
      refine ar_iload (pc' := 54) hM rfl rfl rfl ?_
      refine ar_bipush (x := 10) (pc' := 56) hM rfl (by decide) rfl ?_
      refine ar_irem (pc' := 57) hM rfl (by decide) rfl ?_
      rw [show ((nI (m_dg k R j)) - (nI (m_dg k R j)) / 10 * 10 : Int32) = nI ((m_dg k R j) % 10) from (pk_rem (d := 10) (by omega) (by decide) (by decide))]
      refine ar_istore (pc' := 59) hM rfl rfl rfl rfl ?_
      refine ar_aload_n (pc' := 60) hM rfl rfl rfl ?_
      refine ar_aload_n (pc' := 61) hM rfl rfl rfl ?_
      refine ar_iload (pc' := 63) hM rfl rfl rfl ?_
      refine ar_iload (pc' := 65) hM rfl rfl rfl ?_
      refine ar_iload (pc' := 67) hM rfl rfl rfl ?_
      refine ar_virtual (pc' := 70) (k3 := 0) (k4 := 0) hM rfl rfl (hsm.at (by unfold rg; omega) ho0) ⟨rfl, (by decide)⟩ rfl rfl (k_canBe _ T (m_jd T S k R j) bl bo hvT hvj (hT.same hsm (fun b h1 h2 => by unfold rg; omega)) hS hD (hsm.at (by unfold rg; omega) ho0) _ _ _ hd1 hd2 hd3) (fun r67 w67 q67 => ?_)
      obtain ⟨hy, q67s, hD2⟩ := q67
      have hsm2 : am_same (rg 106 12) w w67 := hsm.tr (q67s.mono (fun b hb => by unfold rg at *; omega))
      have hS2 := hS.same q67s (fun b h1 h2 => by unfold rg; omega)
      obtain ⟨z67, rfl, hy⟩ : ∃ z, r67 = some (.int z) ∧ m_yes (m_ok T S k R j) (some (.int z)) := by rcases hy with ⟨y1, rfl⟩ | ⟨y1, rfl⟩; exact ⟨1, rfl, Or.inl ⟨y1, rfl⟩⟩; exact ⟨0, rfl, Or.inr ⟨y1, rfl⟩⟩
      show am_Go 20 (70, [.ref 100, .ref 11, .ref 16, .int (nI k), .long (lN R), .float 0, .int (nI j), .int (nI (m_dg k R j)), .int (nI ((m_dg k R j) / 100)), .int (nI ((m_dg k R j) / 10 % 10)), .int (nI ((m_dg k R j) % 10))], [.int z67], w67, 0, 0) _
      refine ar_if_ne (pc' := 73) hM rfl rfl (fun c70 => ?_) (fun c70 => ?_)
      · have hok : m_ok T S k R j := by rcases hy with ⟨y1, _⟩ | ⟨_, y2⟩; exact y1; cases y2; exact absurd rfl c70
        refine ar_aload_n (pc' := 77) hM rfl rfl rfl ?_
        refine ar_aload_n (pc' := 78) hM rfl rfl rfl ?_
        refine ar_iload (pc' := 80) hM rfl rfl rfl ?_
        refine ar_iload (pc' := 82) hM rfl rfl rfl ?_
        refine ar_iload (pc' := 84) hM rfl rfl rfl ?_
        refine ar_virtual (pc' := 87) (k3 := 0) (k4 := 0) hM rfl rfl (hsm2.at (by unfold rg; omega) ho0) ⟨rfl, (by decide)⟩ rfl rfl (k_carry _ T (m_jd T S k R j) bl bo hvT hvj (hT.same hsm2 (fun b h1 h2 => by unfold rg; omega)) hS2 hD2 (hsm2.at (by unfold rg; omega) ho0) _ _ _ hd1 hd2 hd3 hok) (fun r84 w84 q84 => ?_)
        obtain ⟨rfl, hS3, q84s, hD3⟩ := q84
        have hsm3 : am_same (rg 106 12) w w84 := hsm2.tr q84s
        show am_Go 20 (87, [.ref 100, .ref 11, .ref 16, .int (nI k), .long (lN R), .float 0, .int (nI j), .int (nI (m_dg k R j)), .int (nI ((m_dg k R j) / 100)), .int (nI ((m_dg k R j) / 10 % 10)), .int (nI ((m_dg k R j) % 10))], [], w84, 0, 0) _
        refine ar_iinc (z := nI (j + 1)) (pc' := 90) hM rfl rfl (nI_1 _) rfl rfl rfl ?_
        refine ar_goto hM rfl ?_
        exact ih (j + 1) w84 (.int (nI (m_dg k R j))) (.int (nI ((m_dg k R j) / 100))) (.int (nI ((m_dg k R j) / 10 % 10))) (.int (nI ((m_dg k R j) % 10))) (by omega) (fun i hi => by rcases Nat.lt_or_ge i j with q | q; exact hall i q; rw [show i = j by omega]; exact hok) hS3 hD3 hsm3
      · refine ar_iload (pc' := 75) hM rfl rfl rfl ?_
        refine ar_ireturn hM rfl (Or.inl rfl) ?_
        exact ⟨Or.inl ⟨j, by omega, (by rcases hy with ⟨_, y2⟩ | ⟨y1, _⟩; (cases y2; exact absurd c70 (by decide)); exact y1), hall, rfl⟩, hsm2, hS2.r, hD2⟩
  exact loop (k) 0 w5 (.float 0) (.float 0) (.float 0) (.float 0) (by omega) (fun i hi => by omega) hS1 (hD.same q5s (fun b h1 h2 => by unfold rg; omega)) hsm0
end
section
/-! orders of houses: the next one by figures -/
def m_trn (o : Nat → Nat) : Nat → Nat
  | 0 => 0
  | k + 1 => if o (k + 1) < o k then m_trn o k else k + 1
def m_lgr (o : Nat → Nat) (t : Nat) : Nat → Nat
  | 0 => 0
  | k + 1 => if t < k + 1 ∧ o (k + 1) < o t then m_lgr o t k else k + 1
def m_xc (o : Nat → Nat) (a b : Nat) : Nat → Nat := fun i => if i = b then o a else if i = a then o b else o i
def m_rv : Nat → (Nat → Nat) → Nat → Nat → Nat → Nat
  | 0, o, _, _ => o
  | f + 1, o, lo, hi => if lo < hi then m_rv f (m_xc o lo hi) (lo + 1) (hi - 1) else o
def m_nxt (n : Nat) (o : Nat → Nat) : Nat → Nat := if m_trn o (n - 1) = 0 then o else m_rv n (m_xc o (m_trn o (n - 1) - 1) (m_lgr o (m_trn o (n - 1) - 1) (n - 1))) (m_trn o (n - 1)) (n - 1)
theorem m_trn_le (o : Nat → Nat) : ∀ k, m_trn o k ≤ k
  | 0 => Nat.le_refl _
  | k + 1 => by
    unfold m_trn
    split
    · exact Nat.le_succ_of_le (m_trn_le o k)
    · exact Nat.le_refl _
theorem m_lgr_le (o : Nat → Nat) (t : Nat) : ∀ k, m_lgr o t k ≤ k
  | 0 => Nat.le_refl _
  | k + 1 => by
    unfold m_lgr
    split
    · exact Nat.le_succ_of_le (m_lgr_le o t k)
    · exact Nat.le_refl _
theorem m_xc_lt {o : Nat → Nat} {a b M : Nat} (h : ∀ p, p < 6 → o p < M) (ha : a < 6) (hb : b < 6) : ∀ p, p < 6 → m_xc o a b p < M := by
  intro p hp
  unfold m_xc
  split
  · exact h _ ha
  · split
    · exact h _ hb
    · exact h _ hp
theorem m_xc_upd {f : Nat → Int32} {o : Nat → Nat} {a b : Nat} (h : ∀ p, p < 6 → f p = nI (o p)) (ha : a < 6) (hb : b < 6) : ∀ p, p < 6 → upd (upd f a (f b)) b (f a) p = nI (m_xc o a b p) := by
  intro p hp
  unfold m_xc
  by_cases q : p = b
  · rw [if_pos q, q, pk_us, h a ha]
  · rw [if_neg q, pk_un q]
    by_cases q2 : p = a
    · rw [if_pos q2, q2, pk_us, h b hb]
    · rw [if_neg q2, pk_un q2, h p hp]
def i_fig (f : Nat → Int32) : Nat → Int32
  | 0 => 0
  | k + 1 => 10 * i_fig f k + f k + 1
theorem i_fig_congr {f g : Nat → Int32} : ∀ {n : Nat}, (∀ h, h < n → f h = g h) → i_fig f n = i_fig g n
  | 0, _ => rfl
  | n + 1, h => by show 10 * i_fig f n + f n + 1 = 10 * i_fig g n + g n + 1; rw [i_fig_congr (fun k hk => h k (by omega)), h n (by omega)]
theorem i_m1 (k : Nat) : nI k + -1 = nI k - 1 := by rw [Int32.sub_eq_add_neg]
theorem i_m1' {k : Nat} (h : 0 < k) : nI k + -1 = nI (k - 1) := by rw [i_m1, i_pred h]
set_option maxRecDepth 100000 in
set_option maxHeartbeats 4000000 in
theorem c_xp (w : am_W) (q : Nat) (h2q : 2 ≤ q) (f : Nat → Int32) (hq : w[q]? = some (.inl (0, 6, .inl f))) (a b : Nat) (ha : a < 6) (hb : b < 6) : am_Go 17 (0, [.ref q, .int (nI a), .int (nI b), .float 0], [], w, 0, 0) (fun res w' => res = none ∧ w' = w.set q (.inl (0, 6, .inl (upd (upd f a (f b)) b (f a))))) := by
  have hM : am_P[17]? = some zm_X2_exchangePlaces := rfl
  refine ar_aload_n (pc' := 1) hM rfl rfl rfl ?_
  refine ar_iload_n (pc' := 2) hM rfl rfl rfl ?_
  refine ar_ialoadN (j := a) (pc' := 3) hM rfl hq rfl (by omega) (Nat.le_of_ble_eq_true rfl) rfl ?_
  refine ar_istore_n (pc' := 4) hM rfl rfl rfl rfl ?_
  refine ar_aload_n (pc' := 5) hM rfl rfl rfl ?_
  refine ar_iload_n (pc' := 6) hM rfl rfl rfl ?_
  refine ar_aload_n (pc' := 7) hM rfl rfl rfl ?_
  refine ar_iload_n (pc' := 8) hM rfl rfl rfl ?_
  refine ar_ialoadN (j := b) (pc' := 9) hM rfl hq rfl (by omega) (Nat.le_of_ble_eq_true rfl) rfl ?_
  refine ar_iastoreN (j := a) (pc' := 10) hM rfl hq rfl (by omega) (Nat.le_of_ble_eq_true rfl) (by omega) rfl ?_
  refine ar_aload_n (pc' := 11) hM rfl rfl rfl ?_
  refine ar_iload_n (pc' := 12) hM rfl rfl rfl ?_
  refine ar_iload_n (pc' := 13) hM rfl rfl rfl ?_
  refine ar_iastoreN (j := b) (pc' := 14) hM rfl (am_gs hq) rfl (by omega) (Nat.le_of_ble_eq_true rfl) (by omega) rfl ?_
  refine ar_return hM rfl ?_
  refine ⟨rfl, ?_⟩
  rw [List.set_set]
set_option maxRecDepth 100000 in
set_option maxHeartbeats 4000000 in
theorem c_figures (w : am_W) (bl bo : Int32) (x6 y6 z6 : Int32) (f : Nat → Int32) (ho0 : w[100]? = some (.inr (2, [.ref 101, .ref 106, .ref 110, .int bl, .int bo]))) (hr6 : w[106]? = some (.inr (6, [.ref 107, .ref 108, .ref 109, .int x6, .int y6, .int z6]))) (hf : w[107]? = some (.inl (0, 6, .inl f))) (n : Nat) (hn : n ≤ 6) : am_Go 15 (0, [.ref 100, .int (nI n), .float 0, .float 0], [], w, 0, 0) (fun res w' => res = some (.int (i_fig f n)) ∧ w' = w) := by
  have hM : am_P[15]? = some zm_X2_figures := rfl
  refine ar_iconst (x := 0) (pc' := 1) hM rfl (by decide) rfl ?_
  refine ar_istore_n (pc' := 2) hM rfl rfl rfl rfl ?_
  refine ar_iconst (x := 0) (pc' := 3) hM rfl (by decide) rfl ?_
  refine ar_istore_n (pc' := 4) hM rfl rfl rfl rfl ?_
  have loop : ∀ (dj j : Nat) (x : Int32), dj + j = n → (x = i_fig f j) → am_Go 15 (4, [.ref 100, .int (nI n), .int x, .int (nI j)], [], w, 0, 0) (fun res w' => res = some (.int (i_fig f n)) ∧ w' = w) := by
    intro dj
    induction dj with
    | zero =>
      intro j x hj hx
      refine ar_iload_n (pc' := 5) hM rfl rfl rfl ?_
      refine ar_iload_n (pc' := 6) hM rfl rfl rfl ?_
      refine ar_icmp_ge (pc' := 9) hM rfl rfl (fun _ => ?_) (fun q => absurd (nI_le (a := n) (b := j) (by omega) (by omega)) q)
      refine ar_iload_n (pc' := 33) hM rfl rfl rfl ?_
      refine ar_ireturn hM rfl (Or.inl rfl) ?_
      exact ⟨by rw [hx, show j = n by omega], rfl⟩
    | succ dj ih =>
      intro j x hj hx
      refine ar_iload_n (pc' := 5) hM rfl rfl rfl ?_
      refine ar_iload_n (pc' := 6) hM rfl rfl rfl ?_
      refine ar_icmp_ge (pc' := 9) hM rfl rfl (fun q => absurd q (nI_ge (a := j) (b := n) (by omega) (by omega))) (fun _ => ?_)
      refine ar_bipush (x := 10) (pc' := 11) hM rfl (by decide) rfl ?_
      refine ar_iload_n (pc' := 12) hM rfl rfl rfl ?_
      refine ar_imul (pc' := 13) hM rfl rfl ?_
      refine ar_aload_n (pc' := 14) hM rfl rfl rfl ?_
      refine ar_getfield (pc' := 17) hM rfl ho0 rfl rfl ?_
      refine ar_getfield (pc' := 20) hM rfl hr6 rfl rfl ?_
      refine ar_iload_n (pc' := 21) hM rfl rfl rfl ?_
      refine ar_ialoadN (j := j) (pc' := 22) hM rfl hf rfl (by omega) (Nat.le_of_ble_eq_true rfl) rfl ?_
      refine ar_iadd (pc' := 23) hM rfl rfl ?_
      refine ar_iconst (x := 1) (pc' := 24) hM rfl (by decide) rfl ?_
      refine ar_iadd (pc' := 25) hM rfl rfl ?_
      refine ar_istore_n (pc' := 26) hM rfl rfl rfl rfl ?_
      refine ar_iinc (z := nI (j + 1)) (pc' := 29) hM rfl rfl (nI_1 _) rfl rfl rfl ?_
      refine ar_goto hM rfl ?_
      exact ih (j + 1) (((10 * x) + (f j)) + 1) (by omega) (by show _ = 10 * i_fig f j + f j + 1; rw [hx])
  exact loop (n) 0 0 (by omega) rfl
set_option maxRecDepth 100000 in
set_option maxHeartbeats 4000000 in
theorem c_toNext1 (w : am_W) (bl bo : Int32) (x6 y6 z6 : Int32) (f : Nat → Int32) (ho0 : w[100]? = some (.inr (2, [.ref 101, .ref 106, .ref 110, .int bl, .int bo]))) (hr6 : w[106]? = some (.inr (6, [.ref 107, .ref 108, .ref 109, .int x6, .int y6, .int z6]))) (hf : w[107]? = some (.inl (0, 6, .inl f))) (n : Nat) (hn : n ≤ 6) (h0 : 0 < n) (o : Nat → Nat) (ho : ∀ p, p < 6 → f p = nI (o p)) (hol : ∀ p, p < 6 → o p < 6) : am_Go 16 (0, [.ref 100, .int (nI n), .float 0, .float 0, .float 0, .float 0, .float 0], [], w, 0, 0) (fun res w' => res = some (.int (if m_trn o (n - 1) = 0 then 0 else 1)) ∧ ∃ g, w' = w.set 107 (.inl (0, 6, .inl g)) ∧ ∀ p, p < 6 → g p = nI (m_nxt n o p)) := by
  have hM : am_P[16]? = some zm_X2_toNextOrder := rfl
  have h83 : ∀ (t l : Nat), m_trn o (n - 1) = t + 1 → ∀ (fu lo hi : Nat) (g : Nat → Int32) (u : Nat → Nat), hi - lo ≤ fu → lo < 6 → hi < 6 → (∀ p, p < 6 → g p = nI (u p)) → m_rv fu u lo hi = m_nxt n o → am_Go 16 (83, [.ref 100, .int (nI n), .ref 107, .int (nI t), .int (nI l), .int (nI lo), .int (nI hi)], [], (w.set 107 (.inl (0, 6, .inl g))), 0, 0) (fun res w' => res = some (.int (if m_trn o (n - 1) = 0 then 0 else 1)) ∧ ∃ g, w' = w.set 107 (.inl (0, 6, .inl g)) ∧ ∀ p, p < 6 → g p = nI (m_nxt n o p)) := by
    intro t l ht fu
    induction fu with
    | zero =>
      intro lo hi g u h1 h2 h3 h4 h5
      refine ar_iload (pc' := 85) hM rfl rfl rfl ?_
      refine ar_iload (pc' := 87) hM rfl rfl rfl ?_
      refine ar_icmp_ge (pc' := 90) hM rfl rfl (fun _ => ?_) (fun q => absurd (nI_le (by omega) (by omega)) q)
      refine ar_iconst (x := 1) (pc' := 108) hM rfl (by decide) rfl ?_
      refine ar_ireturn hM rfl (Or.inr (Or.inr rfl)) ?_
      exact ⟨by rw [if_neg (by omega)], g, rfl, fun p hp => by rw [← h5]; exact h4 p hp⟩
    | succ fu ih =>
      intro lo hi g u h1 h2 h3 h4 h5
      by_cases hlh : lo < hi
      · refine ar_iload (pc' := 85) hM rfl rfl rfl ?_
        refine ar_iload (pc' := 87) hM rfl rfl rfl ?_
        refine ar_icmp_ge (pc' := 90) hM rfl rfl (fun q => absurd q (nI_ge hlh (by omega))) (fun _ => ?_)
        refine ar_aload_n (pc' := 91) hM rfl rfl rfl ?_
        refine ar_iload (pc' := 93) hM rfl rfl rfl ?_
        refine ar_iload (pc' := 95) hM rfl rfl rfl ?_
        refine ar_static (pc' := 98) (k3 := 0) (k4 := 0) hM rfl (by decide) rfl rfl (c_xp _ 107 (by decide) _ (am_gs hf) lo hi (by omega) (by omega)) (fun r95 w95 q95 => ?_)
        obtain ⟨rfl, q95w⟩ := q95
        rw [q95w]
        rw [show ((w.set 107 (.inl (0, 6, .inl g))).set 107 (.inl (0, 6, .inl (upd (upd g lo (g hi)) hi (g lo))))) = (w.set 107 (.inl (0, 6, .inl (upd (upd g lo (g hi)) hi (g lo))))) from by rw [List.set_set]]
        show am_Go 16 (98, [.ref 100, .int (nI n), .ref 107, .int (nI t), .int (nI l), .int (nI lo), .int (nI hi)], [], (w.set 107 (.inl (0, 6, .inl (upd (upd g lo (g hi)) hi (g lo))))), 0, 0) _
        refine ar_iinc (z := nI (lo + 1)) (pc' := 101) hM rfl rfl (nI_1 _) rfl rfl rfl ?_
        refine ar_iinc (z := nI (hi - 1)) (pc' := 104) hM rfl rfl (i_m1' (by omega)) rfl rfl rfl ?_
        refine ar_goto hM rfl ?_
        exact ih (lo + 1) (hi - 1) _ (m_xc u lo hi) (by omega) (by omega) (by omega) (m_xc_upd h4 h2 h3) (by rw [← h5]; show _ = if lo < hi then _ else _; rw [if_pos hlh])
      · refine ar_iload (pc' := 85) hM rfl rfl rfl ?_
        refine ar_iload (pc' := 87) hM rfl rfl rfl ?_
        refine ar_icmp_ge (pc' := 90) hM rfl rfl (fun _ => ?_) (fun q => absurd (nI_le (by omega) (by omega)) q)
        refine ar_iconst (x := 1) (pc' := 108) hM rfl (by decide) rfl ?_
        refine ar_ireturn hM rfl (Or.inr (Or.inr rfl)) ?_
        exact ⟨by rw [if_neg (by omega)], g, rfl, fun p hp => by rw [← h5]; show g p = nI ((if lo < hi then _ else u) p); rw [if_neg hlh]; exact h4 p hp⟩
  have h66 : ∀ (t l : Nat) (z5 : Value) (z6 : Value), m_trn o (n - 1) = t + 1 → l = m_lgr o t (n - 1) → am_Go 16 (66, [.ref 100, .int (nI n), .ref 107, .int (nI t), .int (nI l), z5, z6], [], w, 0, 0) (fun res w' => res = some (.int (if m_trn o (n - 1) = 0 then 0 else 1)) ∧ ∃ g, w' = w.set 107 (.inl (0, 6, .inl g)) ∧ ∀ p, p < 6 → g p = nI (m_nxt n o p)) := by
    intro t l z5 z6 ht hl
    have htl := m_trn_le o (n - 1)
    have hll := m_lgr_le o t (n - 1)
    refine ar_aload_n (pc' := 67) hM rfl rfl rfl ?_
    refine ar_iload_n (pc' := 68) hM rfl rfl rfl ?_
    refine ar_iload (pc' := 70) hM rfl rfl rfl ?_
    refine ar_static (pc' := 73) (k3 := 0) (k4 := 0) hM rfl (by decide) rfl rfl (c_xp _ 107 (by decide) _ hf t l (by omega) (by omega)) (fun r70 w70 q70 => ?_)
    obtain ⟨rfl, q70w⟩ := q70
    rw [q70w]
    show am_Go 16 (73, [.ref 100, .int (nI n), .ref 107, .int (nI t), .int (nI l), z5, z6], [], (w.set 107 (.inl (0, 6, .inl (upd (upd f t (f l)) l (f t))))), 0, 0) _
    refine ar_iload_n (pc' := 74) hM rfl rfl rfl ?_
    refine ar_iconst (x := 1) (pc' := 75) hM rfl (by decide) rfl ?_
    refine ar_iadd (pc' := 76) hM rfl rfl ?_
    rw [show ((nI t) + 1 : Int32) = nI (t + 1) from (nI_1 _)]
    refine ar_istore (pc' := 78) hM rfl rfl rfl rfl ?_
    refine ar_iload_n (pc' := 79) hM rfl rfl rfl ?_
    refine ar_iconst (x := 1) (pc' := 80) hM rfl (by decide) rfl ?_
    refine ar_isub (pc' := 81) hM rfl rfl ?_
    rw [show ((nI n) - 1 : Int32) = nI (n - 1) from (i_pred (by omega))]
    refine ar_istore (pc' := 83) hM rfl rfl rfl rfl ?_
    exact h83 t l ht n (t + 1) (n - 1) _ (m_xc o t l) (by omega) (by omega) (by omega) (m_xc_upd ho (by omega) (by omega)) (by unfold m_nxt; rw [if_neg (by omega), ht, show t + 1 - 1 = t by omega, hl])
  have h44 : ∀ (t : Nat) (z5 : Value) (z6 : Value), m_trn o (n - 1) = t + 1 → ∀ k, k ≤ n - 1 → t ≤ k → m_lgr o t k = m_lgr o t (n - 1) → am_Go 16 (44, [.ref 100, .int (nI n), .ref 107, .int (nI t), .int (nI k), z5, z6], [], w, 0, 0) (fun res w' => res = some (.int (if m_trn o (n - 1) = 0 then 0 else 1)) ∧ ∃ g, w' = w.set 107 (.inl (0, 6, .inl g)) ∧ ∀ p, p < 6 → g p = nI (m_nxt n o p)) := by
    intro t z5 z6 ht k
    have htl := m_trn_le o (n - 1)
    induction k with
    | zero =>
      intro h1 h2 h3
      refine ar_iload (pc' := 46) hM rfl rfl rfl ?_
      refine ar_iload_n (pc' := 47) hM rfl rfl rfl ?_
      refine ar_icmp_le (pc' := 50) hM rfl rfl (fun _ => ?_) (fun q => absurd (nI_le (a := 0) (b := t) (by omega) (by omega)) q)
      exact h66 t 0 z5 z6 ht h3
    | succ k ih =>
      intro h1 h2 h3
      by_cases hq : t < k + 1 ∧ o (k + 1) < o t
      · refine ar_iload (pc' := 46) hM rfl rfl rfl ?_
        refine ar_iload_n (pc' := 47) hM rfl rfl rfl ?_
        refine ar_icmp_le (pc' := 50) hM rfl rfl (fun q => absurd q (nI_ge hq.1 (by omega))) (fun _ => ?_)
        refine ar_aload_n (pc' := 51) hM rfl rfl rfl ?_
        refine ar_iload (pc' := 53) hM rfl rfl rfl ?_
        refine ar_ialoadN (j := k + 1) (pc' := 54) hM rfl hf rfl (by omega) (Nat.le_of_ble_eq_true rfl) rfl ?_
        rw [show (f (k + 1) : Int32) = nI (o (k + 1)) from (ho _ (by omega))]
        refine ar_aload_n (pc' := 55) hM rfl rfl rfl ?_
        refine ar_iload_n (pc' := 56) hM rfl rfl rfl ?_
        refine ar_ialoadN (j := t) (pc' := 57) hM rfl hf rfl (by omega) (Nat.le_of_ble_eq_true rfl) rfl ?_
        rw [show (f t : Int32) = nI (o t) from (ho _ (by omega))]
        refine ar_icmp_ge (pc' := 60) hM rfl rfl (fun q => absurd q (nI_ge hq.2 (by have := hol t (by omega); omega))) (fun _ => ?_)
        refine ar_iinc (z := nI k) (pc' := 63) hM rfl rfl (i_m1' (k := k + 1) (by omega)) rfl rfl rfl ?_
        refine ar_goto hM rfl ?_
        exact ih (by omega) (by omega) (by rw [← h3]; show _ = if _ then _ else _; rw [if_pos hq])
      · by_cases hq1 : t < k + 1
        · refine ar_iload (pc' := 46) hM rfl rfl rfl ?_
          refine ar_iload_n (pc' := 47) hM rfl rfl rfl ?_
          refine ar_icmp_le (pc' := 50) hM rfl rfl (fun q => absurd q (nI_ge hq1 (by omega))) (fun _ => ?_)
          refine ar_aload_n (pc' := 51) hM rfl rfl rfl ?_
          refine ar_iload (pc' := 53) hM rfl rfl rfl ?_
          refine ar_ialoadN (j := k + 1) (pc' := 54) hM rfl hf rfl (by omega) (Nat.le_of_ble_eq_true rfl) rfl ?_
          rw [show (f (k + 1) : Int32) = nI (o (k + 1)) from (ho _ (by omega))]
          refine ar_aload_n (pc' := 55) hM rfl rfl rfl ?_
          refine ar_iload_n (pc' := 56) hM rfl rfl rfl ?_
          refine ar_ialoadN (j := t) (pc' := 57) hM rfl hf rfl (by omega) (Nat.le_of_ble_eq_true rfl) rfl ?_
          rw [show (f t : Int32) = nI (o t) from (ho _ (by omega))]
          refine ar_icmp_ge (pc' := 60) hM rfl rfl (fun _ => ?_) (fun q => absurd (nI_le (by rcases Nat.lt_or_ge (o (k + 1)) (o t) with q | q; exact absurd ⟨hq1, q⟩ hq; exact q) (by have := hol (k + 1) (by omega); omega)) q)
          exact h66 t (k + 1) z5 z6 ht (by rw [← h3]; show _ = if _ then _ else _; rw [if_neg hq])
        · refine ar_iload (pc' := 46) hM rfl rfl rfl ?_
          refine ar_iload_n (pc' := 47) hM rfl rfl rfl ?_
          refine ar_icmp_le (pc' := 50) hM rfl rfl (fun _ => ?_) (fun q => absurd (nI_le (by omega) (by omega)) q)
          exact h66 t (k + 1) z5 z6 ht (by rw [← h3]; show _ = if _ then _ else _; rw [if_neg hq])
  have h33 : ∀ (k : Nat) (z4 : Value) (z5 : Value) (z6 : Value), m_trn o (n - 1) = k → am_Go 16 (33, [.ref 100, .int (nI n), .ref 107, .int (nI k - 1), z4, z5, z6], [], w, 0, 0) (fun res w' => res = some (.int (if m_trn o (n - 1) = 0 then 0 else 1)) ∧ ∃ g, w' = w.set 107 (.inl (0, 6, .inl g)) ∧ ∀ p, p < 6 → g p = nI (m_nxt n o p)) := by
    intro k z4 z5 z6 hk
    have htl := m_trn_le o (n - 1)
    match k, hk with
    | 0, hk =>
      refine ar_iload_n (pc' := 34) hM rfl rfl rfl ?_
      refine ar_if_ge (pc' := 37) hM rfl rfl (fun q => absurd q (by decide)) (fun _ => ?_)
      refine ar_iconst (x := 0) (pc' := 38) hM rfl (by decide) rfl ?_
      refine ar_ireturn hM rfl (Or.inr (Or.inl rfl)) ?_
      exact ⟨by rw [if_pos hk], f, (am_si hf).symm, fun p hp => by unfold m_nxt; rw [if_pos hk]; exact ho p hp⟩
    | t + 1, hk =>
      rw [nI_pred]
      refine ar_iload_n (pc' := 34) hM rfl rfl rfl ?_
      refine ar_if_ge (pc' := 37) hM rfl rfl (fun _ => ?_) (fun q => absurd (nI_pos' (by omega)) q)
      refine ar_iload_n (pc' := 40) hM rfl rfl rfl ?_
      refine ar_iconst (x := 1) (pc' := 41) hM rfl (by decide) rfl ?_
      refine ar_isub (pc' := 42) hM rfl rfl ?_
      rw [show ((nI n) - 1 : Int32) = nI (n - 1) from (i_pred (by omega))]
      refine ar_istore (pc' := 44) hM rfl rfl rfl rfl ?_
      exact h44 t z5 z6 hk (n - 1) (by omega) (by omega) rfl
  have h12 : ∀ (z4 : Value) (z5 : Value) (z6 : Value) (k : Nat), k ≤ n - 1 → m_trn o k = m_trn o (n - 1) → am_Go 16 (12, [.ref 100, .int (nI n), .ref 107, .int (nI k - 1), z4, z5, z6], [], w, 0, 0) (fun res w' => res = some (.int (if m_trn o (n - 1) = 0 then 0 else 1)) ∧ ∃ g, w' = w.set 107 (.inl (0, 6, .inl g)) ∧ ∀ p, p < 6 → g p = nI (m_nxt n o p)) := by
    intro z4 z5 z6 k
    induction k with
    | zero =>
      intro h1 h2
      refine ar_iload_n (pc' := 13) hM rfl rfl rfl ?_
      refine ar_if_lt (pc' := 16) hM rfl rfl (fun _ => ?_) (fun q => absurd (by decide) q)
      exact h33 0 z4 z5 z6 h2.symm
    | succ k ih =>
      intro h1 h2
      by_cases hq : o (k + 1) < o k
      · rw [nI_pred]
        refine ar_iload_n (pc' := 13) hM rfl rfl rfl ?_
        refine ar_if_lt (pc' := 16) hM rfl rfl (fun q => absurd q (nI_pos (by omega))) (fun _ => ?_)
        refine ar_aload_n (pc' := 17) hM rfl rfl rfl ?_
        refine ar_iload_n (pc' := 18) hM rfl rfl rfl ?_
        refine ar_ialoadN (j := k) (pc' := 19) hM rfl hf rfl (by omega) (Nat.le_of_ble_eq_true rfl) rfl ?_
        rw [show (f k : Int32) = nI (o k) from (ho _ (by omega))]
        refine ar_aload_n (pc' := 20) hM rfl rfl rfl ?_
        refine ar_iload_n (pc' := 21) hM rfl rfl rfl ?_
        refine ar_iconst (x := 1) (pc' := 22) hM rfl (by decide) rfl ?_
        refine ar_iadd (pc' := 23) hM rfl rfl ?_
        rw [show ((nI k) + 1 : Int32) = nI (k + 1) from (nI_1 _)]
        refine ar_ialoadN (j := (k + 1)) (pc' := 24) hM rfl hf rfl (by omega) (Nat.le_of_ble_eq_true rfl) rfl ?_
        rw [show (f (k + 1) : Int32) = nI (o (k + 1)) from (ho _ (by omega))]
        refine ar_icmp_le (pc' := 27) hM rfl rfl (fun q => absurd q (nI_ge hq (by have := hol k (by omega); omega))) (fun _ => ?_)
        refine ar_iinc (z := nI k - 1) (pc' := 30) hM rfl rfl (i_m1 _) rfl rfl rfl ?_
        refine ar_goto hM rfl ?_
        exact ih (by omega) (by rw [← h2]; show _ = if _ then _ else _; rw [if_pos hq])
      · rw [nI_pred]
        refine ar_iload_n (pc' := 13) hM rfl rfl rfl ?_
        refine ar_if_lt (pc' := 16) hM rfl rfl (fun q => absurd q (nI_pos (by omega))) (fun _ => ?_)
        refine ar_aload_n (pc' := 17) hM rfl rfl rfl ?_
        refine ar_iload_n (pc' := 18) hM rfl rfl rfl ?_
        refine ar_ialoadN (j := k) (pc' := 19) hM rfl hf rfl (by omega) (Nat.le_of_ble_eq_true rfl) rfl ?_
        rw [show (f k : Int32) = nI (o k) from (ho _ (by omega))]
        refine ar_aload_n (pc' := 20) hM rfl rfl rfl ?_
        refine ar_iload_n (pc' := 21) hM rfl rfl rfl ?_
        refine ar_iconst (x := 1) (pc' := 22) hM rfl (by decide) rfl ?_
        refine ar_iadd (pc' := 23) hM rfl rfl ?_
        rw [show ((nI k) + 1 : Int32) = nI (k + 1) from (nI_1 _)]
        refine ar_ialoadN (j := (k + 1)) (pc' := 24) hM rfl hf rfl (by omega) (Nat.le_of_ble_eq_true rfl) rfl ?_
        rw [show (f (k + 1) : Int32) = nI (o (k + 1)) from (ho _ (by omega))]
        refine ar_icmp_le (pc' := 27) hM rfl rfl (fun _ => ?_) (fun q => absurd (nI_le (by omega) (by have := hol (k + 1) (by omega); omega)) q)
        rw [← nI_pred k]
        exact h33 (k + 1) z4 z5 z6 (by rw [← h2]; show (if _ then _ else _) = _; rw [if_neg hq])
  refine ar_aload_n (pc' := 1) hM rfl rfl rfl ?_
  refine ar_getfield (pc' := 4) hM rfl ho0 rfl rfl ?_
  refine ar_getfield (pc' := 7) hM rfl hr6 rfl rfl ?_
  refine ar_astore_n (pc' := 8) hM rfl rfl rfl rfl ?_
  refine ar_iload_n (pc' := 9) hM rfl rfl rfl ?_
  refine ar_iconst (x := 2) (pc' := 10) hM rfl (by decide) rfl ?_
  refine ar_isub (pc' := 11) hM rfl rfl ?_
  rw [show ((nI n) - 2 : Int32) = nI (n - 1) - 1 from (by rw [← i_pred h0, Int32.sub_sub]; rfl)]
  refine ar_istore_n (pc' := 12) hM rfl rfl rfl rfl ?_
  exact h12 _ _ _ (n - 1) (by omega) rfl
set_option maxRecDepth 100000 in
set_option maxHeartbeats 4000000 in
theorem c_toNext0 (w : am_W) (bl bo : Int32) (x6 y6 z6 : Int32) (f : Nat → Int32) (ho0 : w[100]? = some (.inr (2, [.ref 101, .ref 106, .ref 110, .int bl, .int bo]))) (hr6 : w[106]? = some (.inr (6, [.ref 107, .ref 108, .ref 109, .int x6, .int y6, .int z6]))) (hf : w[107]? = some (.inl (0, 6, .inl f))) (o : Nat → Nat) (ho : ∀ p, p < 6 → f p = nI (o p)) : am_Go 16 (0, [.ref 100, .int 0, .float 0, .float 0, .float 0, .float 0, .float 0], [], w, 0, 0) (fun res w' => res = some (.int (if m_trn o (0 - 1) = 0 then 0 else 1)) ∧ ∃ g, w' = w.set 107 (.inl (0, 6, .inl g)) ∧ ∀ p, p < 6 → g p = nI (m_nxt 0 o p)) := by
  have hM : am_P[16]? = some zm_X2_toNextOrder := rfl
  refine ar_aload_n (pc' := 1) hM rfl rfl rfl ?_
  refine ar_getfield (pc' := 4) hM rfl ho0 rfl rfl ?_
  refine ar_getfield (pc' := 7) hM rfl hr6 rfl rfl ?_
  refine ar_astore_n (pc' := 8) hM rfl rfl rfl rfl ?_
  refine ar_iload_n (pc' := 9) hM rfl rfl rfl ?_
  refine ar_iconst (x := 2) (pc' := 10) hM rfl (by decide) rfl ?_
  refine ar_isub (pc' := 11) hM rfl rfl ?_
  rw [show (0 - 2 : Int32) = (-2) from (by decide)]
  refine ar_istore_n (pc' := 12) hM rfl rfl rfl rfl ?_
  refine ar_iload_n (pc' := 13) hM rfl rfl rfl ?_
  refine ar_if_lt (pc' := 16) hM rfl rfl (fun _ => ?_) (fun q => absurd (by decide) q)
  refine ar_iload_n (pc' := 34) hM rfl rfl rfl ?_
  refine ar_if_ge (pc' := 37) hM rfl rfl (fun q => absurd q (by decide)) (fun _ => ?_)
  refine ar_iconst (x := 0) (pc' := 38) hM rfl (by decide) rfl ?_
  refine ar_ireturn hM rfl (Or.inr (Or.inl rfl)) ?_
  exact ⟨rfl, f, (am_si hf).symm, fun p hp => ho p hp⟩
theorem c_toNext (w : am_W) (bl bo : Int32) (x6 y6 z6 : Int32) (f : Nat → Int32) (ho0 : w[100]? = some (.inr (2, [.ref 101, .ref 106, .ref 110, .int bl, .int bo]))) (hr6 : w[106]? = some (.inr (6, [.ref 107, .ref 108, .ref 109, .int x6, .int y6, .int z6]))) (hf : w[107]? = some (.inl (0, 6, .inl f))) (n : Nat) (hn : n ≤ 6) (o : Nat → Nat) (ho : ∀ p, p < 6 → f p = nI (o p)) (hol : ∀ p, p < 6 → o p < 6) : am_Go 16 (0, [.ref 100, .int (nI n), .float 0, .float 0, .float 0, .float 0, .float 0], [], w, 0, 0) (fun res w' => res = some (.int (if m_trn o (n - 1) = 0 then 0 else 1)) ∧ ∃ g, w' = w.set 107 (.inl (0, 6, .inl g)) ∧ ∀ p, p < 6 → g p = nI (m_nxt n o p)) := by
  rcases Nat.eq_zero_or_pos n with q | q
  · subst q; exact c_toNext0 w bl bo x6 y6 z6 f ho0 hr6 hf o ho
  · exact c_toNext1 w bl bo x6 y6 z6 f ho0 hr6 hf n hn q o ho hol
end
section
/-! Outlook: the best order -/
/-- what each wants and says, at t -/
def c_H (w : am_W) (t : Nat) (T : p_D) (S : s_S) (g : Int32) : Prop := ∃ dw ds dg dd dl df dv : Nat → Int32, (w[t]? = some (.inr (8, [.ref (t + 1), .ref (t + 2), .ref (t + 3), .ref (t + 4), .ref (t + 5), .ref (t + 6), .ref (t + 7)])) ∧ w[t + 1]? = some (.inl (0, 6, .inl dw)) ∧ w[t + 2]? = some (.inl (0, 6, .inl ds)) ∧ w[t + 3]? = some (.inl (0, 6, .inl dg)) ∧ w[t + 4]? = some (.inl (0, 6, .inl dd)) ∧ w[t + 5]? = some (.inl (0, 6, .inl dl)) ∧ w[t + 6]? = some (.inl (0, 6, .inl df)) ∧ w[t + 7]? = some (.inl (0, 6, .inl dv))) ∧ ∀ h, h < T.2.2.1 → dw h = m_wt T S g h ∧ ds h = m_sy T S g h
theorem c_H.d {w : am_W} {t : Nat} {T : p_D} {S : s_S} {g : Int32} (h : c_H w t T S g) : c_D w t := by
  obtain ⟨dw, ds, dg, dd, dl, df, dv, h, -⟩ := h
  exact ⟨dw, ds, dg, dd, dl, df, dv, h⟩
theorem c_LS.hh {w : am_W} {t : Nat} {T : p_D} {S : s_S} {g : Int32} (h : c_LS w t T S g) : c_H w t T S g := by
  obtain ⟨dw, ds, dg, dd, dl, df, dv, h, q⟩ := h
  exact ⟨dw, ds, dg, dd, dl, df, dv, h, fun k hk => ⟨(q k hk).1, (q k hk).2.1⟩⟩
theorem c_H.same {w w' : am_W} {t : Nat} {T : p_D} {S : s_S} {g : Int32} {X : Nat → Prop} (h : c_H w t T S g) (hs : am_same X w w') (hx : ∀ b, t ≤ b → b < t + 8 → ¬ X b) : c_H w' t T S g := by
  obtain ⟨dw, ds, dg, dd, dl, df, dv, ⟨h0, h1, h2, h3, h4, h5, h6, h7⟩, h8⟩ := h
  exact ⟨dw, ds, dg, dd, dl, df, dv, ⟨hs.at (hx _ (by omega) (by omega)) h0, hs.at (hx _ (by omega) (by omega)) h1, hs.at (hx _ (by omega) (by omega)) h2, hs.at (hx _ (by omega) (by omega)) h3, hs.at (hx _ (by omega) (by omega)) h4, hs.at (hx _ (by omega) (by omega)) h5, hs.at (hx _ (by omega) (by omega)) h6, hs.at (hx _ (by omega) (by omega)) h7⟩, h8⟩
set_option maxHeartbeats 4000000 in
theorem k_hear (w : am_W) (t d s : Nat) (T : p_D) (S : s_S) (hvT : v_T T) (hvS : S.2.2.2.2.2.2 < 2 ^ 30) (hT : c_T w d T) (hS : c_S w s T.2.2.1 S) (hD : c_D w t) (h2t : 2 ≤ t) (h2d : 2 ≤ d) (h2s : 2 ≤ s) (j1 : t + 8 ≤ d ∨ d + 5 ≤ t) (j2 : t + 8 ≤ s ∨ s + 4 ≤ t) (j3 : d + 5 ≤ s ∨ s + 4 ≤ d) (g : Int32) : am_Go 55 (0, [.ref t, .ref d, .ref s, .int g, .float 0, .float 0, .float 0, .float 0], [], w, 0, 0) (fun res w' => res = none ∧ c_H w' t T S g ∧ am_same (rg t 8) w w') := by
  obtain ⟨wa, ki, ba, he, ht0, ht1, ht2, ht3, ht4, hw, hh⟩ := hT
  obtain ⟨so, ss, sl, hs0, hs1, hs2, hs3, ho, hs, hl⟩ := hS
  obtain ⟨dw, ds, dg, dd, dl, df, dv, hd0, hd1, hd2, hd3, hd4, hd5, hd6, hd7⟩ := hD
  refine (c_hear w d h2d T.1 T.2.1 T.2.2.1 T.2.2.2.1 wa ki ba he ht0 ht1 ht2 ht3 ht4 hvT.1 hvT.2.1 s h2s so ss sl S.2.2.2.2.1 S.2.2.2.2.2.1 S.2.2.2.2.2.2 (Nat.lt_trans hvS (by decide)) hs0 hs1 hs2 hs3 t h2t dw ds dg dd dl df dv hd0 hd1 hd2 hd3 hd4 hd5 hd6 hd7 j1 j2 j3 g).mono ?_
  rintro res w' ⟨fw, fs, rfl, rfl, h1, h2⟩
  have eh := i_heat_congr (d := S.2.2.2.2.2.2) hh
  refine ⟨rfl, ⟨fw, fs, dg, dd, dl, df, dv, ⟨am_gn (by omega) (am_gn (by omega) hd0), am_gn (by omega) (am_gs hd1), am_gs (am_gn (by omega) hd2), am_gn (by omega) (am_gn (by omega) hd3), am_gn (by omega) (am_gn (by omega) hd4), am_gn (by omega) (am_gn (by omega) hd5), am_gn (by omega) (am_gn (by omega) hd6), am_gn (by omega) (am_gn (by omega) hd7)⟩, fun k hk => ⟨?_, ?_⟩⟩, ?_⟩
  · rw [h1 k hk, eh]; exact i_wnt_congr (hw k hk).1 (hw k hk).2.1
  · rw [h2 k hk, eh]; exact i_say_congr (hw k hk).1 (hw k hk).2.1
  · exact am_same.set (am_same.set am_same.rf (by unfold rg; omega)) (by unfold rg; omega)
set_option maxHeartbeats 4000000 in
theorem k_pour (w : am_W) (t d s : Nat) (T : p_D) (S : s_S) (g : Int32) (hvT : v_T T) (hvS : v_S T.2.2.1 S) (hT : c_T w d T) (hS : c_S w s T.2.2.1 S) (hD : c_H w t T S g) (h2t : 2 ≤ t) (h2d : 2 ≤ d) (h2s : 2 ≤ s) (j1 : t + 8 ≤ d ∨ d + 5 ≤ t) (j2 : t + 8 ≤ s ∨ s + 4 ≤ t) (j3 : d + 5 ≤ s ∨ s + 4 ≤ d) : am_Go 56 (0, [.ref t, .ref d, .ref s, .float 0, .float 0, .float 0], [], w, 0, 0) (fun res w' => res = none ∧ c_LS w' t T S g ∧ am_same (rg t 8) w w') := by
  obtain ⟨wa, ki, ba, he, ht0, ht1, ht2, ht3, ht4, hw, hh⟩ := hT
  obtain ⟨so, ss, sl, hs0, hs1, hs2, hs3, ho, hs, hl⟩ := hS
  obtain ⟨dw, ds, dg, dd, dl, df, dv, ⟨hd0, hd1, hd2, hd3, hd4, hd5, hd6, hd7⟩, hq⟩ := hD
  refine (c_pour w d h2d T.1 T.2.1 T.2.2.1 T.2.2.2.1 wa ki ba he ht0 ht1 ht2 ht3 ht4 hvT.1 hvT.2.1 s h2s so ss sl S.2.2.2.2.1 S.2.2.2.2.2.1 S.2.2.2.2.2.2 (Nat.lt_trans hvS.2.2.2 (by decide)) hs0 hs1 hs2 hs3 t h2t dw ds dg dd dl df dv hd0 hd1 hd2 hd3 hd4 hd5 hd6 hd7 j1 j2 j3 S.1 (hvS.od hvT.1 ho) hvS.inj).mono ?_
  rintro res w' ⟨a3, a4, a5, a6, a7, rfl, rfl, q3, q4, q5, q6, q7⟩
  refine ⟨rfl, ⟨dw, ds, a3, a4, a5, a6, a7, ⟨am_gn (by omega) (am_gn (by omega) (am_gn (by omega) (am_gn (by omega) (am_gn (by omega) hd0)))), am_gn (by omega) (am_gn (by omega) (am_gn (by omega) (am_gn (by omega) (am_gn (by omega) hd1)))), am_gn (by omega) (am_gn (by omega) (am_gn (by omega) (am_gn (by omega) (am_gn (by omega) hd2)))), am_gn (by omega) (am_gn (by omega) (am_gn (by omega) (am_gn (by omega) (am_gs hd3)))), am_gn (by omega) (am_gn (by omega) (am_gn (by omega) (am_gs (am_gn (by omega) hd4)))), am_gn (by omega) (am_gn (by omega) (am_gs (am_gn (by omega) (am_gn (by omega) hd5)))), am_gn (by omega) (am_gs (am_gn (by omega) (am_gn (by omega) (am_gn (by omega) hd6)))), am_gs (am_gn (by omega) (am_gn (by omega) (am_gn (by omega) (am_gn (by omega) hd7))))⟩, fun h hh0 => ?_⟩, ?_⟩
  · obtain ⟨p1, p2⟩ := hvS.2.1 h hh0
    have eg : i_gv T.2.1 T.1 T.2.2.1 ds S.1 (S.2.1 h) = m_gv T S g h := i_gv_congr (fun k hk => (hq k hk).2) (fun p hp => (hvS.1 p hp).1) p1
    have q3 := q3 _ p1
    have q4 := q4 _ p1
    have q5 := q5 _ p1
    have q6 := q6 _ p1
    have q7 := q7 _ p1
    rw [p2] at q3 q4 q5 q6 q7
    rw [eg] at q3 q4 q5 q6 q7
    rw [(hq h hh0).1] at q4 q5 q6 q7
    rw [hs h hh0] at q4 q5 q6 q7
    rw [(hw h hh0).2.2] at q6 q7
    exact ⟨(hq h hh0).1, (hq h hh0).2, q3, q4, q5, q6, q7⟩
  · exact am_same.set (am_same.set (am_same.set (am_same.set (am_same.set am_same.rf (by unfold rg; omega)) (by unfold rg; omega)) (by unfold rg; omega)) (by unfold rg; omega)) (by unfold rg; omega)
/-- orders as rows -/
def m_inv (o : Nat → Nat) (h : Nat) : Nat := if o 0 = h then 0 else if o 1 = h then 1 else if o 2 = h then 2 else if o 3 = h then 3 else if o 4 = h then 4 else 5
def m_ord (S : s_S) (o : Nat → Nat) : s_S := (o, m_inv o, S.2.2)
def m_o (l : List Nat) : Nat → Nat := fun i => l.getD i 0
def m_nx (n : Nat) (l : List Nat) : List Nat := [m_nxt n (m_o l) 0, m_nxt n (m_o l) 1, m_nxt n (m_o l) 2, m_nxt n (m_o l) 3, m_nxt n (m_o l) 4, m_nxt n (m_o l) 5]
theorem m_nx_o (n : Nat) (l : List Nat) : ∀ p, p < 6 → m_o (m_nx n l) p = m_nxt n (m_o l) p
  | 0, _ => rfl
  | 1, _ => rfl
  | 2, _ => rfl
  | 3, _ => rfl
  | 4, _ => rfl
  | 5, _ => rfl
  | p + 6, h => by omega
def m_it2 (n : Nat) (l : List Nat) : Nat → List Nat
  | 0 => l
  | k + 1 => m_nx n (m_it2 n l k)
theorem m_it2_s (n : Nat) (l : List Nat) : ∀ k, m_it2 n (m_nx n l) k = m_it2 n l (k + 1)
  | 0 => rfl
  | k + 1 => by show m_nx n (m_it2 n (m_nx n l) k) = _; rw [m_it2_s n l k]; rfl
def m_id : List Nat := [0, 1, 2, 3, 4, 5]
def m_ch (n k : Nat) : Nat → Nat := m_o (m_it2 n m_id k)
def m_pm (n : Nat) (o : Nat → Nat) : Bool := (List.range 6).all fun p => Nat.blt (o p) 6 && bif Nat.blt p n then (Nat.blt (o p) n && Nat.beq (m_inv o (o p)) p && Nat.blt (m_inv o p) n && Nat.beq (o (m_inv o p)) p) else Nat.beq (o p) p
def m_chk (n : Nat) : Nat → List Nat → Bool
  | 0, _ => true
  | f + 1, l => m_pm n (m_o l) && (bif Nat.beq f 0 then Nat.beq (m_trn (m_o l) (n - 1)) 0 else !(Nat.beq (m_trn (m_o l) (n - 1)) 0)) && m_chk n f (m_nx n l)
theorem m_chk_of (n : Nat) : ∀ (f : Nat) (l : List Nat), m_chk n f l = true → ∀ k, k < f → m_pm n (m_o (m_it2 n l k)) = true ∧ (m_trn (m_o (m_it2 n l k)) (n - 1) = 0 ↔ k + 1 = f)
  | 0, l, _, k, hk => by omega
  | f + 1, l, h, k, hk => by
    unfold m_chk at h
    rw [Bool.and_eq_true, Bool.and_eq_true] at h
    obtain ⟨⟨h1, h2⟩, h3⟩ := h
    match k, hk with
    | 0, _ =>
      refine ⟨h1, ?_⟩
      show m_trn (m_o l) (n - 1) = 0 ↔ 0 + 1 = f + 1
      rcases Nat.eq_zero_or_pos f with q | q
      · subst q
        exact ⟨fun _ => rfl, fun _ => Nat.eq_of_beq_eq_true h2⟩
      · rw [show Nat.beq f 0 = false from by rcases f with _ | f; omega; rfl] at h2
        have h2 : (!(Nat.beq (m_trn (m_o l) (n - 1)) 0)) = true := h2
        refine ⟨fun e => ?_, fun e => by omega⟩
        rw [e] at h2
        exact absurd h2 (by decide)
    | k + 1, hk =>
      have := m_chk_of n f (m_nx n l) h3 k (by omega)
      rw [m_it2_s] at this
      exact ⟨this.1, this.2.trans (by omega)⟩
def n_fac : Nat → Nat
  | 0 => 1
  | n + 1 => (n + 1) * n_fac n
set_option maxRecDepth 1000000 in
theorem m_chk_ok : ∀ n, n < 7 → m_chk n (n_fac n) m_id = true := by decide +kernel
theorem m_ch_ok {n : Nat} (hn : n ≤ 6) {k : Nat} (hk : k < n_fac n) : m_pm n (m_ch n k) = true ∧ (m_trn (m_ch n k) (n - 1) = 0 ↔ k + 1 = n_fac n) := m_chk_of n (n_fac n) m_id (m_chk_ok n (by omega)) k hk
theorem m_pm_at {n : Nat} {o : Nat → Nat} (h : m_pm n o = true) {p : Nat} (hp : p < 6) : o p < 6 ∧ (p < n → o p < n ∧ m_inv o (o p) = p ∧ m_inv o p < n ∧ o (m_inv o p) = p) ∧ (n ≤ p → o p = p) := by
  have := List.all_eq_true.mp h p (List.mem_range.mpr hp)
  rw [Bool.and_eq_true] at this
  obtain ⟨h1, h2⟩ := this
  refine ⟨Nat.le_of_ble_eq_true h1, fun q => ?_, fun q => ?_⟩
  · rw [show Nat.blt p n = true from Nat.ble_eq_true_of_le q] at h2
    have h2 : (Nat.blt (o p) n && Nat.beq (m_inv o (o p)) p && Nat.blt (m_inv o p) n && Nat.beq (o (m_inv o p)) p) = true := h2
    rw [Bool.and_eq_true, Bool.and_eq_true, Bool.and_eq_true] at h2
    exact ⟨Nat.le_of_ble_eq_true h2.1.1.1, Nat.eq_of_beq_eq_true h2.1.1.2, Nat.le_of_ble_eq_true h2.1.2, Nat.eq_of_beq_eq_true h2.2⟩
  · rw [show Nat.blt p n = false from by cases e : Nat.blt p n; rfl; have := Nat.le_of_ble_eq_true e; omega] at h2
    exact Nat.eq_of_beq_eq_true h2
theorem m_ord_v {n : Nat} (hn : n ≤ 6) {S : s_S} {o : Nat → Nat} (h : m_pm n o = true) (hd : S.2.2.2.2.2.2 < 2 ^ 30) : v_S n (m_ord S o) := by
  refine ⟨fun p hp => ?_, fun p hp => ?_, fun p hp h6 => (m_pm_at h h6).2.2 hp, hd⟩
  · obtain ⟨a, b, c, d⟩ := (m_pm_at h (p := p) (by omega)).2.1 hp; exact ⟨a, b⟩
  · obtain ⟨a, b, c, d⟩ := (m_pm_at h (p := p) (by omega)).2.1 hp; exact ⟨c, d⟩
/-- what all lack, or one at the most, in the k-th order; the best order so far -/
def m_lko (T : p_D) (S : s_S) (gr : Int32) (k : Nat) : Int32 := if gr = 0 then i_sum (m_lk T (m_ord S (m_ch T.2.2.1 k)) 0) T.2.2.1 else i_grt (m_lk T (m_ord S (m_ch T.2.2.1 k)) 0) T.2.2.1
def m_fgo (T : p_D) (k : Nat) : Int32 := i_fig (fun p => nI (m_ch T.2.2.1 k p)) T.2.2.1
def m_bst (T : p_D) (S : s_S) (gr : Int32) : Nat → Int32 × Int32
  | 0 => (2147483647, 0)
  | k + 1 => if m_lko T S gr k < (m_bst T S gr k).1 then (m_lko T S gr k, m_fgo T k) else m_bst T S gr k
theorem k_stand (w : am_W) (s n : Nat) (S : s_S) (hS : c_S w s n S) (h2s : 2 ≤ s) : am_Go 41 (0, [.ref s, .float 0], [], w, 0, 0) (fun res w' => res = none ∧ c_S w' s n (m_ord S (m_ch n 0)) ∧ am_same (rg s 4) w w') := by
  obtain ⟨so, ss, sl, hs0, hs1, hs2, hs3, q1, q2, q3⟩ := hS
  refine (c_standAsTold w s h2s so ss sl _ _ _ hs0 hs1 hs2 hs3).mono ?_
  rintro res w' ⟨f, rfl, rfl, hf⟩
  refine ⟨rfl, ⟨f, ss, sl, am_gn (by omega) hs0, am_gs hs1, am_gn (by omega) hs2, am_gn (by omega) hs3, fun p hp => ?_, q2, q3⟩, am_same.set am_same.rf (by unfold rg; omega)⟩
  rw [hf p hp]
  match p, hp with
  | 0, _ => rfl
  | 1, _ => rfl
  | 2, _ => rfl
  | 3, _ => rfl
  | 4, _ => rfl
  | 5, _ => rfl
  | p + 6, h => omega
end
section
/-! Outlook: the best order, sought -/
theorem c_S.setOrd {w : am_W} {a n : Nat} {S : s_S} (h : c_S w a n S) {g : Nat → Int32} {o : Nat → Nat} (hg : ∀ p, p < 6 → g p = nI (o p)) : c_S (w.set (a + 1) (.inl (0, 6, .inl g))) a n (m_ord S o) := by
  obtain ⟨so, ss, sl, h0, h1, h2, h3, h4, h5, h6⟩ := h
  exact ⟨g, ss, sl, am_gn (by omega) h0, am_gs h1, am_gn (by omega) h2, am_gn (by omega) h3, hg, h5, h6⟩
theorem n_fac_le : ∀ n, n < 7 → n_fac n ≤ 720 := by decide
theorem n_fac_pos : ∀ n, n < 7 → 0 < n_fac n := by decide
theorem i_if_iff {P Q : Prop} [Decidable P] [Decidable Q] (h : P ↔ Q) : (if P then (0 : Int32) else 1) = if Q then 0 else 1 := by
  by_cases q : P
  · rw [if_pos q, if_pos (h.mp q)]
  · rw [if_neg q, if_neg (fun e => q (h.mpr e))]
set_option maxRecDepth 100000 in
set_option maxHeartbeats 4000000 in
theorem k_seekOrder (w : am_W) (T : p_D) (S : s_S) (bl bo : Int32) (hvT : v_T T) (hvS : v_S T.2.2.1 S) (hT : c_T w 11 T) (hN : c_S w 16 T.2.2.1 S) (hR : c_R w 106) (hD : c_D w 110) (ho0 : w[100]? = some (.inr (2, [.ref 101, .ref 106, .ref 110, .int bl, .int bo]))) (gr : Int32) : am_Go 14 (0, [.ref 100, .ref 11, .ref 16, .int gr, .float 0, .float 0, .float 0], [], w, 0, 0) (fun res w' => res = none ∧ w'[100]? = some (.inr (2, [.ref 101, .ref 106, .ref 110, .int (m_bst T S gr (n_fac T.2.2.1)).1, .int (m_bst T S gr (n_fac T.2.2.1)).2])) ∧ am_same (rg 100 18) w w' ∧ c_R w' 106 ∧ c_D w' 110) := by
  have hM : am_P[14]? = some zm_X2_seekOrder := rfl
  have ht0 : w[11]? = some (.inr (9, [.int T.1, .int T.2.1, .int (nI T.2.2.1), .int (nI T.2.2.2.1), .ref 12, .ref 13, .ref 14, .ref 15])) := by obtain ⟨_, _, _, _, h, -⟩ := hT; exact h
  have hn6 : T.2.2.1 ≤ 6 := hvT.1
  obtain ⟨_, _, _, x6, y6, z6, hr6, -⟩ := id hR
  have hf1 := n_fac_le T.2.2.1 (by omega)
  have hf2 := n_fac_pos T.2.2.1 (by omega)
  refine ar_aload_n (pc' := 1) hM rfl rfl rfl ?_
  refine ar_getfield (pc' := 4) hM rfl ho0 rfl rfl ?_
  refine ar_aload_n (pc' := 5) hM rfl rfl rfl ?_
  refine ar_virtual (pc' := 8) (k3 := 0) (k4 := 0) hM rfl rfl hr6 ⟨rfl, (by decide)⟩ rfl rfl (k_copyR _ 106 16 _ S hR hN hn6 (by decide) (by decide) (by omega)) (fun r5 w5 q5 => ?_)
  obtain ⟨rfl, hS1, q5s⟩ := q5
  have hsm1 : am_same (rg 106 4) w w5 := q5s
  show am_Go 14 (8, [.ref 100, .ref 11, .ref 16, .int gr, .float 0, .float 0, .float 0], [], w5, 0, 0) _
  refine ar_aload_n (pc' := 9) hM rfl rfl rfl ?_
  refine ar_getfield (pc' := 12) hM rfl (hsm1.at (by unfold rg; omega) ho0) rfl rfl ?_
  refine ar_virtual (pc' := 15) (k3 := 0) (k4 := 0) hM rfl rfl (hS1.o) ⟨rfl, (by decide)⟩ rfl rfl (k_stand _ 106 _ S hS1 (by decide)) (fun r12 w12 q12 => ?_)
  obtain ⟨rfl, hS2, q12s⟩ := q12
  have hsm2 : am_same (rg 106 4) w w12 := hsm1.tr q12s
  have hD2 := hD.same hsm2 (fun b h1 h2 => by unfold rg; omega)
  show am_Go 14 (15, [.ref 100, .ref 11, .ref 16, .int gr, .float 0, .float 0, .float 0], [], w12, 0, 0) _
  refine ar_aload_n (pc' := 16) hM rfl rfl rfl ?_
  refine ar_getfield (pc' := 19) hM rfl (hsm2.at (by unfold rg; omega) ho0) rfl rfl ?_
  refine ar_aload_n (pc' := 20) hM rfl rfl rfl ?_
  refine ar_aload_n (pc' := 21) hM rfl rfl rfl ?_
  refine ar_getfield (pc' := 24) hM rfl (hsm2.at (by unfold rg; omega) ho0) rfl rfl ?_
  refine ar_iconst (x := 0) (pc' := 25) hM rfl (by decide) rfl ?_
  refine ar_virtual (pc' := 28) (k3 := 0) (k4 := 0) hM rfl rfl (hD2.o) ⟨rfl, (by decide)⟩ rfl rfl (k_hear _ 110 11 106 T (m_ord S (m_ch T.2.2.1 0)) hvT hvS.2.2.2 (hT.same hsm2 (fun b h1 h2 => by unfold rg; omega)) hS2 hD2 (by decide) (by decide) (by decide) (by omega) (by omega) (by omega) 0) (fun r25 w25 q25 => ?_)
  obtain ⟨rfl, hH3, q25s⟩ := q25
  have hsm3 : am_same (rg 106 12) w w25 := (hsm2.mono (fun b hb => by unfold rg at *; omega)).tr (q25s.mono (fun b hb => by unfold rg at *; omega))
  have hS3 := hS2.same q25s (fun b h1 h2 => by unfold rg; omega)
  show am_Go 14 (28, [.ref 100, .ref 11, .ref 16, .int gr, .float 0, .float 0, .float 0], [], w25, 0, 0) _
  refine ar_aload_n (pc' := 29) hM rfl rfl rfl ?_
  refine ar_ldc (x := 2147483647) (pc' := 31) hM rfl (by decide) rfl ?_
  refine ar_putfield (pc' := 34) hM rfl (hsm3.at (by unfold rg; omega) ho0) (Nat.le_of_ble_eq_true rfl) rfl (by decide) rfl ?_
  show am_Go 14 (34, [.ref 100, .ref 11, .ref 16, .int gr, .float 0, .float 0, .float 0], [], (w25.set 100 (.inr (2, [.ref 101, .ref 106, .ref 110, .int 2147483647, .int bo]))), 0, 0) _
  refine ar_aload_n (pc' := 35) hM rfl rfl rfl ?_
  refine ar_iconst (x := 0) (pc' := 36) hM rfl (by decide) rfl ?_
  refine ar_putfield (pc' := 39) hM rfl (am_gs (hsm3.at (by unfold rg; omega) ho0)) (Nat.le_of_ble_eq_true rfl) rfl (by decide) rfl ?_
  show am_Go 14 (39, [.ref 100, .ref 11, .ref 16, .int gr, .float 0, .float 0, .float 0], [], ((w25.set 100 (.inr (2, [.ref 101, .ref 106, .ref 110, .int 2147483647, .int bo]))).set 100 (.inr (2, [.ref 101, .ref 106, .ref 110, .int 2147483647, .int 0]))), 0, 0) _
  refine ar_iconst (x := 1) (pc' := 40) hM rfl (by decide) rfl ?_
  refine ar_istore (pc' := 42) hM rfl rfl rfl rfl ?_
  refine ar_iconst (x := 0) (pc' := 43) hM rfl (by decide) rfl ?_
  refine ar_istore (pc' := 45) hM rfl rfl rfl rfl ?_
  have loop : ∀ (dj j : Nat) (x : Int32) (y : Int32) (mo : Int32) (wj : am_W) (z6 : Value), dj + j = n_fac T.2.2.1 → (m_bst T S gr j = (x, y)) → (mo = if j = n_fac T.2.2.1 then 0 else 1) → (c_S wj 106 T.2.2.1 (m_ord S (m_ch T.2.2.1 j))) → (c_H wj 110 T S 0) → (wj[100]? = some (.inr (2, [.ref 101, .ref 106, .ref 110, .int x, .int y]))) → (am_same (rg 100 18) w wj) → am_Go 14 (45, [.ref 100, .ref 11, .ref 16, .int gr, .int mo, .int (nI j), z6], [], wj, 0, 0) (fun res w' => res = none ∧ w'[100]? = some (.inr (2, [.ref 101, .ref 106, .ref 110, .int (m_bst T S gr (n_fac T.2.2.1)).1, .int (m_bst T S gr (n_fac T.2.2.1)).2])) ∧ am_same (rg 100 18) w w' ∧ c_R w' 106 ∧ c_D w' 110) := by
    intro dj
    induction dj with
    | zero =>
      intro j x y mo wj z6 hj hb hmo hS hH hO hsm
      refine ar_iload (pc' := 47) hM rfl rfl rfl ?_
      refine ar_sipush (x := 720) (pc' := 50) hM rfl (by decide) rfl ?_
      refine ar_icmp_ge (pc' := 53) hM rfl rfl (fun c50 => ?_) (fun c50 => ?_)
      · refine ar_return hM rfl ?_
        exact ⟨rfl, by rw [show n_fac T.2.2.1 = j by omega, hb]; exact hO, hsm, hS.r, hH.d⟩
      · refine ar_iload (pc' := 55) hM rfl rfl rfl ?_
        refine ar_if_eq (pc' := 58) hM rfl rfl (fun _ => ?_) (fun q => absurd (by rw [hmo, if_pos (by omega)]) q)
        refine ar_return hM rfl ?_
        exact ⟨rfl, by rw [show n_fac T.2.2.1 = j by omega, hb]; exact hO, hsm, hS.r, hH.d⟩
    | succ dj ih =>
      intro j x y mo wj z6 hj hb hmo hS hH hO hsm
      have hpm := (m_ch_ok hn6 (k := j) (by omega)).1
      have hvj : v_S T.2.2.1 (m_ord S (m_ch T.2.2.1 j)) := m_ord_v hn6 hpm hvS.2.2.2
      refine ar_iload (pc' := 47) hM rfl rfl rfl ?_
      refine ar_sipush (x := 720) (pc' := 50) hM rfl (by decide) rfl ?_
      refine ar_icmp_ge (pc' := 53) hM rfl rfl (fun q => absurd q (nI_ge (a := j) (b := 720) (by omega) (by omega))) (fun _ => ?_)
      refine ar_iload (pc' := 55) hM rfl rfl rfl ?_
      refine ar_if_eq (pc' := 58) hM rfl rfl (fun q => absurd q (by rw [hmo, if_neg (by omega)]; decide)) (fun _ => ?_)
      refine ar_aload_n (pc' := 59) hM rfl rfl rfl ?_
      refine ar_getfield (pc' := 62) hM rfl hO rfl rfl ?_
      refine ar_aload_n (pc' := 63) hM rfl rfl rfl ?_
      refine ar_aload_n (pc' := 64) hM rfl rfl rfl ?_
      refine ar_getfield (pc' := 67) hM rfl hO rfl rfl ?_
      refine ar_virtual (pc' := 70) (k3 := 0) (k4 := 0) hM rfl rfl (hH.d.o) ⟨rfl, (by decide)⟩ rfl rfl (k_pour _ 110 11 106 T (m_ord S (m_ch T.2.2.1 j)) 0 hvT hvj (hT.same hsm (fun b h1 h2 => by unfold rg; omega)) hS hH (by decide) (by decide) (by decide) (by omega) (by omega) (by omega)) (fun r67 w67 q67 => ?_)
      obtain ⟨rfl, hL4, q67s⟩ := q67
      have hsm4 : am_same (rg 100 18) w w67 := hsm.tr (q67s.mono (fun b hb => by unfold rg at *; omega))
      have hS4 := hS.same q67s (fun b h1 h2 => by unfold rg; omega)
      have hO4 := q67s.at (by unfold rg; omega) hO
      obtain ⟨so, ss, sl, hs0, hs1, hs2, hs3, hso, -⟩ := id hS4
      obtain ⟨dw, ds, dg, dd, dl, df, dv, ⟨hd0, hd1, hd2, hd3, hd4, hd5, hd6, hd7⟩, hdl⟩ := id hL4
      have hws : am_same (rg 100 1) w67 w67 := am_same.rf
      show am_Go 14 (70, [.ref 100, .ref 11, .ref 16, .int gr, .int mo, .int (nI j), z6], [], w67, 0, 0) _
      refine ar_iload_n (pc' := 71) hM rfl rfl rfl ?_
      refine ar_if_eq (pc' := 74) hM rfl rfl (fun c71 => ?_) (fun c71 => ?_)
      · refine ar_aload_n (pc' := 92) hM rfl rfl rfl ?_
        refine ar_getfield (pc' := 95) hM rfl hO4 rfl rfl ?_
        refine ar_getfield (pc' := 98) hM rfl hd0 rfl rfl ?_
        refine ar_aload_n (pc' := 99) hM rfl rfl rfl ?_
        refine ar_getfield (pc' := 102) hM rfl (hsm4.at (by unfold rg; omega) ht0) rfl rfl ?_
        refine ar_static (pc' := 105) (k3 := 0) (k4 := 0) hM rfl (by decide) rfl rfl (c_sum _ 115 _ hd5 _ hn6) (fun r102 w102 q102 => ?_)
        obtain ⟨rfl, q102w⟩ := q102
        rw [q102w]
        have hlk : i_sum dl T.2.2.1 = m_lko T S gr j := by unfold m_lko; rw [if_pos c71]; exact i_sum_congr (fun h hh => (hdl h hh).2.2.2.2.1)
        rw [hlk]
        show am_Go 14 (105, [.ref 100, .ref 11, .ref 16, .int gr, .int mo, .int (nI j), z6], [.int (m_lko T S gr j)], w67, 0, 0) _
        refine ar_istore (pc' := 107) hM rfl rfl rfl rfl ?_
        refine ar_iload (pc' := 109) hM rfl rfl rfl ?_
        refine ar_aload_n (pc' := 110) hM rfl rfl rfl ?_
        refine ar_getfield (pc' := 113) hM rfl hO4 rfl rfl ?_
        refine ar_icmp_ge (pc' := 116) hM rfl rfl (fun c113 => ?_) (fun c113 => ?_)
        · refine ar_aload_n (pc' := 135) hM rfl rfl rfl ?_
          refine ar_aload_n (pc' := 136) hM rfl rfl rfl ?_
          refine ar_getfield (pc' := 139) hM rfl (hsm4.at (by unfold rg; omega) ht0) rfl rfl ?_
          have hws4 : am_same (rg 100 1) w67 w67 := am_same.rf
          have hO5 : w67[100]? = some (.inr (2, [.ref 101, .ref 106, .ref 110, .int x, .int y])) := hO4
          refine ar_virtual (pc' := 142) (k3 := 0) (k4 := 0) hM rfl rfl hO4 ⟨rfl, (by decide)⟩ rfl rfl (c_toNext _ _ _ _ _ _ so hO4 hs0 hs1 _ hn6 (m_ch T.2.2.1 j) hso (fun p hp => (m_pm_at hpm hp).1)) (fun r139 w139 q139 => ?_)
          obtain ⟨rfl, g, q139w, hg⟩ := q139
          have hS6 : c_S w139 106 T.2.2.1 (m_ord S (m_ch T.2.2.1 (j + 1))) := by rw [q139w]; exact (hS4.same hws4 (fun b h1 h2 => by unfold rg; omega)).setOrd (fun p hp => (hg p hp).trans (congrArg nI (m_nx_o _ _ p hp).symm))
          have hs6 : am_same (rg 100 10) w67 w139 := by rw [q139w]; exact am_same.set (hws4.mono (fun b hb => by unfold rg at *; omega)) (by unfold rg; omega)
          have hH6 : c_H w139 110 T S 0 := hL4.hh.same hs6 (fun b h1 h2 => by unfold rg; omega)
          have hO6 : w139[100]? = some (.inr (2, [.ref 101, .ref 106, .ref 110, .int x, .int y])) := by rw [q139w]; exact am_gn (by decide) hO5
          have hsm6 : am_same (rg 100 18) w w139 := hsm4.tr (hs6.mono (fun b hb => by unfold rg at *; omega))
          show am_Go 14 (142, [.ref 100, .ref 11, .ref 16, .int gr, .int mo, .int (nI j), .int (m_lko T S gr j)], [.int (if m_trn (m_ch T.2.2.1 j) (T.2.2.1 - 1) = 0 then 0 else 1)], w139, 0, 0) _
          refine ar_istore (pc' := 144) hM rfl rfl rfl rfl ?_
          refine ar_iinc (z := nI (j + 1)) (pc' := 147) hM rfl rfl (nI_1 _) rfl rfl rfl ?_
          refine ar_goto hM rfl ?_
          exact ih (j + 1) x y (if m_trn (m_ch T.2.2.1 j) (T.2.2.1 - 1) = 0 then 0 else 1) w139 (.int (m_lko T S gr j)) (by omega) (by show (if _ then _ else _) = _; rw [if_neg (by rw [hb]; exact Int32.not_lt.mpr c113)]; exact hb) (i_if_iff (m_ch_ok hn6 (k := j) (by omega)).2) hS6 hH6 hO6 hsm6
        · refine ar_aload_n (pc' := 117) hM rfl rfl rfl ?_
          refine ar_iload (pc' := 119) hM rfl rfl rfl ?_
          refine ar_putfield (pc' := 122) hM rfl hO4 (Nat.le_of_ble_eq_true rfl) rfl (by decide) rfl ?_
          show am_Go 14 (122, [.ref 100, .ref 11, .ref 16, .int gr, .int mo, .int (nI j), .int (m_lko T S gr j)], [], (w67.set 100 (.inr (2, [.ref 101, .ref 106, .ref 110, .int (m_lko T S gr j), .int y]))), 0, 0) _
          refine ar_aload_n (pc' := 123) hM rfl rfl rfl ?_
          refine ar_aload_n (pc' := 124) hM rfl rfl rfl ?_
          refine ar_aload_n (pc' := 125) hM rfl rfl rfl ?_
          refine ar_getfield (pc' := 128) hM rfl (am_gn (by decide) (hsm4.at (by unfold rg; omega) ht0)) rfl rfl ?_
          refine ar_virtual (pc' := 131) (k3 := 0) (k4 := 0) hM rfl rfl (am_gs hO4) ⟨rfl, (by decide)⟩ rfl rfl (c_figures _ _ _ _ _ _ _ (am_gs hO4) (am_gn (by decide) hs0) (am_gn (by decide) hs1) _ hn6) (fun r128 w128 q128 => ?_)
          obtain ⟨rfl, q128w⟩ := q128
          rw [q128w]
          show am_Go 14 (131, [.ref 100, .ref 11, .ref 16, .int gr, .int mo, .int (nI j), .int (m_lko T S gr j)], [.int (i_fig so T.2.2.1), .ref 100], (w67.set 100 (.inr (2, [.ref 101, .ref 106, .ref 110, .int (m_lko T S gr j), .int y]))), 0, 0) _
          refine ar_putfield (pc' := 134) hM rfl (am_gs hO4) (Nat.le_of_ble_eq_true rfl) rfl (by decide) rfl ?_
          show am_Go 14 (134, [.ref 100, .ref 11, .ref 16, .int gr, .int mo, .int (nI j), .int (m_lko T S gr j)], [], ((w67.set 100 (.inr (2, [.ref 101, .ref 106, .ref 110, .int (m_lko T S gr j), .int y]))).set 100 (.inr (2, [.ref 101, .ref 106, .ref 110, .int (m_lko T S gr j), .int (i_fig so T.2.2.1)]))), 0, 0) _
          refine ar_aload_n (pc' := 135) hM rfl rfl rfl ?_
          refine ar_aload_n (pc' := 136) hM rfl rfl rfl ?_
          refine ar_getfield (pc' := 139) hM rfl (am_gn (by decide) (am_gn (by decide) (hsm4.at (by unfold rg; omega) ht0))) rfl rfl ?_
          have hws4 : am_same (rg 100 1) w67 ((w67.set 100 (.inr (2, [.ref 101, .ref 106, .ref 110, .int (m_lko T S gr j), .int y]))).set 100 (.inr (2, [.ref 101, .ref 106, .ref 110, .int (m_lko T S gr j), .int (i_fig so T.2.2.1)]))) := (am_same.set (am_same.set am_same.rf (by unfold rg; omega)) (by unfold rg; omega))
          have hO5 : ((w67.set 100 (.inr (2, [.ref 101, .ref 106, .ref 110, .int (m_lko T S gr j), .int y]))).set 100 (.inr (2, [.ref 101, .ref 106, .ref 110, .int (m_lko T S gr j), .int (i_fig so T.2.2.1)])))[100]? = some (.inr (2, [.ref 101, .ref 106, .ref 110, .int (m_lko T S gr j), .int (i_fig so T.2.2.1)])) := (am_gs (am_gs hO4))
          refine ar_virtual (pc' := 142) (k3 := 0) (k4 := 0) hM rfl rfl (am_gs (am_gs hO4)) ⟨rfl, (by decide)⟩ rfl rfl (c_toNext _ _ _ _ _ _ so (am_gs (am_gs hO4)) (am_gn (by decide) (am_gn (by decide) hs0)) (am_gn (by decide) (am_gn (by decide) hs1)) _ hn6 (m_ch T.2.2.1 j) hso (fun p hp => (m_pm_at hpm hp).1)) (fun r139 w139 q139 => ?_)
          obtain ⟨rfl, g, q139w, hg⟩ := q139
          have hS6 : c_S w139 106 T.2.2.1 (m_ord S (m_ch T.2.2.1 (j + 1))) := by rw [q139w]; exact (hS4.same hws4 (fun b h1 h2 => by unfold rg; omega)).setOrd (fun p hp => (hg p hp).trans (congrArg nI (m_nx_o _ _ p hp).symm))
          have hs6 : am_same (rg 100 10) w67 w139 := by rw [q139w]; exact am_same.set (hws4.mono (fun b hb => by unfold rg at *; omega)) (by unfold rg; omega)
          have hH6 : c_H w139 110 T S 0 := hL4.hh.same hs6 (fun b h1 h2 => by unfold rg; omega)
          have hO6 : w139[100]? = some (.inr (2, [.ref 101, .ref 106, .ref 110, .int (m_lko T S gr j), .int (i_fig so T.2.2.1)])) := by rw [q139w]; exact am_gn (by decide) hO5
          have hsm6 : am_same (rg 100 18) w w139 := hsm4.tr (hs6.mono (fun b hb => by unfold rg at *; omega))
          show am_Go 14 (142, [.ref 100, .ref 11, .ref 16, .int gr, .int mo, .int (nI j), .int (m_lko T S gr j)], [.int (if m_trn (m_ch T.2.2.1 j) (T.2.2.1 - 1) = 0 then 0 else 1)], w139, 0, 0) _
          refine ar_istore (pc' := 144) hM rfl rfl rfl rfl ?_
          refine ar_iinc (z := nI (j + 1)) (pc' := 147) hM rfl rfl (nI_1 _) rfl rfl rfl ?_
          refine ar_goto hM rfl ?_
          exact ih (j + 1) (m_lko T S gr j) (i_fig so T.2.2.1) (if m_trn (m_ch T.2.2.1 j) (T.2.2.1 - 1) = 0 then 0 else 1) w139 (.int (m_lko T S gr j)) (by omega) (by show (if _ then _ else _) = _; rw [if_pos (by rw [hb]; exact Int32.not_le.mp c113)]; exact Prod.ext rfl (i_fig_congr (fun p hp => (hso p (by omega)).symm))) (i_if_iff (m_ch_ok hn6 (k := j) (by omega)).2) hS6 hH6 hO6 hsm6
      · refine ar_aload_n (pc' := 75) hM rfl rfl rfl ?_
        refine ar_getfield (pc' := 78) hM rfl hO4 rfl rfl ?_
        refine ar_getfield (pc' := 81) hM rfl hd0 rfl rfl ?_
        refine ar_aload_n (pc' := 82) hM rfl rfl rfl ?_
        refine ar_getfield (pc' := 85) hM rfl (hsm4.at (by unfold rg; omega) ht0) rfl rfl ?_
        refine ar_static (pc' := 88) (k3 := 0) (k4 := 0) hM rfl (by decide) rfl rfl (c_greatest _ 115 _ hd5 _ hn6) (fun r85 w85 q85 => ?_)
        obtain ⟨rfl, q85w⟩ := q85
        rw [q85w]
        have hlk : i_grt dl T.2.2.1 = m_lko T S gr j := by unfold m_lko; rw [if_neg c71]; exact i_grt_congr (fun h hh => (hdl h hh).2.2.2.2.1)
        rw [hlk]
        show am_Go 14 (88, [.ref 100, .ref 11, .ref 16, .int gr, .int mo, .int (nI j), z6], [.int (m_lko T S gr j)], w67, 0, 0) _
        refine ar_goto hM rfl ?_
        refine ar_istore (pc' := 107) hM rfl rfl rfl rfl ?_
        refine ar_iload (pc' := 109) hM rfl rfl rfl ?_
        refine ar_aload_n (pc' := 110) hM rfl rfl rfl ?_
        refine ar_getfield (pc' := 113) hM rfl hO4 rfl rfl ?_
        refine ar_icmp_ge (pc' := 116) hM rfl rfl (fun c113 => ?_) (fun c113 => ?_)
        · refine ar_aload_n (pc' := 135) hM rfl rfl rfl ?_
          refine ar_aload_n (pc' := 136) hM rfl rfl rfl ?_
          refine ar_getfield (pc' := 139) hM rfl (hsm4.at (by unfold rg; omega) ht0) rfl rfl ?_
          have hws4 : am_same (rg 100 1) w67 w67 := am_same.rf
          have hO5 : w67[100]? = some (.inr (2, [.ref 101, .ref 106, .ref 110, .int x, .int y])) := hO4
          refine ar_virtual (pc' := 142) (k3 := 0) (k4 := 0) hM rfl rfl hO4 ⟨rfl, (by decide)⟩ rfl rfl (c_toNext _ _ _ _ _ _ so hO4 hs0 hs1 _ hn6 (m_ch T.2.2.1 j) hso (fun p hp => (m_pm_at hpm hp).1)) (fun r139 w139 q139 => ?_)
          obtain ⟨rfl, g, q139w, hg⟩ := q139
          have hS6 : c_S w139 106 T.2.2.1 (m_ord S (m_ch T.2.2.1 (j + 1))) := by rw [q139w]; exact (hS4.same hws4 (fun b h1 h2 => by unfold rg; omega)).setOrd (fun p hp => (hg p hp).trans (congrArg nI (m_nx_o _ _ p hp).symm))
          have hs6 : am_same (rg 100 10) w67 w139 := by rw [q139w]; exact am_same.set (hws4.mono (fun b hb => by unfold rg at *; omega)) (by unfold rg; omega)
          have hH6 : c_H w139 110 T S 0 := hL4.hh.same hs6 (fun b h1 h2 => by unfold rg; omega)
          have hO6 : w139[100]? = some (.inr (2, [.ref 101, .ref 106, .ref 110, .int x, .int y])) := by rw [q139w]; exact am_gn (by decide) hO5
          have hsm6 : am_same (rg 100 18) w w139 := hsm4.tr (hs6.mono (fun b hb => by unfold rg at *; omega))
          show am_Go 14 (142, [.ref 100, .ref 11, .ref 16, .int gr, .int mo, .int (nI j), .int (m_lko T S gr j)], [.int (if m_trn (m_ch T.2.2.1 j) (T.2.2.1 - 1) = 0 then 0 else 1)], w139, 0, 0) _
          refine ar_istore (pc' := 144) hM rfl rfl rfl rfl ?_
          refine ar_iinc (z := nI (j + 1)) (pc' := 147) hM rfl rfl (nI_1 _) rfl rfl rfl ?_
          refine ar_goto hM rfl ?_
          exact ih (j + 1) x y (if m_trn (m_ch T.2.2.1 j) (T.2.2.1 - 1) = 0 then 0 else 1) w139 (.int (m_lko T S gr j)) (by omega) (by show (if _ then _ else _) = _; rw [if_neg (by rw [hb]; exact Int32.not_lt.mpr c113)]; exact hb) (i_if_iff (m_ch_ok hn6 (k := j) (by omega)).2) hS6 hH6 hO6 hsm6
        · refine ar_aload_n (pc' := 117) hM rfl rfl rfl ?_
          refine ar_iload (pc' := 119) hM rfl rfl rfl ?_
          refine ar_putfield (pc' := 122) hM rfl hO4 (Nat.le_of_ble_eq_true rfl) rfl (by decide) rfl ?_
          show am_Go 14 (122, [.ref 100, .ref 11, .ref 16, .int gr, .int mo, .int (nI j), .int (m_lko T S gr j)], [], (w67.set 100 (.inr (2, [.ref 101, .ref 106, .ref 110, .int (m_lko T S gr j), .int y]))), 0, 0) _
          refine ar_aload_n (pc' := 123) hM rfl rfl rfl ?_
          refine ar_aload_n (pc' := 124) hM rfl rfl rfl ?_
          refine ar_aload_n (pc' := 125) hM rfl rfl rfl ?_
          refine ar_getfield (pc' := 128) hM rfl (am_gn (by decide) (hsm4.at (by unfold rg; omega) ht0)) rfl rfl ?_
          refine ar_virtual (pc' := 131) (k3 := 0) (k4 := 0) hM rfl rfl (am_gs hO4) ⟨rfl, (by decide)⟩ rfl rfl (c_figures _ _ _ _ _ _ _ (am_gs hO4) (am_gn (by decide) hs0) (am_gn (by decide) hs1) _ hn6) (fun r128 w128 q128 => ?_)
          obtain ⟨rfl, q128w⟩ := q128
          rw [q128w]
          show am_Go 14 (131, [.ref 100, .ref 11, .ref 16, .int gr, .int mo, .int (nI j), .int (m_lko T S gr j)], [.int (i_fig so T.2.2.1), .ref 100], (w67.set 100 (.inr (2, [.ref 101, .ref 106, .ref 110, .int (m_lko T S gr j), .int y]))), 0, 0) _
          refine ar_putfield (pc' := 134) hM rfl (am_gs hO4) (Nat.le_of_ble_eq_true rfl) rfl (by decide) rfl ?_
          show am_Go 14 (134, [.ref 100, .ref 11, .ref 16, .int gr, .int mo, .int (nI j), .int (m_lko T S gr j)], [], ((w67.set 100 (.inr (2, [.ref 101, .ref 106, .ref 110, .int (m_lko T S gr j), .int y]))).set 100 (.inr (2, [.ref 101, .ref 106, .ref 110, .int (m_lko T S gr j), .int (i_fig so T.2.2.1)]))), 0, 0) _
          refine ar_aload_n (pc' := 135) hM rfl rfl rfl ?_
          refine ar_aload_n (pc' := 136) hM rfl rfl rfl ?_
          refine ar_getfield (pc' := 139) hM rfl (am_gn (by decide) (am_gn (by decide) (hsm4.at (by unfold rg; omega) ht0))) rfl rfl ?_
          have hws4 : am_same (rg 100 1) w67 ((w67.set 100 (.inr (2, [.ref 101, .ref 106, .ref 110, .int (m_lko T S gr j), .int y]))).set 100 (.inr (2, [.ref 101, .ref 106, .ref 110, .int (m_lko T S gr j), .int (i_fig so T.2.2.1)]))) := (am_same.set (am_same.set am_same.rf (by unfold rg; omega)) (by unfold rg; omega))
          have hO5 : ((w67.set 100 (.inr (2, [.ref 101, .ref 106, .ref 110, .int (m_lko T S gr j), .int y]))).set 100 (.inr (2, [.ref 101, .ref 106, .ref 110, .int (m_lko T S gr j), .int (i_fig so T.2.2.1)])))[100]? = some (.inr (2, [.ref 101, .ref 106, .ref 110, .int (m_lko T S gr j), .int (i_fig so T.2.2.1)])) := (am_gs (am_gs hO4))
          refine ar_virtual (pc' := 142) (k3 := 0) (k4 := 0) hM rfl rfl (am_gs (am_gs hO4)) ⟨rfl, (by decide)⟩ rfl rfl (c_toNext _ _ _ _ _ _ so (am_gs (am_gs hO4)) (am_gn (by decide) (am_gn (by decide) hs0)) (am_gn (by decide) (am_gn (by decide) hs1)) _ hn6 (m_ch T.2.2.1 j) hso (fun p hp => (m_pm_at hpm hp).1)) (fun r139 w139 q139 => ?_)
          obtain ⟨rfl, g, q139w, hg⟩ := q139
          have hS6 : c_S w139 106 T.2.2.1 (m_ord S (m_ch T.2.2.1 (j + 1))) := by rw [q139w]; exact (hS4.same hws4 (fun b h1 h2 => by unfold rg; omega)).setOrd (fun p hp => (hg p hp).trans (congrArg nI (m_nx_o _ _ p hp).symm))
          have hs6 : am_same (rg 100 10) w67 w139 := by rw [q139w]; exact am_same.set (hws4.mono (fun b hb => by unfold rg at *; omega)) (by unfold rg; omega)
          have hH6 : c_H w139 110 T S 0 := hL4.hh.same hs6 (fun b h1 h2 => by unfold rg; omega)
          have hO6 : w139[100]? = some (.inr (2, [.ref 101, .ref 106, .ref 110, .int (m_lko T S gr j), .int (i_fig so T.2.2.1)])) := by rw [q139w]; exact am_gn (by decide) hO5
          have hsm6 : am_same (rg 100 18) w w139 := hsm4.tr (hs6.mono (fun b hb => by unfold rg at *; omega))
          show am_Go 14 (142, [.ref 100, .ref 11, .ref 16, .int gr, .int mo, .int (nI j), .int (m_lko T S gr j)], [.int (if m_trn (m_ch T.2.2.1 j) (T.2.2.1 - 1) = 0 then 0 else 1)], w139, 0, 0) _
          refine ar_istore (pc' := 144) hM rfl rfl rfl rfl ?_
          refine ar_iinc (z := nI (j + 1)) (pc' := 147) hM rfl rfl (nI_1 _) rfl rfl rfl ?_
          refine ar_goto hM rfl ?_
          exact ih (j + 1) (m_lko T S gr j) (i_fig so T.2.2.1) (if m_trn (m_ch T.2.2.1 j) (T.2.2.1 - 1) = 0 then 0 else 1) w139 (.int (m_lko T S gr j)) (by omega) (by show (if _ then _ else _) = _; rw [if_pos (by rw [hb]; exact Int32.not_le.mp c113)]; exact Prod.ext rfl (i_fig_congr (fun p hp => (hso p (by omega)).symm))) (i_if_iff (m_ch_ok hn6 (k := j) (by omega)).2) hS6 hH6 hO6 hsm6
  exact loop (n_fac T.2.2.1) 0 2147483647 0 1 ((w25.set 100 (.inr (2, [.ref 101, .ref 106, .ref 110, .int 2147483647, .int bo]))).set 100 (.inr (2, [.ref 101, .ref 106, .ref 110, .int 2147483647, .int 0]))) (.float 0) (by omega) rfl (by rw [if_neg (by omega)]) (hS3.same (am_same.set (X := rg 100 1) (am_same.set am_same.rf (by unfold rg; omega)) (by unfold rg; omega)) (fun b h1 h2 => by unfold rg; omega)) (hH3.same (am_same.set (X := rg 100 1) (am_same.set am_same.rf (by unfold rg; omega)) (by unfold rg; omega)) (fun b h1 h2 => by unfold rg; omega)) (am_gs (am_gs (hsm3.at (by unfold rg; omega) ho0))) ((hsm3.mono (fun b hb => by unfold rg at *; omega)).tr ((am_same.set (X := rg 100 1) (am_same.set am_same.rf (by unfold rg; omega)) (by unfold rg; omega)).mono (fun b hb => by unfold rg at *; omega)))
end
