/-! what each row of code must be checked for, and that every row is -/
/-- the words of the tables that a row needs -/
def am_wf (own : String) (r : am_R) : List Cond := match r with
  | (_, i, _, a, b, v) => match i with
    | .getfield idx => match am_cl[a]? with
      | some q => [.fieldLink own idx q.1 (q.2.1 b).2.1 (q.2.1 b).2.2.1]
      | none => []
    | .putfield idx => match am_cl[a]? with
      | some q => [.fieldLink own idx q.1 (q.2.1 b).2.1 (q.2.1 b).2.2.1]
      | none => []
    | .getstatic idx => [.fieldLink own idx "ThirstRow" "FACTORIALS" "[I"]
    | .new idx => match am_cl[a]? with
      | some q => [.classLink own idx q.1, .instantiable q.1 q.2.2, .initialized q.1]
      | none => []
    | .anewarray idx => [.classLink own idx RX6]
    | .newarray t => [.arrayClass (newarray.typeOf t)]
    | .ldc idx => [.constant own idx (Int32.ofInt v)]
    | .ldc_w idx => [.constant own idx (Int32.ofInt v)]
    | .ldc2_w idx => [.constantLong own idx (Int64.ofInt v)]
    | .invokespecial idx => if a = 1000 then [.methodLink own idx objectInit, .instanceMethod objectInit, .code objectInit ⟨#[0xb1]⟩ 1 none] else match am_I[a]? with
      | some n => [.methodLink own idx n.1, .instanceMethod n.1, .initialized n.1.cls, .code n.1 n.2.1 n.2.2.1 n.2.2.2.1]
      | none => []
    | .invokestatic idx => if a = 1001 then [.methodLink own idx arraycopyName, .native arraycopyName, .static arraycopyName, .initialized "java/lang/System"] else match am_I[a]? with
      | some n => if v = 1 then [.static n.1, .initialized n.1.cls, .code n.1 n.2.1 n.2.2.1 n.2.2.2.1] else [.methodLink own idx n.1, .static n.1, .initialized n.1.cls, .code n.1 n.2.1 n.2.2.1 n.2.2.2.1]
      | none => []
    | .invokevirtual idx => match am_I[a]? with
      | some n => [.methodLink own idx n.1, .instanceMethod n.1, .selects n.1.cls n.1 n.1, .initialized n.1.cls, .code n.1 n.2.1 n.2.2.1 n.2.2.2.1]
      | none => []
    | _ => []
/-- the word that a call of a nest mate needs -/
def am_nest (own : String) (r : am_R) : Option Cond := match r with
  | (_, .invokestatic idx, _, a, _, v) => if a = 1001 then none else if v = 1 then (match am_I[a]? with
      | some n => some (.methodLinkNest own idx n.1 "ThirstRow")
      | none => none) else none
  | _ => none
def am_len (i : Instr) : Nat := match i with
  | .bipush _ | .ldc _ | .iload _ | .lload _ | .aload _ | .istore _ | .lstore _ | .astore _ | .newarray _ => 2
  | .sipush _ | .ldc_w _ | .ldc2_w _ | .iinc _ _ | .goto _ | .if_icmp _ _ | .ifCond _ _ | .getfield _ | .putfield _ | .getstatic _ | .new _ | .anewarray _ | .invokespecial _ | .invokestatic _ | .invokevirtual _ => 3
  | _ => 1
def am_tyc (v : Int) (ty : FieldType) : Bool := match ty with
  | .int => decide (v = 0)
  | .boolean => decide (v = 1)
  | .long => decide (v = 2)
  | .object _ => decide (v = 3)
  | .array _ => decide (v = 3)
  | _ => false
/-- a callee: its room within the caller's, its cells and slots as its room says, the number of its arguments -/
def am_cal (inf n : am_Inf) (N : am_M) (args : Nat) : Bool :=
  decide (n.2.2.2.2.frames + 1 ≤ inf.2.2.2.2.frames) && decide (8 + (n.2.2.1 + 11) + n.2.2.2.2.locals ≤ inf.2.2.2.2.locals) && decide (n.2.2.2.2.cells = N.2.2.1) && decide (n.2.2.2.2.slots = N.2.2.2) && decide (n.2.2.1 = N.2.1) &&
  decide (n.1.cls ≠ "java/lang/invoke/MethodHandle") && decide (n.1.cls ≠ "java/lang/invoke/VarHandle") && decide ((parseMethodDescriptor n.1.desc).map (fun d => d.parameters.length) = some args)
def am_chk (inf : am_Inf) (r : am_R) : Bool := match r with
  | (pc, i, len, a, b, v) => decide (decode inf.2.1 pc = .ok (i, len)) && (match i with
    | .tableswitch d _ _ offs => decide (0 ≤ (pc : Int) + d) && offs.toList.all (fun o => decide (0 ≤ (pc : Int) + o))
    | .lookupswitch d ps => decide (0 ≤ (pc : Int) + d) && ps.toList.all (fun o => decide (0 ≤ (pc : Int) + o.2)) && (ps.toList.zip (ps.toList.drop 1)).all (fun (a, next) => a.1 < next.1)
    | _ => decide (len = am_len i)) && (match i with
    | .goto off => decide ((pc : Int) + off = (a : Int))
    | .if_icmp _ off => decide ((pc : Int) + off = (a : Int))
    | .ifCond _ off => decide ((pc : Int) + off = (a : Int))
    | .getfield _ => match am_cl[a]? with
      | some q => decide (b < q.2.2) && decide ((q.2.1 b).1 = q.1)
      | none => false
    | .putfield _ => match am_cl[a]? with
      | some q => decide (b < q.2.2) && decide ((q.2.1 b).1 = q.1) && (match parseFieldDescriptor (q.2.1 b).2.2.1 with
        | some ty => am_tyc v ty
        | none => false) && (bif (q.2.1 b).2.2.2 then decide (inf.1.name = "<init>") && decide (q.1 = inf.1.cls) else true)
      | none => false
    | .new _ => decide (a < 12)
    | .newarray t => decide (t = .int) || decide (t = .boolean)
    | .invokespecial _ => if a = 1000 then decide (1 ≤ inf.2.2.2.2.frames) && decide (20 ≤ inf.2.2.2.2.locals) else match am_I[a]?, am_P[a]? with
      | some n, some N => am_cal inf n N (b - 1) && decide (1 ≤ b) && decide (n.1.name = "<init>") && decide (n.2.2.2.1 = none)
      | _, _ => false
    | .invokestatic _ => if a = 1001 then decide (1 ≤ inf.2.2.2.2.frames) && decide (26 ≤ inf.2.2.2.2.locals) else match am_I[a]?, am_P[a]? with
      | some n, some N => am_cal inf n N b && (decide (v = 0) || decide (v = 1))
      | _, _ => false
    | .invokevirtual _ => match am_I[a]?, am_P[a]? with
      | some n, some N => am_cal inf n N (b - 1) && decide (1 ≤ b) && (match am_cl[v.toNat]? with
        | some q => decide (q.1 = n.1.cls) && decide (0 ≤ v)
        | none => false)
      | _, _ => false
    | .ireturn => (decide (a = 0) && decide (inf.2.2.2.1 = some .int)) || (decide (a = 1) && decide (inf.2.2.2.1 = some .boolean))
    | .lreturn => decide (inf.2.2.2.1 = some .long)
    | .return_ => decide (inf.2.2.2.1 = none)
    | _ => true)
def am_nests : List Cond := [.methodLinkNest "ThirstRow$Reader" 49 yX10_within "ThirstRow", .methodLinkNest "ThirstRow$Today" 69 yX10_wantByKind "ThirstRow", .methodLinkNest "ThirstRow$Today" 73 yX10_lieOf "ThirstRow", .methodLinkNest "ThirstRow$Outlook" 51 yX10_sum "ThirstRow", .methodLinkNest "ThirstRow$Outlook" 71 yX10_greatest "ThirstRow", .methodLinkNest "ThirstRow$Outlook" 112 yX10_withoutDoings "ThirstRow", .methodLinkNest "ThirstRow$Seen" 25 yX10_wantByKind "ThirstRow", .methodLinkNest "ThirstRow$Seen" 29 yX10_lieOf "ThirstRow", .methodLinkNest "ThirstRow$Chances" 65 yX10_sum "ThirstRow", .methodLinkNest "ThirstRow$Chances" 52 yX10_ordersOf "ThirstRow", .methodLinkNest "ThirstRow$Chances" 98 yX10_power "ThirstRow"]
set_option maxRecDepth 100000 in
theorem am_nests_in : am_nests = ([428, 493, 496, 577, 589, 646, 688, 689, 709, 710, 753] : List Nat).filterMap (fun i => lw_tbl[i]?) := by decide +kernel
/-- what holds of a checked method -/
def am_okm (q : am_M × am_Inf) : Prop := q.1.1.all (am_chk q.2) = true ∧ (∀ r ∈ q.1.1, ∀ w ∈ am_wf q.2.1.cls r, w ∈ lw_tbl ∧ goodWord w = true) ∧ (∀ r ∈ q.1.1, ∀ w, am_nest q.2.1.cls r = some w → w ∈ am_nests) ∧ q.1.2.1 = q.2.2.2.1 ∧ q.1.2.2.1 = q.2.2.2.2.2.cells ∧ q.1.2.2.2 = q.2.2.2.2.2.slots ∧ plainFor q.2.1 = true ∧ Cond.code q.2.1 q.2.2.1 q.2.2.2.1 q.2.2.2.2.1 ∈ (Cond.code x code maxLocals ret :: lw_tbl)
theorem am_okm_of {M : am_M} {inf : am_Inf} (ps : List Nat) (h1 : M.1.all (am_chk inf) = true) (h2 : M.1.flatMap (am_wf inf.1.cls) = ps.filterMap (fun i => lw_tbl[i]?)) (h3 : (M.1.flatMap (am_wf inf.1.cls)).all goodWord = true) (h4 : (M.1.filterMap (am_nest inf.1.cls)).all (fun w => decide (w ∈ am_nests)) = true)
    (h5 : (decide (M.2.1 = inf.2.2.1) && decide (M.2.2.1 = inf.2.2.2.2.cells) && decide (M.2.2.2 = inf.2.2.2.2.slots) && plainFor inf.1) = true) (h6 : Cond.code inf.1 inf.2.1 inf.2.2.1 inf.2.2.2.1 ∈ (Cond.code x code maxLocals ret :: lw_tbl)) : am_okm (M, inf) := by
  simp only [Bool.and_eq_true, decide_eq_true_eq] at h5
  refine ⟨h1, fun r hr w hw => ?_, fun r hr w hw => ?_, h5.1.1.1, h5.1.1.2, h5.1.2, h5.2, h6⟩
  · have hm : w ∈ M.1.flatMap (am_wf inf.1.cls) := List.mem_flatMap.mpr ⟨r, hr, hw⟩
    refine ⟨?_, List.all_eq_true.mp h3 w hm⟩
    rw [h2] at hm
    obtain ⟨i, -, hi⟩ := List.mem_filterMap.mp hm
    exact List.mem_of_getElem? hi
  · have hm : w ∈ M.1.filterMap (am_nest inf.1.cls) := List.mem_filterMap.mpr ⟨r, hr, hw⟩
    exact of_decide_eq_true (List.all_eq_true.mp h4 w hm)
