/-! A SMALL MACHINE: the bytecode's meaning over lists: a world is a list of cells, a reference is a place in it. Everything that is said of the class and of the reference is said of this machine; part 05 shows that the real one follows it. -/
/-- a cell: a row (its kind: 0 int, 1 boolean, 2 references; its length; what it holds), or an object (the number of its class, its fields) -/
abbrev am_E : Type := (Nat × Nat × ((Nat → Int32) ⊕ (Nat → Option Nat))) ⊕ (Nat × List Value)
abbrev am_W : Type := List am_E
/-- pc, locals, stack, world, cells and slots made -/
abbrev am_S : Type := Nat × List Value × List Value × am_W × Nat × Nat
/-- a row of code: pc, instruction, length, three numbers that say what it is linked to -/
abbrev am_R : Type := Nat × Instr × Nat × Nat × Nat × Int
/-- a method: its rows, its locals, the cells and slots that it may make -/
abbrev am_M : Type := List am_R × Nat × Nat × Nat
abbrev am_V : Type := Option Value × am_W
abbrev am_A : Type := am_V ⊕ am_S ⊕ (Nat × List Value × am_S)
def am_row (rows : List am_R) (pc : Nat) : Option am_R := rows.find? (fun r => Nat.beq r.1 pc)
def am_nx (s : am_S) : Option am_A := some (.inr (.inl s))
def am_cmp (c : Jvm.ClassFile.Cond) (x y : Int32) : Bool := match c with
  | .eq => decide (x = y)
  | .ne => !decide (x = y)
  | .lt => decide (x < y)
  | .ge => decide (y ≤ x)
  | .gt => decide (y < x)
  | .le => decide (x ≤ y)
/-- a local that may be stored to: it is there, and no second half of a long -/
def am_free (ls : List Value) (i : Nat) : Bool := Nat.blt i ls.length && (match i with
  | 0 => true
  | j + 1 => match ls[j]? with
    | some (.long _) => false
    | _ => true)
def am_ix (i : Int32) (n : Nat) : Bool := decide (¬ (i < 0 ∨ n ≤ i.toNatClampNeg))
/-- what a field of a kind takes: 0 int, 1 boolean, 2 long, 3 a reference -/
def am_fit (t : Int) (v : Value) : Bool := match v with
  | .int x => decide (t = 0) || (decide (t = 1) && (decide (x = 0) || decide (x = 1)))
  | .long _ => decide (t = 2)
  | .ref _ => decide (t = 3)
  | _ => false
def am_cpy (f g : Nat → Int32) (sp dp n : Nat) : Nat → Int32 := va_cpy f g sp dp n
def am_sl (vs : List Value) : List Value := vs.flatMap fun v => if v.category = 2 then [v, .float 0] else [v]
def am_ent (maxL : Nat) (vs : List Value) : List Value := am_sl vs ++ List.replicate (maxL - (am_sl vs).length) (.float 0)
def am_call (P : List am_M) (M : am_M) (a b pc : Nat) (ls st : List Value) (w : am_W) (k1 k2 : Nat) : Option am_A := match P[a]? with
  | none => none
  | some N => if b ≤ st.length ∧ ((st.drop b).map fun v => v.category).sum ≤ 8 ∧ k1 + N.2.2.1 ≤ M.2.2.1 ∧ k2 + N.2.2.2 ≤ M.2.2.2 ∧ (am_sl (st.take b).reverse).length ≤ N.2.1
    then some (.inr (.inr (a, (st.take b).reverse, (pc + 3, ls, st.drop b, w, k1 + N.2.2.1, k2 + N.2.2.2)))) else none
/-- one instruction: an end, a next state, or a call -/
def am_act (D : List (List Value)) (P : List am_M) (M : am_M) (r : am_R) (s : am_S) : Option am_A := match s, r with
  | (pc, ls, st, w, k1, k2), (_, i, _, a, b, v) => match i with
    | .iconst c => am_nx (pc + 1, ls, .int (Int32.ofInt c) :: st, w, k1, k2)
    | .bipush c => am_nx (pc + 2, ls, .int (Int8.ofInt c).toInt32 :: st, w, k1, k2)
    | .sipush c => am_nx (pc + 3, ls, .int (Int16.ofInt c).toInt32 :: st, w, k1, k2)
    | .ldc _ => am_nx (pc + 2, ls, .int (Int32.ofInt v) :: st, w, k1, k2)
    | .ldc_w _ => am_nx (pc + 3, ls, .int (Int32.ofInt v) :: st, w, k1, k2)
    | .ldc2_w _ => am_nx (pc + 3, ls, .long (Int64.ofInt v) :: st, w, k1, k2)
    | .lconst c => am_nx (pc + 1, ls, .long (Int64.ofNat c.val) :: st, w, k1, k2)
    | .iload n => match ls[n]? with
      | some (.int x) => am_nx (pc + 2, ls, .int x :: st, w, k1, k2)
      | _ => none
    | .iload_n n => match ls[n.val]? with
      | some (.int x) => am_nx (pc + 1, ls, .int x :: st, w, k1, k2)
      | _ => none
    | .lload n => match ls[n]? with
      | some (.long x) => am_nx (pc + 2, ls, .long x :: st, w, k1, k2)
      | _ => none
    | .lload_n n => match ls[n.val]? with
      | some (.long x) => am_nx (pc + 1, ls, .long x :: st, w, k1, k2)
      | _ => none
    | .aload n => match ls[n]? with
      | some (.ref x) => am_nx (pc + 2, ls, .ref x :: st, w, k1, k2)
      | _ => none
    | .aload_n n => match ls[n.val]? with
      | some (.ref x) => am_nx (pc + 1, ls, .ref x :: st, w, k1, k2)
      | _ => none
    | .istore n => match st with
      | .int x :: st => bif am_free ls n then am_nx (pc + 2, ls.set n (.int x), st, w, k1, k2) else none
      | _ => none
    | .istore_n n => match st with
      | .int x :: st => bif am_free ls n.val then am_nx (pc + 1, ls.set n.val (.int x), st, w, k1, k2) else none
      | _ => none
    | .astore n => match st with
      | .ref x :: st => bif am_free ls n then am_nx (pc + 2, ls.set n (.ref x), st, w, k1, k2) else none
      | _ => none
    | .astore_n n => match st with
      | .ref x :: st => bif am_free ls n.val then am_nx (pc + 1, ls.set n.val (.ref x), st, w, k1, k2) else none
      | _ => none
    | .lstore n => match st with
      | .long x :: st => bif am_free ls n && Nat.blt (n + 1) ls.length then am_nx (pc + 2, (ls.set n (.long x)).set (n + 1) (.float 0), st, w, k1, k2) else none
      | _ => none
    | .lstore_n n => match st with
      | .long x :: st => bif am_free ls n.val && Nat.blt (n.val + 1) ls.length then am_nx (pc + 1, (ls.set n.val (.long x)).set (n.val + 1) (.float 0), st, w, k1, k2) else none
      | _ => none
    | .iinc n c => match ls[n]? with
      | some (.int x) => bif am_free ls n then am_nx (pc + 3, ls.set n (.int (x + Int32.ofInt c)), st, w, k1, k2) else none
      | _ => none
    | .dup => match st with
      | x :: st => if x.category = 1 then am_nx (pc + 1, ls, x :: x :: st, w, k1, k2) else none
      | _ => none
    | .dup2 => match st with
      | x :: y :: st => if x.category = 1 ∧ y.category = 1 then am_nx (pc + 1, ls, x :: y :: x :: y :: st, w, k1, k2) else none
      | _ => none
    | .pop => match st with
      | x :: st => if x.category = 1 then am_nx (pc + 1, ls, st, w, k1, k2) else none
      | _ => none
    | .iadd => match st with
      | .int y :: .int x :: st => am_nx (pc + 1, ls, .int (x + y) :: st, w, k1, k2)
      | _ => none
    | .isub => match st with
      | .int y :: .int x :: st => am_nx (pc + 1, ls, .int (x - y) :: st, w, k1, k2)
      | _ => none
    | .imul => match st with
      | .int y :: .int x :: st => am_nx (pc + 1, ls, .int (x * y) :: st, w, k1, k2)
      | _ => none
    | .idiv => match st with
      | .int y :: .int x :: st => if y = 0 then none else am_nx (pc + 1, ls, .int (x / y) :: st, w, k1, k2)
      | _ => none
    | .irem => match st with
      | .int y :: .int x :: st => if y = 0 then none else am_nx (pc + 1, ls, .int (x - x / y * y) :: st, w, k1, k2)
      | _ => none
    | .ineg => match st with
      | .int x :: st => am_nx (pc + 1, ls, .int (-x) :: st, w, k1, k2)
      | _ => none
    | .iand => match st with
      | .int y :: .int x :: st => am_nx (pc + 1, ls, .int (x &&& y) :: st, w, k1, k2)
      | _ => none
    | .ior => match st with
      | .int y :: .int x :: st => am_nx (pc + 1, ls, .int (x ||| y) :: st, w, k1, k2)
      | _ => none
    | .ixor => match st with
      | .int y :: .int x :: st => am_nx (pc + 1, ls, .int (x ^^^ y) :: st, w, k1, k2)
      | _ => none
    | .ishl => match st with
      | .int y :: .int x :: st => am_nx (pc + 1, ls, .int (x <<< (y &&& 31)) :: st, w, k1, k2)
      | _ => none
    | .ishr => match st with
      | .int y :: .int x :: st => am_nx (pc + 1, ls, .int (x >>> (y &&& 31)) :: st, w, k1, k2)
      | _ => none
    | .iushr => match st with
      | .int y :: .int x :: st => am_nx (pc + 1, ls, .int (x.toUInt32 >>> (y.toUInt32 &&& Int32.toUInt32 31)).toInt32 :: st, w, k1, k2)
      | _ => none
    | .i2l => match st with
      | .int x :: st => am_nx (pc + 1, ls, .long x.toInt64 :: st, w, k1, k2)
      | _ => none
    | .l2i => match st with
      | .long x :: st => am_nx (pc + 1, ls, .int x.toInt32 :: st, w, k1, k2)
      | _ => none
    | .ladd => match st with
      | .long y :: .long x :: st => am_nx (pc + 1, ls, .long (x + y) :: st, w, k1, k2)
      | _ => none
    | .lsub => match st with
      | .long y :: .long x :: st => am_nx (pc + 1, ls, .long (x - y) :: st, w, k1, k2)
      | _ => none
    | .lmul => match st with
      | .long y :: .long x :: st => am_nx (pc + 1, ls, .long (x * y) :: st, w, k1, k2)
      | _ => none
    | .ldiv => match st with
      | .long y :: .long x :: st => if y = 0 then none else am_nx (pc + 1, ls, .long (x / y) :: st, w, k1, k2)
      | _ => none
    | .lrem => match st with
      | .long y :: .long x :: st => if y = 0 then none else am_nx (pc + 1, ls, .long (x - x / y * y) :: st, w, k1, k2)
      | _ => none
    | .land => match st with
      | .long y :: .long x :: st => am_nx (pc + 1, ls, .long (x &&& y) :: st, w, k1, k2)
      | _ => none
    | .lor => match st with
      | .long y :: .long x :: st => am_nx (pc + 1, ls, .long (x ||| y) :: st, w, k1, k2)
      | _ => none
    | .lshl => match st with
      | .int y :: .long x :: st => am_nx (pc + 1, ls, .long (x <<< (y.toInt64 &&& 63)) :: st, w, k1, k2)
      | _ => none
    | .lushr => match st with
      | .int y :: .long x :: st => am_nx (pc + 1, ls, .long (x.toUInt64 >>> (y.toInt64.toUInt64 &&& Int64.toUInt64 63)).toInt64 :: st, w, k1, k2)
      | _ => none
    | .lcmp => match st with
      | .long y :: .long x :: st => am_nx (pc + 1, ls, .int (lg_cmp x y) :: st, w, k1, k2)
      | _ => none
    | .goto _ => am_nx (a, ls, st, w, k1, k2)
    | .if_icmp c _ => match st with
      | .int y :: .int x :: st => bif am_cmp c x y then am_nx (a, ls, st, w, k1, k2) else am_nx (pc + 3, ls, st, w, k1, k2)
      | _ => none
    | .ifCond c _ => match st with
      | .int x :: st => bif am_cmp c x 0 then am_nx (a, ls, st, w, k1, k2) else am_nx (pc + 3, ls, st, w, k1, k2)
      | _ => none
    | .tableswitch d lo hi offs => match st with
      | .int x :: st => if x.toInt < lo ∨ hi < x.toInt then am_nx (((pc : Int) + d).toNat, ls, st, w, k1, k2) else match offs[(x.toInt - lo).toNat]? with
        | some off => am_nx (((pc : Int) + off).toNat, ls, st, w, k1, k2)
        | none => none
      | _ => none
    | .lookupswitch d ps => match st with
      | .int x :: st => am_nx (((pc : Int) + Op.lookupswitch.offset ps.toList d x.toInt).toNat, ls, st, w, k1, k2)
      | _ => none
    | .getstatic _ => am_nx (pc + 3, ls, .ref 0 :: st, w, k1, k2)
    | .getfield _ => match st with
      | .ref q :: st => match w[q]? with
        | some (.inr (ci, fs)) => if ci = a then match fs[b]? with
          | some x => am_nx (pc + 3, ls, x :: st, w, k1, k2)
          | none => none
          else none
        | _ => none
      | _ => none
    | .putfield _ => match st with
      | x :: .ref q :: st => match w[q]? with
        | some (.inr (ci, fs)) => if ci = a ∧ b < fs.length ∧ am_fit v x = true ∧ 2 ≤ q then am_nx (pc + 3, ls, st, w.set q (.inr (ci, fs.set b x)), k1, k2) else none
        | _ => none
      | _ => none
    | .iaload => match st with
      | .int i :: .ref q :: st => match w[q]? with
        | some (.inl (0, n, .inl f)) => bif am_ix i n then am_nx (pc + 1, ls, .int (f i.toNatClampNeg) :: st, w, k1, k2) else none
        | _ => none
      | _ => none
    | .baload => match st with
      | .int i :: .ref q :: st => match w[q]? with
        | some (.inl (1, n, .inl f)) => if am_ix i n = true ∧ 2 ≤ q then am_nx (pc + 1, ls, .int (f i.toNatClampNeg) :: st, w, k1, k2) else none
        | _ => none
      | _ => none
    | .aaload => match st with
      | .int i :: .ref q :: st => match w[q]? with
        | some (.inl (2, n, .inr f)) => if am_ix i n = true ∧ 2 ≤ q then match f i.toNatClampNeg with
          | some x => am_nx (pc + 1, ls, .ref x :: st, w, k1, k2)
          | none => none
          else none
        | _ => none
      | _ => none
    | .iastore => match st with
      | .int x :: .int i :: .ref q :: st => match w[q]? with
        | some (.inl (0, n, .inl f)) => if am_ix i n = true ∧ 2 ≤ q then am_nx (pc + 1, ls, st, w.set q (.inl (0, n, .inl (upd f i.toNatClampNeg x))), k1, k2) else none
        | _ => none
      | _ => none
    | .bastore => match st with
      | .int x :: .int i :: .ref q :: st => match w[q]? with
        | some (.inl (1, n, .inl f)) => if am_ix i n = true ∧ 2 ≤ q ∧ am_fit 1 (.int x) = true then am_nx (pc + 1, ls, st, w.set q (.inl (1, n, .inl (upd f i.toNatClampNeg x))), k1, k2) else none
        | _ => none
      | _ => none
    | .aastore => match st with
      | .ref x :: .int i :: .ref q :: st => match w[q]?, w[x]? with
        | some (.inl (2, n, .inr f)), some (.inr (ci, _)) => if am_ix i n = true ∧ 2 ≤ q ∧ 2 ≤ x ∧ ci = 6 then am_nx (pc + 1, ls, st, w.set q (.inl (2, n, .inr (va_up f i.toNatClampNeg (some x)))), k1, k2) else none
        | _, _ => none
      | _ => none
    | .arraylength => match st with
      | .ref q :: st => match w[q]? with
        | some (.inl (0, n, _)) => am_nx (pc + 1, ls, .int (Int32.ofNat n) :: st, w, k1, k2)
        | _ => none
      | _ => none
    | .newarray t => match st with
      | .int n :: st => match (match t with | .int => some 0 | .boolean => some 1 | _ => none : Option Nat) with
        | some kd => if ¬ n < 0 ∧ n.toNatClampNeg ≤ 1000 ∧ k1 + 1 ≤ M.2.2.1 ∧ k2 + n.toNatClampNeg ≤ M.2.2.2 then am_nx (pc + 2, ls, .ref w.length :: st, w ++ [.inl (kd, n.toNatClampNeg, .inl (fun _ => 0))], k1 + 1, k2 + n.toNatClampNeg) else none
        | none => none
      | _ => none
    | .anewarray _ => match st with
      | .int n :: st => if ¬ n < 0 ∧ n.toNatClampNeg ≤ 1000 ∧ k1 + 1 ≤ M.2.2.1 ∧ k2 + n.toNatClampNeg ≤ M.2.2.2 then am_nx (pc + 3, ls, .ref w.length :: st, w ++ [.inl (2, n.toNatClampNeg, .inr (fun _ => none))], k1 + 1, k2 + n.toNatClampNeg) else none
      | _ => none
    | .new _ => match D[a]? with
      | some fs => if k1 + 1 ≤ M.2.2.1 ∧ k2 + fs.length ≤ M.2.2.2 then am_nx (pc + 3, ls, .ref w.length :: st, w ++ [.inr (a, fs)], k1 + 1, k2 + fs.length) else none
      | none => none
    | .invokespecial _ => if a = 1000 then (match st with
      | .ref _ :: st => if (st.map fun v => v.category).sum ≤ 8 then am_nx (pc + 3, ls, st, w, k1, k2) else none
      | _ => none) else am_call P M a b pc ls st w k1 k2
    | .invokestatic _ => if a = 1001 then (match st with
      | .int n :: .int dp :: .ref q1 :: .int sp :: .ref q0 :: st => match w[q0]?, w[q1]? with
        | some (.inl (0, n0, .inl f)), some (.inl (0, n1, .inl g)) => if ¬ sp < 0 ∧ ¬ dp < 0 ∧ ¬ n < 0 ∧ sp.toNatClampNeg + n.toNatClampNeg ≤ n0 ∧ dp.toNatClampNeg + n.toNatClampNeg ≤ n1 ∧ 2 ≤ q0 ∧ 2 ≤ q1 ∧ (st.map fun v => v.category).sum ≤ 8 then
          am_nx (pc + 3, ls, st, w.set q1 (.inl (0, n1, .inl (va_cpy f g sp.toNatClampNeg dp.toNatClampNeg n.toNatClampNeg))), k1, k2) else none
        | _, _ => none
      | _ => none) else am_call P M a b pc ls st w k1 k2
    | .invokevirtual _ => match (st.take b).reverse with
      | .ref q :: _ => match w[q]? with
        | some (.inr (ci, _)) => if (ci : Int) = v ∧ 2 ≤ q then am_call P M a b pc ls st w k1 k2 else none
        | _ => none
      | _ => none
    | .ireturn => match st with
      | [.int x] => if a = 0 ∨ x = 0 ∨ x = 1 then some (.inl (some (.int x), w)) else none
      | _ => none
    | .lreturn => match st with
      | [.long x] => some (.inl (some (.long x), w))
      | _ => none
    | .return_ => match st with
      | [] => some (.inl (none, w))
      | _ => none
    | _ => none
def am_step (D : List (List Value)) (P : List am_M) (M : am_M) (s : am_S) : Option am_A := match am_row M.1 s.1 with
  | none => none
  | some r => am_act D P M r s
/-- a method from a state to its end, with fuel -/
def am_exec (D : List (List Value)) (P : List am_M) : Nat → Nat → am_S → Option am_V
  | 0 => fun _ _ => none
  | n + 1 => fun y s => match P[y]? with
    | none => none
    | some M => match am_step D P M s with
      | none => none
      | some (.inl r) => some r
      | some (.inr (.inl s')) => am_exec D P n y s'
      | some (.inr (.inr (y', vs, s'))) => match P[y']? with
        | none => none
        | some N => match am_exec D P n y' (0, am_ent N.2.1 vs, [], s'.2.2.2.1, 0, 0) with
          | none => none
          | some (res, w') => am_exec D P n y (s'.1, s'.2.1, res.toList ++ s'.2.2.1, w', s'.2.2.2.2)
theorem am_mono {D : List (List Value)} {P : List am_M} : ∀ (n : Nat) (y : Nat) (s : am_S) (x : am_V), am_exec D P n y s = some x → am_exec D P (n + 1) y s = some x := by
  intro n
  induction n with
  | zero => intro y s x h; simp [am_exec] at h
  | succ n ih =>
    intro y s x h
    rw [am_exec] at h ⊢
    cases hP : P[y]? with
    | none => simp [hP] at h
    | some M =>
      simp only [hP] at h ⊢
      cases hs : am_step D P M s with
      | none => simp [hs] at h
      | some q =>
        simp only [hs] at h ⊢
        match q, h with
        | .inl r, h => exact h
        | .inr (.inl s'), h => exact ih y s' x h
        | .inr (.inr (y', vs, s')), h =>
          cases hN : P[y']? with
          | none => simp [hN] at h
          | some N =>
            simp only [hN] at h ⊢
            cases hc : am_exec D P n y' (0, am_ent N.2.1 vs, [], s'.2.2.2.1, 0, 0) with
            | none => simp [hc] at h
            | some z =>
              simp only [hc] at h
              rw [ih _ _ _ hc]
              exact ih _ _ _ h
theorem am_mono' {D : List (List Value)} {P : List am_M} {n k y : Nat} {s : am_S} {x : am_V} (hk : n ≤ k) (h : am_exec D P n y s = some x) : am_exec D P k y s = some x := by
  induction k with
  | zero => rw [show n = 0 by omega] at h; exact h
  | succ k ih =>
    rcases Nat.lt_or_ge n (k + 1) with q | q
    · exact am_mono k y s x (ih (by omega))
    · rw [show n = k + 1 by omega] at h; exact h
