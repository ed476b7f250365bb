/-! rules of the small machine, goal first: one an instruction -/
/-- from this state the method comes to an end with Q -/
def am_Go (y : Nat) (s : am_S) (Q : Option Value → am_W → Prop) : Prop := ∃ (n : Nat) (res : Option Value) (w' : am_W), am_exec am_D am_P n y s = some (res, w') ∧ Q res w'
theorem am_exec_succ (n y : Nat) (s : am_S) : am_exec am_D am_P (n + 1) y s = match am_P[y]? with
    | none => none
    | some M => match am_step am_D am_P M s with
      | none => none
      | some (.inl r) => some r
      | some (.inr (.inl s')) => am_exec am_D am_P n y s'
      | some (.inr (.inr (y', vs, s'))) => match am_P[y']? with
        | none => none
        | some N => match am_exec am_D am_P n y' (0, am_ent N.2.1 vs, [], s'.2.2.2.1, 0, 0) with
          | none => none
          | some (res, w') => am_exec am_D am_P n y (s'.1, s'.2.1, res.toList ++ s'.2.2.1, w', s'.2.2.2.2) := rfl
section AR
variable {y : Nat} {M : am_M} {s s' : am_S} {Q : Option Value → am_W → Prop}
theorem am_Go.next (hM : am_P[y]? = some M) (hs : am_step am_D am_P M s = some (.inr (.inl s'))) (k : am_Go y s' Q) : am_Go y s Q := by
  obtain ⟨n, res, w', h, q⟩ := k
  refine ⟨n + 1, res, w', ?_, q⟩
  rw [am_exec_succ, hM]
  simp only [hs]
  exact h
theorem am_Go.ret {res : Option Value} {w : am_W} (hM : am_P[y]? = some M) (hs : am_step am_D am_P M s = some (.inl (res, w))) (q : Q res w) : am_Go y s Q := by
  refine ⟨1, res, w, ?_, q⟩
  rw [am_exec_succ, hM]
  simp only [hs]
theorem am_Go.call {y' : Nat} {N : am_M} {vs : List Value} {Q' : Option Value → am_W → Prop} (hM : am_P[y]? = some M) (hs : am_step am_D am_P M s = some (.inr (.inr (y', vs, s')))) (hN : am_P[y']? = some N) (hc : am_Go y' (0, am_ent N.2.1 vs, [], s'.2.2.2.1, 0, 0) Q') (k : ∀ res w', Q' res w' → am_Go y (s'.1, s'.2.1, res.toList ++ s'.2.2.1, w', s'.2.2.2.2) Q) : am_Go y s Q := by
  obtain ⟨n1, r1, w1, h1, q1⟩ := hc
  obtain ⟨n2, r2, w2, h2, q2⟩ := k r1 w1 q1
  refine ⟨max n1 n2 + 1, r2, w2, ?_, q2⟩
  rw [am_exec_succ, hM]
  simp only [hs, hN, am_mono' (Nat.le_max_left n1 n2) h1]
  exact am_mono' (Nat.le_max_right n1 n2) h2
theorem am_Go.mono {Q' : Option Value → am_W → Prop} (h : am_Go y s Q) (k : ∀ res w', Q res w' → Q' res w') : am_Go y s Q' := by
  obtain ⟨n, res, w', h, q⟩ := h
  exact ⟨n, res, w', h, k res w' q⟩
theorem am_Go.eq {s' : am_S} (h : s = s') (k : am_Go y s' Q) : am_Go y s Q := h ▸ k
theorem am_stp {pc : Nat} {t : List Value × List Value × am_W × Nat × Nat} {r : am_R} (hr : am_row M.1 pc = some r) : am_step am_D am_P M (pc, t) = am_act am_D am_P M r (pc, t) := by
  show (match am_row M.1 pc with | none => none | some r => am_act am_D am_P M r (pc, t)) = _
  rw [hr]
variable {pc pc' q0 len a b k1 k2 : Nat} {v : Int} {ls st : List Value} {w : am_W}
theorem ar_iconst {c : Int} {x : Int32} (hM : am_P[y]? = some M) (hr : am_row M.1 pc = some (q0, .iconst c, len, a, b, v)) (hx : Int32.ofInt c = x) (hp : pc + 1 = pc') (k : am_Go y (pc', ls, .int x :: st, w, k1, k2) Q) : am_Go y (pc, ls, st, w, k1, k2) Q := by
  subst hp
  refine am_Go.next hM ?_ k
  rw [am_stp hr]
  subst hx
  rfl
theorem ar_bipush {c : Int} {x : Int32} (hM : am_P[y]? = some M) (hr : am_row M.1 pc = some (q0, .bipush c, len, a, b, v)) (hx : (Int8.ofInt c).toInt32 = x) (hp : pc + 2 = pc') (k : am_Go y (pc', ls, .int x :: st, w, k1, k2) Q) : am_Go y (pc, ls, st, w, k1, k2) Q := by
  subst hp
  refine am_Go.next hM ?_ k
  rw [am_stp hr]
  subst hx
  rfl
theorem ar_sipush {c : Int} {x : Int32} (hM : am_P[y]? = some M) (hr : am_row M.1 pc = some (q0, .sipush c, len, a, b, v)) (hx : (Int16.ofInt c).toInt32 = x) (hp : pc + 3 = pc') (k : am_Go y (pc', ls, .int x :: st, w, k1, k2) Q) : am_Go y (pc, ls, st, w, k1, k2) Q := by
  subst hp
  refine am_Go.next hM ?_ k
  rw [am_stp hr]
  subst hx
  rfl
theorem ar_ldc {c : Nat} {x : Int32} (hM : am_P[y]? = some M) (hr : am_row M.1 pc = some (q0, .ldc c, len, a, b, v)) (hx : Int32.ofInt v = x) (hp : pc + 2 = pc') (k : am_Go y (pc', ls, .int x :: st, w, k1, k2) Q) : am_Go y (pc, ls, st, w, k1, k2) Q := by
  subst hp
  refine am_Go.next hM ?_ k
  rw [am_stp hr]
  subst hx
  rfl
theorem ar_ldc_w {c : Nat} {x : Int32} (hM : am_P[y]? = some M) (hr : am_row M.1 pc = some (q0, .ldc_w c, len, a, b, v)) (hx : Int32.ofInt v = x) (hp : pc + 3 = pc') (k : am_Go y (pc', ls, .int x :: st, w, k1, k2) Q) : am_Go y (pc, ls, st, w, k1, k2) Q := by
  subst hp
  refine am_Go.next hM ?_ k
  rw [am_stp hr]
  subst hx
  rfl
theorem ar_ldc2_w {c : Nat} {x : Int64} (hM : am_P[y]? = some M) (hr : am_row M.1 pc = some (q0, .ldc2_w c, len, a, b, v)) (hx : Int64.ofInt v = x) (hp : pc + 3 = pc') (k : am_Go y (pc', ls, .long x :: st, w, k1, k2) Q) : am_Go y (pc, ls, st, w, k1, k2) Q := by
  subst hp
  refine am_Go.next hM ?_ k
  rw [am_stp hr]
  subst hx
  rfl
theorem ar_lconst {c : Fin 2} {x : Int64} (hM : am_P[y]? = some M) (hr : am_row M.1 pc = some (q0, .lconst c, len, a, b, v)) (hx : Int64.ofNat c.val = x) (hp : pc + 1 = pc') (k : am_Go y (pc', ls, .long x :: st, w, k1, k2) Q) : am_Go y (pc, ls, st, w, k1, k2) Q := by
  subst hp
  refine am_Go.next hM ?_ k
  rw [am_stp hr]
  subst hx
  rfl
theorem ar_iload {n : Nat} {x : Int32} (hM : am_P[y]? = some M) (hr : am_row M.1 pc = some (q0, .iload n, len, a, b, v)) (hl : ls[n]? = some (.int x)) (hp : pc + 2 = pc') (k : am_Go y (pc', ls, .int x :: st, w, k1, k2) Q) : am_Go y (pc, ls, st, w, k1, k2) Q := by
  subst hp
  refine am_Go.next hM ?_ k
  rw [am_stp hr]
  show (match ls[n]? with | some (.int x) => _ | _ => none) = _
  rw [hl]
  rfl
theorem ar_iload_n {n : Fin 4} {x : Int32} (hM : am_P[y]? = some M) (hr : am_row M.1 pc = some (q0, .iload_n n, len, a, b, v)) (hl : ls[n.val]? = some (.int x)) (hp : pc + 1 = pc') (k : am_Go y (pc', ls, .int x :: st, w, k1, k2) Q) : am_Go y (pc, ls, st, w, k1, k2) Q := by
  subst hp
  refine am_Go.next hM ?_ k
  rw [am_stp hr]
  show (match ls[n.val]? with | some (.int x) => _ | _ => none) = _
  rw [hl]
  rfl
theorem ar_lload {n : Nat} {x : Int64} (hM : am_P[y]? = some M) (hr : am_row M.1 pc = some (q0, .lload n, len, a, b, v)) (hl : ls[n]? = some (.long x)) (hp : pc + 2 = pc') (k : am_Go y (pc', ls, .long x :: st, w, k1, k2) Q) : am_Go y (pc, ls, st, w, k1, k2) Q := by
  subst hp
  refine am_Go.next hM ?_ k
  rw [am_stp hr]
  show (match ls[n]? with | some (.long x) => _ | _ => none) = _
  rw [hl]
  rfl
theorem ar_lload_n {n : Fin 4} {x : Int64} (hM : am_P[y]? = some M) (hr : am_row M.1 pc = some (q0, .lload_n n, len, a, b, v)) (hl : ls[n.val]? = some (.long x)) (hp : pc + 1 = pc') (k : am_Go y (pc', ls, .long x :: st, w, k1, k2) Q) : am_Go y (pc, ls, st, w, k1, k2) Q := by
  subst hp
  refine am_Go.next hM ?_ k
  rw [am_stp hr]
  show (match ls[n.val]? with | some (.long x) => _ | _ => none) = _
  rw [hl]
  rfl
theorem ar_aload {n : Nat} {x : Nat} (hM : am_P[y]? = some M) (hr : am_row M.1 pc = some (q0, .aload n, len, a, b, v)) (hl : ls[n]? = some (.ref x)) (hp : pc + 2 = pc') (k : am_Go y (pc', ls, .ref x :: st, w, k1, k2) Q) : am_Go y (pc, ls, st, w, k1, k2) Q := by
  subst hp
  refine am_Go.next hM ?_ k
  rw [am_stp hr]
  show (match ls[n]? with | some (.ref x) => _ | _ => none) = _
  rw [hl]
  rfl
theorem ar_aload_n {n : Fin 4} {x : Nat} (hM : am_P[y]? = some M) (hr : am_row M.1 pc = some (q0, .aload_n n, len, a, b, v)) (hl : ls[n.val]? = some (.ref x)) (hp : pc + 1 = pc') (k : am_Go y (pc', ls, .ref x :: st, w, k1, k2) Q) : am_Go y (pc, ls, st, w, k1, k2) Q := by
  subst hp
  refine am_Go.next hM ?_ k
  rw [am_stp hr]
  show (match ls[n.val]? with | some (.ref x) => _ | _ => none) = _
  rw [hl]
  rfl
theorem ar_istore {n : Nat} {x : Int32} {ls2 : List Value} (hM : am_P[y]? = some M) (hr : am_row M.1 pc = some (q0, .istore n, len, a, b, v)) (hl : am_free ls n = true) (hs : ls.set n (.int x) = ls2) (hp : pc + 2 = pc') (k : am_Go y (pc', ls2, st, w, k1, k2) Q) : am_Go y (pc, ls, .int x :: st, w, k1, k2) Q := by
  subst hp
  refine am_Go.next hM ?_ k
  rw [am_stp hr]
  subst hs
  show (bif am_free ls n then _ else none) = _
  rw [hl]
  rfl
theorem ar_istore_n {n : Fin 4} {x : Int32} {ls2 : List Value} (hM : am_P[y]? = some M) (hr : am_row M.1 pc = some (q0, .istore_n n, len, a, b, v)) (hl : am_free ls n.val = true) (hs : ls.set n.val (.int x) = ls2) (hp : pc + 1 = pc') (k : am_Go y (pc', ls2, st, w, k1, k2) Q) : am_Go y (pc, ls, .int x :: st, w, k1, k2) Q := by
  subst hp
  refine am_Go.next hM ?_ k
  rw [am_stp hr]
  subst hs
  show (bif am_free ls n.val then _ else none) = _
  rw [hl]
  rfl
theorem ar_astore {n : Nat} {x : Nat} {ls2 : List Value} (hM : am_P[y]? = some M) (hr : am_row M.1 pc = some (q0, .astore n, len, a, b, v)) (hl : am_free ls n = true) (hs : ls.set n (.ref x) = ls2) (hp : pc + 2 = pc') (k : am_Go y (pc', ls2, st, w, k1, k2) Q) : am_Go y (pc, ls, .ref x :: st, w, k1, k2) Q := by
  subst hp
  refine am_Go.next hM ?_ k
  rw [am_stp hr]
  subst hs
  show (bif am_free ls n then _ else none) = _
  rw [hl]
  rfl
theorem ar_astore_n {n : Fin 4} {x : Nat} {ls2 : List Value} (hM : am_P[y]? = some M) (hr : am_row M.1 pc = some (q0, .astore_n n, len, a, b, v)) (hl : am_free ls n.val = true) (hs : ls.set n.val (.ref x) = ls2) (hp : pc + 1 = pc') (k : am_Go y (pc', ls2, st, w, k1, k2) Q) : am_Go y (pc, ls, .ref x :: st, w, k1, k2) Q := by
  subst hp
  refine am_Go.next hM ?_ k
  rw [am_stp hr]
  subst hs
  show (bif am_free ls n.val then _ else none) = _
  rw [hl]
  rfl
theorem ar_lstore {n : Nat} {x : Int64} {ls2 : List Value} (hM : am_P[y]? = some M) (hr : am_row M.1 pc = some (q0, .lstore n, len, a, b, v)) (hl : (am_free ls n && Nat.blt (n + 1) ls.length) = true) (hs : (ls.set n (.long x)).set (n + 1) (.float 0) = ls2) (hp : pc + 2 = pc') (k : am_Go y (pc', ls2, st, w, k1, k2) Q) : am_Go y (pc, ls, .long x :: st, w, k1, k2) Q := by
  subst hp
  refine am_Go.next hM ?_ k
  rw [am_stp hr]
  subst hs
  show (bif am_free ls n && Nat.blt (n + 1) ls.length then _ else none) = _
  rw [hl]
  rfl
theorem ar_lstore_n {n : Fin 4} {x : Int64} {ls2 : List Value} (hM : am_P[y]? = some M) (hr : am_row M.1 pc = some (q0, .lstore_n n, len, a, b, v)) (hl : (am_free ls n.val && Nat.blt (n.val + 1) ls.length) = true) (hs : (ls.set n.val (.long x)).set (n.val + 1) (.float 0) = ls2) (hp : pc + 1 = pc') (k : am_Go y (pc', ls2, st, w, k1, k2) Q) : am_Go y (pc, ls, .long x :: st, w, k1, k2) Q := by
  subst hp
  refine am_Go.next hM ?_ k
  rw [am_stp hr]
  subst hs
  show (bif am_free ls n.val && Nat.blt (n.val + 1) ls.length then _ else none) = _
  rw [hl]
  rfl
theorem ar_iinc {n : Nat} {c : Int} {x z : Int32} {ls2 : List Value} (hM : am_P[y]? = some M) (hr : am_row M.1 pc = some (q0, .iinc n c, len, a, b, v)) (hv : ls[n]? = some (.int x)) (hz : x + Int32.ofInt c = z) (hl : am_free ls n = true) (hs : ls.set n (.int z) = ls2) (hp : pc + 3 = pc') (k : am_Go y (pc', ls2, st, w, k1, k2) Q) : am_Go y (pc, ls, st, w, k1, k2) Q := by
  subst hp
  refine am_Go.next hM ?_ k
  rw [am_stp hr]
  subst hs
  subst hz
  show (match ls[n]? with | some (.int x) => (bif am_free ls n then _ else none) | _ => none) = _
  rw [hv]
  show (bif am_free ls n then _ else none) = _
  rw [hl]
  rfl
theorem ar_dup {x : Value} (hM : am_P[y]? = some M) (hr : am_row M.1 pc = some (q0, .dup, len, a, b, v)) (hx : x.category = 1) (hp : pc + 1 = pc') (k : am_Go y (pc', ls, x :: x :: st, w, k1, k2) Q) : am_Go y (pc, ls, x :: st, w, k1, k2) Q := by
  subst hp
  refine am_Go.next hM ?_ k
  rw [am_stp hr]
  show (if x.category = 1 then _ else none) = _
  rw [if_pos hx]
  rfl
theorem ar_dup2 {x z : Value} (hM : am_P[y]? = some M) (hr : am_row M.1 pc = some (q0, .dup2, len, a, b, v)) (hx : x.category = 1) (hz : z.category = 1) (hp : pc + 1 = pc') (k : am_Go y (pc', ls, x :: z :: x :: z :: st, w, k1, k2) Q) : am_Go y (pc, ls, x :: z :: st, w, k1, k2) Q := by
  subst hp
  refine am_Go.next hM ?_ k
  rw [am_stp hr]
  show (if x.category = 1 ∧ z.category = 1 then _ else none) = _
  rw [if_pos ⟨hx, hz⟩]
  rfl
theorem ar_pop {x : Value} (hM : am_P[y]? = some M) (hr : am_row M.1 pc = some (q0, .pop, len, a, b, v)) (hx : x.category = 1) (hp : pc + 1 = pc') (k : am_Go y (pc', ls, st, w, k1, k2) Q) : am_Go y (pc, ls, x :: st, w, k1, k2) Q := by
  subst hp
  refine am_Go.next hM ?_ k
  rw [am_stp hr]
  show (if x.category = 1 then _ else none) = _
  rw [if_pos hx]
  rfl
theorem ar_iadd {x z : Int32} (hM : am_P[y]? = some M) (hr : am_row M.1 pc = some (q0, .iadd, len, a, b, v)) (hp : pc + 1 = pc') (k : am_Go y (pc', ls, .int (x + z) :: st, w, k1, k2) Q) : am_Go y (pc, ls, .int z :: .int x :: st, w, k1, k2) Q := by
  subst hp
  refine am_Go.next hM ?_ k
  rw [am_stp hr]
  rfl
theorem ar_isub {x z : Int32} (hM : am_P[y]? = some M) (hr : am_row M.1 pc = some (q0, .isub, len, a, b, v)) (hp : pc + 1 = pc') (k : am_Go y (pc', ls, .int (x - z) :: st, w, k1, k2) Q) : am_Go y (pc, ls, .int z :: .int x :: st, w, k1, k2) Q := by
  subst hp
  refine am_Go.next hM ?_ k
  rw [am_stp hr]
  rfl
theorem ar_imul {x z : Int32} (hM : am_P[y]? = some M) (hr : am_row M.1 pc = some (q0, .imul, len, a, b, v)) (hp : pc + 1 = pc') (k : am_Go y (pc', ls, .int (x * z) :: st, w, k1, k2) Q) : am_Go y (pc, ls, .int z :: .int x :: st, w, k1, k2) Q := by
  subst hp
  refine am_Go.next hM ?_ k
  rw [am_stp hr]
  rfl
theorem ar_iand {x z : Int32} (hM : am_P[y]? = some M) (hr : am_row M.1 pc = some (q0, .iand, len, a, b, v)) (hp : pc + 1 = pc') (k : am_Go y (pc', ls, .int (x &&& z) :: st, w, k1, k2) Q) : am_Go y (pc, ls, .int z :: .int x :: st, w, k1, k2) Q := by
  subst hp
  refine am_Go.next hM ?_ k
  rw [am_stp hr]
  rfl
theorem ar_ior {x z : Int32} (hM : am_P[y]? = some M) (hr : am_row M.1 pc = some (q0, .ior, len, a, b, v)) (hp : pc + 1 = pc') (k : am_Go y (pc', ls, .int (x ||| z) :: st, w, k1, k2) Q) : am_Go y (pc, ls, .int z :: .int x :: st, w, k1, k2) Q := by
  subst hp
  refine am_Go.next hM ?_ k
  rw [am_stp hr]
  rfl
theorem ar_ixor {x z : Int32} (hM : am_P[y]? = some M) (hr : am_row M.1 pc = some (q0, .ixor, len, a, b, v)) (hp : pc + 1 = pc') (k : am_Go y (pc', ls, .int (x ^^^ z) :: st, w, k1, k2) Q) : am_Go y (pc, ls, .int z :: .int x :: st, w, k1, k2) Q := by
  subst hp
  refine am_Go.next hM ?_ k
  rw [am_stp hr]
  rfl
theorem ar_ishl {x z : Int32} (hM : am_P[y]? = some M) (hr : am_row M.1 pc = some (q0, .ishl, len, a, b, v)) (hp : pc + 1 = pc') (k : am_Go y (pc', ls, .int (x <<< (z &&& 31)) :: st, w, k1, k2) Q) : am_Go y (pc, ls, .int z :: .int x :: st, w, k1, k2) Q := by
  subst hp
  refine am_Go.next hM ?_ k
  rw [am_stp hr]
  rfl
theorem ar_ishr {x z : Int32} (hM : am_P[y]? = some M) (hr : am_row M.1 pc = some (q0, .ishr, len, a, b, v)) (hp : pc + 1 = pc') (k : am_Go y (pc', ls, .int (x >>> (z &&& 31)) :: st, w, k1, k2) Q) : am_Go y (pc, ls, .int z :: .int x :: st, w, k1, k2) Q := by
  subst hp
  refine am_Go.next hM ?_ k
  rw [am_stp hr]
  rfl
theorem ar_iushr {x z : Int32} (hM : am_P[y]? = some M) (hr : am_row M.1 pc = some (q0, .iushr, len, a, b, v)) (hp : pc + 1 = pc') (k : am_Go y (pc', ls, .int ((x.toUInt32 >>> (z.toUInt32 &&& Int32.toUInt32 31)).toInt32) :: st, w, k1, k2) Q) : am_Go y (pc, ls, .int z :: .int x :: st, w, k1, k2) Q := by
  subst hp
  refine am_Go.next hM ?_ k
  rw [am_stp hr]
  rfl
theorem ar_idiv {x z : Int32} (hM : am_P[y]? = some M) (hr : am_row M.1 pc = some (q0, .idiv, len, a, b, v)) (hz : ¬ z = 0) (hp : pc + 1 = pc') (k : am_Go y (pc', ls, .int (x / z) :: st, w, k1, k2) Q) : am_Go y (pc, ls, .int z :: .int x :: st, w, k1, k2) Q := by
  subst hp
  refine am_Go.next hM ?_ k
  rw [am_stp hr]
  show (if z = 0 then none else _) = _
  rw [if_neg hz]
  rfl
theorem ar_irem {x z : Int32} (hM : am_P[y]? = some M) (hr : am_row M.1 pc = some (q0, .irem, len, a, b, v)) (hz : ¬ z = 0) (hp : pc + 1 = pc') (k : am_Go y (pc', ls, .int (x - x / z * z) :: st, w, k1, k2) Q) : am_Go y (pc, ls, .int z :: .int x :: st, w, k1, k2) Q := by
  subst hp
  refine am_Go.next hM ?_ k
  rw [am_stp hr]
  show (if z = 0 then none else _) = _
  rw [if_neg hz]
  rfl
theorem ar_ineg {x : Int32} (hM : am_P[y]? = some M) (hr : am_row M.1 pc = some (q0, .ineg, len, a, b, v)) (hp : pc + 1 = pc') (k : am_Go y (pc', ls, .int (-x) :: st, w, k1, k2) Q) : am_Go y (pc, ls, .int x :: st, w, k1, k2) Q := by
  subst hp
  refine am_Go.next hM ?_ k
  rw [am_stp hr]
  rfl
theorem ar_i2l {x : Int32} (hM : am_P[y]? = some M) (hr : am_row M.1 pc = some (q0, .i2l, len, a, b, v)) (hp : pc + 1 = pc') (k : am_Go y (pc', ls, .long x.toInt64 :: st, w, k1, k2) Q) : am_Go y (pc, ls, .int x :: st, w, k1, k2) Q := by
  subst hp
  refine am_Go.next hM ?_ k
  rw [am_stp hr]
  rfl
theorem ar_l2i {x : Int64} (hM : am_P[y]? = some M) (hr : am_row M.1 pc = some (q0, .l2i, len, a, b, v)) (hp : pc + 1 = pc') (k : am_Go y (pc', ls, .int x.toInt32 :: st, w, k1, k2) Q) : am_Go y (pc, ls, .long x :: st, w, k1, k2) Q := by
  subst hp
  refine am_Go.next hM ?_ k
  rw [am_stp hr]
  rfl
theorem ar_ladd {x z : Int64} (hM : am_P[y]? = some M) (hr : am_row M.1 pc = some (q0, .ladd, len, a, b, v)) (hp : pc + 1 = pc') (k : am_Go y (pc', ls, .long (x + z) :: st, w, k1, k2) Q) : am_Go y (pc, ls, .long z :: .long x :: st, w, k1, k2) Q := by
  subst hp
  refine am_Go.next hM ?_ k
  rw [am_stp hr]
  rfl
theorem ar_lsub {x z : Int64} (hM : am_P[y]? = some M) (hr : am_row M.1 pc = some (q0, .lsub, len, a, b, v)) (hp : pc + 1 = pc') (k : am_Go y (pc', ls, .long (x - z) :: st, w, k1, k2) Q) : am_Go y (pc, ls, .long z :: .long x :: st, w, k1, k2) Q := by
  subst hp
  refine am_Go.next hM ?_ k
  rw [am_stp hr]
  rfl
theorem ar_lmul {x z : Int64} (hM : am_P[y]? = some M) (hr : am_row M.1 pc = some (q0, .lmul, len, a, b, v)) (hp : pc + 1 = pc') (k : am_Go y (pc', ls, .long (x * z) :: st, w, k1, k2) Q) : am_Go y (pc, ls, .long z :: .long x :: st, w, k1, k2) Q := by
  subst hp
  refine am_Go.next hM ?_ k
  rw [am_stp hr]
  rfl
theorem ar_land {x z : Int64} (hM : am_P[y]? = some M) (hr : am_row M.1 pc = some (q0, .land, len, a, b, v)) (hp : pc + 1 = pc') (k : am_Go y (pc', ls, .long (x &&& z) :: st, w, k1, k2) Q) : am_Go y (pc, ls, .long z :: .long x :: st, w, k1, k2) Q := by
  subst hp
  refine am_Go.next hM ?_ k
  rw [am_stp hr]
  rfl
theorem ar_lor {x z : Int64} (hM : am_P[y]? = some M) (hr : am_row M.1 pc = some (q0, .lor, len, a, b, v)) (hp : pc + 1 = pc') (k : am_Go y (pc', ls, .long (x ||| z) :: st, w, k1, k2) Q) : am_Go y (pc, ls, .long z :: .long x :: st, w, k1, k2) Q := by
  subst hp
  refine am_Go.next hM ?_ k
  rw [am_stp hr]
  rfl
theorem ar_ldiv {x z : Int64} (hM : am_P[y]? = some M) (hr : am_row M.1 pc = some (q0, .ldiv, len, a, b, v)) (hz : ¬ z = 0) (hp : pc + 1 = pc') (k : am_Go y (pc', ls, .long (x / z) :: st, w, k1, k2) Q) : am_Go y (pc, ls, .long z :: .long x :: st, w, k1, k2) Q := by
  subst hp
  refine am_Go.next hM ?_ k
  rw [am_stp hr]
  show (if z = 0 then none else _) = _
  rw [if_neg hz]
  rfl
theorem ar_lrem {x z : Int64} (hM : am_P[y]? = some M) (hr : am_row M.1 pc = some (q0, .lrem, len, a, b, v)) (hz : ¬ z = 0) (hp : pc + 1 = pc') (k : am_Go y (pc', ls, .long (x - x / z * z) :: st, w, k1, k2) Q) : am_Go y (pc, ls, .long z :: .long x :: st, w, k1, k2) Q := by
  subst hp
  refine am_Go.next hM ?_ k
  rw [am_stp hr]
  show (if z = 0 then none else _) = _
  rw [if_neg hz]
  rfl
theorem ar_lshl {x : Int64} {z : Int32} (hM : am_P[y]? = some M) (hr : am_row M.1 pc = some (q0, .lshl, len, a, b, v)) (hp : pc + 1 = pc') (k : am_Go y (pc', ls, .long (x <<< (z.toInt64 &&& 63)) :: st, w, k1, k2) Q) : am_Go y (pc, ls, .int z :: .long x :: st, w, k1, k2) Q := by
  subst hp
  refine am_Go.next hM ?_ k
  rw [am_stp hr]
  rfl
theorem ar_lushr {x : Int64} {z : Int32} (hM : am_P[y]? = some M) (hr : am_row M.1 pc = some (q0, .lushr, len, a, b, v)) (hp : pc + 1 = pc') (k : am_Go y (pc', ls, .long (x.toUInt64 >>> (z.toInt64.toUInt64 &&& Int64.toUInt64 63)).toInt64 :: st, w, k1, k2) Q) : am_Go y (pc, ls, .int z :: .long x :: st, w, k1, k2) Q := by
  subst hp
  refine am_Go.next hM ?_ k
  rw [am_stp hr]
  rfl
theorem ar_lcmp {x z : Int64} (hM : am_P[y]? = some M) (hr : am_row M.1 pc = some (q0, .lcmp, len, a, b, v)) (hp : pc + 1 = pc') (k : am_Go y (pc', ls, .int (lg_cmp x z) :: st, w, k1, k2) Q) : am_Go y (pc, ls, .long z :: .long x :: st, w, k1, k2) Q := by
  subst hp
  refine am_Go.next hM ?_ k
  rw [am_stp hr]
  rfl
theorem ar_goto {c : Int} (hM : am_P[y]? = some M) (hr : am_row M.1 pc = some (q0, .goto c, len, a, b, v)) (k : am_Go y (a, ls, st, w, k1, k2) Q) : am_Go y (pc, ls, st, w, k1, k2) Q := by
  refine am_Go.next hM ?_ k
  rw [am_stp hr]
  rfl
theorem ar_getstatic {c : Nat} (hM : am_P[y]? = some M) (hr : am_row M.1 pc = some (q0, .getstatic c, len, a, b, v)) (hp : pc + 3 = pc') (k : am_Go y (pc', ls, .ref 0 :: st, w, k1, k2) Q) : am_Go y (pc, ls, st, w, k1, k2) Q := by
  subst hp
  refine am_Go.next hM ?_ k
  rw [am_stp hr]
  rfl
theorem ar_getfield {c q : Nat} {fs : List Value} {x : Value} (hM : am_P[y]? = some M) (hr : am_row M.1 pc = some (q0, .getfield c, len, a, b, v)) (hw : w[q]? = some (.inr (a, fs))) (hx : fs[b]? = some x) (hp : pc + 3 = pc') (k : am_Go y (pc', ls, x :: st, w, k1, k2) Q) : am_Go y (pc, ls, .ref q :: st, w, k1, k2) Q := by
  subst hp
  refine am_Go.next hM ?_ k
  rw [am_stp hr]
  show (match w[q]? with | some (.inr (ci, fs)) => _ | _ => none) = _
  rw [hw]
  show (if a = a then _ else none) = _
  rw [if_pos rfl]
  show (match fs[b]? with | some x => _ | none => none) = _
  rw [hx]
  rfl
theorem ar_putfield {c q : Nat} {fs : List Value} {x : Value} (hM : am_P[y]? = some M) (hr : am_row M.1 pc = some (q0, .putfield c, len, a, b, v)) (hw : w[q]? = some (.inr (a, fs))) (hb : b < fs.length) (hf : am_fit v x = true) (hq : 2 ≤ q) (hp : pc + 3 = pc') (k : am_Go y (pc', ls, st, w.set q (.inr (a, fs.set b x)), k1, k2) Q) : am_Go y (pc, ls, x :: .ref q :: st, w, k1, k2) Q := by
  subst hp
  refine am_Go.next hM ?_ k
  rw [am_stp hr]
  show (match w[q]? with | some (.inr (ci, fs)) => _ | _ => none) = _
  rw [hw]
  show (if a = a ∧ b < fs.length ∧ am_fit v x = true ∧ 2 ≤ q then _ else none) = _
  rw [if_pos ⟨rfl, hb, hf, hq⟩]
  rfl
theorem ar_iaload {q n : Nat} {f : Nat → Int32} {i : Int32} (hM : am_P[y]? = some M) (hr : am_row M.1 pc = some (q0, .iaload, len, a, b, v)) (hw : w[q]? = some (.inl (0, n, .inl f))) (hi : am_ix i n = true) (hp : pc + 1 = pc') (k : am_Go y (pc', ls, .int (f i.toNatClampNeg) :: st, w, k1, k2) Q) : am_Go y (pc, ls, .int i :: .ref q :: st, w, k1, k2) Q := by
  subst hp
  refine am_Go.next hM ?_ k
  rw [am_stp hr]
  show (match w[q]? with | some (.inl (0, n, .inl f)) => _ | _ => none) = _
  rw [hw]
  show (bif am_ix i n then _ else none) = _
  rw [hi]
  rfl
theorem ar_baload {q n : Nat} {f : Nat → Int32} {i : Int32} (hM : am_P[y]? = some M) (hr : am_row M.1 pc = some (q0, .baload, len, a, b, v)) (hw : w[q]? = some (.inl (1, n, .inl f))) (hi : am_ix i n = true) (hq : 2 ≤ q) (hp : pc + 1 = pc') (k : am_Go y (pc', ls, .int (f i.toNatClampNeg) :: st, w, k1, k2) Q) : am_Go y (pc, ls, .int i :: .ref q :: st, w, k1, k2) Q := by
  subst hp
  refine am_Go.next hM ?_ k
  rw [am_stp hr]
  show (match w[q]? with | some (.inl (1, n, .inl f)) => _ | _ => none) = _
  rw [hw]
  show (if am_ix i n = true ∧ 2 ≤ q then _ else none) = _
  rw [if_pos ⟨hi, hq⟩]
  rfl
theorem ar_aaload {q n z : Nat} {f : Nat → Option Nat} {i : Int32} (hM : am_P[y]? = some M) (hr : am_row M.1 pc = some (q0, .aaload, len, a, b, v)) (hw : w[q]? = some (.inl (2, n, .inr f))) (hi : am_ix i n = true) (hq : 2 ≤ q) (hz : f i.toNatClampNeg = some z) (hp : pc + 1 = pc') (k : am_Go y (pc', ls, .ref z :: st, w, k1, k2) Q) : am_Go y (pc, ls, .int i :: .ref q :: st, w, k1, k2) Q := by
  subst hp
  refine am_Go.next hM ?_ k
  rw [am_stp hr]
  show (match w[q]? with | some (.inl (2, n, .inr f)) => _ | _ => none) = _
  rw [hw]
  show (if am_ix i n = true ∧ 2 ≤ q then _ else none) = _
  rw [if_pos ⟨hi, hq⟩]
  show (match f i.toNatClampNeg with | some x => _ | none => none) = _
  rw [hz]
  rfl
theorem ar_iastore {q n : Nat} {f : Nat → Int32} {i x : Int32} (hM : am_P[y]? = some M) (hr : am_row M.1 pc = some (q0, .iastore, len, a, b, v)) (hw : w[q]? = some (.inl (0, n, .inl f))) (hi : am_ix i n = true) (hq : 2 ≤ q) (hp : pc + 1 = pc') (k : am_Go y (pc', ls, st, w.set q (.inl (0, n, .inl (upd f i.toNatClampNeg x))), k1, k2) Q) : am_Go y (pc, ls, .int x :: .int i :: .ref q :: st, w, k1, k2) Q := by
  subst hp
  refine am_Go.next hM ?_ k
  rw [am_stp hr]
  show (match w[q]? with | some (.inl (0, n, .inl f)) => _ | _ => none) = _
  rw [hw]
  show (if am_ix i n = true ∧ 2 ≤ q then _ else none) = _
  rw [if_pos ⟨hi, hq⟩]
  rfl
theorem ar_bastore {q n : Nat} {f : Nat → Int32} {i x : Int32} (hM : am_P[y]? = some M) (hr : am_row M.1 pc = some (q0, .bastore, len, a, b, v)) (hw : w[q]? = some (.inl (1, n, .inl f))) (hi : am_ix i n = true) (hq : 2 ≤ q) (hx : am_fit 1 (.int x) = true) (hp : pc + 1 = pc') (k : am_Go y (pc', ls, st, w.set q (.inl (1, n, .inl (upd f i.toNatClampNeg x))), k1, k2) Q) : am_Go y (pc, ls, .int x :: .int i :: .ref q :: st, w, k1, k2) Q := by
  subst hp
  refine am_Go.next hM ?_ k
  rw [am_stp hr]
  show (match w[q]? with | some (.inl (1, n, .inl f)) => _ | _ => none) = _
  rw [hw]
  show (if am_ix i n = true ∧ 2 ≤ q ∧ am_fit 1 (.int x) = true then _ else none) = _
  rw [if_pos ⟨hi, hq, hx⟩]
  rfl
theorem ar_arraylength {q n : Nat} {f : (Nat → Int32) ⊕ (Nat → Option Nat)} {x : Int32} (hM : am_P[y]? = some M) (hr : am_row M.1 pc = some (q0, .arraylength, len, a, b, v)) (hw : w[q]? = some (.inl (0, n, f))) (hx : Int32.ofNat n = x) (hp : pc + 1 = pc') (k : am_Go y (pc', ls, .int x :: st, w, k1, k2) Q) : am_Go y (pc, ls, .ref q :: st, w, k1, k2) Q := by
  subst hp
  refine am_Go.next hM ?_ k
  rw [am_stp hr]
  subst hx
  show (match w[q]? with | some (.inl (0, n, _)) => _ | _ => none) = _
  rw [hw]
  rfl
theorem ar_arraycopy {c q1 q2 n1 n2 : Nat} {f g : Nat → Int32} {n dp sp : Int32} (hM : am_P[y]? = some M) (hr : am_row M.1 pc = some (q0, .invokestatic c, len, a, b, v)) (ha : a = 1001) (hw1 : w[q1]? = some (.inl (0, n1, .inl f))) (hw2 : w[q2]? = some (.inl (0, n2, .inl g))) (hc : ¬ sp < 0 ∧ ¬ dp < 0 ∧ ¬ n < 0 ∧ sp.toNatClampNeg + n.toNatClampNeg ≤ n1 ∧ dp.toNatClampNeg + n.toNatClampNeg ≤ n2 ∧ 2 ≤ q1 ∧ 2 ≤ q2 ∧ (st.map fun v => v.category).sum ≤ 8) (hp : pc + 3 = pc') (k : am_Go y (pc', ls, st, w.set q2 (.inl (0, n2, .inl (va_cpy f g sp.toNatClampNeg dp.toNatClampNeg n.toNatClampNeg))), k1, k2) Q) : am_Go y (pc, ls, .int n :: .int dp :: .ref q2 :: .int sp :: .ref q1 :: st, w, k1, k2) Q := by
  subst hp
  refine am_Go.next hM ?_ k
  rw [am_stp hr]
  subst ha
  show (match w[q1]?, w[q2]? with | some (.inl (0, n0, .inl f)), some (.inl (0, n1, .inl g)) => _ | _, _ => none) = _
  rw [hw1, hw2]
  show (if _ then _ else none) = _
  rw [if_pos hc]
  rfl
theorem ar_icmp_eq {c : Int} {x z : Int32} (hM : am_P[y]? = some M) (hr : am_row M.1 pc = some (q0, .if_icmp .eq c, len, a, b, v)) (hp : pc + 3 = pc') (kt : x = z → am_Go y (a, ls, st, w, k1, k2) Q) (kf : ¬ x = z → am_Go y (pc', ls, st, w, k1, k2) Q) : am_Go y (pc, ls, .int z :: .int x :: st, w, k1, k2) Q := by
  subst hp
  by_cases h : x = z
  · refine am_Go.next hM ?_ (kt h)
    rw [am_stp hr]
    show (bif am_cmp .eq x z then _ else _) = _
    rw [show am_cmp .eq x z = true by simp [am_cmp, h]]
    rfl
  · refine am_Go.next hM ?_ (kf (by first | exact h | exact Decidable.not_not.mp h))
    rw [am_stp hr]
    show (bif am_cmp .eq x z then _ else _) = _
    rw [show am_cmp .eq x z = false by first | (simp [am_cmp, h]; done) | (have h9 := Decidable.not_not.mp h; simp [am_cmp, h9])]
    rfl
theorem ar_if_eq {c : Int} {x : Int32} (hM : am_P[y]? = some M) (hr : am_row M.1 pc = some (q0, .ifCond .eq c, len, a, b, v)) (hp : pc + 3 = pc') (kt : x = 0 → am_Go y (a, ls, st, w, k1, k2) Q) (kf : ¬ x = 0 → am_Go y (pc', ls, st, w, k1, k2) Q) : am_Go y (pc, ls, .int x :: st, w, k1, k2) Q := by
  subst hp
  by_cases h : x = 0
  · refine am_Go.next hM ?_ (kt h)
    rw [am_stp hr]
    show (bif am_cmp .eq x 0 then _ else _) = _
    rw [show am_cmp .eq x 0 = true by simp [am_cmp, h]]
    rfl
  · refine am_Go.next hM ?_ (kf (by first | exact h | exact Decidable.not_not.mp h))
    rw [am_stp hr]
    show (bif am_cmp .eq x 0 then _ else _) = _
    rw [show am_cmp .eq x 0 = false by first | (simp [am_cmp, h]; done) | (have h9 := Decidable.not_not.mp h; simp [am_cmp, h9])]
    rfl
theorem ar_icmp_ne {c : Int} {x z : Int32} (hM : am_P[y]? = some M) (hr : am_row M.1 pc = some (q0, .if_icmp .ne c, len, a, b, v)) (hp : pc + 3 = pc') (kt : ¬ x = z → am_Go y (a, ls, st, w, k1, k2) Q) (kf : x = z → am_Go y (pc', ls, st, w, k1, k2) Q) : am_Go y (pc, ls, .int z :: .int x :: st, w, k1, k2) Q := by
  subst hp
  by_cases h : ¬ x = z
  · refine am_Go.next hM ?_ (kt h)
    rw [am_stp hr]
    show (bif am_cmp .ne x z then _ else _) = _
    rw [show am_cmp .ne x z = true by simp [am_cmp, h]]
    rfl
  · refine am_Go.next hM ?_ (kf (by first | exact h | exact Decidable.not_not.mp h))
    rw [am_stp hr]
    show (bif am_cmp .ne x z then _ else _) = _
    rw [show am_cmp .ne x z = false by first | (simp [am_cmp, h]; done) | (have h9 := Decidable.not_not.mp h; simp [am_cmp, h9])]
    rfl
theorem ar_if_ne {c : Int} {x : Int32} (hM : am_P[y]? = some M) (hr : am_row M.1 pc = some (q0, .ifCond .ne c, len, a, b, v)) (hp : pc + 3 = pc') (kt : ¬ x = 0 → am_Go y (a, ls, st, w, k1, k2) Q) (kf : x = 0 → am_Go y (pc', ls, st, w, k1, k2) Q) : am_Go y (pc, ls, .int x :: st, w, k1, k2) Q := by
  subst hp
  by_cases h : ¬ x = 0
  · refine am_Go.next hM ?_ (kt h)
    rw [am_stp hr]
    show (bif am_cmp .ne x 0 then _ else _) = _
    rw [show am_cmp .ne x 0 = true by simp [am_cmp, h]]
    rfl
  · refine am_Go.next hM ?_ (kf (by first | exact h | exact Decidable.not_not.mp h))
    rw [am_stp hr]
    show (bif am_cmp .ne x 0 then _ else _) = _
    rw [show am_cmp .ne x 0 = false by first | (simp [am_cmp, h]; done) | (have h9 := Decidable.not_not.mp h; simp [am_cmp, h9])]
    rfl
theorem ar_icmp_lt {c : Int} {x z : Int32} (hM : am_P[y]? = some M) (hr : am_row M.1 pc = some (q0, .if_icmp .lt c, len, a, b, v)) (hp : pc + 3 = pc') (kt : x < z → am_Go y (a, ls, st, w, k1, k2) Q) (kf : ¬ x < z → am_Go y (pc', ls, st, w, k1, k2) Q) : am_Go y (pc, ls, .int z :: .int x :: st, w, k1, k2) Q := by
  subst hp
  by_cases h : x < z
  · refine am_Go.next hM ?_ (kt h)
    rw [am_stp hr]
    show (bif am_cmp .lt x z then _ else _) = _
    rw [show am_cmp .lt x z = true by simp [am_cmp, h]]
    rfl
  · refine am_Go.next hM ?_ (kf (by first | exact h | exact Decidable.not_not.mp h))
    rw [am_stp hr]
    show (bif am_cmp .lt x z then _ else _) = _
    rw [show am_cmp .lt x z = false by first | (simp [am_cmp, h]; done) | (have h9 := Decidable.not_not.mp h; simp [am_cmp, h9])]
    rfl
theorem ar_if_lt {c : Int} {x : Int32} (hM : am_P[y]? = some M) (hr : am_row M.1 pc = some (q0, .ifCond .lt c, len, a, b, v)) (hp : pc + 3 = pc') (kt : x < 0 → am_Go y (a, ls, st, w, k1, k2) Q) (kf : ¬ x < 0 → am_Go y (pc', ls, st, w, k1, k2) Q) : am_Go y (pc, ls, .int x :: st, w, k1, k2) Q := by
  subst hp
  by_cases h : x < 0
  · refine am_Go.next hM ?_ (kt h)
    rw [am_stp hr]
    show (bif am_cmp .lt x 0 then _ else _) = _
    rw [show am_cmp .lt x 0 = true by simp [am_cmp, h]]
    rfl
  · refine am_Go.next hM ?_ (kf (by first | exact h | exact Decidable.not_not.mp h))
    rw [am_stp hr]
    show (bif am_cmp .lt x 0 then _ else _) = _
    rw [show am_cmp .lt x 0 = false by first | (simp [am_cmp, h]; done) | (have h9 := Decidable.not_not.mp h; simp [am_cmp, h9])]
    rfl
theorem ar_icmp_ge {c : Int} {x z : Int32} (hM : am_P[y]? = some M) (hr : am_row M.1 pc = some (q0, .if_icmp .ge c, len, a, b, v)) (hp : pc + 3 = pc') (kt : z ≤ x → am_Go y (a, ls, st, w, k1, k2) Q) (kf : ¬ z ≤ x → am_Go y (pc', ls, st, w, k1, k2) Q) : am_Go y (pc, ls, .int z :: .int x :: st, w, k1, k2) Q := by
  subst hp
  by_cases h : z ≤ x
  · refine am_Go.next hM ?_ (kt h)
    rw [am_stp hr]
    show (bif am_cmp .ge x z then _ else _) = _
    rw [show am_cmp .ge x z = true by simp [am_cmp, h]]
    rfl
  · refine am_Go.next hM ?_ (kf (by first | exact h | exact Decidable.not_not.mp h))
    rw [am_stp hr]
    show (bif am_cmp .ge x z then _ else _) = _
    rw [show am_cmp .ge x z = false by first | (simp [am_cmp, h]; done) | (have h9 := Decidable.not_not.mp h; simp [am_cmp, h9])]
    rfl
theorem ar_if_ge {c : Int} {x : Int32} (hM : am_P[y]? = some M) (hr : am_row M.1 pc = some (q0, .ifCond .ge c, len, a, b, v)) (hp : pc + 3 = pc') (kt : 0 ≤ x → am_Go y (a, ls, st, w, k1, k2) Q) (kf : ¬ 0 ≤ x → am_Go y (pc', ls, st, w, k1, k2) Q) : am_Go y (pc, ls, .int x :: st, w, k1, k2) Q := by
  subst hp
  by_cases h : 0 ≤ x
  · refine am_Go.next hM ?_ (kt h)
    rw [am_stp hr]
    show (bif am_cmp .ge x 0 then _ else _) = _
    rw [show am_cmp .ge x 0 = true by simp [am_cmp, h]]
    rfl
  · refine am_Go.next hM ?_ (kf (by first | exact h | exact Decidable.not_not.mp h))
    rw [am_stp hr]
    show (bif am_cmp .ge x 0 then _ else _) = _
    rw [show am_cmp .ge x 0 = false by first | (simp [am_cmp, h]; done) | (have h9 := Decidable.not_not.mp h; simp [am_cmp, h9])]
    rfl
theorem ar_icmp_gt {c : Int} {x z : Int32} (hM : am_P[y]? = some M) (hr : am_row M.1 pc = some (q0, .if_icmp .gt c, len, a, b, v)) (hp : pc + 3 = pc') (kt : z < x → am_Go y (a, ls, st, w, k1, k2) Q) (kf : ¬ z < x → am_Go y (pc', ls, st, w, k1, k2) Q) : am_Go y (pc, ls, .int z :: .int x :: st, w, k1, k2) Q := by
  subst hp
  by_cases h : z < x
  · refine am_Go.next hM ?_ (kt h)
    rw [am_stp hr]
    show (bif am_cmp .gt x z then _ else _) = _
    rw [show am_cmp .gt x z = true by simp [am_cmp, h]]
    rfl
  · refine am_Go.next hM ?_ (kf (by first | exact h | exact Decidable.not_not.mp h))
    rw [am_stp hr]
    show (bif am_cmp .gt x z then _ else _) = _
    rw [show am_cmp .gt x z = false by first | (simp [am_cmp, h]; done) | (have h9 := Decidable.not_not.mp h; simp [am_cmp, h9])]
    rfl
theorem ar_if_gt {c : Int} {x : Int32} (hM : am_P[y]? = some M) (hr : am_row M.1 pc = some (q0, .ifCond .gt c, len, a, b, v)) (hp : pc + 3 = pc') (kt : 0 < x → am_Go y (a, ls, st, w, k1, k2) Q) (kf : ¬ 0 < x → am_Go y (pc', ls, st, w, k1, k2) Q) : am_Go y (pc, ls, .int x :: st, w, k1, k2) Q := by
  subst hp
  by_cases h : 0 < x
  · refine am_Go.next hM ?_ (kt h)
    rw [am_stp hr]
    show (bif am_cmp .gt x 0 then _ else _) = _
    rw [show am_cmp .gt x 0 = true by simp [am_cmp, h]]
    rfl
  · refine am_Go.next hM ?_ (kf (by first | exact h | exact Decidable.not_not.mp h))
    rw [am_stp hr]
    show (bif am_cmp .gt x 0 then _ else _) = _
    rw [show am_cmp .gt x 0 = false by first | (simp [am_cmp, h]; done) | (have h9 := Decidable.not_not.mp h; simp [am_cmp, h9])]
    rfl
theorem ar_icmp_le {c : Int} {x z : Int32} (hM : am_P[y]? = some M) (hr : am_row M.1 pc = some (q0, .if_icmp .le c, len, a, b, v)) (hp : pc + 3 = pc') (kt : x ≤ z → am_Go y (a, ls, st, w, k1, k2) Q) (kf : ¬ x ≤ z → am_Go y (pc', ls, st, w, k1, k2) Q) : am_Go y (pc, ls, .int z :: .int x :: st, w, k1, k2) Q := by
  subst hp
  by_cases h : x ≤ z
  · refine am_Go.next hM ?_ (kt h)
    rw [am_stp hr]
    show (bif am_cmp .le x z then _ else _) = _
    rw [show am_cmp .le x z = true by simp [am_cmp, h]]
    rfl
  · refine am_Go.next hM ?_ (kf (by first | exact h | exact Decidable.not_not.mp h))
    rw [am_stp hr]
    show (bif am_cmp .le x z then _ else _) = _
    rw [show am_cmp .le x z = false by first | (simp [am_cmp, h]; done) | (have h9 := Decidable.not_not.mp h; simp [am_cmp, h9])]
    rfl
theorem ar_if_le {c : Int} {x : Int32} (hM : am_P[y]? = some M) (hr : am_row M.1 pc = some (q0, .ifCond .le c, len, a, b, v)) (hp : pc + 3 = pc') (kt : x ≤ 0 → am_Go y (a, ls, st, w, k1, k2) Q) (kf : ¬ x ≤ 0 → am_Go y (pc', ls, st, w, k1, k2) Q) : am_Go y (pc, ls, .int x :: st, w, k1, k2) Q := by
  subst hp
  by_cases h : x ≤ 0
  · refine am_Go.next hM ?_ (kt h)
    rw [am_stp hr]
    show (bif am_cmp .le x 0 then _ else _) = _
    rw [show am_cmp .le x 0 = true by simp [am_cmp, h]]
    rfl
  · refine am_Go.next hM ?_ (kf (by first | exact h | exact Decidable.not_not.mp h))
    rw [am_stp hr]
    show (bif am_cmp .le x 0 then _ else _) = _
    rw [show am_cmp .le x 0 = false by first | (simp [am_cmp, h]; done) | (have h9 := Decidable.not_not.mp h; simp [am_cmp, h9])]
    rfl
theorem ar_tableOut {d lo hi : Int} {offs : Array Int} {x : Int32} {t : Nat} (hM : am_P[y]? = some M) (hr : am_row M.1 pc = some (q0, .tableswitch d lo hi offs, len, a, b, v)) (h : x.toInt < lo ∨ hi < x.toInt) (ht : ((pc : Int) + d).toNat = t) (k : am_Go y (t, ls, st, w, k1, k2) Q) : am_Go y (pc, ls, .int x :: st, w, k1, k2) Q := by
  subst ht
  refine am_Go.next hM ?_ k
  rw [am_stp hr]
  show (if x.toInt < lo ∨ hi < x.toInt then _ else _) = _
  rw [if_pos h]
  rfl
theorem ar_tableIn {d lo hi off : Int} {offs : Array Int} {x : Int32} {t : Nat} (hM : am_P[y]? = some M) (hr : am_row M.1 pc = some (q0, .tableswitch d lo hi offs, len, a, b, v)) (h : ¬ (x.toInt < lo ∨ hi < x.toInt)) (ho : offs[(x.toInt - lo).toNat]? = some off) (ht : ((pc : Int) + off).toNat = t) (k : am_Go y (t, ls, st, w, k1, k2) Q) : am_Go y (pc, ls, .int x :: st, w, k1, k2) Q := by
  subst ht
  refine am_Go.next hM ?_ k
  rw [am_stp hr]
  show (if x.toInt < lo ∨ hi < x.toInt then _ else match offs[(x.toInt - lo).toNat]? with | some off => _ | none => none) = _
  rw [if_neg h, ho]
  rfl
theorem ar_lookup {d : Int} {ps : Array (Int × Int)} {x : Int32} {t : Nat} (hM : am_P[y]? = some M) (hr : am_row M.1 pc = some (q0, .lookupswitch d ps, len, a, b, v)) (ht : ((pc : Int) + Op.lookupswitch.offset ps.toList d x.toInt).toNat = t) (k : am_Go y (t, ls, st, w, k1, k2) Q) : am_Go y (pc, ls, .int x :: st, w, k1, k2) Q := by
  subst ht
  refine am_Go.next hM ?_ k
  rw [am_stp hr]
  rfl
theorem ar_static {c : Nat} {N : am_M} {vs rest : List Value} {k3 k4 : Nat} {Q' : Option Value → am_W → Prop} (hM : am_P[y]? = some M) (hr : am_row M.1 pc = some (q0, .invokestatic c, len, a, b, v)) (ha : ¬ a = 1001) (hN : am_P[a]? = some N) (hc : am_call am_P M a b pc ls st w k1 k2 = some (.inr (.inr (a, vs, (pc', ls, rest, w, k3, k4))))) (hg : am_Go a (0, am_ent N.2.1 vs, [], w, 0, 0) Q') (k : ∀ res w', Q' res w' → am_Go y (pc', ls, res.toList ++ rest, w', k3, k4) Q) : am_Go y (pc, ls, st, w, k1, k2) Q := by
  refine am_Go.call hM (s' := (pc', ls, rest, w, k3, k4)) ?_ hN hg k
  rw [am_stp hr]
  show (if a = 1001 then _ else am_call am_P M a b pc ls st w k1 k2) = _
  rw [if_neg ha]
  exact hc
theorem ar_virtual {c q : Nat} {N : am_M} {vs rest : List Value} {ci : Nat} {fs : List Value} {k3 k4 : Nat} {Q' : Option Value → am_W → Prop} (hM : am_P[y]? = some M) (hr : am_row M.1 pc = some (q0, .invokevirtual c, len, a, b, v)) (hv : (st.take b).reverse = .ref q :: vs) (hw : w[q]? = some (.inr (ci, fs))) (hi : (ci : Int) = v ∧ 2 ≤ q) (hN : am_P[a]? = some N) (hc : am_call am_P M a b pc ls st w k1 k2 = some (.inr (.inr (a, .ref q :: vs, (pc', ls, rest, w, k3, k4))))) (hg : am_Go a (0, am_ent N.2.1 (.ref q :: vs), [], w, 0, 0) Q') (k : ∀ res w', Q' res w' → am_Go y (pc', ls, res.toList ++ rest, w', k3, k4) Q) : am_Go y (pc, ls, st, w, k1, k2) Q := by
  refine am_Go.call hM (s' := (pc', ls, rest, w, k3, k4)) ?_ hN hg k
  rw [am_stp hr]
  show (match (st.take b).reverse with | .ref q :: _ => (match w[q]? with | some (.inr (ci, _)) => if (ci : Int) = v ∧ 2 ≤ q then am_call am_P M a b pc ls st w k1 k2 else none | _ => none) | _ => none) = _
  rw [hv]
  show (match w[q]? with | some (.inr (ci, _)) => if (ci : Int) = v ∧ 2 ≤ q then am_call am_P M a b pc ls st w k1 k2 else none | _ => none) = _
  rw [hw]
  show (if (ci : Int) = v ∧ 2 ≤ q then am_call am_P M a b pc ls st w k1 k2 else none) = _
  rw [if_pos hi]
  exact hc
theorem ar_ireturn {x : Int32} (hM : am_P[y]? = some M) (hr : am_row M.1 pc = some (q0, .ireturn, len, a, b, v)) (hx : a = 0 ∨ x = 0 ∨ x = 1) (q : Q (some (.int x)) w) : am_Go y (pc, ls, [.int x], w, k1, k2) Q := by
  refine am_Go.ret hM (res := some (.int x)) (w := w) ?_ q
  rw [am_stp hr]
  show (if a = 0 ∨ x = 0 ∨ x = 1 then _ else none) = _
  rw [if_pos hx]
theorem ar_lreturn {x : Int64} (hM : am_P[y]? = some M) (hr : am_row M.1 pc = some (q0, .lreturn, len, a, b, v)) (q : Q (some (.long x)) w) : am_Go y (pc, ls, [.long x], w, k1, k2) Q := by
  refine am_Go.ret hM (res := some (.long x)) (w := w) ?_ q
  rw [am_stp hr]
  rfl
theorem ar_return (hM : am_P[y]? = some M) (hr : am_row M.1 pc = some (q0, .return_, len, a, b, v)) (q : Q none w) : am_Go y (pc, ls, [], w, k1, k2) Q := by
  refine am_Go.ret hM (res := none) (w := w) ?_ q
  rw [am_stp hr]
  rfl
end AR
