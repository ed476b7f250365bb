/-! THE REAL MACHINE FOLLOWS THE SMALL ONE, IV: any number of steps -/
section AN
variable {p : Program} {l : Launch} {e : Env} {R : Room} {s : State} {m : MethodId} {args : Array Value} {below : List Frame} {meth : Method} {c : Code} {Q : State → Prop} {g : am_G} {inf : am_Inf} {M : am_M}
/-- what a method's end must give -/
def am_End (g : am_G) (inf : am_Inf) (p : Program) (l : Launch) (e : Env) (R : Room) (s : State) (m : MethodId) (args : Array Value) (below : List Frame) (meth : Method) (c : Code) (Q : State → Prop) (res : Option Value) (w' : am_W) : Prop :=
  ∀ (H : Heap) (locs : List Loc) (ls : Array Slot) (pc k1 k2 : Nat), am_H g w' H → va_S (am_new g) s.heap H locs → k1 ≤ R.cells → k2 ≤ R.slots →
    (∀ x, res = some (.int x) → decode inf.2.1 pc = .ok (.ireturn, 1) → (inf.2.2.2.1 = some .int ∨ (inf.2.2.2.1 = some .boolean ∧ (x = 0 ∨ x = 1))) → W p l e R s m args below meth c H locs k1 k2 Q (F0 m pc ls [.int x])) ∧
    (∀ x, res = some (.long x) → decode inf.2.1 pc = .ok (.lreturn, 1) → inf.2.2.2.1 = some .long → W p l e R s m args below meth c H locs k1 k2 Q (F0 m pc ls [.long x])) ∧
    (res = none → decode inf.2.1 pc = .ok (.return_, 1) → inf.2.2.2.1 = none → W p l e R s m args below meth c H locs k1 k2 Q (F0 m pc ls []))
set_option maxHeartbeats 4000000 in
set_option maxRecDepth 100000 in
theorem am_fin (hok : am_okm (M, inf)) {r : am_R} {t : am_S} {res : Option Value} {w' : am_W} (hr : r ∈ M.1) (hpc : r.1 = t.1) (hact : am_act am_D am_P M r t = some (.inl (res, w'))) (E : am_End g inf p l e R s m args below meth c Q res w') : am_at g p l e R s m args below meth c Q t := by
  obtain ⟨pc0, i, len, a, b, v⟩ := r
  obtain ⟨pc, lsA, st, w, k1, k2⟩ := t
  have hpc : pc0 = pc := hpc
  subst hpc
  have hchk := List.all_eq_true.mp hok.1 _ hr
  intro H locs ls hz hk1 hk2 hl hH hS
  cases i with
  | ireturn =>
    simp only [am_chk, Bool.and_eq_true, decide_eq_true_eq, Bool.or_eq_true] at hchk
    obtain ⟨⟨hd, hlen⟩, hmore⟩ := hchk
    subst hlen
    simp only [am_act] at hact
    split at hact
    · next x =>
      split at hact
      · next hc =>
        cases hact
        refine (E H locs ls pc0 k1 k2 hH hS hk1 hk2).1 x rfl hd ?_
        rcases hmore with ⟨h1, h2⟩ | ⟨h1, h2⟩
        · exact Or.inl h2
        · refine Or.inr ⟨h2, ?_⟩
          rcases hc with hc | hc
          · omega
          · exact hc
      · cases hact
    · cases hact
  | lreturn =>
    simp only [am_chk, Bool.and_eq_true, decide_eq_true_eq] at hchk
    obtain ⟨⟨hd, hlen⟩, hmore⟩ := hchk
    subst hlen
    simp only [am_act] at hact
    split at hact
    · next x =>
      cases hact
      exact (E H locs ls pc0 k1 k2 hH hS hk1 hk2).2.1 x rfl hd hmore
    · cases hact
  | return_ =>
    simp only [am_chk, Bool.and_eq_true, decide_eq_true_eq] at hchk
    obtain ⟨⟨hd, hlen⟩, hmore⟩ := hchk
    subst hlen
    simp only [am_act] at hact
    split at hact
    · cases hact
      exact (E H locs ls pc0 k1 k2 hH hS hk1 hk2).2.2 rfl hd hmore
    · cases hact
  | _ =>
    exfalso
    simp only [am_act, am_nx, am_call, Bool.cond_eq_ite] at hact
    first
      | (cases hact; done)
      | ((repeat' split at hact) <;> cases hact; done)
end AN
def am_Sim (g : am_G) (l : Launch) (n : Nat) : Prop := ∀ (y : Nat) (M : am_M) (inf : am_Inf), am_P[y]? = some M → am_I[y]? = some inf → ∀ (p : Program) (e : Env) (R : Room) (s : State) (m : MethodId) (args : Array Value) (below : List Frame) (meth : Method) (c : Code) (Q : State → Prop), am_Fix g inf p R s m args meth c → ∀ (res : Option Value) (w' : am_W), am_End g inf p l e R s m args below meth c Q res w' → ∀ t : am_S, am_exec am_D am_P n y t = some (res, w') → am_at g p l e R s m args below meth c Q t
set_option maxHeartbeats 4000000 in
/-- a method that the small machine brings to its end meets its contract -/
theorem am_met {g : am_G} {l : Launch} {n y : Nat} {N : am_M} {inf : am_Inf} {vs : List Value} {w w' : am_W} {res : Option Value} (hSim : am_Sim g l n) (hN : am_P[y]? = some N) (hI : am_I[y]? = some inf) (hvs : (am_sl vs).length ≤ N.2.1) (hex : am_exec am_D am_P n y (0, am_ent N.2.1 vs, [], w, 0, 0) = some (res, w')) :
    Met l inf.1 (am_ws inf) inf.2.2.2.2 (am_Pc g vs w) (am_Qc g res w') inf.2.2.2.2.cells inf.2.2.2.2.slots (am_new g) := by
  have hok := am_ok hN hI
  refine am_ofW (cc := inf.2.1) (maxL := inf.2.2.1) (ret := inf.2.2.2.1) hok.2.2.2.2.2.2.1 rfl ?_
  intro p e s m args below meth c s₁ B hml hv
  obtain ⟨rfl, hH, hK, hO⟩ := hv
  have hlocks := B.notSynchronized
  have hx := B.exec
  have hb := B.bytes
  have hr := B.returns
  have F : am_Fix g inf p (headSpec (am_ws inf) inf.2.2.2.2).room s m (vs.map (am_vm g)).toArray meth c := ⟨B.exec, B.bytes, hml, findClass_of_methodNamed B.named, fun w hw => atoms_spec (ws := am_ws inf) B.pre w (List.mem_cons_of_mem _ hw), fun h => (name_of_methodNamed B.named B.method).1.trans h, rfl, hK, hO, by rw [hH.2.1]; exact Nat.le_add_right _ _⟩
  rw [lg_entry_eq]
  have hN1 : N.2.1 = inf.2.2.1 := hok.2.2.2.1
  have hent := am_L.entry (g := g) hvs
  have hE : am_End g inf p l e (headSpec (am_ws inf) inf.2.2.2.2).room s m (vs.map (am_vm g)).toArray below meth c (MQ below (am_Qc g res w') (vs.map (am_vm g)).toArray s inf.2.2.2.2.cells inf.2.2.2.2.slots (am_new g)) res w' := by
    intro H locs ls pc k1 k2 h1 h2 hk1 hk2
    refine ⟨fun x hx2 hd ht => ?_, fun x hx2 hd ht => ?_, fun hx2 hd ht => ?_⟩
    · subst hx2
      rcases ht with ht | ⟨ht, h01⟩
      · rw [ht] at hr
        exact W.widen hk1 hk2 (W.iret (v := x) hx hb hr (fun t ht2 hW => ⟨rfl, by rw [ht2]; exact h1, h2.F ht2⟩) h2.2.2 hd)
      · rw [ht] at hr
        exact W.widen hk1 hk2 (W.zret (v := x) (ty := .boolean) hx hb hr (by rcases h01 with rfl | rfl <;> rfl) (fun t ht2 hW => ⟨rfl, by rw [ht2]; exact h1, h2.F ht2⟩) h2.2.2 hd)
    · subst hx2
      rw [ht] at hr
      exact W.widen hk1 hk2 (W.lret (v := x) hx hb hr (fun t ht2 hW => ⟨rfl, by rw [ht2]; exact h1, h2.F ht2⟩) h2.2.2 hd)
    · subst hx2
      rw [ht] at hr
      exact W.widen hk1 hk2 (W.vret hx hb hr (fun t ht2 hW => ⟨rfl, by rw [ht2]; exact h1, h2.F ht2⟩) h2.2.2 hd)
  rw [← hN1]
  exact hSim y N inf hN hI p e _ s m _ below meth c _ F res w' hE (0, am_ent N.2.1 vs, [], w, 0, 0) hex s.heap [] _ (by rw [hent.1, hml, ← hN1]; unfold am_ent; rw [List.length_append, List.length_replicate]; omega) (Nat.zero_le _) (Nat.zero_le _) hent hH va_S.rf
set_option maxRecDepth 100000 in
theorem am_inits : am_PI.all (fun q => !(decide (q.2.1.name = "<init>")) || decide (am_row q.1.1 0 = some (0, .aload_n 0, 1, 0, 0, 0))) = true := by decide +kernel
theorem am_init_row {y : Nat} {N : am_M} {inf : am_Inf} (hN : am_P[y]? = some N) (hI : am_I[y]? = some inf) (h : inf.1.name = "<init>") : am_row N.1 0 = some (0, .aload_n 0, 1, 0, 0, 0) := by
  rw [am_P_eq, List.getElem?_map] at hN
  rw [am_I_eq, List.getElem?_map] at hI
  cases hq : am_PI[y]? with
  | none => rw [hq] at hN; cases hN
  | some q =>
    rw [hq] at hN hI
    cases hN
    cases hI
    have hh := List.all_eq_true.mp am_inits q (List.mem_of_getElem? hq)
    simp only [Bool.or_eq_true, Bool.not_eq_true', decide_eq_false_iff_not, decide_eq_true_eq] at hh
    rcases hh with hh | hh
    · exact absurd h hh
    · exact hh
theorem am_init_head {y n : Nat} {N : am_M} {inf : am_Inf} {vs : List Value} {w : am_W} {z : am_V} (hN : am_P[y]? = some N) (hI : am_I[y]? = some inf) (h : inf.1.name = "<init>") (hex : am_exec am_D am_P n y (0, am_ent N.2.1 vs, [], w, 0, 0) = some z) : ∃ q vs', vs = .ref q :: vs' := by
  have hrow := am_init_row hN hI h
  cases n with
  | zero => simp [am_exec] at hex
  | succ n =>
    rw [am_exec_succ, hN] at hex
    simp only [am_stp hrow] at hex
    match vs, hex with
    | .ref q :: vs', _ => exact ⟨q, vs', rfl⟩
    | [], hex =>
      exfalso
      have hn : am_act am_D am_P N (0, .aload_n 0, 1, 0, 0, 0) (0, am_ent N.2.1 [], [], w, 0, 0) = none := by
        simp only [am_act, am_nx]
        split
        · next x hx =>
          exfalso
          unfold am_ent at hx
          simp only [am_sl, List.flatMap_nil, List.nil_append] at hx
          have := List.eq_of_mem_replicate (List.mem_of_getElem? hx)
          cases this
        · rfl
      rw [hn] at hex
      cases hex
    | .int i :: vs', hex => simp [am_act, am_ent, am_sl, Value.category] at hex
    | .long i :: vs', hex => simp [am_act, am_ent, am_sl, Value.category] at hex
    | .float i :: vs', hex => simp [am_act, am_ent, am_sl, Value.category] at hex
    | .double i :: vs', hex => simp [am_act, am_ent, am_sl, Value.category] at hex
    | .null :: vs', hex => simp [am_act, am_ent, am_sl, Value.category] at hex
    | .retAddr i :: vs', hex => simp [am_act, am_ent, am_sl, Value.category] at hex
theorem am_call_args {P : List am_M} {M N : am_M} {a b pc k1 k2 : Nat} {ls st vs : List Value} {w : am_W} {y' : Nat} {s' : am_S} (h : am_call P M a b pc ls st w k1 k2 = some (.inr (.inr (y', vs, s')))) (hN : P[y']? = some N) : (am_sl vs).length ≤ N.2.1 := by
  unfold am_call at h
  split at h
  · cases h
  · next N' hN' =>
    split at h
    · next hc =>
      cases h
      rw [hN'] at hN
      cases hN
      exact hc.2.2.2.2
    · cases h
set_option maxHeartbeats 4000000 in
set_option maxRecDepth 100000 in
theorem am_act_args {M N : am_M} {r : am_R} {t s' : am_S} {y' : Nat} {vs : List Value} (hact : am_act am_D am_P M r t = some (.inr (.inr (y', vs, s')))) (hN : am_P[y']? = some N) : (am_sl vs).length ≤ N.2.1 := by
  obtain ⟨pc0, i, len, a, b, v⟩ := r
  obtain ⟨pc, lsA, st, w, k1, k2⟩ := t
  cases i with
  | invokestatic idx =>
    simp only [am_act, am_nx] at hact
    split at hact
    · (repeat' split at hact) <;> cases hact
    · exact am_call_args hact hN
  | invokespecial idx =>
    simp only [am_act, am_nx] at hact
    split at hact
    · (repeat' split at hact) <;> cases hact
    · exact am_call_args hact hN
  | invokevirtual idx =>
    simp only [am_act, am_nx] at hact
    split at hact
    · split at hact
      · split at hact
        · exact am_call_args hact hN
        · cases hact
      · cases hact
    · cases hact
  | _ =>
    exfalso
    simp only [am_act, am_nx, Bool.cond_eq_ite] at hact
    first
      | (cases hact; done)
      | ((repeat' split at hact) <;> cases hact; done)
theorem am_sim (g : am_G) (l : Launch) : ∀ n, am_Sim g l n := by
  intro n
  induction n with
  | zero => intro y M inf _ _ p e R s m args below meth c Q _ res w' _ t h; simp [am_exec] at h
  | succ n ih =>
    intro y M inf hM hI p e R s m args below meth c Q F res w' E t hex
    have hok := am_ok hM hI
    rw [am_exec_succ, hM] at hex
    simp only at hex
    cases hrow : am_row M.1 t.1 with
    | none =>
      have hs : am_step am_D am_P M t = none := by unfold am_step; rw [hrow]
      rw [hs] at hex
      cases hex
    | some r =>
      have hs : am_step am_D am_P M t = am_act am_D am_P M r t := by unfold am_step; rw [hrow]
      have hr : r ∈ M.1 := List.mem_of_find?_eq_some hrow
      have hpc : r.1 = t.1 := by
        have := List.find?_some hrow
        exact Nat.eq_of_beq_eq_true this
      rw [hs] at hex
      cases hact : am_act am_D am_P M r t with
      | none => rw [hact] at hex; cases hex
      | some q =>
        rw [hact] at hex
        match q, hact, hex with
        | .inl z, hact, hex =>
          cases hex
          exact am_fin hok hr hpc hact E
        | .inr (.inl t'), hact, hex => exact am_one F hok hr hpc hact (ih y M inf hM hI p e R s m args below meth c Q F res w' E t' hex)
        | .inr (.inr (y', vs, s')), hact, hex =>
          simp only at hex
          cases hN : am_P[y']? with
          | none => rw [hN] at hex; cases hex
          | some N =>
            rw [hN] at hex
            simp only at hex
            cases hc : am_exec am_D am_P n y' (0, am_ent N.2.1 vs, [], s'.2.2.2.1, 0, 0) with
            | none => rw [hc] at hex; cases hex
            | some z =>
              rw [hc] at hex
              obtain ⟨inf', hI', hok'⟩ := am_inf hN
              exact am_docall F hok hr hpc hact hN hI' (fun h => am_init_head hN hI' h hc) (am_met ih hN hI' (am_act_args hact hN) hc) (ih y M inf hM hI p e R s m args below meth c Q F res w' E _ hex)
