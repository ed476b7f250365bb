/-! THE CLAIM OUT OF ONE WALK OF THE LAW'S BODY. Your part is whole_start (and what it stands on); all else here is the same for every law, but numbers. -/
def R_law : String := "ThirstRowLaw"
def lw_P (b : Addr) (xs : List Int32) (args : Array Value) (s : State) : Prop := args = #[.ref b] ∧ s.IntsAt b xs ∧ xs.length ≤ 256 ∧ (Jvm.Cond.and given_1 narrow_1).before args s = true
def lw_Q (_ : Array Value) (s : State) (o : Outcome) (t : State) : Prop := o = .returned (some (.int 1)) ∧ Framed s o t [] 600000 7302250
def lw_Z (below : List Frame) (a : Array Value) (s : State) : State → Prop := fun t => ∃ o, t.status = .running ∧ Ended t below o ∧ lw_Q a s o t
/-- the law's own end, with 1 on the stack, nothing written that was there before, its room as the claim has it -/
theorem lw_ret {p : Program} {l : Launch} {e : Env} {s : State} {m : MethodId} {below : List Frame} {meth : Method} {c : Code} {b : Nat} (hx : p.tables.exec = Jvm.exec) (hb : c.code = code) (hr : meth.sig.returnType = ret) (hlocks : meth.locks = false) {pc : Nat} {H : Heap} {ls : Array Slot} (hdg : decode code pc = .ok (.ireturn, 1)) : W p l e room_1 s m #[Value.ref b] below meth c H [] 600000 7302250 (lw_Z below #[Value.ref b] s) (F0 m pc ls [.int 1]) := by
  intro T hT X
  obtain ⟨fs, hret, hrun, hended, hW, hframe⟩ := X.leave (v := some (.int 1)) (hlocks := hlocks) (fun h => by rw [hr] at h; cases h)
  have hmeth' : T.vm.method? m = some meth := X.method'
  refine ⟨T.setFrames fs, ?_, .returned (some (.int 1)), hrun, hended, rfl, ⟨_, rfl⟩, hW, hframe⟩
  jvm_step X.here [X.here.top, hx, hb, hdg, hmeth', hr, ret, narrow_b1]
  (try refine ⟨rfl, ?_⟩); (try refine ⟨rfl, ?_⟩)
  first | (intro acts; rw [hret _ acts rfl rfl rfl]) | rw [hret _ _ rfl rfl rfl]
  exact Steps.refl _
/-- what holds at the law's entry: the machine, the code, the tables' words (any of lw_tbl by 'hts w (by decide +kernel)'), the script of L ints xs at the cell b, what the Statement gives of the start (any of its parts by flat_of_before) -/
def lw_At (p : Program) (s : State) (m : MethodId) (meth : Method) (c : Code) (b L : Nat) (xs : Nat → Int32) : Prop :=
  p.tables.exec = Jvm.exec ∧ c.code = code ∧ meth.sig.returnType = ret ∧ c.maxLocals = 4 ∧ s.vm.findClass R_law = some m.cls ∧ (∀ w ∈ lw_tbl, w.before #[Value.ref b] s = true) ∧ va_X b L xs s s.heap ∧ b < s.heap.size ∧ meth.locks = false ∧ (Jvm.Cond.and given_1 narrow_1).before #[Value.ref b] s = true
/-- the law as the small machine runs it -/
def am_w0 (L : Nat) (xs : Nat → Int32) : am_W := [.inl (0, 7, .inl am_fac), .inl (0, L, .inl xs)]
set_option maxHeartbeats 4000000 in
set_option maxRecDepth 100000 in
/-- THE LAW, from its entry, given that the small machine brings it to its end with 1 -/
theorem am_law {p : Program} {e : Env} {s : State} {m : MethodId} {below : List Frame} {meth : Method} {c : Code} (l : Launch) {b L : Nat} {xs : Nat → Int32} (C0 : lw_At p s m meth c b L xs) (G0 : am_Go 168 (0, [.ref 1, .float 0, .float 0, .float 0], [], am_w0 L xs, 0, 0) (fun res _ => res = some (.int 1))) : W p l e room_1 s m #[Value.ref b] below meth c s.heap [] 0 0 (lw_Z below #[Value.ref b] s) (entryFrame m ([Value.ref b] : List Value).toArray 4) := by
  obtain ⟨hx, hb, hr, hml, hown, hts, hX, hbl, hlocks, hgv⟩ := C0
  obtain ⟨n, res, w', hex, rfl⟩ := G0
  have hs := flat_of_before _ hgv
  have hA : ∀ a : Nat, a < s.heap.size → ¬ (fun q : Nat => s.heap.size ≤ q) a := fun a h => Nat.not_le.mpr h
  have s0 : (Cond.arrayOf (.static "ThirstRow" "FACTORIALS" "[I") .int).before #[Value.ref b] s = true := hs _ (by decide +kernel)
  have s1 : (Cond.eq (.length (.static "ThirstRow" "FACTORIALS" "[I")) (.int 7)).before #[Value.ref b] s = true := hs _ (by decide +kernel)
  have e0 : (Cond.eq (.elem (.static "ThirstRow" "FACTORIALS" "[I") (.int 0)) (.int 1)).before #[Value.ref b] s = true := hs _ (by decide +kernel)
  have e1 : (Cond.eq (.elem (.static "ThirstRow" "FACTORIALS" "[I") (.int 1)) (.int 1)).before #[Value.ref b] s = true := hs _ (by decide +kernel)
  have e2 : (Cond.eq (.elem (.static "ThirstRow" "FACTORIALS" "[I") (.int 2)) (.int 2)).before #[Value.ref b] s = true := hs _ (by decide +kernel)
  have e3 : (Cond.eq (.elem (.static "ThirstRow" "FACTORIALS" "[I") (.int 3)) (.int 6)).before #[Value.ref b] s = true := hs _ (by decide +kernel)
  have e4 : (Cond.eq (.elem (.static "ThirstRow" "FACTORIALS" "[I") (.int 4)) (.int 24)).before #[Value.ref b] s = true := hs _ (by decide +kernel)
  have e5 : (Cond.eq (.elem (.static "ThirstRow" "FACTORIALS" "[I") (.int 5)) (.int 120)).before #[Value.ref b] s = true := hs _ (by decide +kernel)
  have e6 : (Cond.eq (.elem (.static "ThirstRow" "FACTORIALS" "[I") (.int 6)) (.int 720)).before #[Value.ref b] s = true := hs _ (by decide +kernel)
  obtain ⟨tF, htF, hTF⟩ := va_Tof (N := 7) (f := fun j => .int (am_fac j)) (A := fun q : Nat => s.heap.size ≤ q) (by decide) s0 (va_eqt s1) (fun j hj => by
    rcases (show j = 0 ∨ j = 1 ∨ j = 2 ∨ j = 3 ∨ j = 4 ∨ j = 5 ∨ j = 6 by omega) with rfl | rfl | rfl | rfl | rfl | rfl | rfl
    · exact va_eqt e0
    · exact va_eqt e1
    · exact va_eqt e2
    · exact va_eqt e3
    · exact va_eqt e4
    · exact va_eqt e5
    · exact va_eqt e6) hA
  have hZ := va_Zof (A := fun q : Nat => s.heap.size ≤ q) (hts (.laysStatic "ThirstRow" "FACTORIALS" "[I") (List.mem_of_getElem? (i := 714) (by decide +kernel))) (hts (.initialized "ThirstRow") (List.mem_of_getElem? (i := 37) (by decide +kernel))) htF hA
  have htg : ∀ w ∈ am_good, w.before #[Value.ref b] s = true := fun w h => hts w (List.mem_filter.mp h).1
  obtain ⟨c0, i0, hn0⟩ := u_known (C := RX0) (T := TX0) (N := 3) (n := 3) htg (zc_0).1 (hts (.instantiable RX0 3) (List.mem_of_getElem? (i := 194) (by decide +kernel)))
  obtain ⟨c1, i1, hn1⟩ := u_known (C := RX1) (T := TX1) (N := 7) (n := 7) htg (zc_1).1 (hts (.instantiable RX1 7) (List.mem_of_getElem? (i := 317) (by decide +kernel)))
  obtain ⟨c2, i2, hn2⟩ := u_known (C := RX2) (T := TX2) (N := 5) (n := 5) htg (zc_2).1 (hts (.instantiable RX2 5) (List.mem_of_getElem? (i := 287) (by decide +kernel)))
  obtain ⟨c3, i3, hn3⟩ := u_known (C := RX3) (T := TX3) (N := 1) (n := 1) htg (zc_3).1 (hts (.instantiable RX3 1) (List.mem_of_getElem? (i := 78) (by decide +kernel)))
  obtain ⟨c4, i4, hn4⟩ := u_known (C := RX4) (T := TX4) (N := 4) (n := 4) htg (zc_4).1 (hts (.instantiable RX4 4) (List.mem_of_getElem? (i := 229) (by decide +kernel)))
  obtain ⟨c5, i5, hn5⟩ := u_known (C := RX5) (T := TX5) (N := 2) (n := 2) htg (zc_5).1 (hts (.instantiable RX5 2) (List.mem_of_getElem? (i := 214) (by decide +kernel)))
  obtain ⟨c6, i6, hn6⟩ := u_known (C := RX6) (T := TX6) (N := 6) (n := 6) htg (zc_6).1 (hts (.instantiable RX6 6) (List.mem_of_getElem? (i := 144) (by decide +kernel)))
  obtain ⟨c7, i7, hn7⟩ := u_known (C := RX7) (T := TX7) (N := 2) (n := 2) htg (zc_7).1 (hts (.instantiable RX7 2) (List.mem_of_getElem? (i := 61) (by decide +kernel)))
  obtain ⟨c8, i8, hn8⟩ := u_known (C := RX8) (T := TX8) (N := 7) (n := 7) htg (zc_8).1 (hts (.instantiable RX8 7) (List.mem_of_getElem? (i := 249) (by decide +kernel)))
  obtain ⟨c9, i9, hn9⟩ := u_known (C := RX9) (T := TX9) (N := 8) (n := 8) htg (zc_9).1 (hts (.instantiable RX9 8) (List.mem_of_getElem? (i := 84) (by decide +kernel)))
  obtain ⟨c10, i10, hn10⟩ := u_known (C := RX10) (T := TX10) (N := 11) (n := 11) htg (zc_10).1 (hts (.instantiable RX10 11) (List.mem_of_getElem? (i := 53) (by decide +kernel)))
  obtain ⟨c11, i11, hn11⟩ := u_known (C := RX11) (T := TX11) (N := 30) (n := 30) htg (zc_11).1 (hts (.instantiable RX11 30) (List.mem_of_getElem? (i := 807) (by decide +kernel)))
  obtain ⟨dC, dI, hKc⟩ : ∃ (dC : Nat → ClassId) (dI : Nat → Nat → Nat), ∀ (k : Nat) (q : vw_C), am_cl[k]? = some q → u_Kn s q.1 q.2.1 q.2.2 (dC k) (dI k) := by
    refine ⟨fun k => if k = 0 then c0 else if k = 1 then c1 else if k = 2 then c2 else if k = 3 then c3 else if k = 4 then c4 else if k = 5 then c5 else if k = 6 then c6 else if k = 7 then c7 else if k = 8 then c8 else if k = 9 then c9 else if k = 10 then c10 else c11, fun k => if k = 0 then i0 else if k = 1 then i1 else if k = 2 then i2 else if k = 3 then i3 else if k = 4 then i4 else if k = 5 then i5 else if k = 6 then i6 else if k = 7 then i7 else if k = 8 then i8 else if k = 9 then i9 else if k = 10 then i10 else i11, ?_⟩
    intro k q hq
    match k, hq with
    | 0, hq => cases hq; exact hn0
    | 1, hq => cases hq; exact hn1
    | 2, hq => cases hq; exact hn2
    | 3, hq => cases hq; exact hn3
    | 4, hq => cases hq; exact hn4
    | 5, hq => cases hq; exact hn5
    | 6, hq => cases hq; exact hn6
    | 7, hq => cases hq; exact hn7
    | 8, hq => cases hq; exact hn8
    | 9, hq => cases hq; exact hn9
    | 10, hq => cases hq; exact hn10
    | 11, hq => cases hq; exact hn11
    | k + 12, hq => cases hq
  obtain ⟨cI, kI, pI, a1, a2, a3⟩ := Cond.arrayClass_spec (hts (.arrayClass .int) (List.mem_of_getElem? (i := 76) (by decide +kernel)))
  obtain ⟨cZ, kZ, pZ, b1, b2, b3⟩ := Cond.arrayClass_spec (hts (.arrayClass .boolean) (List.mem_of_getElem? (i := 903) (by decide +kernel)))
  have hao : (Cond.arrayOver (.object RX6)).before #[Value.ref b] s = true := hts _ (List.mem_of_getElem? (i := 200) (by decide +kernel))
  obtain ⟨comp, cS, kS, d1, d2, d3, d4, d5⟩ := Cond.arrayOver_spec hao
  obtain ⟨g, hg⟩ : ∃ g : am_G, g = ((tF, b, s.heap.size), (cI, cZ, cS), (dC, dI), L, xs) := ⟨_, rfl⟩
  have hK : am_K g s := by
    subst hg
    refine ⟨⟨hKc, fun k q hq => ?_⟩, fun w hw => ?_, va_AO.of hao⟩
    · match k, hq with
      | 0, hq => cases hq; exact ⟨fun n z => ⟨fun k h => (by cases h), kI, a2, pI, a3⟩, a1⟩
      | 1, hq => cases hq; exact ⟨fun n z => ⟨fun k h => (by cases h), kZ, b2, pZ, b3⟩, b1⟩
      | 2, hq => cases hq; exact ⟨fun n z => ⟨fun k h => (by cases h), kS, d3, comp, d4⟩, kS, comp, d3, d4, d1, d5⟩
    · have hm : w ∈ lw_tbl := by
        have h9 := hw
        rw [am_nests_in] at h9
        obtain ⟨i, -, hi⟩ := List.mem_filterMap.mp h9
        exact List.mem_of_getElem? hi
      have hz := hts w hm
      simp only [am_nests, List.mem_cons, List.not_mem_nil, or_false] at hw
      rcases hw with rfl | rfl | rfl | rfl | rfl | rfl | rfl | rfl | rfl | rfl | rfl <;> exact va_Nw.of rfl hz
  have hO : am_O g s s.heap := by
    subst hg
    obtain ⟨scr, x1, x2, x3, x4, x5⟩ := hX
    exact ⟨hTF, ⟨scr, x1, x2, x3, Nat.le_of_eq x4.symm, by rw [x4], x5, hA b hbl⟩, hZ⟩
  have hH : am_H g (am_w0 L xs) s.heap := by
    subst hg
    exact ⟨Nat.le_refl 2, rfl, rfl, rfl, fun k e h => by cases h⟩
  have hbase : g.1.2.2 = s.heap.size := by rw [hg]
  have F : am_Fix g zi_L_law p room_1 s m #[Value.ref b] meth c := ⟨hx, hb, hml, hown, htg, fun h => absurd h (by decide), rfl, hK, hO, Nat.le_of_eq hbase⟩
  have hE : am_End g zi_L_law p l e room_1 s m #[Value.ref b] below meth c (lw_Z below #[Value.ref b] s) (some (.int 1)) w' := by
    intro H locs ls pc k1 k2 h1 h2 hk1 hk2
    refine ⟨fun x hx2 hd ht => ?_, fun x hx2 hd ht => (by cases hx2), fun hx2 hd ht => (by cases hx2)⟩
    cases hx2
    refine va_forget (fun q hq => by have := h2.2.2 q hq; rw [← hbase]; exact this) ?_
    refine W.widen (k := 600000) (n := 7302250) hk1 hk2 ?_
    exact lw_ret hx hb hr hlocks hd
  rw [lg_entry_eq]
  have hent := am_L.entry (g := g) (vs := [.ref 1]) (n := 4) (by decide)
  have hb1 : am_vm g (.ref 1) = .ref b := by rw [hg]; rfl
  simp only [List.map_cons, List.map_nil, hb1] at hent
  have hr1 := am_sim g l n 168 zm_L_law zi_L_law rfl rfl p e room_1 s m #[Value.ref b] below meth c _ F (some (.int 1)) w' hE (0, [.ref 1, .float 0, .float 0, .float 0], [], am_w0 L xs, 0, 0) hex s.heap [] _ ?_ (Nat.zero_le _) (Nat.zero_le _) hent hH va_S.rf
  · exact hr1
  · rw [hent.1, hml]
    rfl
