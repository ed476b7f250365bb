/-! THE REAL MACHINE FOLLOWS THE SMALL ONE, II: one instruction -/
section AS
variable {p : Program} {l : Launch} {e : Env} {R : Room} {s : State} {m : MethodId} {args : Array Value} {below : List Frame} {meth : Method} {c : Code} {H : Heap} {locs : List Loc} {cells slots : Nat} {Q : State → Prop} {g : am_G} {inf : am_Inf} {M : am_M}
/-- what stands fast while a method runs -/
def am_Fix (g : am_G) (inf : am_Inf) (p : Program) (R : Room) (s : State) (m : MethodId) (args : Array Value) (meth : Method) (c : Code) : Prop :=
  p.tables.exec = Jvm.exec ∧ c.code = inf.2.1 ∧ c.maxLocals = inf.2.2.1 ∧ s.vm.findClass inf.1.cls = some m.cls ∧ (∀ w ∈ am_good, w.before args s = true) ∧ (inf.1.name = "<init>" → meth.name = "<init>") ∧ R = inf.2.2.2.2 ∧ am_K g s ∧ am_O g s s.heap ∧ g.1.2.2 ≤ s.heap.size
/-- the real machine goes on as it should from this state of the small one -/
def am_at (g : am_G) (p : Program) (l : Launch) (e : Env) (R : Room) (s : State) (m : MethodId) (args : Array Value) (below : List Frame) (meth : Method) (c : Code) (Q : State → Prop) (t : am_S) : Prop :=
  ∀ (H : Heap) (locs : List Loc) (ls : Array Slot), ls.size = c.maxLocals → t.2.2.2.2.1 ≤ R.cells → t.2.2.2.2.2 ≤ R.slots → am_L g t.2.1 ls → am_H g t.2.2.2.1 H → va_S (am_new g) s.heap H locs → W p l e R s m args below meth c H locs t.2.2.2.2.1 t.2.2.2.2.2 Q (F0 m t.1 ls (t.2.2.1.map (am_vm g)))
theorem am_ix_in {i : Int32} {n : Nat} (h : am_ix i n = true) : vp_in i n := (show ¬ (i < 0 ∨ n ≤ i.toNatClampNeg) from of_decide_eq_true h)
/-- a row that was there before -/
theorem am_oldld {cc : ByteArray} {t N pc : Nat} {f : Nat → Int32} {ls : Array Slot} {rest : List Value} (hx : p.tables.exec = Jvm.exec) (hb : c.code = cc) (hT : va_T .int t N (fun j => .int (f j)) (am_new g) s s.heap) (hS : va_S (am_new g) s.heap H locs) {i : Int32} (hi : vp_in i N) (hd : decode cc pc = .ok (.iaload, 1))
    (k : W p l e R s m args below meth c H locs cells slots Q (F0 m (pc + 1) ls (.int (f i.toNatClampNeg) :: rest))) : W p l e R s m args below meth c H locs cells slots Q (F0 m pc ls (.int i :: .ref t :: rest)) := by
  obtain ⟨cell, h1, h2, h3, h4, h5, h6, h7⟩ := hT.kept hS.2.1
  have hlt : i.toNatClampNeg < N := Nat.not_le.mp fun q => hi (Or.inr q)
  exact W.iald (v := .int (f i.toNatClampNeg)) hx hb h1 h2 h3 (fun q => q.elim (fun z => hi (Or.inl z)) (fun z => by omega)) (h6 _ hlt) rfl rfl hd k
theorem am_oldlen {cc : ByteArray} {t N pc : Nat} {f : Nat → Value} {ls : Array Slot} {rest : List Value} (hx : p.tables.exec = Jvm.exec) (hb : c.code = cc) (hT : va_T .int t N f (am_new g) s s.heap) (hS : va_S (am_new g) s.heap H locs) (hd : decode cc pc = .ok (.arraylength, 1))
    (k : W p l e R s m args below meth c H locs cells slots Q (F0 m (pc + 1) ls (.int (Int32.ofNat N) :: rest))) : W p l e R s m args below meth c H locs cells slots Q (F0 m pc ls (.ref t :: rest)) := by
  obtain ⟨cell, h1, h2, h3, h4, h5, h6, h7⟩ := hT.kept hS.2.1
  exact W.alen (n := Int32.ofNat N) hx hb h1 h2 h5 rfl rfl hd k
theorem am_one1 {a : Nat} {E : va_E} {D : va_G} (h : va_at D am_cl (a, E) H) : va_P D am_cl [(a, E)] H := by
  intro k q hk
  match k, hk with
  | 0, hk => cases hk; exact h
theorem am_off {pc : Nat} {d k : Int} : ∀ (ps : List (Int × Int)), 0 ≤ (pc : Int) + d → (∀ o ∈ ps, 0 ≤ (pc : Int) + o.2) → 0 ≤ (pc : Int) + Op.lookupswitch.offset ps d k
  | [], h, _ => by rw [Op.lookupswitch.offset_nil]; exact h
  | (a, o) :: r, h, hp => by
    rw [Op.lookupswitch.offset_cons]
    split
    · exact hp (a, o) List.mem_cons_self
    · exact am_off r h (fun q hq => hp q (List.mem_cons_of_mem _ hq))
/-- a field is written: not final, or final in the class's own constructor -/
theorem am_put {cc : ByteArray} {pc k b idx : Nat} {ls : Array Slot} {rest : List Value} {w : am_W} {a : Nat} {fs : List Value} {x : Value} {q : vw_C} {ty : FieldType} (hx : p.tables.exec = Jvm.exec) (hb : c.code = cc) (hts : ∀ w ∈ am_good, w.before args s = true) (hown : s.vm.findClass inf.1.cls = some m.cls) (hnm : inf.1.name = "<init>" → meth.name = "<init>") (hK : va_K g.2.2.1 am_cl (am_tys g) s) (hH : am_H g w H) (hS : va_S (am_new g) s.heap H locs)
    (hw : w[k + 2]? = some (.inr (a, fs))) (hq : am_cl[a]? = some q) (hbN : b < q.2.2) (hl : b < fs.length) (hsame : (q.2.1 b).1 = q.1) (hlink : (Cond.fieldLink inf.1.cls idx q.1 (q.2.1 b).2.1 (q.2.1 b).2.2.1).before args s = true) (hty : parseFieldDescriptor (q.2.1 b).2.2.1 = some ty) (hn : narrow ty (am_vm g x) = am_vm g x) (hf : fits ty (am_vm g x) = true) (hfin : (q.2.1 b).2.2.2 = true → inf.1.name = "<init>" ∧ q.1 = inf.1.cls)
    (hd : decode cc pc = .ok (.putfield idx, 3)) (kk : ∀ (H1 : Heap) (locs1 : List Loc), am_H g (w.set (k + 2) (.inr (a, fs.set b x))) H1 → va_S (am_new g) s.heap H1 locs1 → W p l e R s m args below meth c H1 locs1 cells slots Q (F0 m (pc + 3) ls rest)) : W p l e R s m args below meth c H locs cells slots Q (F0 m pc ls (am_vm g x :: .ref (g.1.2.2 + k) :: rest)) := by
  obtain ⟨hin, hnm2, ty0, hty0, -⟩ := am_clok_of hq
  have hap := va_apart (own := inf.1.cls) hts hin ty0 hty0 hnm2 hK hq
  obtain ⟨r, h1, cell, q1, q2, q3, q4⟩ := hH.2.2.2.2 k _ hw
  have hr : r = q := Option.some.inj (h1.symm.trans hq)
  subst hr
  obtain ⟨hSl, hfc, kC, hkC, hkind⟩ := hK.1 a _ hq
  obtain ⟨cf, kf, fi, f, hi, hsl⟩ := hSl b hbN
  have hst := (u_facts hfc hkC (u_lays hts hin hbN) hi).1
  have hi2 : s.fieldFound? r.1 (r.2.1 b).2.1 (r.2.1 b).2.2.1 = some (cf, kf, fi, f) := by rw [← hsame]; exact hi
  have fin : ∀ (H' : Heap), H'[g.1.2.2 + k]? = some (cell.setSlot f.slot (am_vm g x)) → H'.size = H.size → (∀ z, z ≠ g.1.2.2 + k → H'[z]? = H[z]?) → ∀ locs1, (∀ z ∈ locs1, am_new g z.base) → W p l e R s m args below meth c H' locs1 cells slots Q (F0 m (pc + 3) ls rest) := by
    intro H' e1 e2 e3 locs1 hlo
    rw [hsl] at e1
    refine kk H' locs1 (hH.set hw ⟨_, hq, t_OB.to (V := updV (vp_V (fs.map (am_vm g))) b (am_vm g x)) ⟨_, e1, q2, q3, t_set q4 hap hbN (am_vm g x)⟩ (fun j _ => ?_)⟩ e2 e3) ⟨by rw [e2]; exact hS.1, fun z h1 h2 => ?_, hlo⟩
    · show _ = vp_V ((fs.set b x).map (am_vm g)) j
      rw [List.map_set]
      exact vp_updV_set (by rw [List.length_map]; exact hl) (am_vm g x) j
    · rw [e3 z (fun e => h2 (by rw [e]; exact Nat.le_add_right _ _))]
      exact hS.2.1 z h1 h2
  have hlo : ∀ z ∈ locs ++ [⟨g.1.2.2 + k, f.slot⟩], am_new g z.base := by
    intro z hz
    rcases List.mem_append.mp hz with h | h
    · exact hS.2.2 z h
    · rw [List.mem_singleton.mp h]; exact Nat.le_add_right _ _
  cases hfl : (r.2.1 b).2.2.2 with
  | false =>
    have hlay := hts _ (hin _ (u_in_lay hbN))
    unfold u_lay at hlay
    rw [if_neg (by rw [hfl]; decide)] at hlay
    have h6 := u_store hfc hkC hkind hlay hi hty hn hf
    exact W.putK hx hb (f := f) ⟨hown, hlink, ⟨_, _, _, hi2⟩, hst⟩ (by rw [q2]; exact h6) q1 q3 (by rw [hsl]; exact k2_hasslot (q4 b hbN)) rfl rfl hd fun H' e1 e2 e3 => fin H' e1 e2 e3 _ hlo
  | true =>
    obtain ⟨f1, f2⟩ := hfin hfl
    have hlay := hts _ (hin _ (u_in_lay hbN))
    unfold u_lay at hlay
    rw [if_pos hfl] at hlay
    have hcf : m.cls = cf := by
      obtain ⟨_, _, c', _, _, _, -, -, hf', -, -, -, hown2, -⟩ := Cond.laysFinal_spec hlay
      have e1 : c' = cf := by have := hi.symm.trans hf'; simp at this; exact this.1.symm
      rw [hsame, f2] at hown2
      rw [← e1]; exact Option.some.inj (hown.symm.trans hown2)
    have h6 := u_fits hfc hkC hkind (Or.inr hlay) hi hty hn hf
    exact W.putFinK hx hb hown hlink hi2 hst hcf (hnm f1) (by rw [q2]; exact h6) q1 q3 (by rw [hsl]; exact k2_hasslot (q4 b hbN)) rfl rfl hd fun H' e1 e2 e3 => fin H' e1 e2 e3 _ hlo
theorem am_Sput {a k : Nat} {H1 : Heap} (hS : va_S (am_new g) s.heap H locs) (z : H1.size = H.size) (oq : ∀ q : Nat, q ≠ g.1.2.2 + a → H1[q]? = H[q]?) : va_S (am_new g) s.heap H1 (locs ++ [⟨g.1.2.2 + a, k⟩]) := hS.put z oq (Nat.le_add_right _ _)
theorem am_Snew {H1 : Heap} (hS : va_S (am_new g) s.heap H locs) (z : H1.size = H.size + 1) (oq : ∀ q : Nat, q < H.size → H1[q]? = H[q]?) : va_S (am_new g) s.heap H1 locs := ⟨by rw [z]; exact Nat.le_succ_of_le hS.1, fun q h1 h2 => (oq q (Nat.lt_of_lt_of_le h1 hS.1)).trans (hS.2.1 q h1 h2), hS.2.2⟩
theorem am_updV (f : Nat → Int32) (k : Nat) (x : Int32) : updV (fun j => Value.int (f j)) k (.int x) = fun j => .int (upd f k x j) := by
  funext q
  by_cases hq : q = k
  · subst hq; simp [updV, upd]
  · simp [updV, upd, hq]
theorem am_fit_ok {v : Int} {x : Value} {ty : FieldType} (hv : am_tyc v ty = true) (h : am_fit v x = true) : narrow ty (am_vm g x) = am_vm g x ∧ fits ty (am_vm g x) = true := by
  cases ty <;> simp only [am_tyc, decide_eq_true_eq, Bool.false_eq_true] at hv <;> subst hv <;> cases x <;> simp [am_fit] at h
  all_goals first
    | exact ⟨rfl, rfl⟩
    | (rcases h with rfl | rfl <;> exact ⟨rfl, rfl⟩)
/-- a stretch of a row copied into another -/
theorem am_copy {cc : ByteArray} {pc j0 j1 n0 n1 : Nat} {ls : Array Slot} {rest : List Value} {w : am_W} {f f2 : Nat → Int32} (hx : p.tables.exec = Jvm.exec) (hb : c.code = cc) (hml : c.maxLocals = ls.size) {own : String} {index : Nat} (hown : s.vm.findClass own = some m.cls) (hlink : (Cond.methodLink own index arraycopyName).before args s = true) (hnat : (Cond.native arraycopyName).before args s = true) (hstat : (Cond.static arraycopyName).before args s = true) (hini : (Cond.initialized "java/lang/System").before args s = true)
    (hK : va_K g.2.2.1 am_cl (am_tys g) s) (hH : am_H g w H) (hS : va_S (am_new g) s.heap H locs) (hw0 : w[j0 + 2]? = some (.inl (0, n0, .inl f))) (hw1 : w[j1 + 2]? = some (.inl (0, n1, .inl f2)))
    {sp dp n : Int32} (h1 : ¬ sp < 0) (h2 : ¬ dp < 0) (h3 : ¬ n < 0) (h4 : sp.toNatClampNeg + n.toNatClampNeg ≤ n0) (h5 : dp.toNatClampNeg + n.toNatClampNeg ≤ n1)
    (hframes : 1 ≤ R.frames) (hlocals : (rest.map fun v => v.category).sum + (nativeFrameWords "java/lang/System" "arraycopy" 5 + 11) ≤ R.locals) (hd : decode cc pc = .ok (.invokestatic index, 3))
    (kk : ∀ (H1 : Heap) (locs1 : List Loc), am_H g (w.set (j1 + 2) (.inl (0, n1, .inl (va_cpy f f2 sp.toNatClampNeg dp.toNatClampNeg n.toNatClampNeg)))) H1 → va_S (am_new g) s.heap H1 locs1 → W p l e R s m args below meth c H1 locs1 cells slots Q (F0 m (pc + 3) ls rest)) : W p l e R s m args below meth c H locs cells slots Q (F0 m pc ls (.int n :: .int dp :: .ref (g.1.2.2 + j1) :: .int sp :: .ref (g.1.2.2 + j0) :: rest)) := by
  have nn : ∀ z : Int32, ¬ z < 0 → z.toInt = (z.toNatClampNeg : Int) := by
    intro z hz
    have hz0 : (0 : Int) ≤ z.toInt := by
      have := Int32.not_lt.mp hz
      simpa using Int32.le_iff_toInt_le.mp this
    show z.toInt = ((z.toInt.toNat : Nat) : Int)
    omega
  intro T hT X
  have hc0 : H[g.1.2.2 + j0]? = some (vp_cell g.2.1.1 (n0, .inl f)) := hH.2.2.2.2 j0 _ hw0
  have hc1 : H[g.1.2.2 + j1]? = some (vp_cell g.2.1.1 (n1, .inl f2)) := hH.2.2.2.2 j1 _ hw1
  obtain ⟨-, k0, hk0, cm0, hkk0⟩ := (hK.2 0 _ rfl).1 n0 (fun j => .int (f j))
  obtain ⟨-, k1, hk1, cm1, hkk1⟩ := (hK.2 0 _ rfl).1 n1 (fun j => .int (f2 j))
  obtain ⟨vm', X', step⟩ := X.arraycopy hx hown hlink hnat hstat hini (src := g.1.2.2 + j0) (dst := g.1.2.2 + j1) (cs := vp_cell g.2.1.1 (n0, .inl f)) (cd := vp_cell g.2.1.1 (n1, .inl f2)) (srcPos := sp) (destPos := dp) (n := n) (by rw [hT]; exact hc0) (by rw [hT]; exact hc1)
    (fun _ h => by cases h) (fun _ h => by cases h) (fun h => by cases h) (fun h => by cases h) hk0 hk1 hkk0 hkk1 (by simp [refKind]) h1 h2 h3
    (by rw [nn sp h1, nn n h3]; show ¬ _ > ((arrV _ n0 (fun j => .int (f j))).slots.size : Int); rw [arrV_size]; omega)
    (by rw [nn dp h2, nn n h3]; show ¬ _ > ((arrV _ n1 (fun j => .int (f2 j))).slots.size : Int); rw [arrV_size]; omega)
    (fun vm₁ _ i hi => by
      have e : (vp_cell g.2.1.1 (n0, .inl f)).slots.getD (sp.toNatClampNeg + i) .null = .int (f (sp.toNatClampNeg + i)) := by
        show (arrV _ n0 (fun j => .int (f j))).slots.getD _ _ = _
        rw [Array.getD_eq_getD_getElem?, arrV_read _ _ (by omega)]
        rfl
      exact ⟨by rw [e]; rfl, by rw [e]; exact trivial⟩)
    (g := F0 m pc ls (.int n :: .int dp :: .ref (g.1.2.2 + j1) :: .int sp :: .ref (g.1.2.2 + j0) :: rest)) rfl (by rw [hml]) (rest := rest) rfl (by rw [hb]; exact hd) hframes (by show 2 * 0 + _ + _ ≤ _; omega)
  have e1 : copied (vp_cell g.2.1.1 (n0, .inl f)) (vp_cell g.2.1.1 (n1, .inl f2)) sp dp n = vp_cell g.2.1.1 (n1, .inl (va_cpy f f2 sp.toNatClampNeg dp.toNatClampNeg n.toNatClampNeg)) := va_copied (fun z => .int z) g.2.1.1 g.2.1.1 f f2 h4
  rw [e1] at X' step
  have hl : g.1.2.2 + j1 < H.size := (Array.getElem?_eq_some_iff.mp hc1).1
  have hheap : ((T.setVm vm').setCell (g.1.2.2 + j1) (vp_cell g.2.1.1 (n1, .inl (va_cpy f f2 sp.toNatClampNeg dp.toNatClampNeg n.toNatClampNeg)))).heap = H.setIfInBounds (g.1.2.2 + j1) (vp_cell g.2.1.1 (n1, .inl (va_cpy f f2 sp.toNatClampNeg dp.toNatClampNeg n.toNatClampNeg))) := by rw [← hT]; rfl
  have oq : ∀ q : Nat, q ≠ g.1.2.2 + j1 → (H.setIfInBounds (g.1.2.2 + j1) (vp_cell g.2.1.1 (n1, .inl (va_cpy f f2 sp.toNatClampNeg dp.toNatClampNeg n.toNatClampNeg))))[q]? = H[q]? := fun q hq => by simp [Array.getElem?_setIfInBounds, Ne.symm hq]
  obtain ⟨t, a1, b1⟩ := kk _ _ (hH.set hw1 (show (H.setIfInBounds (g.1.2.2 + j1) _)[g.1.2.2 + j1]? = some _ by simp [Array.getElem?_setIfInBounds, hl, am_em, am_kc]) (by simp) oq) ⟨by simp; exact hS.1, fun q g1 g2 => by
      rw [oq q (fun e => g2 (by rw [e]; exact Nat.le_add_right _ _))]
      exact hS.2.1 q g1 g2, fun q hq => by
      rcases List.mem_append.mp hq with h | h
      · exact hS.2.2 q h
      · obtain ⟨z, -, hz⟩ := List.mem_map.mp h
        rw [← hz]
        exact Nat.le_add_right _ _⟩ _ hheap X'
  exact ⟨t, step t a1, b1⟩
set_option maxHeartbeats 40000000 in
set_option maxRecDepth 100000 in
theorem am_one (F : am_Fix g inf p R s m args meth c) (hok : am_okm (M, inf)) {r : am_R} {t t' : am_S} (hr : r ∈ M.1) (hpc : r.1 = t.1) (hact : am_act am_D am_P M r t = some (.inr (.inl t'))) (k : am_at g p l e R s m args below meth c Q t') : am_at g p l e R s m args below meth c Q t := by
  obtain ⟨pc0, i, len, a, b, v⟩ := r
  obtain ⟨pc, lsA, st, w, k1, k2⟩ := t
  have hpc : pc0 = pc := hpc
  subst hpc
  have hchk := List.all_eq_true.mp hok.1 _ hr
  have hMc : M.2.2.1 = inf.2.2.2.2.cells := hok.2.2.2.2.1
  have hMs : M.2.2.2 = inf.2.2.2.2.slots := hok.2.2.2.2.2.1
  obtain ⟨hx, hb, hml, hown, hts, hnm, hR, hK, hO, hbase⟩ := F
  have hwd : ∀ w ∈ am_wf inf.1.cls (pc0, i, len, a, b, v), w.before args s = true := fun w h => hts w (am_good_in (hok.2.1 _ hr w h).1 (hok.2.1 _ hr w h).2)
  intro H locs ls hz hk1 hk2 hl hH hS
  cases i with
  | iconst cc =>
    simp only [am_chk, Bool.and_eq_true, decide_eq_true_eq] at hchk
    obtain ⟨⟨hd, hlen⟩, hmore⟩ := hchk
    subst hlen
    simp only [am_act, am_nx] at hact
    cases hact
    exact lv_iconst hx hb hd rfl (k H locs ls hz hk1 hk2 hl hH hS)
  | bipush cc =>
    simp only [am_chk, Bool.and_eq_true, decide_eq_true_eq] at hchk
    obtain ⟨⟨hd, hlen⟩, hmore⟩ := hchk
    subst hlen
    simp only [am_act, am_nx] at hact
    cases hact
    exact lv_bipush hx hb hd rfl (k H locs ls hz hk1 hk2 hl hH hS)
  | sipush cc =>
    simp only [am_chk, Bool.and_eq_true, decide_eq_true_eq] at hchk
    obtain ⟨⟨hd, hlen⟩, hmore⟩ := hchk
    subst hlen
    simp only [am_act, am_nx] at hact
    cases hact
    exact lv_sipush hx hb hd rfl (k H locs ls hz hk1 hk2 hl hH hS)
  | lconst cc =>
    simp only [am_chk, Bool.and_eq_true, decide_eq_true_eq] at hchk
    obtain ⟨⟨hd, hlen⟩, hmore⟩ := hchk
    subst hlen
    simp only [am_act, am_nx] at hact
    cases hact
    exact lv_lconst hx hb hd rfl (k H locs ls hz hk1 hk2 hl hH hS)
  | ldc cc =>
    simp only [am_chk, Bool.and_eq_true, decide_eq_true_eq] at hchk
    obtain ⟨⟨hd, hlen⟩, hmore⟩ := hchk
    subst hlen
    simp only [am_act, am_nx] at hact
    cases hact
    exact lv_ldc hx hb hown (hwd _ List.mem_cons_self) hd (k H locs ls hz hk1 hk2 hl hH hS)
  | ldc_w cc =>
    simp only [am_chk, Bool.and_eq_true, decide_eq_true_eq] at hchk
    obtain ⟨⟨hd, hlen⟩, hmore⟩ := hchk
    subst hlen
    simp only [am_act, am_nx] at hact
    cases hact
    exact lv_ldcw hx hb hown (hwd _ List.mem_cons_self) hd (k H locs ls hz hk1 hk2 hl hH hS)
  | ldc2_w cc =>
    simp only [am_chk, Bool.and_eq_true, decide_eq_true_eq] at hchk
    obtain ⟨⟨hd, hlen⟩, hmore⟩ := hchk
    subst hlen
    simp only [am_act, am_nx] at hact
    cases hact
    exact lv_ldc2 hx hb hown (hwd _ List.mem_cons_self) hd (k H locs ls hz hk1 hk2 hl hH hS)
  | iload n =>
    simp only [am_chk, Bool.and_eq_true, decide_eq_true_eq] at hchk
    obtain ⟨⟨hd, hlen⟩, hmore⟩ := hchk
    subst hlen
    simp only [am_act, am_nx] at hact
    split at hact
    · next x hv =>
      cases hact
      exact lv_iload hx hb hd (hl.at hv rfl) (k H locs ls hz hk1 hk2 hl hH hS)
    · cases hact
  | iload_n n =>
    simp only [am_chk, Bool.and_eq_true, decide_eq_true_eq] at hchk
    obtain ⟨⟨hd, hlen⟩, hmore⟩ := hchk
    subst hlen
    simp only [am_act, am_nx] at hact
    split at hact
    · next x hv =>
      cases hact
      exact lv_iload_n hx hb hd rfl (hl.at hv rfl) (k H locs ls hz hk1 hk2 hl hH hS)
    · cases hact
  | lload n =>
    simp only [am_chk, Bool.and_eq_true, decide_eq_true_eq] at hchk
    obtain ⟨⟨hd, hlen⟩, hmore⟩ := hchk
    subst hlen
    simp only [am_act, am_nx] at hact
    split at hact
    · next x hv =>
      cases hact
      exact lv_lload hx hb hd (hl.at hv rfl) (k H locs ls hz hk1 hk2 hl hH hS)
    · cases hact
  | lload_n n =>
    simp only [am_chk, Bool.and_eq_true, decide_eq_true_eq] at hchk
    obtain ⟨⟨hd, hlen⟩, hmore⟩ := hchk
    subst hlen
    simp only [am_act, am_nx] at hact
    split at hact
    · next x hv =>
      cases hact
      exact lv_lload_n hx hb hd rfl (hl.at hv rfl) (k H locs ls hz hk1 hk2 hl hH hS)
    · cases hact
  | aload n =>
    simp only [am_chk, Bool.and_eq_true, decide_eq_true_eq] at hchk
    obtain ⟨⟨hd, hlen⟩, hmore⟩ := hchk
    subst hlen
    simp only [am_act, am_nx] at hact
    split at hact
    · next x hv =>
      cases hact
      exact lv_aload hx hb hd (hl.at hv rfl) (k H locs ls hz hk1 hk2 hl hH hS)
    · cases hact
  | aload_n n =>
    simp only [am_chk, Bool.and_eq_true, decide_eq_true_eq] at hchk
    obtain ⟨⟨hd, hlen⟩, hmore⟩ := hchk
    subst hlen
    simp only [am_act, am_nx] at hact
    split at hact
    · next x hv =>
      cases hact
      exact lv_aload_n hx hb hd rfl (hl.at hv rfl) (k H locs ls hz hk1 hk2 hl hH hS)
    · cases hact
  | istore n =>
    simp only [am_chk, Bool.and_eq_true, decide_eq_true_eq] at hchk
    obtain ⟨⟨hd, hlen⟩, hmore⟩ := hchk
    subst hlen
    simp only [am_act, am_nx] at hact
    split at hact
    · next x st2 =>
      cases hf : am_free lsA n with
      | false => rw [hf] at hact; cases hact
      | true =>
        rw [hf] at hact
        cases hact
        refine lv_istore (nL := lsA.length) (lv := am_lv g lsA) hx hb hd hl (am_free_lt hf) rfl (fun ls2 hl2 => ?_)
        exact k H locs ls2 (by rw [hl2.1, ← hl.1]; exact hz) hk1 hk2 (am_L.store1 (v := .int x) hf hl2) hH hS
    · cases hact
  | istore_n n =>
    simp only [am_chk, Bool.and_eq_true, decide_eq_true_eq] at hchk
    obtain ⟨⟨hd, hlen⟩, hmore⟩ := hchk
    subst hlen
    simp only [am_act, am_nx] at hact
    split at hact
    · next x st2 =>
      cases hf : am_free lsA n.val with
      | false => rw [hf] at hact; cases hact
      | true =>
        rw [hf] at hact
        cases hact
        refine lv_istore_n (nL := lsA.length) (lv := am_lv g lsA) hx hb hd rfl hl (am_free_lt hf) rfl (fun ls2 hl2 => ?_)
        exact k H locs ls2 (by rw [hl2.1, ← hl.1]; exact hz) hk1 hk2 (am_L.store1 (v := .int x) hf hl2) hH hS
    · cases hact
  | astore n =>
    simp only [am_chk, Bool.and_eq_true, decide_eq_true_eq] at hchk
    obtain ⟨⟨hd, hlen⟩, hmore⟩ := hchk
    subst hlen
    simp only [am_act, am_nx] at hact
    split at hact
    · next x st2 =>
      cases hf : am_free lsA n with
      | false => rw [hf] at hact; cases hact
      | true =>
        rw [hf] at hact
        cases hact
        refine lv_astore (nL := lsA.length) (lv := am_lv g lsA) hx hb hd hl (am_free_lt hf) rfl (fun ls2 hl2 => ?_)
        exact k H locs ls2 (by rw [hl2.1, ← hl.1]; exact hz) hk1 hk2 (am_L.store1 (v := .ref x) hf hl2) hH hS
    · cases hact
  | astore_n n =>
    simp only [am_chk, Bool.and_eq_true, decide_eq_true_eq] at hchk
    obtain ⟨⟨hd, hlen⟩, hmore⟩ := hchk
    subst hlen
    simp only [am_act, am_nx] at hact
    split at hact
    · next x st2 =>
      cases hf : am_free lsA n.val with
      | false => rw [hf] at hact; cases hact
      | true =>
        rw [hf] at hact
        cases hact
        refine lv_astore_n (nL := lsA.length) (lv := am_lv g lsA) hx hb hd rfl hl (am_free_lt hf) rfl (fun ls2 hl2 => ?_)
        exact k H locs ls2 (by rw [hl2.1, ← hl.1]; exact hz) hk1 hk2 (am_L.store1 (v := .ref x) hf hl2) hH hS
    · cases hact
  | lstore n =>
    simp only [am_chk, Bool.and_eq_true, decide_eq_true_eq] at hchk
    obtain ⟨⟨hd, hlen⟩, hmore⟩ := hchk
    subst hlen
    simp only [am_act, am_nx] at hact
    split at hact
    · next x st2 =>
      cases hf : (am_free lsA n && Nat.blt (n + 1) lsA.length) with
      | false => rw [hf] at hact; cases hact
      | true =>
        rw [hf] at hact
        cases hact
        simp only [Bool.and_eq_true] at hf
        have h2 : n + 1 < lsA.length := by
          have h := hf.2
          simp only [Nat.blt] at h
          exact Nat.le_of_ble_eq_true h
        refine lv_lstore (nL := lsA.length) (lv := am_lv g lsA) hx hb hd hl h2 rfl (fun ls2 hl2 => ?_)
        exact k H locs ls2 (by rw [hl2.1, ← hl.1]; exact hz) hk1 hk2 (am_L.store2 (v := .long x) hf.1 h2 hl2) hH hS
    · cases hact
  | lstore_n n =>
    simp only [am_chk, Bool.and_eq_true, decide_eq_true_eq] at hchk
    obtain ⟨⟨hd, hlen⟩, hmore⟩ := hchk
    subst hlen
    simp only [am_act, am_nx] at hact
    split at hact
    · next x st2 =>
      cases hf : (am_free lsA n.val && Nat.blt (n.val + 1) lsA.length) with
      | false => rw [hf] at hact; cases hact
      | true =>
        rw [hf] at hact
        cases hact
        simp only [Bool.and_eq_true] at hf
        have h2 : n.val + 1 < lsA.length := by
          have h := hf.2
          simp only [Nat.blt] at h
          exact Nat.le_of_ble_eq_true h
        refine lv_lstore_n (nL := lsA.length) (lv := am_lv g lsA) hx hb hd rfl hl h2 rfl (fun ls2 hl2 => ?_)
        exact k H locs ls2 (by rw [hl2.1, ← hl.1]; exact hz) hk1 hk2 (am_L.store2 (v := .long x) hf.1 h2 hl2) hH hS
    · cases hact
  | iinc n cc =>
    simp only [am_chk, Bool.and_eq_true, decide_eq_true_eq] at hchk
    obtain ⟨⟨hd, hlen⟩, hmore⟩ := hchk
    subst hlen
    simp only [am_act, am_nx] at hact
    split at hact
    · next x hv =>
      cases hf : am_free lsA n with
      | false => rw [hf] at hact; cases hact
      | true =>
        rw [hf] at hact
        cases hact
        obtain ⟨kk, hkk⟩ := List.getElem?_of_mem (am_lv_mem (g := g).mpr ⟨_, hv, rfl, rfl⟩)
        refine lv_iinc (nL := lsA.length) (lv := am_lv g lsA) (k := kk) hx hb hd hl hkk rfl (am_free_lt hf) rfl (fun ls2 hl2 => ?_)
        exact k H locs ls2 (by rw [hl2.1, ← hl.1]; exact hz) hk1 hk2 (am_L.store1 (v := .int (x + Int32.ofInt cc)) hf hl2) hH hS
    · cases hact
  | dup =>
    simp only [am_chk, Bool.and_eq_true, decide_eq_true_eq] at hchk
    obtain ⟨⟨hd, hlen⟩, hmore⟩ := hchk
    subst hlen
    simp only [am_act, am_nx] at hact
    split at hact
    · next x st2 =>
      split at hact
      · next hc =>
        cases hact
        exact lv_dup hx hb hd (by rw [am_vm_cat]; exact hc) (k H locs ls hz hk1 hk2 hl hH hS)
      · cases hact
    · cases hact
  | pop =>
    simp only [am_chk, Bool.and_eq_true, decide_eq_true_eq] at hchk
    obtain ⟨⟨hd, hlen⟩, hmore⟩ := hchk
    subst hlen
    simp only [am_act, am_nx] at hact
    split at hact
    · next x st2 =>
      split at hact
      · next hc =>
        cases hact
        exact lv_pop hx hb hd (by rw [am_vm_cat]; exact hc) (k H locs ls hz hk1 hk2 hl hH hS)
      · cases hact
    · cases hact
  | dup2 =>
    simp only [am_chk, Bool.and_eq_true, decide_eq_true_eq] at hchk
    obtain ⟨⟨hd, hlen⟩, hmore⟩ := hchk
    subst hlen
    simp only [am_act, am_nx] at hact
    split at hact
    · next x y st2 =>
      split at hact
      · next hc =>
        cases hact
        exact lv_dup2_11 hx hb hd (by rw [am_vm_cat]; exact hc.1) (by rw [am_vm_cat]; exact hc.2) (k H locs ls hz hk1 hk2 hl hH hS)
      · cases hact
    · cases hact
  | iadd =>
    simp only [am_chk, Bool.and_eq_true, decide_eq_true_eq] at hchk
    obtain ⟨⟨hd, hlen⟩, hmore⟩ := hchk
    subst hlen
    simp only [am_act, am_nx] at hact
    split at hact
    · cases hact
      exact lv_iadd hx hb hd (k H locs ls hz hk1 hk2 hl hH hS)
    · cases hact
  | isub =>
    simp only [am_chk, Bool.and_eq_true, decide_eq_true_eq] at hchk
    obtain ⟨⟨hd, hlen⟩, hmore⟩ := hchk
    subst hlen
    simp only [am_act, am_nx] at hact
    split at hact
    · cases hact
      exact lv_isub hx hb hd (k H locs ls hz hk1 hk2 hl hH hS)
    · cases hact
  | imul =>
    simp only [am_chk, Bool.and_eq_true, decide_eq_true_eq] at hchk
    obtain ⟨⟨hd, hlen⟩, hmore⟩ := hchk
    subst hlen
    simp only [am_act, am_nx] at hact
    split at hact
    · cases hact
      exact lv_imul hx hb hd (k H locs ls hz hk1 hk2 hl hH hS)
    · cases hact
  | iand =>
    simp only [am_chk, Bool.and_eq_true, decide_eq_true_eq] at hchk
    obtain ⟨⟨hd, hlen⟩, hmore⟩ := hchk
    subst hlen
    simp only [am_act, am_nx] at hact
    split at hact
    · cases hact
      exact lv_iand hx hb hd (k H locs ls hz hk1 hk2 hl hH hS)
    · cases hact
  | ior =>
    simp only [am_chk, Bool.and_eq_true, decide_eq_true_eq] at hchk
    obtain ⟨⟨hd, hlen⟩, hmore⟩ := hchk
    subst hlen
    simp only [am_act, am_nx] at hact
    split at hact
    · cases hact
      exact lv_ior hx hb hd (k H locs ls hz hk1 hk2 hl hH hS)
    · cases hact
  | ixor =>
    simp only [am_chk, Bool.and_eq_true, decide_eq_true_eq] at hchk
    obtain ⟨⟨hd, hlen⟩, hmore⟩ := hchk
    subst hlen
    simp only [am_act, am_nx] at hact
    split at hact
    · cases hact
      exact lv_ixor hx hb hd (k H locs ls hz hk1 hk2 hl hH hS)
    · cases hact
  | ishl =>
    simp only [am_chk, Bool.and_eq_true, decide_eq_true_eq] at hchk
    obtain ⟨⟨hd, hlen⟩, hmore⟩ := hchk
    subst hlen
    simp only [am_act, am_nx] at hact
    split at hact
    · cases hact
      exact lv_ishl hx hb hd (k H locs ls hz hk1 hk2 hl hH hS)
    · cases hact
  | ishr =>
    simp only [am_chk, Bool.and_eq_true, decide_eq_true_eq] at hchk
    obtain ⟨⟨hd, hlen⟩, hmore⟩ := hchk
    subst hlen
    simp only [am_act, am_nx] at hact
    split at hact
    · cases hact
      exact lv_ishr hx hb hd (k H locs ls hz hk1 hk2 hl hH hS)
    · cases hact
  | ladd =>
    simp only [am_chk, Bool.and_eq_true, decide_eq_true_eq] at hchk
    obtain ⟨⟨hd, hlen⟩, hmore⟩ := hchk
    subst hlen
    simp only [am_act, am_nx] at hact
    split at hact
    · cases hact
      exact lv_ladd hx hb hd (k H locs ls hz hk1 hk2 hl hH hS)
    · cases hact
  | lsub =>
    simp only [am_chk, Bool.and_eq_true, decide_eq_true_eq] at hchk
    obtain ⟨⟨hd, hlen⟩, hmore⟩ := hchk
    subst hlen
    simp only [am_act, am_nx] at hact
    split at hact
    · cases hact
      exact lv_lsub hx hb hd (k H locs ls hz hk1 hk2 hl hH hS)
    · cases hact
  | lmul =>
    simp only [am_chk, Bool.and_eq_true, decide_eq_true_eq] at hchk
    obtain ⟨⟨hd, hlen⟩, hmore⟩ := hchk
    subst hlen
    simp only [am_act, am_nx] at hact
    split at hact
    · cases hact
      exact lv_lmul hx hb hd (k H locs ls hz hk1 hk2 hl hH hS)
    · cases hact
  | land =>
    simp only [am_chk, Bool.and_eq_true, decide_eq_true_eq] at hchk
    obtain ⟨⟨hd, hlen⟩, hmore⟩ := hchk
    subst hlen
    simp only [am_act, am_nx] at hact
    split at hact
    · cases hact
      exact lv_land hx hb hd (k H locs ls hz hk1 hk2 hl hH hS)
    · cases hact
  | lor =>
    simp only [am_chk, Bool.and_eq_true, decide_eq_true_eq] at hchk
    obtain ⟨⟨hd, hlen⟩, hmore⟩ := hchk
    subst hlen
    simp only [am_act, am_nx] at hact
    split at hact
    · cases hact
      exact lv_lor hx hb hd (k H locs ls hz hk1 hk2 hl hH hS)
    · cases hact
  | ineg =>
    simp only [am_chk, Bool.and_eq_true, decide_eq_true_eq] at hchk
    obtain ⟨⟨hd, hlen⟩, hmore⟩ := hchk
    subst hlen
    simp only [am_act, am_nx] at hact
    split at hact
    · cases hact
      exact lv_ineg hx hb hd (k H locs ls hz hk1 hk2 hl hH hS)
    · cases hact
  | iushr =>
    simp only [am_chk, Bool.and_eq_true, decide_eq_true_eq] at hchk
    obtain ⟨⟨hd, hlen⟩, hmore⟩ := hchk
    subst hlen
    simp only [am_act, am_nx] at hact
    split at hact
    · cases hact
      exact lv_iushr hx hb hd rfl (k H locs ls hz hk1 hk2 hl hH hS)
    · cases hact
  | i2l =>
    simp only [am_chk, Bool.and_eq_true, decide_eq_true_eq] at hchk
    obtain ⟨⟨hd, hlen⟩, hmore⟩ := hchk
    subst hlen
    simp only [am_act, am_nx] at hact
    split at hact
    · cases hact
      exact lv_i2l hx hb hd rfl (k H locs ls hz hk1 hk2 hl hH hS)
    · cases hact
  | l2i =>
    simp only [am_chk, Bool.and_eq_true, decide_eq_true_eq] at hchk
    obtain ⟨⟨hd, hlen⟩, hmore⟩ := hchk
    subst hlen
    simp only [am_act, am_nx] at hact
    split at hact
    · cases hact
      exact lv_l2i hx hb hd rfl (k H locs ls hz hk1 hk2 hl hH hS)
    · cases hact
  | lshl =>
    simp only [am_chk, Bool.and_eq_true, decide_eq_true_eq] at hchk
    obtain ⟨⟨hd, hlen⟩, hmore⟩ := hchk
    subst hlen
    simp only [am_act, am_nx] at hact
    split at hact
    · cases hact
      exact lv_lshl hx hb hd rfl (k H locs ls hz hk1 hk2 hl hH hS)
    · cases hact
  | lushr =>
    simp only [am_chk, Bool.and_eq_true, decide_eq_true_eq] at hchk
    obtain ⟨⟨hd, hlen⟩, hmore⟩ := hchk
    subst hlen
    simp only [am_act, am_nx] at hact
    split at hact
    · cases hact
      exact lv_lushr hx hb hd rfl (k H locs ls hz hk1 hk2 hl hH hS)
    · cases hact
  | lcmp =>
    simp only [am_chk, Bool.and_eq_true, decide_eq_true_eq] at hchk
    obtain ⟨⟨hd, hlen⟩, hmore⟩ := hchk
    subst hlen
    simp only [am_act, am_nx] at hact
    split at hact
    · cases hact
      exact W.lcmp hx hb hd (k H locs ls hz hk1 hk2 hl hH hS)
    · cases hact
  | idiv =>
    simp only [am_chk, Bool.and_eq_true, decide_eq_true_eq] at hchk
    obtain ⟨⟨hd, hlen⟩, hmore⟩ := hchk
    subst hlen
    simp only [am_act, am_nx] at hact
    split at hact
    · split at hact
      · cases hact
      · next hc =>
        cases hact
        exact lv_idiv hx hb hd hc (k H locs ls hz hk1 hk2 hl hH hS)
    · cases hact
  | irem =>
    simp only [am_chk, Bool.and_eq_true, decide_eq_true_eq] at hchk
    obtain ⟨⟨hd, hlen⟩, hmore⟩ := hchk
    subst hlen
    simp only [am_act, am_nx] at hact
    split at hact
    · split at hact
      · cases hact
      · next hc =>
        cases hact
        exact lv_irem hx hb hd hc (k H locs ls hz hk1 hk2 hl hH hS)
    · cases hact
  | ldiv =>
    simp only [am_chk, Bool.and_eq_true, decide_eq_true_eq] at hchk
    obtain ⟨⟨hd, hlen⟩, hmore⟩ := hchk
    subst hlen
    simp only [am_act, am_nx] at hact
    split at hact
    · split at hact
      · cases hact
      · next hc =>
        cases hact
        exact lv_ldiv hx hb hd hc (k H locs ls hz hk1 hk2 hl hH hS)
    · cases hact
  | lrem =>
    simp only [am_chk, Bool.and_eq_true, decide_eq_true_eq] at hchk
    obtain ⟨⟨hd, hlen⟩, hmore⟩ := hchk
    subst hlen
    simp only [am_act, am_nx] at hact
    split at hact
    · split at hact
      · cases hact
      · next hc =>
        cases hact
        exact lv_lrem hx hb hd hc (k H locs ls hz hk1 hk2 hl hH hS)
    · cases hact
  | goto off =>
    simp only [am_chk, Bool.and_eq_true, decide_eq_true_eq] at hchk
    obtain ⟨⟨hd, hlen⟩, hmore⟩ := hchk
    subst hlen
    simp only [am_act, am_nx] at hact
    cases hact
    exact lv_goto hx hb hd hmore (k H locs ls hz hk1 hk2 hl hH hS)
  | if_icmp cd off =>
    simp only [am_chk, Bool.and_eq_true, decide_eq_true_eq] at hchk
    obtain ⟨⟨hd, hlen⟩, hmore⟩ := hchk
    subst hlen
    simp only [am_act, am_nx] at hact
    split at hact
    · next y x st2 =>
      cases cd with
      | eq =>
        by_cases h : x = y
        · rw [show am_cmp .eq x y = true by simp [am_cmp, h]] at hact
          cases hact
          exact lv_icmp_eq hx hb hd hmore (fun _ => (k H locs ls hz hk1 hk2 hl hH hS)) (fun q => absurd h q)
        · rw [show am_cmp .eq x y = false by simp only [am_cmp]; simp [h]] at hact
          cases hact
          exact lv_icmp_eq hx hb hd hmore (fun q => absurd q h) (fun _ => (k H locs ls hz hk1 hk2 hl hH hS))
      | ne =>
        by_cases h : x = y
        · rw [show am_cmp .ne x y = false by simp [am_cmp, h]] at hact
          cases hact
          exact lv_icmp_ne hx hb hd hmore (fun q => absurd h q) (fun _ => (k H locs ls hz hk1 hk2 hl hH hS))
        · rw [show am_cmp .ne x y = true by simp only [am_cmp]; simp [h]] at hact
          cases hact
          exact lv_icmp_ne hx hb hd hmore (fun _ => (k H locs ls hz hk1 hk2 hl hH hS)) (fun q => absurd q h)
      | lt =>
        by_cases h : x < y
        · rw [show am_cmp .lt x y = true by simp [am_cmp, h]] at hact
          cases hact
          exact lv_icmp_lt hx hb hd hmore (fun _ => (k H locs ls hz hk1 hk2 hl hH hS)) (fun q => absurd h q)
        · rw [show am_cmp .lt x y = false by simp only [am_cmp]; simp [h]] at hact
          cases hact
          exact lv_icmp_lt hx hb hd hmore (fun q => absurd q h) (fun _ => (k H locs ls hz hk1 hk2 hl hH hS))
      | ge =>
        by_cases h : y ≤ x
        · rw [show am_cmp .ge x y = true by simp [am_cmp, h]] at hact
          cases hact
          exact lv_icmp_ge hx hb hd hmore (fun _ => (k H locs ls hz hk1 hk2 hl hH hS)) (fun q => absurd h q)
        · rw [show am_cmp .ge x y = false by simp only [am_cmp]; simp [h]] at hact
          cases hact
          exact lv_icmp_ge hx hb hd hmore (fun q => absurd q h) (fun _ => (k H locs ls hz hk1 hk2 hl hH hS))
      | gt =>
        by_cases h : y < x
        · rw [show am_cmp .gt x y = true by simp [am_cmp, h]] at hact
          cases hact
          exact lv_icmp_gt hx hb hd hmore (fun _ => (k H locs ls hz hk1 hk2 hl hH hS)) (fun q => absurd h q)
        · rw [show am_cmp .gt x y = false by simp only [am_cmp]; simp [h]] at hact
          cases hact
          exact lv_icmp_gt hx hb hd hmore (fun q => absurd q h) (fun _ => (k H locs ls hz hk1 hk2 hl hH hS))
      | le =>
        by_cases h : x ≤ y
        · rw [show am_cmp .le x y = true by simp [am_cmp, h]] at hact
          cases hact
          exact lv_icmp_le hx hb hd hmore (fun _ => (k H locs ls hz hk1 hk2 hl hH hS)) (fun q => absurd h q)
        · rw [show am_cmp .le x y = false by simp only [am_cmp]; simp [h]] at hact
          cases hact
          exact lv_icmp_le hx hb hd hmore (fun q => absurd q h) (fun _ => (k H locs ls hz hk1 hk2 hl hH hS))
    · cases hact
  | ifCond cd off =>
    simp only [am_chk, Bool.and_eq_true, decide_eq_true_eq] at hchk
    obtain ⟨⟨hd, hlen⟩, hmore⟩ := hchk
    subst hlen
    simp only [am_act, am_nx] at hact
    split at hact
    · next x st2 =>
      cases cd with
      | eq =>
        by_cases h : x = 0
        · rw [show am_cmp .eq x 0 = true by simp [am_cmp, h]] at hact
          cases hact
          exact lv_if_eq hx hb hd hmore (fun _ => (k H locs ls hz hk1 hk2 hl hH hS)) (fun q => absurd h q)
        · rw [show am_cmp .eq x 0 = false by simp only [am_cmp]; simp [h]] at hact
          cases hact
          exact lv_if_eq hx hb hd hmore (fun q => absurd q h) (fun _ => (k H locs ls hz hk1 hk2 hl hH hS))
      | ne =>
        by_cases h : x = 0
        · rw [show am_cmp .ne x 0 = false by simp [am_cmp, h]] at hact
          cases hact
          exact lv_if_ne hx hb hd hmore (fun q => absurd h q) (fun _ => (k H locs ls hz hk1 hk2 hl hH hS))
        · rw [show am_cmp .ne x 0 = true by simp only [am_cmp]; simp [h]] at hact
          cases hact
          exact lv_if_ne hx hb hd hmore (fun _ => (k H locs ls hz hk1 hk2 hl hH hS)) (fun q => absurd q h)
      | lt =>
        by_cases h : x < 0
        · rw [show am_cmp .lt x 0 = true by simp [am_cmp, h]] at hact
          cases hact
          exact lv_if_lt hx hb hd hmore (fun _ => (k H locs ls hz hk1 hk2 hl hH hS)) (fun q => absurd h q)
        · rw [show am_cmp .lt x 0 = false by simp only [am_cmp]; simp [h]] at hact
          cases hact
          exact lv_if_lt hx hb hd hmore (fun q => absurd q h) (fun _ => (k H locs ls hz hk1 hk2 hl hH hS))
      | ge =>
        by_cases h : 0 ≤ x
        · rw [show am_cmp .ge x 0 = true by simp [am_cmp, h]] at hact
          cases hact
          exact lv_if_ge hx hb hd hmore (fun _ => (k H locs ls hz hk1 hk2 hl hH hS)) (fun q => absurd h q)
        · rw [show am_cmp .ge x 0 = false by simp only [am_cmp]; simp [h]] at hact
          cases hact
          exact lv_if_ge hx hb hd hmore (fun q => absurd q h) (fun _ => (k H locs ls hz hk1 hk2 hl hH hS))
      | gt =>
        by_cases h : 0 < x
        · rw [show am_cmp .gt x 0 = true by simp [am_cmp, h]] at hact
          cases hact
          exact lv_if_gt hx hb hd hmore (fun _ => (k H locs ls hz hk1 hk2 hl hH hS)) (fun q => absurd h q)
        · rw [show am_cmp .gt x 0 = false by simp only [am_cmp]; simp [h]] at hact
          cases hact
          exact lv_if_gt hx hb hd hmore (fun q => absurd q h) (fun _ => (k H locs ls hz hk1 hk2 hl hH hS))
      | le =>
        by_cases h : x ≤ 0
        · rw [show am_cmp .le x 0 = true by simp [am_cmp, h]] at hact
          cases hact
          exact lv_if_le hx hb hd hmore (fun _ => (k H locs ls hz hk1 hk2 hl hH hS)) (fun q => absurd h q)
        · rw [show am_cmp .le x 0 = false by simp only [am_cmp]; simp [h]] at hact
          cases hact
          exact lv_if_le hx hb hd hmore (fun q => absurd q h) (fun _ => (k H locs ls hz hk1 hk2 hl hH hS))
    · cases hact
  | tableswitch d lo hi offs =>
    simp only [am_chk, Bool.and_eq_true, decide_eq_true_eq] at hchk
    obtain ⟨⟨hd, hd0, hof⟩, hmore⟩ := hchk
    simp only [am_act, am_nx] at hact
    split at hact
    · next x st2 =>
      split at hact
      · next hc =>
        cases hact
        exact lv_tableOut hx hb hd hc (Int.toNat_of_nonneg hd0).symm (k H locs ls hz hk1 hk2 hl hH hS)
      · next hc =>
        split at hact
        · next off ho =>
          cases hact
          have h0 := of_decide_eq_true (List.all_eq_true.mp hof off (by
            have h := ho
            rw [← Array.getElem?_toList] at h
            exact List.mem_of_getElem? h))
          exact lv_tableIn hx hb hd (fun q => hc (Or.inl q)) (fun q => hc (Or.inr q)) ho (Int.toNat_of_nonneg h0).symm (k H locs ls hz hk1 hk2 hl hH hS)
        · cases hact
    · cases hact
  | lookupswitch d ps =>
    simp only [am_chk, Bool.and_eq_true, decide_eq_true_eq] at hchk
    obtain ⟨⟨hd, ⟨hd0, hof⟩, hps⟩, hmore⟩ := hchk
    simp only [am_act, am_nx] at hact
    split at hact
    · next x st2 =>
      cases hact
      have h0 := am_off (k := x.toInt) ps.toList hd0 (fun o ho => of_decide_eq_true (List.all_eq_true.mp hof o ho))
      exact lv_lookup hx hb hd hps rfl (Int.toNat_of_nonneg h0).symm (k H locs ls hz hk1 hk2 hl hH hS)
    · cases hact
  | getstatic cc =>
    simp only [am_chk, Bool.and_eq_true, decide_eq_true_eq] at hchk
    obtain ⟨⟨hd, hlen⟩, hmore⟩ := hchk
    subst hlen
    simp only [am_act, am_nx] at hact
    cases hact
    exact va_gets hx hb hO.2.2 hS hown (hwd _ List.mem_cons_self) (fun _ h => h) hd (k H locs ls hz hk1 hk2 hl hH hS)
  | getfield idx =>
    simp only [am_act, am_nx] at hact
    split at hact
    · next q st2 =>
      split at hact
      · next ci fs hwq =>
        split at hact
        · next hci =>
          subst hci
          split at hact
          · next x hv =>
            cases hact
            simp only [am_chk, Bool.and_eq_true, decide_eq_true_eq] at hchk
            obtain ⟨⟨hd, hlen⟩, hmore⟩ := hchk
            subst hlen
            cases hq : am_cl[ci]? with
            | none => rw [hq] at hmore; cases hmore
            | some qq =>
              rw [hq] at hmore
              simp only [Bool.and_eq_true, decide_eq_true_eq] at hmore
              have hlink := hwd
              simp only [am_wf, hq] at hlink
              have hlink := hlink _ List.mem_cons_self
              match q, hwq with
              | 0, hwq => rw [hH.2.2.1] at hwq; cases hwq
              | 1, hwq => rw [hH.2.2.2.1] at hwq; cases hwq
              | j + 2, hwq =>
                exact va_get (fs := fs.map (am_vm g)) hx hb hts (am_clok_of hq).1 hown hK.1 (am_one1 (hH.2.2.2.2 j _ hwq)) 0 rfl hq b hmore.1 hlink (fun z hz => by rw [← hmore.2]; exact hz) (v := am_vm g x) (by rw [List.getElem?_map, hv]; rfl) hd (k H locs ls hz hk1 hk2 hl hH hS)
          · cases hact
        · cases hact
      · cases hact
    · cases hact
  | putfield idx =>
    simp only [am_act, am_nx] at hact
    split at hact
    · next x q st2 =>
      split at hact
      · next ci fs hwq =>
        split at hact
        · next hc =>
          obtain ⟨hci, hbl, hfit, hq2⟩ := hc
          subst hci
          cases hact
          simp only [am_chk, Bool.and_eq_true, decide_eq_true_eq] at hchk
          obtain ⟨⟨hd, hlen⟩, hmore⟩ := hchk
          subst hlen
          cases hq : am_cl[ci]? with
          | none => rw [hq] at hmore; cases hmore
          | some qq =>
            rw [hq] at hmore
            simp only [Bool.and_eq_true, decide_eq_true_eq] at hmore
            obtain ⟨⟨⟨m1, m2⟩, m3⟩, m4⟩ := hmore
            have hlink := hwd
            simp only [am_wf, hq] at hlink
            have hlink := hlink _ List.mem_cons_self
            cases hty : parseFieldDescriptor (qq.2.1 b).2.2.1 with
            | none => rw [hty] at m3; cases m3
            | some ty =>
              rw [hty] at m3
              obtain ⟨f1, f2⟩ := am_fit_ok (g := g) m3 hfit
              match q, hq2, hwq with
              | j + 2, _, hwq =>
                refine am_put hx hb hts hown hnm hK.1 hH hS hwq hq m1 hbl m2 hlink hty f1 f2 (fun hf => ?_) hd (fun H1 locs1 h1 h2 => k H1 locs1 ls hz hk1 hk2 hl h1 h2)
                rw [hf] at m4
                simp only [cond_true, Bool.and_eq_true, decide_eq_true_eq] at m4
                exact m4
        · cases hact
      · cases hact
    · cases hact
  | iaload =>
    simp only [am_chk, Bool.and_eq_true, decide_eq_true_eq] at hchk
    obtain ⟨⟨hd, hlen⟩, hmore⟩ := hchk
    subst hlen
    simp only [am_act, am_nx] at hact
    split at hact
    · next i q st2 =>
      split at hact
      · next n f hwq =>
        cases hi : am_ix i n with
        | false => rw [hi] at hact; cases hact
        | true =>
          rw [hi] at hact
          cases hact
          match q, hwq with
          | 0, hwq =>
            rw [hH.2.2.1] at hwq
            cases hwq
            exact am_oldld hx hb hO.1 hS (am_ix_in hi) hd (k H locs ls hz hk1 hk2 hl hH hS)
          | 1, hwq =>
            rw [hH.2.2.2.1] at hwq
            cases hwq
            exact am_oldld hx hb hO.2.1 hS (am_ix_in hi) hd (k H locs ls hz hk1 hk2 hl hH hS)
          | j + 2, hwq => exact va_iald hx hb hK.1 (am_one1 (hH.2.2.2.2 j _ hwq)) 0 0 rfl rfl (am_ix_in hi) hd (k H locs ls hz hk1 hk2 hl hH hS)
      · cases hact
    · cases hact
  | baload =>
    simp only [am_chk, Bool.and_eq_true, decide_eq_true_eq] at hchk
    obtain ⟨⟨hd, hlen⟩, hmore⟩ := hchk
    subst hlen
    simp only [am_act, am_nx] at hact
    split at hact
    · next i q st2 =>
      split at hact
      · next n f hwq =>
        split at hact
        · next hc =>
          cases hact
          match q, hc.2, hwq with
          | j + 2, _, hwq => exact va_zald hx hb hK.1 (am_one1 (hH.2.2.2.2 j _ hwq)) 0 1 rfl rfl (am_ix_in hc.1) hd (k H locs ls hz hk1 hk2 hl hH hS)
        · cases hact
      · cases hact
    · cases hact
  | aaload =>
    simp only [am_chk, Bool.and_eq_true, decide_eq_true_eq] at hchk
    obtain ⟨⟨hd, hlen⟩, hmore⟩ := hchk
    subst hlen
    simp only [am_act, am_nx] at hact
    split at hact
    · next i q st2 =>
      split at hact
      · next n f hwq =>
        split at hact
        · next hc =>
          split at hact
          · next x hf =>
            cases hact
            match q, hc.2, hwq with
            | j + 2, _, hwq =>
              refine va_aldq hx hb hK.1 (am_one1 (hH.2.2.2.2 j _ hwq)) 0 2 rfl rfl (am_ix_in hc.1) hd ?_
              have e9 : va_rf ((f i.toNatClampNeg).map (am_ad g)) = .ref (am_ad g x) := by rw [hf]; rfl
              rw [e9]
              exact (k H locs ls hz hk1 hk2 hl hH hS)
          · cases hact
        · cases hact
      · cases hact
    · cases hact
  | iastore =>
    simp only [am_chk, Bool.and_eq_true, decide_eq_true_eq] at hchk
    obtain ⟨⟨hd, hlen⟩, hmore⟩ := hchk
    subst hlen
    simp only [am_act, am_nx] at hact
    split at hact
    · next x i q st2 =>
      split at hact
      · next n f hwq =>
        split at hact
        · next hc =>
          cases hact
          match q, hc.2, hwq with
          | j + 2, _, hwq =>
            have hin := am_ix_in hc.1
            have hat : H[g.1.2.2 + j]? = some (vp_cell g.2.1.1 (n, .inl f)) := hH.2.2.2.2 j _ hwq
            refine W.iast hx hb hat ((hK.1.2 0 _ rfl).1 n (fun j => .int (f j))) (fun q => by cases q) (by show ¬ (i < 0 ∨ (arrV _ _ _).slots.size ≤ _); rw [arrV_size]; exact hin) rfl rfl hd fun H1 e1 z oq => ?_
            refine k H1 _ ls hz hk1 hk2 hl (hH.set hwq ?_ z oq) (am_Sput hS z oq)
            show H1[g.1.2.2 + j]? = some (vp_cell g.2.1.1 (n, .inl (upd f i.toNatClampNeg x)))
            rw [e1, vp_cell_i, vp_cell_i, arrV_store, am_updV]
        · cases hact
      · cases hact
    · cases hact
  | bastore =>
    simp only [am_chk, Bool.and_eq_true, decide_eq_true_eq] at hchk
    obtain ⟨⟨hd, hlen⟩, hmore⟩ := hchk
    subst hlen
    simp only [am_act, am_nx] at hact
    split at hact
    · next x i q st2 =>
      split at hact
      · next n f hwq =>
        split at hact
        · next hc =>
          obtain ⟨hc1, hc2, hc3⟩ := hc
          cases hact
          match q, hc2, hwq with
          | j + 2, _, hwq =>
            have hin := am_ix_in hc1
            have hat : H[g.1.2.2 + j]? = some (vp_cell g.2.1.2.1 (n, .inl f)) := hH.2.2.2.2 j _ hwq
            have hnar : narrow .boolean (.int x) = .int x := (am_fit_ok (g := g) (v := 1) (ty := .boolean) rfl hc3).1
            refine W.zast hx hb hat ((hK.1.2 1 _ rfl).1 n (fun j => .int (f j))) (fun q => by cases q) (by show ¬ (i < 0 ∨ (arrV _ _ _).slots.size ≤ _); rw [arrV_size]; exact hin) rfl rfl hd fun H1 e1 z oq => ?_
            refine k H1 _ ls hz hk1 hk2 hl (hH.set hwq ?_ z oq) (am_Sput hS z oq)
            show H1[g.1.2.2 + j]? = some (vp_cell g.2.1.2.1 (n, .inl (upd f i.toNatClampNeg x)))
            rw [e1, hnar, vp_cell_i, vp_cell_i, arrV_store, am_updV]
        · cases hact
      · cases hact
    · cases hact
  | aastore =>
    simp only [am_chk, Bool.and_eq_true, decide_eq_true_eq] at hchk
    obtain ⟨⟨hd, hlen⟩, hmore⟩ := hchk
    subst hlen
    simp only [am_act, am_nx] at hact
    split at hact
    · next x i q st2 =>
      split at hact
      · next n f ci fs hwq hwx =>
        split at hact
        · next hc =>
          obtain ⟨hc1, hc2, hc3, hc4⟩ := hc
          subst hc4
          cases hact
          match q, hc2, hwq, x, hc3, hwx with
          | j + 2, _, hwq, jx + 2, _, hwx =>
            have hin := am_ix_in hc1
            have hlt : i.toNatClampNeg < n := Nat.not_le.mp fun q => hin (Or.inr q)
            have h0 : ¬ i < 0 := fun q => hin (Or.inl q)
            have hat : H[g.1.2.2 + j]? = some (vp_cell g.2.1.2.2 (n, .inr (.inr (.inr (.inr (fun j => (f j).map (am_ad g))))))) := hH.2.2.2.2 j _ hwq
            obtain ⟨r', hr', cellV, g1, g2, g3, -⟩ := hH.2.2.2.2 jx _ hwx
            have hcls := (hK.1.1 6 (RX6, TX6, 6) rfl).2
            obtain ⟨kA, comp, y1, y2, y3, -⟩ := (hK.1.2 2 _ rfl).2
            have hcomp : comp = g.2.2.1.1 6 := Option.some.inj (y3.symm.trans hcls.1)
            subst hcomp
            obtain ⟨kC, hkC, -⟩ := hcls.2
            refine W.aast hx hb hat (fun q h => by cases h) (fun h => by cases h) y1 y2 rfl hkC ⟨h0, by show _ < (arrV _ _ _).slots.size; rw [arrV_size]; exact hlt⟩ g1 (fun q h => by rw [g3] at h; cases h) (by rw [g2]; exact hkC) (by rw [g2]; exact va_assign hcls) rfl rfl hd fun H1 e1 z oq => ?_
            refine k H1 _ ls hz hk1 hk2 hl (hH.set hwq ?_ z oq) (am_Sput hS z oq)
            show H1[g.1.2.2 + j]? = some (vp_cell g.2.1.2.2 (n, .inr (.inr (.inr (.inr (fun y => (va_up f i.toNatClampNeg (some (jx + 2)) y).map (am_ad g)))))))
            rw [e1, vp_cell_q, vp_cell_q, arrV_store]
            congr 2
            funext y
            by_cases hy : y = i.toNatClampNeg
            · subst hy
              simp [updV, va_up, va_rf, am_ad]
            · simp [updV, va_up, hy]
        · cases hact
      · cases hact
    · cases hact
  | arraylength =>
    simp only [am_chk, Bool.and_eq_true, decide_eq_true_eq] at hchk
    obtain ⟨⟨hd, hlen⟩, hmore⟩ := hchk
    subst hlen
    simp only [am_act, am_nx] at hact
    split at hact
    · next q st2 =>
      split at hact
      · next n f hwq =>
        cases hact
        match q, hwq with
        | 0, hwq =>
          rw [hH.2.2.1] at hwq
          cases hwq
          exact am_oldlen hx hb hO.1 hS hd (k H locs ls hz hk1 hk2 hl hH hS)
        | 1, hwq =>
          rw [hH.2.2.2.1] at hwq
          cases hwq
          exact am_oldlen hx hb hO.2.1 hS hd (k H locs ls hz hk1 hk2 hl hH hS)
        | j + 2, hwq =>
          have hat := hH.2.2.2.2 j _ hwq
          cases f with
          | inl f => exact va_alen hx hb hK.1 (am_one1 hat) 0 0 rfl rfl rfl hd (k H locs ls hz hk1 hk2 hl hH hS)
          | inr f => exact va_alen hx hb hK.1 (am_one1 hat) 0 0 rfl rfl rfl hd (k H locs ls hz hk1 hk2 hl hH hS)
      · cases hact
    · cases hact
  | newarray ty =>
    simp only [am_chk, Bool.and_eq_true, decide_eq_true_eq] at hchk
    obtain ⟨⟨hd, hlen⟩, hmore⟩ := hchk
    subst hlen
    simp only [am_act, am_nx] at hact
    split at hact
    · next n st2 =>
      cases ty with
      | int =>
        simp only at hact
        split at hact
        · next hc =>
          obtain ⟨c1, c2, c3, c4⟩ := hc
          cases hact
          have hbig : n.toNatClampNeg * componentBytes (newarray.typeOf .int) ≤ 536870912 := Nat.le_trans (Nat.mul_le_mul_right _ c2) (by decide)
          refine va_newaK (atype := .int) hx hb (hwd _ List.mem_cons_self) rfl hd rfl c1 rfl hbig (by rw [hR, ← hMc]; exact c3) (by rw [hR, ← hMs]; exact c4) rfl fun H1 cA e1 z1 o1 hAr hNm => ?_
          have hcA : cA = g.2.1.1 := Option.some.inj (hNm.symm.trans (hK.1.2 0 _ rfl).2)
          subst hcA
          have := k H1 locs ls hz (by rw [hR, ← hMc]; exact c3) (by rw [hR, ← hMs]; exact c4) hl (hH.app (e := .inl (0, n.toNatClampNeg, .inl (fun _ => 0))) e1 z1 o1) (am_Snew hS z1 o1)
          simp only [List.map_cons, am_vm, am_ad_len hH] at this
          exact this
        · cases hact
      | boolean =>
        simp only at hact
        split at hact
        · next hc =>
          obtain ⟨c1, c2, c3, c4⟩ := hc
          cases hact
          have hbig : n.toNatClampNeg * componentBytes (newarray.typeOf .boolean) ≤ 536870912 := Nat.le_trans (Nat.mul_le_mul_right _ c2) (by decide)
          refine va_newaK (atype := .boolean) hx hb (hwd _ List.mem_cons_self) rfl hd rfl c1 rfl hbig (by rw [hR, ← hMc]; exact c3) (by rw [hR, ← hMs]; exact c4) rfl fun H1 cA e1 z1 o1 hAr hNm => ?_
          have hcA : cA = g.2.1.2.1 := Option.some.inj (hNm.symm.trans (hK.1.2 1 _ rfl).2)
          subst hcA
          have := k H1 locs ls hz (by rw [hR, ← hMc]; exact c3) (by rw [hR, ← hMs]; exact c4) hl (hH.app (e := .inl (1, n.toNatClampNeg, .inl (fun _ => 0))) e1 z1 o1) (am_Snew hS z1 o1)
          simp only [List.map_cons, am_vm, am_ad_len hH] at this
          exact this
        · cases hact
      | _ => cases hact
    · cases hact
  | anewarray idx =>
    simp only [am_chk, Bool.and_eq_true, decide_eq_true_eq] at hchk
    obtain ⟨⟨hd, hlen⟩, hmore⟩ := hchk
    subst hlen
    simp only [am_act, am_nx] at hact
    split at hact
    · next n st2 =>
      split at hact
      · next hc =>
        obtain ⟨c1, c2, c3, c4⟩ := hc
        cases hact
        refine W.anew (C := RX6) hx hb hown (hwd _ List.mem_cons_self) (va_AO.use hK.2.2) rfl hd rfl c1 (by omega) (by rw [hR, ← hMc]; exact c3) (by rw [hR, ← hMs]; exact c4) fun cA kA comp h1 h2 h3 h4 => ?_
        obtain ⟨-, -, -, -, -, hNm⟩ := (hK.1.2 2 _ rfl).2
        have hcA : cA = g.2.1.2.2 := Option.some.inj (h1.symm.trans hNm)
        subst hcA
        have z1 : (H.push { cls := g.2.1.2.2, slots := Array.replicate n.toNatClampNeg .null, vm := .none }).size = H.size + 1 := by simp
        have o1 : ∀ q : Nat, q < H.size → (H.push { cls := g.2.1.2.2, slots := Array.replicate n.toNatClampNeg .null, vm := .none })[q]? = H[q]? := fun q hq => by rw [Array.getElem?_push, if_neg (Nat.ne_of_lt hq)]
        have := k _ locs ls hz (by rw [hR, ← hMc]; exact c3) (by rw [hR, ← hMs]; exact c4) hl (hH.app (e := .inl (2, n.toNatClampNeg, .inr (fun _ => none))) (by
          show (H.push _)[H.size]? = some (vp_cell g.2.1.2.2 (n.toNatClampNeg, .inr (.inr (.inr (.inr (fun j => (none : Option Nat).map (am_ad g)))))))
          rw [vp_cell_q, ← arrV_new]
          simp
          exact Or.inr rfl) z1 o1) (am_Snew hS z1 o1)
        simp only [List.map_cons, am_vm, am_ad_len hH] at this
        exact this
      · cases hact
    · cases hact
  | new idx =>
    simp only [am_chk, Bool.and_eq_true, decide_eq_true_eq] at hchk
    obtain ⟨⟨hd, hlen⟩, hmore⟩ := hchk
    subst hlen
    simp only [am_act, am_nx] at hact
    split at hact
    · next fs hfs =>
      split at hact
      · next hc =>
        obtain ⟨c3, c4⟩ := hc
        cases hact
        cases hq : am_cl[a]? with
        | none =>
          exfalso
          have h9 : a < 12 := hmore
          rw [List.getElem?_eq_none_iff] at hq
          simp only [am_cl, List.length_cons, List.length_nil] at hq
          omega
        | some qq =>
          obtain ⟨hin, hnm2, ty0, hty0, hdf⟩ := am_clok_of hq
          obtain ⟨hlenf, hdv⟩ := hdf fs hfs
          have hlink := hwd
          simp only [am_wf, hq] at hlink
          have hKn := hK.1.1 a _ hq
          rw [hlenf] at c4 k
          refine W.newcK hx hb hown (hlink _ List.mem_cons_self) (hlink _ (List.mem_cons_of_mem _ List.mem_cons_self)) (hlink _ (List.mem_cons_of_mem _ (List.mem_cons_of_mem _ List.mem_cons_self))) rfl hd (by rw [hR, ← hMc]; exact c3) (by rw [hR, ← hMs]; exact c4) hKn.2.1 rfl fun H1 kC hkC e1 z1 o1 => ?_
          have := k H1 locs ls hz (by rw [hR, ← hMc]; exact c3) (by rw [hR, ← hMs]; exact c4) hl (hH.app (e := .inr (a, fs)) ⟨_, hq, (u_born ty0 hts hin hKn hkC e1 hty0).to (hdv g)⟩ z1 o1) (am_Snew hS z1 o1)
          simp only [List.map_cons, am_vm, am_ad_len hH] at this
          exact this
      · cases hact
    · cases hact
  | invokespecial idx =>
    simp only [am_chk, Bool.and_eq_true, decide_eq_true_eq] at hchk
    obtain ⟨⟨hd, hlen⟩, hmore⟩ := hchk
    subst hlen
    simp only [am_act, am_nx] at hact
    split at hact
    · next ha =>
      subst ha
      split at hact
      · next q st2 =>
        split at hact
        · next hc =>
          cases hact
          simp only [if_true, Bool.and_eq_true, decide_eq_true_eq] at hmore
          have hlink := hwd
          simp only [am_wf, if_true] at hlink
          refine W.objInit hx hb hown (hlink _ List.mem_cons_self) (hlink _ (List.mem_cons_of_mem _ List.mem_cons_self)) (hlink _ (List.mem_cons_of_mem _ (List.mem_cons_of_mem _ List.mem_cons_self))) rfl hz rfl hd (by rw [hR]; exact hmore.1) ?_ (k H locs ls hz hk1 hk2 hl hH hS)
          have hcat : ((st2.map (am_vm g)).map fun v => v.category).sum ≤ 8 := by
            rw [List.map_map, show ((fun v : Value => v.category) ∘ am_vm g) = fun v => v.category from funext (am_vm_cat g)]
            exact hc
          rw [hR]
          show 2 * 0 + ((st2.map (am_vm g)).map fun v => v.category).sum + 12 ≤ _
          omega
        · cases hact
      · cases hact
    · unfold am_call at hact
      split at hact
      · cases hact
      · split at hact <;> cases hact
  | invokestatic idx =>
    simp only [am_chk, Bool.and_eq_true, decide_eq_true_eq] at hchk
    obtain ⟨⟨hd, hlen⟩, hmore⟩ := hchk
    subst hlen
    simp only [am_act, am_nx] at hact
    split at hact
    · next ha =>
      subst ha
      split at hact
      · next n dp q1 sp q0 st2 =>
        split at hact
        · next n0 f n1 f2 hw0 hw1 =>
          split at hact
          · next hc =>
            obtain ⟨c1, c2, c3, c4, c5, c6, c7, c8⟩ := hc
            cases hact
            simp only [if_true, Bool.and_eq_true, decide_eq_true_eq] at hmore
            have hlink := hwd
            simp only [am_wf, if_true] at hlink
            match q0, c6, hw0, q1, c7, hw1 with
            | j0 + 2, _, hw0, j1 + 2, _, hw1 =>
              have hcat : ((st2.map (am_vm g)).map fun v => v.category).sum ≤ 8 := by
                rw [List.map_map, show ((fun v : Value => v.category) ∘ am_vm g) = fun v => v.category from funext (am_vm_cat g)]
                exact c8
              refine am_copy hx hb (by rw [hz]) hown (hlink _ List.mem_cons_self) (hlink _ (List.mem_cons_of_mem _ List.mem_cons_self)) (hlink _ (List.mem_cons_of_mem _ (List.mem_cons_of_mem _ List.mem_cons_self))) (hlink _ (List.mem_cons_of_mem _ (List.mem_cons_of_mem _ (List.mem_cons_of_mem _ List.mem_cons_self)))) hK.1 hH hS hw0 hw1 c1 c2 c3 c4 c5 (by rw [hR]; exact hmore.1) (by rw [hR]; show _ + (7 + 11) ≤ _; omega) hd (fun H1 locs1 h1 h2 => k H1 locs1 ls hz hk1 hk2 hl h1 h2)
          · cases hact
        · cases hact
      · cases hact
    · unfold am_call at hact
      split at hact
      · cases hact
      · split at hact <;> cases hact
  | invokevirtual idx =>
    simp only [am_act, am_nx] at hact
    split at hact
    · split at hact
      · split at hact
        · unfold am_call at hact
          split at hact
          · cases hact
          · split at hact <;> cases hact
        · cases hact
      · cases hact
    · cases hact
  | ireturn =>
    simp only [am_act] at hact
    split at hact
    · split at hact <;> cases hact
    · cases hact
  | lreturn =>
    simp only [am_act] at hact
    split at hact <;> cases hact
  | return_ =>
    simp only [am_act] at hact
    split at hact <;> cases hact
  | _ => simp [am_act] at hact
end AS
