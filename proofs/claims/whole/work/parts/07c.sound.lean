/-! THE REAL MACHINE FOLLOWS THE SMALL ONE, III: ends, calls, and any number of steps -/
def am_ws (inf : am_Inf) : List Cond := Cond.code inf.1 inf.2.1 inf.2.2.1 inf.2.2.2.1 :: am_good
def am_Pc (g : am_G) (vs : List Value) (w : am_W) : Array Value → State → Prop := va_Pc (vs.map (am_vm g)) (fun U => am_H g w U.heap ∧ am_K g U ∧ am_O g U U.heap)
def am_Qc (g : am_G) (res : Option Value) (w' : am_W) : Array Value → State → Outcome → State → Prop := fun _ st o t => o = .returned (res.map (am_vm g)) ∧ am_H g w' t.heap ∧ va_F (am_new g) st t
theorem am_blind (g : am_G) (vs : List Value) (w : am_W) : FrameBlind (am_Pc g vs w) := fun a U f mk q => ⟨q.1, q.2.1, am_K.same (s := U) (U := U.calling f mk a) rfl q.2.2.1, am_O.moved (u := U) (U := U.calling f mk a) (Vm.Alike.refl U.vm) q.2.2.2⟩
theorem am_good_good {w : Cond} (h : w ∈ am_good) : (w.onTables && w.keeps) = true ∨ ∃ ty, w = .arrayClass ty := good_of_word (List.mem_filter.mp h).2
theorem am_ofW {l : Launch} {y : MethodName} {ws ws' : List Cond} {rm : Room} {Pc : Array Value → State → Prop} {Qc : Array Value → State → Outcome → State → Prop} {mc ms : Nat} {free : Addr → Prop} {cc : ByteArray} {maxL : Nat} {ret : Option FieldType}
    (hy : plainFor y = true) (hw : ws = Cond.code y cc maxL ret :: ws')
    (body : ∀ p e s m args below meth c s₁, BodyLoose p l y (headSpec ws rm) cc maxL ret e s m args below meth c s₁ → c.maxLocals = maxL → Pc args s →
      W p l e (headSpec ws rm).room s m args below meth c s.heap [] 0 0 (MQ below Qc args s mc ms free) (entryFrame m args maxL)) : Met l y ws rm Pc Qc mc ms free := by
  refine MetFree.of_bodySF (code := cc) (maxLocals := maxL) (ret := ret) hy ?_ ?_
  · intro args s m h hn
    obtain ⟨meth, c, h1, h2, h3, h4, h5, h6, -, -⟩ := Cond.code_spec hn (atoms_spec (ws := ws) h _ (by rw [hw]; exact List.mem_cons_self))
    exact ⟨meth, c, h1, h2, h3, h4, h5, h6⟩
  · intro p e s m args below meth c s₁ B hml hP _
    have hh0 : s₁.heap = s.heap := by rw [B.state]; rfl
    obtain ⟨t, a1, o, b1, b2, b3⟩ := body p e s m args below meth c s₁ B hml hP s₁ hh0 (Stand.of_body B)
    exact ⟨t, o, a1, b1, b2, ⟨b3.1, b3.2⟩⟩
section AC
variable {p : Program} {l : Launch} {e : Env} {R : Room} {s : State} {m : MethodId} {args : Array Value} {below : List Frame} {meth : Method} {c : Code} {H : Heap} {locs : List Loc} {cells slots : Nat} {Q : State → Prop} {g : am_G} {inf inf' : am_Inf} {M N : am_M}
theorem am_after {mc ms pc : Nat} {res : Option Value} {w' : am_W} {rest st0 : List Value} {a : Array Value} {ls : Array Slot} (hr : va_Run p l e R s m args below meth c H locs cells slots mc ms (F0 m pc ls st0) rest (am_Qc g res w' a) (am_new g)) (hS : va_S (am_new g) s.heap H locs)
    (kk : ∀ (H1 : Heap) (locs1 : List Loc), am_H g w' H1 → va_S (am_new g) s.heap H1 locs1 → W p l e R s m args below meth c H1 locs1 (cells + mc) (slots + ms) Q (F0 m (pc + 3) ls ((res.map (am_vm g)).toList ++ rest))) : W p l e R s m args below meth c H locs cells slots Q (F0 m pc ls st0) := by
  intro T hT X
  obtain ⟨v, st₀, t, T', L, h0, X', hL, e1, e2, ⟨hv, hH1, hz, hk⟩, st⟩ := hr T hT X
  cases hv
  rw [h0] at hz hk
  obtain ⟨t2, a1, b1⟩ := kk T'.heap (locs ++ L) (by rw [e1]; exact hH1)
    ⟨Nat.le_trans hS.1 (by rw [e1]; exact hz), fun q h1 h2 => by rw [e1, hk q (Nat.lt_of_lt_of_le h1 hS.1) h2]; exact hS.2.1 q h1 h2, fun q hq => by
      rcases List.mem_append.mp hq with h | h
      · exact hS.2.2 q h
      · exact hL q h⟩ T' rfl X'
  exact ⟨t2, st t2 a1, b1⟩
theorem am_cats {st : List Value} (h : (st.map fun v => v.category).sum ≤ 8) : ((st.map (am_vm g)).map fun v => v.category).sum ≤ 8 := by
  rw [List.map_map, show ((fun v : Value => v.category) ∘ am_vm g) = fun v => v.category from funext (am_vm_cat g)]
  exact h
theorem am_goodIn (hc : Cond.code inf'.1 inf'.2.1 inf'.2.2.1 inf'.2.2.2.1 ∈ am_good) : GoodIn am_good (am_ws inf') := by
  intro w hw
  rcases List.mem_cons.mp hw with rfl | hw
  · exact ⟨hc, am_good_good hc⟩
  · exact ⟨hw, am_good_good hw⟩
theorem am_pre {vs : List Value} {w : am_W} (hK : am_K g s) (hO : am_O g s s.heap) (hH : am_H g w H) (hS : va_S (am_new g) s.heap H locs) : ∀ U : State, U.heap = H → s.WarmedH U.vm → am_Pc g vs w (vs.map (am_vm g)).toArray U := fun U hU hW => ⟨rfl, by rw [hU]; exact hH, am_K.warm hW hK, by rw [hU]; exact am_O.moved hW.alike (hO.kept hS.2.1)⟩
theorem am_split {st : List Value} (b : Nat) : st.map (am_vm g) = (((st.take b).reverse).map (am_vm g)).reverse ++ (st.drop b).map (am_vm g) := by
  rw [← List.map_reverse, List.reverse_reverse, ← List.map_append, List.take_append_drop]
set_option maxHeartbeats 4000000 in
set_option maxRecDepth 100000 in
/-- a call -/
theorem am_docall (F : am_Fix g inf p R s m args meth c) (hok : am_okm (M, inf)) {r : am_R} {t s' : am_S} {y' : Nat} {vs : List Value} {res : Option Value} {w' : am_W} (hr : r ∈ M.1) (hpc : r.1 = t.1) (hact : am_act am_D am_P M r t = some (.inr (.inr (y', vs, s')))) (hN : am_P[y']? = some N) (hI : am_I[y']? = some inf') (hhd : inf'.1.name = "<init>" → ∃ q vs', vs = .ref q :: vs')
    (hM : Met l inf'.1 (am_ws inf') inf'.2.2.2.2 (am_Pc g vs s'.2.2.2.1) (am_Qc g res w') inf'.2.2.2.2.cells inf'.2.2.2.2.slots (am_new g)) (k : am_at g p l e R s m args below meth c Q (s'.1, s'.2.1, res.toList ++ s'.2.2.1, w', s'.2.2.2.2)) : am_at g p l e R s m args below meth c Q t := by
  obtain ⟨pc0, i, len, a, b, v⟩ := r
  obtain ⟨pc, lsA, st, w, k1, k2⟩ := t
  have hpc : pc0 = pc := hpc
  subst hpc
  have hchk := List.all_eq_true.mp hok.1 _ hr
  have hMc : M.2.2.1 = inf.2.2.2.2.cells := hok.2.2.2.2.1
  have hMs : M.2.2.2 = inf.2.2.2.2.slots := hok.2.2.2.2.2.1
  obtain ⟨hx, hb, hml, hown, hts, hnm, hR, hK, hO, hbase⟩ := F
  have hwg : ∀ w ∈ am_wf inf.1.cls (pc0, i, len, a, b, v), w ∈ am_good := fun w h => am_good_in (hok.2.1 _ hr w h).1 (hok.2.1 _ hr w h).2
  have hnst := hok.2.2.1 _ hr
  intro H locs ls hz hk1 hk2 hl hH hS
  have ends : ∀ (mc ms : Nat) (H1 : Heap) (locs1 : List Loc), N.2.2.1 = mc → N.2.2.2 = ms → k1 + N.2.2.1 ≤ M.2.2.1 → k2 + N.2.2.2 ≤ M.2.2.2 → s' = (pc0 + 3, lsA, st.drop b, w, k1 + N.2.2.1, k2 + N.2.2.2) → am_H g w' H1 → va_S (am_new g) s.heap H1 locs1 → W p l e R s m args below meth c H1 locs1 (k1 + mc) (k2 + ms) Q (F0 m (pc0 + 3) ls ((res.map (am_vm g)).toList ++ (st.drop b).map (am_vm g))) := by
    intro mc ms H1 locs1 e1 e2 e3 e4 e5 h1 h2
    subst e1; subst e2; subst e5
    have h := k H1 locs1 ls hz (by rw [hR, ← hMc]; exact e3) (by rw [hR, ← hMs]; exact e4) hl h1 h2
    have e9 : (res.toList ++ st.drop b).map (am_vm g) = (res.map (am_vm g)).toList ++ (st.drop b).map (am_vm g) := by
      rw [List.map_append]
      cases res <;> rfl
    simp only [e9] at h
    exact h
  have inv : am_call am_P M a b pc0 lsA st w k1 k2 = some (.inr (.inr (y', vs, s'))) → y' = a ∧ vs = (st.take b).reverse ∧ s' = (pc0 + 3, lsA, st.drop b, w, k1 + N.2.2.1, k2 + N.2.2.2) ∧ b ≤ st.length ∧ ((st.drop b).map fun v => v.category).sum ≤ 8 ∧ k1 + N.2.2.1 ≤ M.2.2.1 ∧ k2 + N.2.2.2 ≤ M.2.2.2 := by
    intro h
    unfold am_call at h
    split at h
    · cases h
    · next N' hN' =>
      split at h
      · next hc =>
        cases h
        rw [hN'] at hN
        cases hN
        exact ⟨rfl, rfl, rfl, hc.1, hc.2.1, hc.2.2.1, hc.2.2.2.1⟩
      · cases h
  cases i with
  | invokestatic idx =>
    simp only [am_chk, Bool.and_eq_true, decide_eq_true_eq] at hchk
    obtain ⟨⟨hd, hlen⟩, hmore⟩ := hchk
    subst hlen
    simp only [am_act, am_nx] at hact
    split at hact
    · split at hact
      · split at hact
        · split at hact <;> cases hact
        · cases hact
      · cases hact
    · next ha =>
      obtain ⟨rfl, rfl, hs', hbl, hcat, hc1, hc2⟩ := inv hact
      rw [if_neg ha, hI, hN] at hmore
      simp only [Bool.and_eq_true, decide_eq_true_eq, am_cal, Bool.or_eq_true] at hmore
      obtain ⟨⟨⟨⟨⟨⟨⟨⟨m1, m2⟩, m3⟩, m4⟩, m5⟩, m6⟩, m7⟩, m8⟩, m9⟩ := hmore
      have hlen : (((st.take b).reverse).map (am_vm g)).length = b := by rw [List.length_map, List.length_reverse, List.length_take]; omega
      have hf : k1 + inf'.2.2.2.2.cells ≤ R.cells ∧ k2 + inf'.2.2.2.2.slots ≤ R.slots := ⟨by rw [m3, hR, ← hMc]; exact hc1, by rw [m4, hR, ← hMs]; exact hc2⟩
      have hw2 : s'.2.2.2.1 = w := by rw [hs']
      rw [hw2] at hM
      rcases m9 with m9 | m9
      · subst m9
        have hg2 := hwg
        simp only [am_wf, if_neg ha, hI] at hg2
        rw [if_neg (by decide)] at hg2
        have q1 := hg2 _ List.mem_cons_self
        have q2 := hg2 _ (List.mem_cons_of_mem _ List.mem_cons_self)
        have q3 := hg2 _ (List.mem_cons_of_mem _ (List.mem_cons_of_mem _ List.mem_cons_self))
        have q4 := hg2 _ (List.mem_cons_of_mem _ (List.mem_cons_of_mem _ (List.mem_cons_of_mem _ List.mem_cons_self)))
        refine am_after (va_runS (Ts := am_good) (own := inf.1.cls) (index := idx) (As := ((st.take b).reverse).map (am_vm g)) (rest := (st.drop b).map (am_vm g)) ⟨hx, hb, rfl, hown, hts⟩ hM ⟨callB_of (Ts := am_good) (bytes := inf'.2.1) (maxL := inf'.2.2.1) (ret := inf'.2.2.2.1) b hts (am_goodIn q4) rfl rfl rfl (hts _ q3) (hts _ q1) ⟨m6, m7, m8⟩ ⟨by rw [hR]; exact m1, by rw [hR]; exact m2⟩, hts _ q2⟩ ⟨am_blind g _ _, am_pre hK hO hH hS⟩ rfl hlen hz (am_split b) (lv_room (am_cats hcat)) hd hf) hS (fun H1 locs1 h1 h2 => ends _ _ H1 locs1 m3.symm m4.symm hc1 hc2 hs' h1 h2)
      · subst m9
        have hg2 := hwg
        simp only [am_wf, if_neg ha, hI] at hg2
        rw [if_pos trivial] at hg2
        have q2 := hg2 _ List.mem_cons_self
        have q3 := hg2 _ (List.mem_cons_of_mem _ List.mem_cons_self)
        have q4 := hg2 _ (List.mem_cons_of_mem _ (List.mem_cons_of_mem _ List.mem_cons_self))
        have q1 := hnst (.methodLinkNest inf.1.cls idx inf'.1 "ThirstRow") (by simp only [am_nest]; rw [if_neg ha, if_pos trivial, hI])
        refine am_after (va_runSN (Ts := am_good) (own := inf.1.cls) (index := idx) (As := ((st.take b).reverse).map (am_vm g)) (rest := (st.drop b).map (am_vm g)) ⟨hx, hb, rfl, hown, hts⟩ hM ⟨va_cnB (Ts := am_good) (bytes := inf'.2.1) (maxL := inf'.2.2.1) (ret := inf'.2.2.2.1) b hts (am_goodIn q4) rfl rfl rfl (hK.2.1 _ q1) (hts _ q3) ⟨m6, m7, m8⟩ ⟨by rw [hR]; exact m1, by rw [hR]; exact m2⟩, hts _ q2, trivial⟩ ⟨am_blind g _ _, am_pre hK hO hH hS⟩ rfl hlen hz (am_split b) (lv_room (am_cats hcat)) hd hf) hS (fun H1 locs1 h1 h2 => ends _ _ H1 locs1 m3.symm m4.symm hc1 hc2 hs' h1 h2)
  | invokespecial idx =>
    simp only [am_chk, Bool.and_eq_true, decide_eq_true_eq] at hchk
    obtain ⟨⟨hd, hlen⟩, hmore⟩ := hchk
    subst hlen
    simp only [am_act, am_nx] at hact
    split at hact
    · split at hact
      · split at hact <;> cases hact
      · cases hact
    · next ha =>
      obtain ⟨rfl, hvs, hs', hbl, hcat, hc1, hc2⟩ := inv hact
      rw [if_neg ha, hI, hN] at hmore
      simp only [Bool.and_eq_true, decide_eq_true_eq, am_cal] at hmore
      obtain ⟨⟨⟨⟨⟨⟨⟨⟨⟨⟨m1, m2⟩, m3⟩, m4⟩, m5⟩, m6⟩, m7⟩, m8⟩, mb⟩, mn⟩, mr⟩ := hmore
      obtain ⟨q, vs2, rfl⟩ := hhd mn
      have hlen : ((Value.ref q :: vs2).map (am_vm g)).length = b := by rw [hvs, List.length_map, List.length_reverse, List.length_take]; omega
      have hlen2 : (vs2.map (am_vm g)).length = b - 1 := by
        rw [List.map_cons, List.length_cons] at hlen
        omega
      have hf : k1 + inf'.2.2.2.2.cells ≤ R.cells ∧ k2 + inf'.2.2.2.2.slots ≤ R.slots := ⟨by rw [m3, hR, ← hMc]; exact hc1, by rw [m4, hR, ← hMs]; exact hc2⟩
      have hw2 : s'.2.2.2.1 = w := by rw [hs']
      rw [hw2] at hM
      have hg2 := hwg
      simp only [am_wf, if_neg ha, hI] at hg2
      have q1 := hg2 _ List.mem_cons_self
      have q2 := hg2 _ (List.mem_cons_of_mem _ List.mem_cons_self)
      have q3 := hg2 _ (List.mem_cons_of_mem _ (List.mem_cons_of_mem _ List.mem_cons_self))
      have q4 := hg2 _ (List.mem_cons_of_mem _ (List.mem_cons_of_mem _ (List.mem_cons_of_mem _ List.mem_cons_self)))
      have hst : st.map (am_vm g) = (vs2.map (am_vm g)).reverse ++ .ref (am_ad g q) :: (st.drop b).map (am_vm g) := by
        rw [am_split (g := g) (st := st) b, ← hvs, List.map_cons, List.reverse_cons, List.append_assoc]
        rfl
      refine am_after (va_runI (Ts := am_good) (own := inf.1.cls) (index := idx) (b := am_ad g q) (As := vs2.map (am_vm g)) (rest := (st.drop b).map (am_vm g)) ⟨hx, hb, rfl, hown, hts⟩ hM ⟨callB_of (Ts := am_good) (bytes := inf'.2.1) (maxL := inf'.2.2.1) (ret := none) (b - 1) hts (am_goodIn q4) (by rw [← mr]; rfl) rfl rfl (hts _ q3) (hts _ q1) ⟨m6, m7, m8⟩ ⟨by rw [hR]; exact m1, by rw [hR]; exact m2⟩, mn, hts _ q2⟩ ⟨am_blind g _ _, am_pre hK hO hH hS⟩ rfl hlen2 hz hst (lv_room (am_cats hcat)) hd hf) hS (fun H1 locs1 h1 h2 => ends _ _ H1 locs1 m3.symm m4.symm hc1 hc2 hs' h1 h2)
  | invokevirtual idx =>
    simp only [am_chk, Bool.and_eq_true, decide_eq_true_eq] at hchk
    obtain ⟨⟨hd, hlen⟩, hmore⟩ := hchk
    subst hlen
    simp only [am_act, am_nx] at hact
    split at hact
    · next q vs2 hvs0 =>
      split at hact
      · next ci fs hwq =>
        split at hact
        · next hc =>
          obtain ⟨hci, hq2⟩ := hc
          obtain ⟨rfl, hvs, hs', hbl, hcat, hc1, hc2⟩ := inv hact
          rw [hI, hN] at hmore
          simp only [Bool.and_eq_true, decide_eq_true_eq, am_cal] at hmore
          obtain ⟨⟨⟨⟨⟨⟨⟨⟨⟨m1, m2⟩, m3⟩, m4⟩, m5⟩, m6⟩, m7⟩, m8⟩, mb⟩, mc⟩ := hmore
          rw [hvs0] at hvs
          subst hvs
          subst hci
          rw [Int.toNat_natCast] at mc
          cases hq : am_cl[ci]? with
          | none => rw [hq] at mc; cases mc
          | some qq =>
            rw [hq] at mc
            simp only [Bool.and_eq_true, decide_eq_true_eq] at mc
            have hlen : ((Value.ref q :: vs2).map (am_vm g)).length = b := by rw [← hvs0, List.length_map, List.length_reverse, List.length_take]; omega
            have hlen2 : (vs2.map (am_vm g)).length = b - 1 := by
              rw [List.map_cons, List.length_cons] at hlen
              omega
            have hf : k1 + inf'.2.2.2.2.cells ≤ R.cells ∧ k2 + inf'.2.2.2.2.slots ≤ R.slots := ⟨by rw [m3, hR, ← hMc]; exact hc1, by rw [m4, hR, ← hMs]; exact hc2⟩
            have hw2 : s'.2.2.2.1 = w := by rw [hs']
            rw [hw2] at hM
            have hg2 := hwg
            simp only [am_wf, hI] at hg2
            have q1 := hg2 _ List.mem_cons_self
            have q2 := hg2 _ (List.mem_cons_of_mem _ List.mem_cons_self)
            have q3 := hg2 _ (List.mem_cons_of_mem _ (List.mem_cons_of_mem _ List.mem_cons_self))
            have q4 := hg2 _ (List.mem_cons_of_mem _ (List.mem_cons_of_mem _ (List.mem_cons_of_mem _ List.mem_cons_self)))
            have q5 := hg2 _ (List.mem_cons_of_mem _ (List.mem_cons_of_mem _ (List.mem_cons_of_mem _ (List.mem_cons_of_mem _ List.mem_cons_self))))
            have hst : st.map (am_vm g) = (vs2.map (am_vm g)).reverse ++ .ref (am_ad g q) :: (st.drop b).map (am_vm g) := by
              rw [am_split (g := g) (st := st) b, hvs0, List.map_cons, List.reverse_cons, List.append_assoc]
              rfl
            match q, hq2, hwq, hM, hst with
            | j + 2, _, hwq, hM, hst =>
              have hrecv := va_recv hK.1 (am_one1 (hH.2.2.2.2 j _ hwq)) hq (q0 := 0) rfl
              rw [mc.1] at hrecv
              refine am_after (va_runV (Ts := am_good) (own := inf.1.cls) (index := idx) (C := inf'.1.cls) (b := g.1.2.2 + j) (As := vs2.map (am_vm g)) (rest := (st.drop b).map (am_vm g)) ⟨hx, hb, rfl, hown, hts⟩ hM ⟨callB_of (Ts := am_good) (bytes := inf'.2.1) (maxL := inf'.2.2.1) (ret := inf'.2.2.2.1) (b - 1) hts (am_goodIn q5) rfl rfl rfl (hts _ q4) (hts _ q1) ⟨m6, m7, m8⟩ ⟨by rw [hR]; exact m1, by rw [hR]; exact m2⟩, hts _ q2, hts _ q3⟩ ⟨am_blind g _ _, hrecv, am_pre hK hO hH hS⟩ rfl hlen2 hz hst (lv_room (am_cats hcat)) hd hf) hS (fun H1 locs1 h1 h2 => ends _ _ H1 locs1 m3.symm m4.symm hc1 hc2 hs' h1 h2)
        · cases hact
      · cases hact
    · cases hact
  | _ =>
    exfalso
    simp only [am_act, am_nx, Bool.cond_eq_ite] at hact
    first
      | (cases hact; done)
      | ((repeat' split at hact) <;> cases hact; done)
end AC
