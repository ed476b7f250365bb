/-! the constructors -/
def ge_ (L : Nat) : Nat → Prop := fun b => L ≤ b
def ge3 (a c L : Nat) : Nat → Prop := fun b => b = a ∨ b = c ∨ L ≤ b
section NW
variable {y : Nat} {M : am_M} {Q : Option Value → am_W → Prop} {pc pc' len a b q0 k1 k2 k3 k4 L : Nat} {v : Int} {ls st : List Value} {w : am_W}
theorem am_app (hL : w.length = L) (e : am_E) : (w ++ [e]).length = L + 1 ∧ am_same (ge_ L) w (w ++ [e]) ∧ (w ++ [e])[L]? = some e := by
  refine ⟨by rw [List.length_append, hL]; rfl, fun b hb => ?_, ?_⟩
  · exact List.getElem?_append_left (by unfold ge_ at hb; omega)
  · rw [← hL]; exact List.getElem?_concat_length
theorem ar_newF {c : Nat} {fs : List Value} (hM : am_P[y]? = some M) (hr : am_row M.1 pc = some (q0, .new c, len, a, b, v)) (hD : am_D[a]? = some fs) (e1 : k1 + 1 = k3) (e2 : k2 + fs.length = k4) (h1 : k3 ≤ M.2.2.1) (h2 : k4 ≤ M.2.2.2) (hp : pc + 3 = pc') (hL : w.length = L) (k : ∀ w', w'.length = L + 1 → am_same (ge_ L) w w' → w'[L]? = some (.inr (a, fs)) → am_Go y (pc', ls, .ref L :: st, w', k3, k4) Q) : am_Go y (pc, ls, st, w, k1, k2) Q := by
  obtain ⟨g1, g2, g3⟩ := am_app hL (.inr (a, fs))
  subst e1 e2 hp
  refine am_Go.next hM ?_ (k _ g1 g2 g3)
  rw [am_stp hr]
  show (match am_D[a]? with | some fs => if k1 + 1 ≤ M.2.2.1 ∧ k2 + fs.length ≤ M.2.2.2 then _ else none | none => none) = _
  rw [hD]
  show (if k1 + 1 ≤ M.2.2.1 ∧ k2 + fs.length ≤ M.2.2.2 then _ else none) = _
  rw [if_pos ⟨h1, h2⟩, hL]
  rfl
theorem ar_newI {n : Int32} {m : Nat} (hM : am_P[y]? = some M) (hr : am_row M.1 pc = some (q0, .newarray .int, len, a, b, v)) (hn : n = nI m) (hm : m ≤ 1000) (e1 : k1 + 1 = k3) (e2 : k2 + m = k4) (h1 : k3 ≤ M.2.2.1) (h2 : k4 ≤ M.2.2.2) (hp : pc + 2 = pc') (hL : w.length = L) (k : ∀ w', w'.length = L + 1 → am_same (ge_ L) w w' → w'[L]? = some (.inl (0, m, .inl (fun _ => 0))) → am_Go y (pc', ls, .ref L :: st, w', k3, k4) Q) : am_Go y (pc, ls, .int n :: st, w, k1, k2) Q := by
  obtain ⟨g1, g2, g3⟩ := am_app hL (.inl (0, m, .inl (fun _ => 0)))
  subst e1 e2 hp hn
  have hc := nI_clamp (show m < 2 ^ 31 by omega)
  refine am_Go.next hM ?_ (k _ g1 g2 g3)
  rw [am_stp hr]
  show (if ¬ nI m < 0 ∧ (nI m).toNatClampNeg ≤ 1000 ∧ k1 + 1 ≤ M.2.2.1 ∧ k2 + (nI m).toNatClampNeg ≤ M.2.2.2 then _ else none) = _
  rw [hc, if_pos ⟨nI_pos (by omega), hm, h1, h2⟩, hL]
  rfl
theorem ar_newB {n : Int32} {m : Nat} (hM : am_P[y]? = some M) (hr : am_row M.1 pc = some (q0, .newarray .boolean, len, a, b, v)) (hn : n = nI m) (hm : m ≤ 1000) (e1 : k1 + 1 = k3) (e2 : k2 + m = k4) (h1 : k3 ≤ M.2.2.1) (h2 : k4 ≤ M.2.2.2) (hp : pc + 2 = pc') (hL : w.length = L) (k : ∀ w', w'.length = L + 1 → am_same (ge_ L) w w' → w'[L]? = some (.inl (1, m, .inl (fun _ => 0))) → am_Go y (pc', ls, .ref L :: st, w', k3, k4) Q) : am_Go y (pc, ls, .int n :: st, w, k1, k2) Q := by
  obtain ⟨g1, g2, g3⟩ := am_app hL (.inl (1, m, .inl (fun _ => 0)))
  subst e1 e2 hp hn
  have hc := nI_clamp (show m < 2 ^ 31 by omega)
  refine am_Go.next hM ?_ (k _ g1 g2 g3)
  rw [am_stp hr]
  show (if ¬ nI m < 0 ∧ (nI m).toNatClampNeg ≤ 1000 ∧ k1 + 1 ≤ M.2.2.1 ∧ k2 + (nI m).toNatClampNeg ≤ M.2.2.2 then _ else none) = _
  rw [hc, if_pos ⟨nI_pos (by omega), hm, h1, h2⟩, hL]
  rfl
theorem ar_newA {n : Int32} {m c : Nat} (hM : am_P[y]? = some M) (hr : am_row M.1 pc = some (q0, .anewarray c, len, a, b, v)) (hn : n = nI m) (hm : m ≤ 1000) (e1 : k1 + 1 = k3) (e2 : k2 + m = k4) (h1 : k3 ≤ M.2.2.1) (h2 : k4 ≤ M.2.2.2) (hp : pc + 3 = pc') (hL : w.length = L) (k : ∀ w', w'.length = L + 1 → am_same (ge_ L) w w' → w'[L]? = some (.inl (2, m, .inr (fun _ => none))) → am_Go y (pc', ls, .ref L :: st, w', k3, k4) Q) : am_Go y (pc, ls, .int n :: st, w, k1, k2) Q := by
  obtain ⟨g1, g2, g3⟩ := am_app hL (.inl (2, m, .inr (fun _ => none)))
  subst e1 e2 hp hn
  have hc := nI_clamp (show m < 2 ^ 31 by omega)
  refine am_Go.next hM ?_ (k _ g1 g2 g3)
  rw [am_stp hr]
  show (if ¬ nI m < 0 ∧ (nI m).toNatClampNeg ≤ 1000 ∧ k1 + 1 ≤ M.2.2.1 ∧ k2 + (nI m).toNatClampNeg ≤ M.2.2.2 then _ else none) = _
  rw [hc, if_pos ⟨nI_pos (by omega), hm, h1, h2⟩, hL]
  rfl
theorem ar_aastoreF {i : Int32} {j n x q : Nat} {f : Nat → Option Nat} {fs : List Value} (hM : am_P[y]? = some M) (hr : am_row M.1 pc = some (q0, .aastore, len, a, b, v)) (hq : w[q]? = some (.inl (2, n, .inr f))) (hx : w[x]? = some (.inr (6, fs))) (hi : i = nI j) (hj : j < n) (hn : n < 2 ^ 31) (h2q : 2 ≤ q) (h2x : 2 ≤ x) (hp : pc + 1 = pc') (k : am_Go y (pc', ls, st, w.set q (.inl (2, n, .inr (va_up f j (some x)))), k1, k2) Q) : am_Go y (pc, ls, .ref x :: .int i :: .ref q :: st, w, k1, k2) Q := by
  subst hp hi
  have hc := nI_clamp (show j < 2 ^ 31 by omega)
  refine am_Go.next hM ?_ k
  rw [am_stp hr]
  show (match w[q]?, w[x]? with | some (.inl (2, n, .inr f)), some (.inr (ci, _)) => if am_ix (nI j) n = true ∧ 2 ≤ q ∧ 2 ≤ x ∧ ci = 6 then _ else none | _, _ => none) = _
  rw [hq, hx]
  show (if am_ix (nI j) n = true ∧ 2 ≤ q ∧ 2 ≤ x ∧ 6 = 6 then _ else none) = _
  rw [if_pos ⟨decide_eq_true (nI_in hj hn), h2q, h2x, rfl⟩, hc]
  rfl
theorem ar_super {c q : Nat} (hM : am_P[y]? = some M) (hr : am_row M.1 pc = some (q0, .invokespecial c, len, 1000, b, v)) (hs : (st.map fun v => v.category).sum ≤ 8) (hp : pc + 3 = pc') (k : am_Go y (pc', ls, st, w, k1, k2) Q) : am_Go y (pc, ls, .ref q :: st, w, k1, k2) Q := by
  subst hp
  refine am_Go.next hM ?_ k
  rw [am_stp hr]
  show (if (1000 : Nat) = 1000 then (if (st.map fun v => v.category).sum ≤ 8 then am_nx (pc + 3, ls, st, w, k1, k2) else none) else am_call am_P M 1000 b pc ls (.ref q :: st) w k1 k2) = _
  rw [if_pos rfl, if_pos hs]
  rfl
theorem ar_special {c : Nat} {N : am_M} {vs rest : List Value} {Q' : Option Value → am_W → Prop} (hM : am_P[y]? = some M) (hr : am_row M.1 pc = some (q0, .invokespecial c, len, a, b, v)) (ha : ¬ a = 1000) (hN : am_P[a]? = some N) (hc : am_call am_P M a b pc ls st w k1 k2 = some (.inr (.inr (a, vs, (pc', ls, rest, w, k3, k4))))) (hg : am_Go a (0, am_ent N.2.1 vs, [], w, 0, 0) Q') (k : ∀ res w', Q' res w' → am_Go y (pc', ls, res.toList ++ rest, w', k3, k4) Q) : am_Go y (pc, ls, st, w, k1, k2) Q := by
  refine am_Go.call hM (s' := (pc', ls, rest, w, k3, k4)) ?_ hN hg k
  rw [am_stp hr]
  show (if a = 1000 then _ else am_call am_P M a b pc ls st w k1 k2) = _
  rw [if_neg ha]
  exact hc
theorem am_lenW {w w' : am_W} {s m : Nat} {e : am_E} (hL : w.length = s + (m + 1)) (hs : am_same (rg s (m + 1)) w w') (he : w'[s + m]? = some e) : w'.length = s + (m + 1) := by
  have h1 := (List.getElem?_eq_some_iff.mp he).1
  have h2 : w'[s + (m + 1)]? = none := by rw [hs _ (by unfold rg; omega)]; exact List.getElem?_eq_none (by omega)
  have h3 := List.getElem?_eq_none_iff.mp h2
  omega
end NW
set_option maxRecDepth 100000 in
set_option maxHeartbeats 4000000 in
theorem n_X7 (w : am_W) (hL : w.length = 4) (ho : w[3]? = some (.inr (7, [.null, .int 0]))) : am_Go 50 (0, [.ref 3], [], w, 0, 0) (fun res w' => res = none ∧ w'.length = 5 ∧ am_same (ge_ 3) w w' ∧ c_X w' 0 (fun _ => 0)) := by
  have hM : am_P[50]? = some zm_X7_init := rfl
  refine ar_aload_n (pc' := 1) hM rfl rfl rfl ?_
  refine ar_super (pc' := 4) hM rfl (Nat.le_of_ble_eq_true rfl) rfl ?_
  show am_Go 50 (4, [.ref 3], [], w, 0, 0) _
  refine ar_aload_n (pc' := 5) hM rfl rfl rfl ?_
  refine ar_bipush (x := 40) (pc' := 7) hM rfl (by decide) rfl ?_
  refine ar_newI (m := 40) (pc' := 9) (k3 := 1) (k4 := 40) (L := 4) hM rfl (by decide) (by decide) rfl rfl (Nat.le_of_ble_eq_true rfl) (Nat.le_of_ble_eq_true rfl) rfl hL (fun w1 hL1 hw1 hc1 => ?_)
  have hs1 : am_same (ge3 3 3 4) w w1 := (am_same.rf : am_same (ge3 3 3 4) w w).tr (hw1.mono (fun b hb => Or.inr (Or.inr hb)))
  have ts1 : am_same (ge_ 3) w w1 := (am_same.rf).tr (hs1.mono (fun b hb => by unfold ge3 at hb; unfold ge_; omega))
  have f1_3 : w1[3]? = some (.inr (7, [.null, .int 0])) := hw1.at (by unfold ge_; omega) ho
  show am_Go 50 (9, [.ref 3], [.ref 4, .ref 3], w1, 1, 40) _
  refine ar_putfield (pc' := 12) hM rfl f1_3 (Nat.le_of_ble_eq_true rfl) rfl (by decide) rfl ?_
  show am_Go 50 (12, [.ref 3], [], (w1.set 3 (.inr (7, [.ref 4, .int 0]))), 1, 40) _
  refine ar_aload_n (pc' := 13) hM rfl rfl rfl ?_
  refine ar_iconst (x := 0) (pc' := 14) hM rfl (by decide) rfl ?_
  refine ar_putfield (pc' := 17) hM rfl (am_gs f1_3) (Nat.le_of_ble_eq_true rfl) rfl (by decide) rfl ?_
  show am_Go 50 (17, [.ref 3], [], ((w1.set 3 (.inr (7, [.ref 4, .int 0]))).set 3 (.inr (7, [.ref 4, .int 0]))), 1, 40) _
  refine ar_return hM rfl ?_
  exact ⟨rfl, (List.length_set.trans (List.length_set.trans hL1)), (am_same.set (am_same.set ts1 (by unfold ge_; omega)) (by unfold ge_; omega)), ⟨by omega, (am_gs (am_gs f1_3)), _, (am_gn (by decide) (am_gn (by decide) hc1)), fun i hi => absurd hi (by omega)⟩⟩
set_option maxRecDepth 100000 in
set_option maxHeartbeats 4000000 in
theorem n_X9 (w : am_W) (s : Nat) (h2s : 2 ≤ s) (hL : w.length = s + 1) (ho : w[s]? = some (.inr (9, [.int 0, .int 0, .int 0, .int 0, .null, .null, .null, .null]))) : am_Go 59 (0, [.ref s], [], w, 0, 0) (fun res w' => res = none ∧ w'.length = s + 5 ∧ am_same (ge_ s) w w' ∧ c_T w' s p_D0) := by
  have hM : am_P[59]? = some zm_X9_init := rfl
  refine ar_aload_n (pc' := 1) hM rfl rfl rfl ?_
  refine ar_super (pc' := 4) hM rfl (Nat.le_of_ble_eq_true rfl) rfl ?_
  show am_Go 59 (4, [.ref s], [], w, 0, 0) _
  refine ar_aload_n (pc' := 5) hM rfl rfl rfl ?_
  refine ar_bipush (x := 6) (pc' := 7) hM rfl (by decide) rfl ?_
  refine ar_newI (m := 6) (pc' := 9) (k3 := 1) (k4 := 6) (L := s + 1) hM rfl (by decide) (by decide) rfl rfl (Nat.le_of_ble_eq_true rfl) (Nat.le_of_ble_eq_true rfl) rfl hL (fun w1 hL1 hw1 hc1 => ?_)
  have hs1 : am_same (ge3 s s (s + 1)) w w1 := (am_same.rf : am_same (ge3 s s (s + 1)) w w).tr (hw1.mono (fun b hb => Or.inr (Or.inr hb)))
  have ts1 : am_same (ge_ s) w w1 := (am_same.rf).tr (hs1.mono (fun b hb => by unfold ge3 at hb; unfold ge_; omega))
  have f1_s : w1[s]? = some (.inr (9, [.int 0, .int 0, .int 0, .int 0, .null, .null, .null, .null])) := hw1.at (by unfold ge_; omega) ho
  show am_Go 59 (9, [.ref s], [.ref (s + 1), .ref s], w1, 1, 6) _
  refine ar_putfield (pc' := 12) hM rfl f1_s (Nat.le_of_ble_eq_true rfl) rfl (by omega) rfl ?_
  show am_Go 59 (12, [.ref s], [], (w1.set s (.inr (9, [.int 0, .int 0, .int 0, .int 0, .ref (s + 1), .null, .null, .null]))), 1, 6) _
  refine ar_aload_n (pc' := 13) hM rfl rfl rfl ?_
  refine ar_bipush (x := 6) (pc' := 15) hM rfl (by decide) rfl ?_
  refine ar_newI (m := 6) (pc' := 17) (k3 := 2) (k4 := 12) (L := s + 2) hM rfl (by decide) (by decide) rfl rfl (Nat.le_of_ble_eq_true rfl) (Nat.le_of_ble_eq_true rfl) rfl (List.length_set.trans hL1) (fun w2 hL2 hw2 hc2 => ?_)
  have hs2 : am_same (ge3 s s (s + 2)) w1 w2 := ((am_same.set am_same.rf (by unfold ge3; omega)) : am_same (ge3 s s (s + 2)) w1 (w1.set s (.inr (9, [.int 0, .int 0, .int 0, .int 0, .ref (s + 1), .null, .null, .null])))).tr (hw2.mono (fun b hb => Or.inr (Or.inr hb)))
  have ts2 : am_same (ge_ s) w w2 := (ts1).tr (hs2.mono (fun b hb => by unfold ge3 at hb; unfold ge_; omega))
  have f2_s : w2[s]? = some (.inr (9, [.int 0, .int 0, .int 0, .int 0, .ref (s + 1), .null, .null, .null])) := hw2.at (by unfold ge_; omega) (am_gs f1_s)
  have f2_s_1 : w2[s + 1]? = some (.inl (0, 6, .inl (fun _ => 0))) := hw2.at (by unfold ge_; omega) (am_gn (by omega) hc1)
  show am_Go 59 (17, [.ref s], [.ref (s + 2), .ref s], w2, 2, 12) _
  refine ar_putfield (pc' := 20) hM rfl f2_s (Nat.le_of_ble_eq_true rfl) rfl (by omega) rfl ?_
  show am_Go 59 (20, [.ref s], [], (w2.set s (.inr (9, [.int 0, .int 0, .int 0, .int 0, .ref (s + 1), .ref (s + 2), .null, .null]))), 2, 12) _
  refine ar_aload_n (pc' := 21) hM rfl rfl rfl ?_
  refine ar_bipush (x := 6) (pc' := 23) hM rfl (by decide) rfl ?_
  refine ar_newI (m := 6) (pc' := 25) (k3 := 3) (k4 := 18) (L := s + 3) hM rfl (by decide) (by decide) rfl rfl (Nat.le_of_ble_eq_true rfl) (Nat.le_of_ble_eq_true rfl) rfl (List.length_set.trans hL2) (fun w3 hL3 hw3 hc3 => ?_)
  have hs3 : am_same (ge3 s s (s + 3)) w2 w3 := ((am_same.set am_same.rf (by unfold ge3; omega)) : am_same (ge3 s s (s + 3)) w2 (w2.set s (.inr (9, [.int 0, .int 0, .int 0, .int 0, .ref (s + 1), .ref (s + 2), .null, .null])))).tr (hw3.mono (fun b hb => Or.inr (Or.inr hb)))
  have ts3 : am_same (ge_ s) w w3 := (ts2).tr (hs3.mono (fun b hb => by unfold ge3 at hb; unfold ge_; omega))
  have f3_s : w3[s]? = some (.inr (9, [.int 0, .int 0, .int 0, .int 0, .ref (s + 1), .ref (s + 2), .null, .null])) := hw3.at (by unfold ge_; omega) (am_gs f2_s)
  have f3_s_1 : w3[s + 1]? = some (.inl (0, 6, .inl (fun _ => 0))) := hw3.at (by unfold ge_; omega) (am_gn (by omega) f2_s_1)
  have f3_s_2 : w3[s + 2]? = some (.inl (0, 6, .inl (fun _ => 0))) := hw3.at (by unfold ge_; omega) (am_gn (by omega) hc2)
  show am_Go 59 (25, [.ref s], [.ref (s + 3), .ref s], w3, 3, 18) _
  refine ar_putfield (pc' := 28) hM rfl f3_s (Nat.le_of_ble_eq_true rfl) rfl (by omega) rfl ?_
  show am_Go 59 (28, [.ref s], [], (w3.set s (.inr (9, [.int 0, .int 0, .int 0, .int 0, .ref (s + 1), .ref (s + 2), .ref (s + 3), .null]))), 3, 18) _
  refine ar_aload_n (pc' := 29) hM rfl rfl rfl ?_
  refine ar_iconst (x := 5) (pc' := 30) hM rfl (by decide) rfl ?_
  refine ar_newI (m := 5) (pc' := 32) (k3 := 4) (k4 := 23) (L := s + 4) hM rfl (by decide) (by decide) rfl rfl (Nat.le_of_ble_eq_true rfl) (Nat.le_of_ble_eq_true rfl) rfl (List.length_set.trans hL3) (fun w4 hL4 hw4 hc4 => ?_)
  have hs4 : am_same (ge3 s s (s + 4)) w3 w4 := ((am_same.set am_same.rf (by unfold ge3; omega)) : am_same (ge3 s s (s + 4)) w3 (w3.set s (.inr (9, [.int 0, .int 0, .int 0, .int 0, .ref (s + 1), .ref (s + 2), .ref (s + 3), .null])))).tr (hw4.mono (fun b hb => Or.inr (Or.inr hb)))
  have ts4 : am_same (ge_ s) w w4 := (ts3).tr (hs4.mono (fun b hb => by unfold ge3 at hb; unfold ge_; omega))
  have f4_s : w4[s]? = some (.inr (9, [.int 0, .int 0, .int 0, .int 0, .ref (s + 1), .ref (s + 2), .ref (s + 3), .null])) := hw4.at (by unfold ge_; omega) (am_gs f3_s)
  have f4_s_1 : w4[s + 1]? = some (.inl (0, 6, .inl (fun _ => 0))) := hw4.at (by unfold ge_; omega) (am_gn (by omega) f3_s_1)
  have f4_s_2 : w4[s + 2]? = some (.inl (0, 6, .inl (fun _ => 0))) := hw4.at (by unfold ge_; omega) (am_gn (by omega) f3_s_2)
  have f4_s_3 : w4[s + 3]? = some (.inl (0, 6, .inl (fun _ => 0))) := hw4.at (by unfold ge_; omega) (am_gn (by omega) hc3)
  show am_Go 59 (32, [.ref s], [.ref (s + 4), .ref s], w4, 4, 23) _
  refine ar_putfield (pc' := 35) hM rfl f4_s (Nat.le_of_ble_eq_true rfl) rfl (by omega) rfl ?_
  show am_Go 59 (35, [.ref s], [], (w4.set s (.inr (9, [.int 0, .int 0, .int 0, .int 0, .ref (s + 1), .ref (s + 2), .ref (s + 3), .ref (s + 4)]))), 4, 23) _
  refine ar_return hM rfl ?_
  exact ⟨rfl, (List.length_set.trans hL4), (am_same.set ts4 (by unfold ge_; omega)), ⟨_, _, _, _, (am_gs f4_s), (am_gn (by omega) f4_s_1), (am_gn (by omega) f4_s_2), (am_gn (by omega) f4_s_3), (am_gn (by omega) hc4), fun h hh => absurd hh (Nat.not_lt_zero _), fun h hh => absurd hh (Nat.not_lt_zero _)⟩⟩
set_option maxRecDepth 100000 in
set_option maxHeartbeats 4000000 in
theorem n_X6 (w : am_W) (s : Nat) (h2s : 2 ≤ s) (hL : w.length = s + 1) (ho : w[s]? = some (.inr (6, [.null, .null, .null, .int 0, .int 0, .int 0]))) : am_Go 39 (0, [.ref s], [], w, 0, 0) (fun res w' => res = none ∧ w'.length = s + 4 ∧ am_same (ge_ s) w w' ∧ c_S w' s 0 m_S0) := by
  have hM : am_P[39]? = some zm_X6_init := rfl
  refine ar_aload_n (pc' := 1) hM rfl rfl rfl ?_
  refine ar_super (pc' := 4) hM rfl (Nat.le_of_ble_eq_true rfl) rfl ?_
  show am_Go 39 (4, [.ref s], [], w, 0, 0) _
  refine ar_aload_n (pc' := 5) hM rfl rfl rfl ?_
  refine ar_bipush (x := 6) (pc' := 7) hM rfl (by decide) rfl ?_
  refine ar_newI (m := 6) (pc' := 9) (k3 := 1) (k4 := 6) (L := s + 1) hM rfl (by decide) (by decide) rfl rfl (Nat.le_of_ble_eq_true rfl) (Nat.le_of_ble_eq_true rfl) rfl hL (fun w1 hL1 hw1 hc1 => ?_)
  have hs1 : am_same (ge3 s s (s + 1)) w w1 := (am_same.rf : am_same (ge3 s s (s + 1)) w w).tr (hw1.mono (fun b hb => Or.inr (Or.inr hb)))
  have ts1 : am_same (ge_ s) w w1 := (am_same.rf).tr (hs1.mono (fun b hb => by unfold ge3 at hb; unfold ge_; omega))
  have f1_s : w1[s]? = some (.inr (6, [.null, .null, .null, .int 0, .int 0, .int 0])) := hw1.at (by unfold ge_; omega) ho
  show am_Go 39 (9, [.ref s], [.ref (s + 1), .ref s], w1, 1, 6) _
  refine ar_putfield (pc' := 12) hM rfl f1_s (Nat.le_of_ble_eq_true rfl) rfl (by omega) rfl ?_
  show am_Go 39 (12, [.ref s], [], (w1.set s (.inr (6, [.ref (s + 1), .null, .null, .int 0, .int 0, .int 0]))), 1, 6) _
  refine ar_aload_n (pc' := 13) hM rfl rfl rfl ?_
  refine ar_bipush (x := 6) (pc' := 15) hM rfl (by decide) rfl ?_
  refine ar_newI (m := 6) (pc' := 17) (k3 := 2) (k4 := 12) (L := s + 2) hM rfl (by decide) (by decide) rfl rfl (Nat.le_of_ble_eq_true rfl) (Nat.le_of_ble_eq_true rfl) rfl (List.length_set.trans hL1) (fun w2 hL2 hw2 hc2 => ?_)
  have hs2 : am_same (ge3 s s (s + 2)) w1 w2 := ((am_same.set am_same.rf (by unfold ge3; omega)) : am_same (ge3 s s (s + 2)) w1 (w1.set s (.inr (6, [.ref (s + 1), .null, .null, .int 0, .int 0, .int 0])))).tr (hw2.mono (fun b hb => Or.inr (Or.inr hb)))
  have ts2 : am_same (ge_ s) w w2 := (ts1).tr (hs2.mono (fun b hb => by unfold ge3 at hb; unfold ge_; omega))
  have f2_s : w2[s]? = some (.inr (6, [.ref (s + 1), .null, .null, .int 0, .int 0, .int 0])) := hw2.at (by unfold ge_; omega) (am_gs f1_s)
  have f2_s_1 : w2[s + 1]? = some (.inl (0, 6, .inl (fun _ => 0))) := hw2.at (by unfold ge_; omega) (am_gn (by omega) hc1)
  show am_Go 39 (17, [.ref s], [.ref (s + 2), .ref s], w2, 2, 12) _
  refine ar_putfield (pc' := 20) hM rfl f2_s (Nat.le_of_ble_eq_true rfl) rfl (by omega) rfl ?_
  show am_Go 39 (20, [.ref s], [], (w2.set s (.inr (6, [.ref (s + 1), .ref (s + 2), .null, .int 0, .int 0, .int 0]))), 2, 12) _
  refine ar_aload_n (pc' := 21) hM rfl rfl rfl ?_
  refine ar_bipush (x := 6) (pc' := 23) hM rfl (by decide) rfl ?_
  refine ar_newI (m := 6) (pc' := 25) (k3 := 3) (k4 := 18) (L := s + 3) hM rfl (by decide) (by decide) rfl rfl (Nat.le_of_ble_eq_true rfl) (Nat.le_of_ble_eq_true rfl) rfl (List.length_set.trans hL2) (fun w3 hL3 hw3 hc3 => ?_)
  have hs3 : am_same (ge3 s s (s + 3)) w2 w3 := ((am_same.set am_same.rf (by unfold ge3; omega)) : am_same (ge3 s s (s + 3)) w2 (w2.set s (.inr (6, [.ref (s + 1), .ref (s + 2), .null, .int 0, .int 0, .int 0])))).tr (hw3.mono (fun b hb => Or.inr (Or.inr hb)))
  have ts3 : am_same (ge_ s) w w3 := (ts2).tr (hs3.mono (fun b hb => by unfold ge3 at hb; unfold ge_; omega))
  have f3_s : w3[s]? = some (.inr (6, [.ref (s + 1), .ref (s + 2), .null, .int 0, .int 0, .int 0])) := hw3.at (by unfold ge_; omega) (am_gs f2_s)
  have f3_s_1 : w3[s + 1]? = some (.inl (0, 6, .inl (fun _ => 0))) := hw3.at (by unfold ge_; omega) (am_gn (by omega) f2_s_1)
  have f3_s_2 : w3[s + 2]? = some (.inl (0, 6, .inl (fun _ => 0))) := hw3.at (by unfold ge_; omega) (am_gn (by omega) hc2)
  show am_Go 39 (25, [.ref s], [.ref (s + 3), .ref s], w3, 3, 18) _
  refine ar_putfield (pc' := 28) hM rfl f3_s (Nat.le_of_ble_eq_true rfl) rfl (by omega) rfl ?_
  show am_Go 39 (28, [.ref s], [], (w3.set s (.inr (6, [.ref (s + 1), .ref (s + 2), .ref (s + 3), .int 0, .int 0, .int 0]))), 3, 18) _
  refine ar_aload_n (pc' := 29) hM rfl rfl rfl ?_
  refine ar_virtual (pc' := 32) (k3 := 3) (k4 := 18) hM rfl rfl (am_gs f3_s) ⟨rfl, (by omega)⟩ rfl rfl (k_sclear (w3.set s (.inr (6, [.ref (s + 1), .ref (s + 2), .ref (s + 3), .int 0, .int 0, .int 0]))) s 0 ⟨_, _, _, _, _, _, (am_gs f3_s), (am_gn (by omega) f3_s_1), (am_gn (by omega) f3_s_2), (am_gn (by omega) hc3)⟩ (by omega) (by omega)) (fun r4 w4 q4 => ?_)
  obtain ⟨rfl, hp4, hw4⟩ := q4
  refine ar_return hM rfl ?_
  obtain ⟨so, ss, sl, g0, g1, g2, g3, g4⟩ := id hp4
  exact ⟨rfl, am_lenW (m := 3) (List.length_set.trans hL3) hw4 g3, ((am_same.set ts3 (by unfold ge_; omega))).tr (hw4.mono (fun b hb => by unfold rg at hb; unfold ge_; omega)), hp4⟩
set_option maxRecDepth 100000 in
set_option maxHeartbeats 4000000 in
theorem n_X8 (w : am_W) (s : Nat) (h2s : 2 ≤ s) (hL : w.length = s + 1) (ho : w[s]? = some (.inr (8, [.null, .null, .null, .null, .null, .null, .null]))) : am_Go 53 (0, [.ref s], [], w, 0, 0) (fun res w' => res = none ∧ w'.length = s + 8 ∧ am_same (ge_ s) w w' ∧ c_D w' s) := by
  have hM : am_P[53]? = some zm_X8_init := rfl
  refine ar_aload_n (pc' := 1) hM rfl rfl rfl ?_
  refine ar_super (pc' := 4) hM rfl (Nat.le_of_ble_eq_true rfl) rfl ?_
  show am_Go 53 (4, [.ref s], [], w, 0, 0) _
  refine ar_aload_n (pc' := 5) hM rfl rfl rfl ?_
  refine ar_bipush (x := 6) (pc' := 7) hM rfl (by decide) rfl ?_
  refine ar_newI (m := 6) (pc' := 9) (k3 := 1) (k4 := 6) (L := s + 1) hM rfl (by decide) (by decide) rfl rfl (Nat.le_of_ble_eq_true rfl) (Nat.le_of_ble_eq_true rfl) rfl hL (fun w1 hL1 hw1 hc1 => ?_)
  have hs1 : am_same (ge3 s s (s + 1)) w w1 := (am_same.rf : am_same (ge3 s s (s + 1)) w w).tr (hw1.mono (fun b hb => Or.inr (Or.inr hb)))
  have ts1 : am_same (ge_ s) w w1 := (am_same.rf).tr (hs1.mono (fun b hb => by unfold ge3 at hb; unfold ge_; omega))
  have f1_s : w1[s]? = some (.inr (8, [.null, .null, .null, .null, .null, .null, .null])) := hw1.at (by unfold ge_; omega) ho
  show am_Go 53 (9, [.ref s], [.ref (s + 1), .ref s], w1, 1, 6) _
  refine ar_putfield (pc' := 12) hM rfl f1_s (Nat.le_of_ble_eq_true rfl) rfl (by omega) rfl ?_
  show am_Go 53 (12, [.ref s], [], (w1.set s (.inr (8, [.ref (s + 1), .null, .null, .null, .null, .null, .null]))), 1, 6) _
  refine ar_aload_n (pc' := 13) hM rfl rfl rfl ?_
  refine ar_bipush (x := 6) (pc' := 15) hM rfl (by decide) rfl ?_
  refine ar_newI (m := 6) (pc' := 17) (k3 := 2) (k4 := 12) (L := s + 2) hM rfl (by decide) (by decide) rfl rfl (Nat.le_of_ble_eq_true rfl) (Nat.le_of_ble_eq_true rfl) rfl (List.length_set.trans hL1) (fun w2 hL2 hw2 hc2 => ?_)
  have hs2 : am_same (ge3 s s (s + 2)) w1 w2 := ((am_same.set am_same.rf (by unfold ge3; omega)) : am_same (ge3 s s (s + 2)) w1 (w1.set s (.inr (8, [.ref (s + 1), .null, .null, .null, .null, .null, .null])))).tr (hw2.mono (fun b hb => Or.inr (Or.inr hb)))
  have ts2 : am_same (ge_ s) w w2 := (ts1).tr (hs2.mono (fun b hb => by unfold ge3 at hb; unfold ge_; omega))
  have f2_s : w2[s]? = some (.inr (8, [.ref (s + 1), .null, .null, .null, .null, .null, .null])) := hw2.at (by unfold ge_; omega) (am_gs f1_s)
  have f2_s_1 : w2[s + 1]? = some (.inl (0, 6, .inl (fun _ => 0))) := hw2.at (by unfold ge_; omega) (am_gn (by omega) hc1)
  show am_Go 53 (17, [.ref s], [.ref (s + 2), .ref s], w2, 2, 12) _
  refine ar_putfield (pc' := 20) hM rfl f2_s (Nat.le_of_ble_eq_true rfl) rfl (by omega) rfl ?_
  show am_Go 53 (20, [.ref s], [], (w2.set s (.inr (8, [.ref (s + 1), .ref (s + 2), .null, .null, .null, .null, .null]))), 2, 12) _
  refine ar_aload_n (pc' := 21) hM rfl rfl rfl ?_
  refine ar_bipush (x := 6) (pc' := 23) hM rfl (by decide) rfl ?_
  refine ar_newI (m := 6) (pc' := 25) (k3 := 3) (k4 := 18) (L := s + 3) hM rfl (by decide) (by decide) rfl rfl (Nat.le_of_ble_eq_true rfl) (Nat.le_of_ble_eq_true rfl) rfl (List.length_set.trans hL2) (fun w3 hL3 hw3 hc3 => ?_)
  have hs3 : am_same (ge3 s s (s + 3)) w2 w3 := ((am_same.set am_same.rf (by unfold ge3; omega)) : am_same (ge3 s s (s + 3)) w2 (w2.set s (.inr (8, [.ref (s + 1), .ref (s + 2), .null, .null, .null, .null, .null])))).tr (hw3.mono (fun b hb => Or.inr (Or.inr hb)))
  have ts3 : am_same (ge_ s) w w3 := (ts2).tr (hs3.mono (fun b hb => by unfold ge3 at hb; unfold ge_; omega))
  have f3_s : w3[s]? = some (.inr (8, [.ref (s + 1), .ref (s + 2), .null, .null, .null, .null, .null])) := hw3.at (by unfold ge_; omega) (am_gs f2_s)
  have f3_s_1 : w3[s + 1]? = some (.inl (0, 6, .inl (fun _ => 0))) := hw3.at (by unfold ge_; omega) (am_gn (by omega) f2_s_1)
  have f3_s_2 : w3[s + 2]? = some (.inl (0, 6, .inl (fun _ => 0))) := hw3.at (by unfold ge_; omega) (am_gn (by omega) hc2)
  show am_Go 53 (25, [.ref s], [.ref (s + 3), .ref s], w3, 3, 18) _
  refine ar_putfield (pc' := 28) hM rfl f3_s (Nat.le_of_ble_eq_true rfl) rfl (by omega) rfl ?_
  show am_Go 53 (28, [.ref s], [], (w3.set s (.inr (8, [.ref (s + 1), .ref (s + 2), .ref (s + 3), .null, .null, .null, .null]))), 3, 18) _
  refine ar_aload_n (pc' := 29) hM rfl rfl rfl ?_
  refine ar_bipush (x := 6) (pc' := 31) hM rfl (by decide) rfl ?_
  refine ar_newI (m := 6) (pc' := 33) (k3 := 4) (k4 := 24) (L := s + 4) hM rfl (by decide) (by decide) rfl rfl (Nat.le_of_ble_eq_true rfl) (Nat.le_of_ble_eq_true rfl) rfl (List.length_set.trans hL3) (fun w4 hL4 hw4 hc4 => ?_)
  have hs4 : am_same (ge3 s s (s + 4)) w3 w4 := ((am_same.set am_same.rf (by unfold ge3; omega)) : am_same (ge3 s s (s + 4)) w3 (w3.set s (.inr (8, [.ref (s + 1), .ref (s + 2), .ref (s + 3), .null, .null, .null, .null])))).tr (hw4.mono (fun b hb => Or.inr (Or.inr hb)))
  have ts4 : am_same (ge_ s) w w4 := (ts3).tr (hs4.mono (fun b hb => by unfold ge3 at hb; unfold ge_; omega))
  have f4_s : w4[s]? = some (.inr (8, [.ref (s + 1), .ref (s + 2), .ref (s + 3), .null, .null, .null, .null])) := hw4.at (by unfold ge_; omega) (am_gs f3_s)
  have f4_s_1 : w4[s + 1]? = some (.inl (0, 6, .inl (fun _ => 0))) := hw4.at (by unfold ge_; omega) (am_gn (by omega) f3_s_1)
  have f4_s_2 : w4[s + 2]? = some (.inl (0, 6, .inl (fun _ => 0))) := hw4.at (by unfold ge_; omega) (am_gn (by omega) f3_s_2)
  have f4_s_3 : w4[s + 3]? = some (.inl (0, 6, .inl (fun _ => 0))) := hw4.at (by unfold ge_; omega) (am_gn (by omega) hc3)
  show am_Go 53 (33, [.ref s], [.ref (s + 4), .ref s], w4, 4, 24) _
  refine ar_putfield (pc' := 36) hM rfl f4_s (Nat.le_of_ble_eq_true rfl) rfl (by omega) rfl ?_
  show am_Go 53 (36, [.ref s], [], (w4.set s (.inr (8, [.ref (s + 1), .ref (s + 2), .ref (s + 3), .ref (s + 4), .null, .null, .null]))), 4, 24) _
  refine ar_aload_n (pc' := 37) hM rfl rfl rfl ?_
  refine ar_bipush (x := 6) (pc' := 39) hM rfl (by decide) rfl ?_
  refine ar_newI (m := 6) (pc' := 41) (k3 := 5) (k4 := 30) (L := s + 5) hM rfl (by decide) (by decide) rfl rfl (Nat.le_of_ble_eq_true rfl) (Nat.le_of_ble_eq_true rfl) rfl (List.length_set.trans hL4) (fun w5 hL5 hw5 hc5 => ?_)
  have hs5 : am_same (ge3 s s (s + 5)) w4 w5 := ((am_same.set am_same.rf (by unfold ge3; omega)) : am_same (ge3 s s (s + 5)) w4 (w4.set s (.inr (8, [.ref (s + 1), .ref (s + 2), .ref (s + 3), .ref (s + 4), .null, .null, .null])))).tr (hw5.mono (fun b hb => Or.inr (Or.inr hb)))
  have ts5 : am_same (ge_ s) w w5 := (ts4).tr (hs5.mono (fun b hb => by unfold ge3 at hb; unfold ge_; omega))
  have f5_s : w5[s]? = some (.inr (8, [.ref (s + 1), .ref (s + 2), .ref (s + 3), .ref (s + 4), .null, .null, .null])) := hw5.at (by unfold ge_; omega) (am_gs f4_s)
  have f5_s_1 : w5[s + 1]? = some (.inl (0, 6, .inl (fun _ => 0))) := hw5.at (by unfold ge_; omega) (am_gn (by omega) f4_s_1)
  have f5_s_2 : w5[s + 2]? = some (.inl (0, 6, .inl (fun _ => 0))) := hw5.at (by unfold ge_; omega) (am_gn (by omega) f4_s_2)
  have f5_s_3 : w5[s + 3]? = some (.inl (0, 6, .inl (fun _ => 0))) := hw5.at (by unfold ge_; omega) (am_gn (by omega) f4_s_3)
  have f5_s_4 : w5[s + 4]? = some (.inl (0, 6, .inl (fun _ => 0))) := hw5.at (by unfold ge_; omega) (am_gn (by omega) hc4)
  show am_Go 53 (41, [.ref s], [.ref (s + 5), .ref s], w5, 5, 30) _
  refine ar_putfield (pc' := 44) hM rfl f5_s (Nat.le_of_ble_eq_true rfl) rfl (by omega) rfl ?_
  show am_Go 53 (44, [.ref s], [], (w5.set s (.inr (8, [.ref (s + 1), .ref (s + 2), .ref (s + 3), .ref (s + 4), .ref (s + 5), .null, .null]))), 5, 30) _
  refine ar_aload_n (pc' := 45) hM rfl rfl rfl ?_
  refine ar_bipush (x := 6) (pc' := 47) hM rfl (by decide) rfl ?_
  refine ar_newI (m := 6) (pc' := 49) (k3 := 6) (k4 := 36) (L := s + 6) hM rfl (by decide) (by decide) rfl rfl (Nat.le_of_ble_eq_true rfl) (Nat.le_of_ble_eq_true rfl) rfl (List.length_set.trans hL5) (fun w6 hL6 hw6 hc6 => ?_)
  have hs6 : am_same (ge3 s s (s + 6)) w5 w6 := ((am_same.set am_same.rf (by unfold ge3; omega)) : am_same (ge3 s s (s + 6)) w5 (w5.set s (.inr (8, [.ref (s + 1), .ref (s + 2), .ref (s + 3), .ref (s + 4), .ref (s + 5), .null, .null])))).tr (hw6.mono (fun b hb => Or.inr (Or.inr hb)))
  have ts6 : am_same (ge_ s) w w6 := (ts5).tr (hs6.mono (fun b hb => by unfold ge3 at hb; unfold ge_; omega))
  have f6_s : w6[s]? = some (.inr (8, [.ref (s + 1), .ref (s + 2), .ref (s + 3), .ref (s + 4), .ref (s + 5), .null, .null])) := hw6.at (by unfold ge_; omega) (am_gs f5_s)
  have f6_s_1 : w6[s + 1]? = some (.inl (0, 6, .inl (fun _ => 0))) := hw6.at (by unfold ge_; omega) (am_gn (by omega) f5_s_1)
  have f6_s_2 : w6[s + 2]? = some (.inl (0, 6, .inl (fun _ => 0))) := hw6.at (by unfold ge_; omega) (am_gn (by omega) f5_s_2)
  have f6_s_3 : w6[s + 3]? = some (.inl (0, 6, .inl (fun _ => 0))) := hw6.at (by unfold ge_; omega) (am_gn (by omega) f5_s_3)
  have f6_s_4 : w6[s + 4]? = some (.inl (0, 6, .inl (fun _ => 0))) := hw6.at (by unfold ge_; omega) (am_gn (by omega) f5_s_4)
  have f6_s_5 : w6[s + 5]? = some (.inl (0, 6, .inl (fun _ => 0))) := hw6.at (by unfold ge_; omega) (am_gn (by omega) hc5)
  show am_Go 53 (49, [.ref s], [.ref (s + 6), .ref s], w6, 6, 36) _
  refine ar_putfield (pc' := 52) hM rfl f6_s (Nat.le_of_ble_eq_true rfl) rfl (by omega) rfl ?_
  show am_Go 53 (52, [.ref s], [], (w6.set s (.inr (8, [.ref (s + 1), .ref (s + 2), .ref (s + 3), .ref (s + 4), .ref (s + 5), .ref (s + 6), .null]))), 6, 36) _
  refine ar_aload_n (pc' := 53) hM rfl rfl rfl ?_
  refine ar_bipush (x := 6) (pc' := 55) hM rfl (by decide) rfl ?_
  refine ar_newI (m := 6) (pc' := 57) (k3 := 7) (k4 := 42) (L := s + 7) hM rfl (by decide) (by decide) rfl rfl (Nat.le_of_ble_eq_true rfl) (Nat.le_of_ble_eq_true rfl) rfl (List.length_set.trans hL6) (fun w7 hL7 hw7 hc7 => ?_)
  have hs7 : am_same (ge3 s s (s + 7)) w6 w7 := ((am_same.set am_same.rf (by unfold ge3; omega)) : am_same (ge3 s s (s + 7)) w6 (w6.set s (.inr (8, [.ref (s + 1), .ref (s + 2), .ref (s + 3), .ref (s + 4), .ref (s + 5), .ref (s + 6), .null])))).tr (hw7.mono (fun b hb => Or.inr (Or.inr hb)))
  have ts7 : am_same (ge_ s) w w7 := (ts6).tr (hs7.mono (fun b hb => by unfold ge3 at hb; unfold ge_; omega))
  have f7_s : w7[s]? = some (.inr (8, [.ref (s + 1), .ref (s + 2), .ref (s + 3), .ref (s + 4), .ref (s + 5), .ref (s + 6), .null])) := hw7.at (by unfold ge_; omega) (am_gs f6_s)
  have f7_s_1 : w7[s + 1]? = some (.inl (0, 6, .inl (fun _ => 0))) := hw7.at (by unfold ge_; omega) (am_gn (by omega) f6_s_1)
  have f7_s_2 : w7[s + 2]? = some (.inl (0, 6, .inl (fun _ => 0))) := hw7.at (by unfold ge_; omega) (am_gn (by omega) f6_s_2)
  have f7_s_3 : w7[s + 3]? = some (.inl (0, 6, .inl (fun _ => 0))) := hw7.at (by unfold ge_; omega) (am_gn (by omega) f6_s_3)
  have f7_s_4 : w7[s + 4]? = some (.inl (0, 6, .inl (fun _ => 0))) := hw7.at (by unfold ge_; omega) (am_gn (by omega) f6_s_4)
  have f7_s_5 : w7[s + 5]? = some (.inl (0, 6, .inl (fun _ => 0))) := hw7.at (by unfold ge_; omega) (am_gn (by omega) f6_s_5)
  have f7_s_6 : w7[s + 6]? = some (.inl (0, 6, .inl (fun _ => 0))) := hw7.at (by unfold ge_; omega) (am_gn (by omega) hc6)
  show am_Go 53 (57, [.ref s], [.ref (s + 7), .ref s], w7, 7, 42) _
  refine ar_putfield (pc' := 60) hM rfl f7_s (Nat.le_of_ble_eq_true rfl) rfl (by omega) rfl ?_
  show am_Go 53 (60, [.ref s], [], (w7.set s (.inr (8, [.ref (s + 1), .ref (s + 2), .ref (s + 3), .ref (s + 4), .ref (s + 5), .ref (s + 6), .ref (s + 7)]))), 7, 42) _
  refine ar_return hM rfl ?_
  exact ⟨rfl, (List.length_set.trans hL7), (am_same.set ts7 (by unfold ge_; omega)), ⟨_, _, _, _, _, _, _, (am_gs f7_s), (am_gn (by omega) f7_s_1), (am_gn (by omega) f7_s_2), (am_gn (by omega) f7_s_3), (am_gn (by omega) f7_s_4), (am_gn (by omega) f7_s_5), (am_gn (by omega) f7_s_6), (am_gn (by omega) hc7)⟩⟩
theorem c_T.p {w : am_W} (h : c_T w 6 p_D0) : ∃ D : p_D, D.2.2.1 ≤ 6 ∧ D.2.2.2.1 ≤ 5 ∧ p_is w D := by
  obtain ⟨wa, ki, ba, he, h0, h1, h2, h3, h4, -⟩ := h
  exact ⟨(0, 0, 0, 0, wa, ki, ba, he), Nat.zero_le _, Nat.zero_le _, h0, h1, h2, h3, h4⟩
theorem c_T.qq {w : am_W} {d : Nat} (h : c_T w d p_D0) : c_Q w d := by
  obtain ⟨wa, ki, ba, he, h0, h1, h2, h3, h4, -⟩ := h
  exact ⟨_, _, _, _, wa, ki, ba, he, h0, h1, h2, h3, h4⟩
set_option maxRecDepth 100000 in
set_option maxHeartbeats 4000000 in
theorem n_X3 (w : am_W) (hL : w.length = 6) (ho : w[5]? = some (.inr (3, [.null]))) : am_Go 24 (0, [.ref 5], [], w, 0, 0) (fun res w' => res = none ∧ w'.length = 11 ∧ am_same (ge_ 5) w w' ∧ c_G w') := by
  have hM : am_P[24]? = some zm_X3_init := rfl
  refine ar_aload_n (pc' := 1) hM rfl rfl rfl ?_
  refine ar_super (pc' := 4) hM rfl (Nat.le_of_ble_eq_true rfl) rfl ?_
  show am_Go 24 (4, [.ref 5], [], w, 0, 0) _
  refine ar_aload_n (pc' := 5) hM rfl rfl rfl ?_
  refine ar_newF (pc' := 8) (k3 := 1) (k4 := 8) (L := 6) hM rfl rfl rfl rfl (Nat.le_of_ble_eq_true rfl) (Nat.le_of_ble_eq_true rfl) rfl hL (fun w1 hL1 hw1 hc1 => ?_)
  have hs1 : am_same (ge3 5 5 6) w w1 := (am_same.rf : am_same (ge3 5 5 6) w w).tr (hw1.mono (fun b hb => Or.inr (Or.inr hb)))
  have ts1 : am_same (ge_ 5) w w1 := (am_same.rf).tr (hs1.mono (fun b hb => by unfold ge3 at hb; unfold ge_; omega))
  have f1_5 : w1[5]? = some (.inr (3, [.null])) := hw1.at (by unfold ge_; omega) ho
  show am_Go 24 (8, [.ref 5], [.ref 6, .ref 5], w1, 1, 8) _
  refine ar_dup (pc' := 9) hM rfl rfl rfl ?_
  refine ar_special (pc' := 12) (k3 := 5) (k4 := 31) hM rfl (by decide) rfl rfl (n_X9 w1 6 (by omega) hL1 hc1) (fun r2 w2 q2 => ?_)
  obtain ⟨rfl, hL2, hw2, hp2⟩ := q2
  have hs2 : am_same (ge3 5 5 6) w1 w2 := (am_same.rf : am_same (ge3 5 5 6) w1 w1).tr (hw2.mono (fun b hb => Or.inr (Or.inr hb)))
  have ts2 : am_same (ge_ 5) w w2 := (ts1).tr (hs2.mono (fun b hb => by unfold ge3 at hb; unfold ge_; omega))
  have f2_5 : w2[5]? = some (.inr (3, [.null])) := hw2.at (by unfold ge_; omega) f1_5
  show am_Go 24 (12, [.ref 5], [.ref 6, .ref 5], w2, 5, 31) _
  refine ar_putfield (pc' := 15) hM rfl f2_5 (Nat.le_of_ble_eq_true rfl) rfl (by decide) rfl ?_
  show am_Go 24 (15, [.ref 5], [], (w2.set 5 (.inr (3, [.ref 6]))), 5, 31) _
  refine ar_return hM rfl ?_
  exact ⟨rfl, (List.length_set.trans hL2), (am_same.set ts2 (by unfold ge_; omega)), ⟨(am_gs f2_5), (hp2.same ((am_same.set am_same.rf (by unfold ge3; omega)) : am_same (ge3 5 5 11) w2 (w2.set 5 (.inr (3, [.ref 6])))) (fun b h1 h2 => by unfold ge3; omega)).p⟩⟩
set_option maxRecDepth 100000 in
set_option maxHeartbeats 4000000 in
theorem n_X4 (w : am_W) (hL : w.length = 89) (ho : w[88]? = some (.inr (4, [.null, .null, .null, .int 0]))) : am_Go 30 (0, [.ref 88], [], w, 0, 0) (fun res w' => res = none ∧ w'.length = 92 ∧ am_same (ge_ 88) w w' ∧ c_N w' 0 (fun _ => 0) (fun _ => 0) (fun _ => 0)) := by
  have hM : am_P[30]? = some zm_X4_init := rfl
  refine ar_aload_n (pc' := 1) hM rfl rfl rfl ?_
  refine ar_super (pc' := 4) hM rfl (Nat.le_of_ble_eq_true rfl) rfl ?_
  show am_Go 30 (4, [.ref 88], [], w, 0, 0) _
  refine ar_aload_n (pc' := 5) hM rfl rfl rfl ?_
  refine ar_bipush (x := 6) (pc' := 7) hM rfl (by decide) rfl ?_
  refine ar_newI (m := 6) (pc' := 9) (k3 := 1) (k4 := 6) (L := 89) hM rfl (by decide) (by decide) rfl rfl (Nat.le_of_ble_eq_true rfl) (Nat.le_of_ble_eq_true rfl) rfl hL (fun w1 hL1 hw1 hc1 => ?_)
  have hs1 : am_same (ge3 88 88 89) w w1 := (am_same.rf : am_same (ge3 88 88 89) w w).tr (hw1.mono (fun b hb => Or.inr (Or.inr hb)))
  have ts1 : am_same (ge_ 88) w w1 := (am_same.rf).tr (hs1.mono (fun b hb => by unfold ge3 at hb; unfold ge_; omega))
  have f1_88 : w1[88]? = some (.inr (4, [.null, .null, .null, .int 0])) := hw1.at (by unfold ge_; omega) ho
  show am_Go 30 (9, [.ref 88], [.ref 89, .ref 88], w1, 1, 6) _
  refine ar_putfield (pc' := 12) hM rfl f1_88 (Nat.le_of_ble_eq_true rfl) rfl (by decide) rfl ?_
  show am_Go 30 (12, [.ref 88], [], (w1.set 88 (.inr (4, [.ref 89, .null, .null, .int 0]))), 1, 6) _
  refine ar_aload_n (pc' := 13) hM rfl rfl rfl ?_
  refine ar_bipush (x := 6) (pc' := 15) hM rfl (by decide) rfl ?_
  refine ar_newI (m := 6) (pc' := 17) (k3 := 2) (k4 := 12) (L := 90) hM rfl (by decide) (by decide) rfl rfl (Nat.le_of_ble_eq_true rfl) (Nat.le_of_ble_eq_true rfl) rfl (List.length_set.trans hL1) (fun w2 hL2 hw2 hc2 => ?_)
  have hs2 : am_same (ge3 88 88 90) w1 w2 := ((am_same.set am_same.rf (by unfold ge3; omega)) : am_same (ge3 88 88 90) w1 (w1.set 88 (.inr (4, [.ref 89, .null, .null, .int 0])))).tr (hw2.mono (fun b hb => Or.inr (Or.inr hb)))
  have ts2 : am_same (ge_ 88) w w2 := (ts1).tr (hs2.mono (fun b hb => by unfold ge3 at hb; unfold ge_; omega))
  have f2_88 : w2[88]? = some (.inr (4, [.ref 89, .null, .null, .int 0])) := hw2.at (by unfold ge_; omega) (am_gs f1_88)
  have f2_89 : w2[89]? = some (.inl (0, 6, .inl (fun _ => 0))) := hw2.at (by unfold ge_; omega) (am_gn (by decide) hc1)
  show am_Go 30 (17, [.ref 88], [.ref 90, .ref 88], w2, 2, 12) _
  refine ar_putfield (pc' := 20) hM rfl f2_88 (Nat.le_of_ble_eq_true rfl) rfl (by decide) rfl ?_
  show am_Go 30 (20, [.ref 88], [], (w2.set 88 (.inr (4, [.ref 89, .ref 90, .null, .int 0]))), 2, 12) _
  refine ar_aload_n (pc' := 21) hM rfl rfl rfl ?_
  refine ar_bipush (x := 6) (pc' := 23) hM rfl (by decide) rfl ?_
  refine ar_newI (m := 6) (pc' := 25) (k3 := 3) (k4 := 18) (L := 91) hM rfl (by decide) (by decide) rfl rfl (Nat.le_of_ble_eq_true rfl) (Nat.le_of_ble_eq_true rfl) rfl (List.length_set.trans hL2) (fun w3 hL3 hw3 hc3 => ?_)
  have hs3 : am_same (ge3 88 88 91) w2 w3 := ((am_same.set am_same.rf (by unfold ge3; omega)) : am_same (ge3 88 88 91) w2 (w2.set 88 (.inr (4, [.ref 89, .ref 90, .null, .int 0])))).tr (hw3.mono (fun b hb => Or.inr (Or.inr hb)))
  have ts3 : am_same (ge_ 88) w w3 := (ts2).tr (hs3.mono (fun b hb => by unfold ge3 at hb; unfold ge_; omega))
  have f3_88 : w3[88]? = some (.inr (4, [.ref 89, .ref 90, .null, .int 0])) := hw3.at (by unfold ge_; omega) (am_gs f2_88)
  have f3_89 : w3[89]? = some (.inl (0, 6, .inl (fun _ => 0))) := hw3.at (by unfold ge_; omega) (am_gn (by decide) f2_89)
  have f3_90 : w3[90]? = some (.inl (0, 6, .inl (fun _ => 0))) := hw3.at (by unfold ge_; omega) (am_gn (by decide) hc2)
  show am_Go 30 (25, [.ref 88], [.ref 91, .ref 88], w3, 3, 18) _
  refine ar_putfield (pc' := 28) hM rfl f3_88 (Nat.le_of_ble_eq_true rfl) rfl (by decide) rfl ?_
  show am_Go 30 (28, [.ref 88], [], (w3.set 88 (.inr (4, [.ref 89, .ref 90, .ref 91, .int 0]))), 3, 18) _
  refine ar_aload_n (pc' := 29) hM rfl rfl rfl ?_
  refine ar_iconst (x := 0) (pc' := 30) hM rfl (by decide) rfl ?_
  refine ar_putfield (pc' := 33) hM rfl (am_gs f3_88) (Nat.le_of_ble_eq_true rfl) rfl (by decide) rfl ?_
  show am_Go 30 (33, [.ref 88], [], ((w3.set 88 (.inr (4, [.ref 89, .ref 90, .ref 91, .int 0]))).set 88 (.inr (4, [.ref 89, .ref 90, .ref 91, .int 0]))), 3, 18) _
  refine ar_return hM rfl ?_
  exact ⟨rfl, (List.length_set.trans (List.length_set.trans hL3)), (am_same.set (am_same.set ts3 (by unfold ge_; omega)) (by unfold ge_; omega)), ⟨by omega, (am_gs (am_gs f3_88)), _, _, _, (am_gn (by decide) (am_gn (by decide) f3_89)), (am_gn (by decide) (am_gn (by decide) f3_90)), (am_gn (by decide) (am_gn (by decide) hc3)), fun i hi => absurd hi (by omega)⟩⟩
set_option maxRecDepth 100000 in
set_option maxHeartbeats 4000000 in
theorem n_X2 (w : am_W) (hL : w.length = 101) (ho : w[100]? = some (.inr (2, [.null, .null, .null, .int 0, .int 0]))) : am_Go 12 (0, [.ref 100], [], w, 0, 0) (fun res w' => res = none ∧ w'.length = 118 ∧ am_same (ge_ 100) w w' ∧ c_O w') := by
  have hM : am_P[12]? = some zm_X2_init := rfl
  refine ar_aload_n (pc' := 1) hM rfl rfl rfl ?_
  refine ar_super (pc' := 4) hM rfl (Nat.le_of_ble_eq_true rfl) rfl ?_
  show am_Go 12 (4, [.ref 100], [], w, 0, 0) _
  refine ar_aload_n (pc' := 5) hM rfl rfl rfl ?_
  refine ar_newF (pc' := 8) (k3 := 1) (k4 := 8) (L := 101) hM rfl rfl rfl rfl (Nat.le_of_ble_eq_true rfl) (Nat.le_of_ble_eq_true rfl) rfl hL (fun w1 hL1 hw1 hc1 => ?_)
  have hs1 : am_same (ge3 100 100 101) w w1 := (am_same.rf : am_same (ge3 100 100 101) w w).tr (hw1.mono (fun b hb => Or.inr (Or.inr hb)))
  have ts1 : am_same (ge_ 100) w w1 := (am_same.rf).tr (hs1.mono (fun b hb => by unfold ge3 at hb; unfold ge_; omega))
  have f1_100 : w1[100]? = some (.inr (2, [.null, .null, .null, .int 0, .int 0])) := hw1.at (by unfold ge_; omega) ho
  show am_Go 12 (8, [.ref 100], [.ref 101, .ref 100], w1, 1, 8) _
  refine ar_dup (pc' := 9) hM rfl rfl rfl ?_
  refine ar_special (pc' := 12) (k3 := 5) (k4 := 31) hM rfl (by decide) rfl rfl (n_X9 w1 101 (by omega) hL1 hc1) (fun r2 w2 q2 => ?_)
  obtain ⟨rfl, hL2, hw2, hp2⟩ := q2
  have hs2 : am_same (ge3 100 100 101) w1 w2 := (am_same.rf : am_same (ge3 100 100 101) w1 w1).tr (hw2.mono (fun b hb => Or.inr (Or.inr hb)))
  have ts2 : am_same (ge_ 100) w w2 := (ts1).tr (hs2.mono (fun b hb => by unfold ge3 at hb; unfold ge_; omega))
  have f2_100 : w2[100]? = some (.inr (2, [.null, .null, .null, .int 0, .int 0])) := hw2.at (by unfold ge_; omega) f1_100
  show am_Go 12 (12, [.ref 100], [.ref 101, .ref 100], w2, 5, 31) _
  refine ar_putfield (pc' := 15) hM rfl f2_100 (Nat.le_of_ble_eq_true rfl) rfl (by decide) rfl ?_
  show am_Go 12 (15, [.ref 100], [], (w2.set 100 (.inr (2, [.ref 101, .null, .null, .int 0, .int 0]))), 5, 31) _
  refine ar_aload_n (pc' := 16) hM rfl rfl rfl ?_
  refine ar_newF (pc' := 19) (k3 := 6) (k4 := 37) (L := 106) hM rfl rfl rfl rfl (Nat.le_of_ble_eq_true rfl) (Nat.le_of_ble_eq_true rfl) rfl (List.length_set.trans hL2) (fun w3 hL3 hw3 hc3 => ?_)
  have hs3 : am_same (ge3 100 100 106) w2 w3 := ((am_same.set am_same.rf (by unfold ge3; omega)) : am_same (ge3 100 100 106) w2 (w2.set 100 (.inr (2, [.ref 101, .null, .null, .int 0, .int 0])))).tr (hw3.mono (fun b hb => Or.inr (Or.inr hb)))
  have ts3 : am_same (ge_ 100) w w3 := (ts2).tr (hs3.mono (fun b hb => by unfold ge3 at hb; unfold ge_; omega))
  have f3_100 : w3[100]? = some (.inr (2, [.ref 101, .null, .null, .int 0, .int 0])) := hw3.at (by unfold ge_; omega) (am_gs f2_100)
  have pT_3 := hp2.same hs3 (fun b h1 h2 => by unfold ge3; omega)
  show am_Go 12 (19, [.ref 100], [.ref 106, .ref 100], w3, 6, 37) _
  refine ar_dup (pc' := 20) hM rfl rfl rfl ?_
  refine ar_special (pc' := 23) (k3 := 9) (k4 := 55) hM rfl (by decide) rfl rfl (n_X6 w3 106 (by omega) hL3 hc3) (fun r4 w4 q4 => ?_)
  obtain ⟨rfl, hL4, hw4, hp4⟩ := q4
  have hs4 : am_same (ge3 100 100 106) w3 w4 := (am_same.rf : am_same (ge3 100 100 106) w3 w3).tr (hw4.mono (fun b hb => Or.inr (Or.inr hb)))
  have ts4 : am_same (ge_ 100) w w4 := (ts3).tr (hs4.mono (fun b hb => by unfold ge3 at hb; unfold ge_; omega))
  have f4_100 : w4[100]? = some (.inr (2, [.ref 101, .null, .null, .int 0, .int 0])) := hw4.at (by unfold ge_; omega) f3_100
  have pT_4 := pT_3.same hs4 (fun b h1 h2 => by unfold ge3; omega)
  show am_Go 12 (23, [.ref 100], [.ref 106, .ref 100], w4, 9, 55) _
  refine ar_putfield (pc' := 26) hM rfl f4_100 (Nat.le_of_ble_eq_true rfl) rfl (by decide) rfl ?_
  show am_Go 12 (26, [.ref 100], [], (w4.set 100 (.inr (2, [.ref 101, .ref 106, .null, .int 0, .int 0]))), 9, 55) _
  refine ar_aload_n (pc' := 27) hM rfl rfl rfl ?_
  refine ar_newF (pc' := 30) (k3 := 10) (k4 := 62) (L := 110) hM rfl rfl rfl rfl (Nat.le_of_ble_eq_true rfl) (Nat.le_of_ble_eq_true rfl) rfl (List.length_set.trans hL4) (fun w5 hL5 hw5 hc5 => ?_)
  have hs5 : am_same (ge3 100 100 110) w4 w5 := ((am_same.set am_same.rf (by unfold ge3; omega)) : am_same (ge3 100 100 110) w4 (w4.set 100 (.inr (2, [.ref 101, .ref 106, .null, .int 0, .int 0])))).tr (hw5.mono (fun b hb => Or.inr (Or.inr hb)))
  have ts5 : am_same (ge_ 100) w w5 := (ts4).tr (hs5.mono (fun b hb => by unfold ge3 at hb; unfold ge_; omega))
  have f5_100 : w5[100]? = some (.inr (2, [.ref 101, .ref 106, .null, .int 0, .int 0])) := hw5.at (by unfold ge_; omega) (am_gs f4_100)
  have pT_5 := pT_4.same hs5 (fun b h1 h2 => by unfold ge3; omega)
  have pS_5 := hp4.same hs5 (fun b h1 h2 => by unfold ge3; omega)
  show am_Go 12 (30, [.ref 100], [.ref 110, .ref 100], w5, 10, 62) _
  refine ar_dup (pc' := 31) hM rfl rfl rfl ?_
  refine ar_special (pc' := 34) (k3 := 17) (k4 := 104) hM rfl (by decide) rfl rfl (n_X8 w5 110 (by omega) hL5 hc5) (fun r6 w6 q6 => ?_)
  obtain ⟨rfl, hL6, hw6, hp6⟩ := q6
  have hs6 : am_same (ge3 100 100 110) w5 w6 := (am_same.rf : am_same (ge3 100 100 110) w5 w5).tr (hw6.mono (fun b hb => Or.inr (Or.inr hb)))
  have ts6 : am_same (ge_ 100) w w6 := (ts5).tr (hs6.mono (fun b hb => by unfold ge3 at hb; unfold ge_; omega))
  have f6_100 : w6[100]? = some (.inr (2, [.ref 101, .ref 106, .null, .int 0, .int 0])) := hw6.at (by unfold ge_; omega) f5_100
  have pT_6 := pT_5.same hs6 (fun b h1 h2 => by unfold ge3; omega)
  have pS_6 := pS_5.same hs6 (fun b h1 h2 => by unfold ge3; omega)
  show am_Go 12 (34, [.ref 100], [.ref 110, .ref 100], w6, 17, 104) _
  refine ar_putfield (pc' := 37) hM rfl f6_100 (Nat.le_of_ble_eq_true rfl) rfl (by decide) rfl ?_
  show am_Go 12 (37, [.ref 100], [], (w6.set 100 (.inr (2, [.ref 101, .ref 106, .ref 110, .int 0, .int 0]))), 17, 104) _
  refine ar_return hM rfl ?_
  exact ⟨rfl, (List.length_set.trans hL6), (am_same.set ts6 (by unfold ge_; omega)), ⟨⟨_, _, (am_gs f6_100)⟩, (pT_6.same ((am_same.set am_same.rf (by unfold ge3; omega)) : am_same (ge3 100 100 118) w6 (w6.set 100 (.inr (2, [.ref 101, .ref 106, .ref 110, .int 0, .int 0])))) (fun b h1 h2 => by unfold ge3; omega)).qq, (pS_6.same ((am_same.set am_same.rf (by unfold ge3; omega)) : am_same (ge3 100 100 118) w6 (w6.set 100 (.inr (2, [.ref 101, .ref 106, .ref 110, .int 0, .int 0])))) (fun b h1 h2 => by unfold ge3; omega)).r, (hp6.same ((am_same.set am_same.rf (by unfold ge3; omega)) : am_same (ge3 100 100 118) w6 (w6.set 100 (.inr (2, [.ref 101, .ref 106, .ref 110, .int 0, .int 0])))) (fun b h1 h2 => by unfold ge3; omega))⟩⟩
set_option maxRecDepth 100000 in
set_option maxHeartbeats 4000000 in
theorem n_X1 (w : am_W) (hL : w.length = 119) (ho : w[118]? = some (.inr (1, [.null, .null, .null, .null, .int 0, .int 0, .long 0]))) : am_Go 4 (0, [.ref 118], [], w, 0, 0) (fun res w' => res = none ∧ w'.length = 133 ∧ am_same (ge_ 118) w w' ∧ c_C w') := by
  have hM : am_P[4]? = some zm_X1_init := rfl
  refine ar_aload_n (pc' := 1) hM rfl rfl rfl ?_
  refine ar_super (pc' := 4) hM rfl (Nat.le_of_ble_eq_true rfl) rfl ?_
  show am_Go 4 (4, [.ref 118], [], w, 0, 0) _
  refine ar_aload_n (pc' := 5) hM rfl rfl rfl ?_
  refine ar_newF (pc' := 8) (k3 := 1) (k4 := 6) (L := 119) hM rfl rfl rfl rfl (Nat.le_of_ble_eq_true rfl) (Nat.le_of_ble_eq_true rfl) rfl hL (fun w1 hL1 hw1 hc1 => ?_)
  have hs1 : am_same (ge3 118 118 119) w w1 := (am_same.rf : am_same (ge3 118 118 119) w w).tr (hw1.mono (fun b hb => Or.inr (Or.inr hb)))
  have ts1 : am_same (ge_ 118) w w1 := (am_same.rf).tr (hs1.mono (fun b hb => by unfold ge3 at hb; unfold ge_; omega))
  have f1_118 : w1[118]? = some (.inr (1, [.null, .null, .null, .null, .int 0, .int 0, .long 0])) := hw1.at (by unfold ge_; omega) ho
  show am_Go 4 (8, [.ref 118], [.ref 119, .ref 118], w1, 1, 6) _
  refine ar_dup (pc' := 9) hM rfl rfl rfl ?_
  refine ar_special (pc' := 12) (k3 := 4) (k4 := 24) hM rfl (by decide) rfl rfl (n_X6 w1 119 (by omega) hL1 hc1) (fun r2 w2 q2 => ?_)
  obtain ⟨rfl, hL2, hw2, hp2⟩ := q2
  have hs2 : am_same (ge3 118 118 119) w1 w2 := (am_same.rf : am_same (ge3 118 118 119) w1 w1).tr (hw2.mono (fun b hb => Or.inr (Or.inr hb)))
  have ts2 : am_same (ge_ 118) w w2 := (ts1).tr (hs2.mono (fun b hb => by unfold ge3 at hb; unfold ge_; omega))
  have f2_118 : w2[118]? = some (.inr (1, [.null, .null, .null, .null, .int 0, .int 0, .long 0])) := hw2.at (by unfold ge_; omega) f1_118
  show am_Go 4 (12, [.ref 118], [.ref 119, .ref 118], w2, 4, 24) _
  refine ar_putfield (pc' := 15) hM rfl f2_118 (Nat.le_of_ble_eq_true rfl) rfl (by decide) rfl ?_
  show am_Go 4 (15, [.ref 118], [], (w2.set 118 (.inr (1, [.ref 119, .null, .null, .null, .int 0, .int 0, .long 0]))), 4, 24) _
  refine ar_aload_n (pc' := 16) hM rfl rfl rfl ?_
  refine ar_newF (pc' := 19) (k3 := 5) (k4 := 31) (L := 123) hM rfl rfl rfl rfl (Nat.le_of_ble_eq_true rfl) (Nat.le_of_ble_eq_true rfl) rfl (List.length_set.trans hL2) (fun w3 hL3 hw3 hc3 => ?_)
  have hs3 : am_same (ge3 118 118 123) w2 w3 := ((am_same.set am_same.rf (by unfold ge3; omega)) : am_same (ge3 118 118 123) w2 (w2.set 118 (.inr (1, [.ref 119, .null, .null, .null, .int 0, .int 0, .long 0])))).tr (hw3.mono (fun b hb => Or.inr (Or.inr hb)))
  have ts3 : am_same (ge_ 118) w w3 := (ts2).tr (hs3.mono (fun b hb => by unfold ge3 at hb; unfold ge_; omega))
  have f3_118 : w3[118]? = some (.inr (1, [.ref 119, .null, .null, .null, .int 0, .int 0, .long 0])) := hw3.at (by unfold ge_; omega) (am_gs f2_118)
  have pS_3 := hp2.same hs3 (fun b h1 h2 => by unfold ge3; omega)
  show am_Go 4 (19, [.ref 118], [.ref 123, .ref 118], w3, 5, 31) _
  refine ar_dup (pc' := 20) hM rfl rfl rfl ?_
  refine ar_special (pc' := 23) (k3 := 12) (k4 := 73) hM rfl (by decide) rfl rfl (n_X8 w3 123 (by omega) hL3 hc3) (fun r4 w4 q4 => ?_)
  obtain ⟨rfl, hL4, hw4, hp4⟩ := q4
  have hs4 : am_same (ge3 118 118 123) w3 w4 := (am_same.rf : am_same (ge3 118 118 123) w3 w3).tr (hw4.mono (fun b hb => Or.inr (Or.inr hb)))
  have ts4 : am_same (ge_ 118) w w4 := (ts3).tr (hs4.mono (fun b hb => by unfold ge3 at hb; unfold ge_; omega))
  have f4_118 : w4[118]? = some (.inr (1, [.ref 119, .null, .null, .null, .int 0, .int 0, .long 0])) := hw4.at (by unfold ge_; omega) f3_118
  have pS_4 := pS_3.same hs4 (fun b h1 h2 => by unfold ge3; omega)
  show am_Go 4 (23, [.ref 118], [.ref 123, .ref 118], w4, 12, 73) _
  refine ar_putfield (pc' := 26) hM rfl f4_118 (Nat.le_of_ble_eq_true rfl) rfl (by decide) rfl ?_
  show am_Go 4 (26, [.ref 118], [], (w4.set 118 (.inr (1, [.ref 119, .ref 123, .null, .null, .int 0, .int 0, .long 0]))), 12, 73) _
  refine ar_aload_n (pc' := 27) hM rfl rfl rfl ?_
  refine ar_iconst (x := 4) (pc' := 28) hM rfl (by decide) rfl ?_
  refine ar_newI (m := 4) (pc' := 30) (k3 := 13) (k4 := 77) (L := 131) hM rfl (by decide) (by decide) rfl rfl (Nat.le_of_ble_eq_true rfl) (Nat.le_of_ble_eq_true rfl) rfl (List.length_set.trans hL4) (fun w5 hL5 hw5 hc5 => ?_)
  have hs5 : am_same (ge3 118 118 131) w4 w5 := ((am_same.set am_same.rf (by unfold ge3; omega)) : am_same (ge3 118 118 131) w4 (w4.set 118 (.inr (1, [.ref 119, .ref 123, .null, .null, .int 0, .int 0, .long 0])))).tr (hw5.mono (fun b hb => Or.inr (Or.inr hb)))
  have ts5 : am_same (ge_ 118) w w5 := (ts4).tr (hs5.mono (fun b hb => by unfold ge3 at hb; unfold ge_; omega))
  have f5_118 : w5[118]? = some (.inr (1, [.ref 119, .ref 123, .null, .null, .int 0, .int 0, .long 0])) := hw5.at (by unfold ge_; omega) (am_gs f4_118)
  have pS_5 := pS_4.same hs5 (fun b h1 h2 => by unfold ge3; omega)
  have pD_5 := hp4.same hs5 (fun b h1 h2 => by unfold ge3; omega)
  show am_Go 4 (30, [.ref 118], [.ref 131, .ref 118], w5, 13, 77) _
  refine ar_putfield (pc' := 33) hM rfl f5_118 (Nat.le_of_ble_eq_true rfl) rfl (by decide) rfl ?_
  show am_Go 4 (33, [.ref 118], [], (w5.set 118 (.inr (1, [.ref 119, .ref 123, .ref 131, .null, .int 0, .int 0, .long 0]))), 13, 77) _
  refine ar_aload_n (pc' := 34) hM rfl rfl rfl ?_
  refine ar_iconst (x := 4) (pc' := 35) hM rfl (by decide) rfl ?_
  refine ar_newI (m := 4) (pc' := 37) (k3 := 14) (k4 := 81) (L := 132) hM rfl (by decide) (by decide) rfl rfl (Nat.le_of_ble_eq_true rfl) (Nat.le_of_ble_eq_true rfl) rfl (List.length_set.trans hL5) (fun w6 hL6 hw6 hc6 => ?_)
  have hs6 : am_same (ge3 118 118 132) w5 w6 := ((am_same.set am_same.rf (by unfold ge3; omega)) : am_same (ge3 118 118 132) w5 (w5.set 118 (.inr (1, [.ref 119, .ref 123, .ref 131, .null, .int 0, .int 0, .long 0])))).tr (hw6.mono (fun b hb => Or.inr (Or.inr hb)))
  have ts6 : am_same (ge_ 118) w w6 := (ts5).tr (hs6.mono (fun b hb => by unfold ge3 at hb; unfold ge_; omega))
  have f6_118 : w6[118]? = some (.inr (1, [.ref 119, .ref 123, .ref 131, .null, .int 0, .int 0, .long 0])) := hw6.at (by unfold ge_; omega) (am_gs f5_118)
  have f6_131 : w6[131]? = some (.inl (0, 4, .inl (fun _ => 0))) := hw6.at (by unfold ge_; omega) (am_gn (by decide) hc5)
  have pS_6 := pS_5.same hs6 (fun b h1 h2 => by unfold ge3; omega)
  have pD_6 := pD_5.same hs6 (fun b h1 h2 => by unfold ge3; omega)
  show am_Go 4 (37, [.ref 118], [.ref 132, .ref 118], w6, 14, 81) _
  refine ar_putfield (pc' := 40) hM rfl f6_118 (Nat.le_of_ble_eq_true rfl) rfl (by decide) rfl ?_
  show am_Go 4 (40, [.ref 118], [], (w6.set 118 (.inr (1, [.ref 119, .ref 123, .ref 131, .ref 132, .int 0, .int 0, .long 0]))), 14, 81) _
  refine ar_return hM rfl ?_
  exact ⟨rfl, (List.length_set.trans hL6), (am_same.set ts6 (by unfold ge_; omega)), ⟨⟨_, _, _, (am_gs f6_118)⟩, (pS_6.same ((am_same.set am_same.rf (by unfold ge3; omega)) : am_same (ge3 118 118 133) w6 (w6.set 118 (.inr (1, [.ref 119, .ref 123, .ref 131, .ref 132, .int 0, .int 0, .long 0])))) (fun b h1 h2 => by unfold ge3; omega)).r, (pD_6.same ((am_same.set am_same.rf (by unfold ge3; omega)) : am_same (ge3 118 118 133) w6 (w6.set 118 (.inr (1, [.ref 119, .ref 123, .ref 131, .ref 132, .int 0, .int 0, .long 0])))) (fun b h1 h2 => by unfold ge3; omega)), ⟨_, (am_gn (by decide) f6_131)⟩, ⟨_, (am_gn (by decide) hc6)⟩⟩⟩
theorem c_Rs_0 (w : am_W) (a : Nat) : ∀ i, i < 0 → c_R w (a + 4 * i) := fun i hi => absurd hi (Nat.not_lt_zero i)
theorem c_Rs_s {w w' : am_W} {a j : Nat} {X : Nat → Prop} (h : ∀ i, i < j → c_R w (a + 4 * i)) (hs : am_same X w w') (hX : ∀ b, X b → b < a ∨ a + 4 * j ≤ b) : ∀ i, i < j → c_R w' (a + 4 * i) := fun i hi => (h i hi).same hs (fun b h1 h2 q => by have := hX b q; omega)
theorem c_Rs_n {w : am_W} {a j : Nat} (h : ∀ i, i < j → c_R w (a + 4 * i)) (hn : c_R w (a + 4 * j)) : ∀ i, i < j + 1 → c_R w (a + 4 * i) := fun i hi => by
  rcases Nat.lt_or_ge i j with q | q
  · exact h i q
  · rw [show i = j by omega]; exact hn
set_option maxRecDepth 100000 in
set_option maxHeartbeats 4000000 in
theorem n_X0 (w : am_W) (hL : w.length = 21) (ho : w[20]? = some (.inr (0, [.null, .int 0, .int 0]))) : am_Go 0 (0, [.ref 20, .float 0], [], w, 0, 0) (fun res w' => res = none ∧ w'.length = 78 ∧ am_same (ge_ 20) w w' ∧ c_A w' 0 []) := by
  have hM : am_P[0]? = some zm_X0_init := rfl
  refine ar_aload_n (pc' := 1) hM rfl rfl rfl ?_
  refine ar_super (pc' := 4) hM rfl (Nat.le_of_ble_eq_true rfl) rfl ?_
  show am_Go 0 (4, [.ref 20, .float 0], [], w, 0, 0) _
  refine ar_aload_n (pc' := 5) hM rfl rfl rfl ?_
  refine ar_bipush (x := 14) (pc' := 7) hM rfl (by decide) rfl ?_
  refine ar_newA (m := 14) (pc' := 10) (k3 := 1) (k4 := 14) (L := 21) hM rfl (by decide) (by decide) rfl rfl (Nat.le_of_ble_eq_true rfl) (Nat.le_of_ble_eq_true rfl) rfl hL (fun w1 hL1 hw1 hc1 => ?_)
  have hs1 : am_same (ge3 20 21 21) w w1 := (am_same.rf : am_same (ge3 20 21 21) w w).tr (hw1.mono (fun b hb => Or.inr (Or.inr hb)))
  have ts1 : am_same (ge_ 20) w w1 := (am_same.rf).tr (hs1.mono (fun b hb => by unfold ge3 at hb; unfold ge_; omega))
  have f1_20 : w1[20]? = some (.inr (0, [.null, .int 0, .int 0])) := hw1.at (by unfold ge_; omega) ho
  have rs1 : ∀ i, i < 0 → c_R w1 (22 + 4 * i) := c_Rs_s (c_Rs_0 _ 22) hs1 (fun b hb => by unfold ge3 at hb; omega)
  show am_Go 0 (10, [.ref 20, .float 0], [.ref 21, .ref 20], w1, 1, 14) _
  refine ar_putfield (pc' := 13) hM rfl f1_20 (Nat.le_of_ble_eq_true rfl) rfl (by decide) rfl ?_
  show am_Go 0 (13, [.ref 20, .float 0], [], (w1.set 20 (.inr (0, [.ref 21, .int 0, .int 0]))), 1, 14) _
  refine ar_iconst (x := 0) (pc' := 14) hM rfl (by decide) rfl ?_
  refine ar_istore_n (pc' := 15) hM rfl rfl rfl rfl ?_
  refine ar_iload_n (pc' := 16) hM rfl rfl rfl ?_
  refine ar_bipush (x := 14) (pc' := 18) hM rfl (by decide) rfl ?_
  refine ar_icmp_ge (pc' := 21) hM rfl rfl (fun q => absurd q (by decide)) (fun _ => ?_)
  refine ar_aload_n (pc' := 22) hM rfl rfl rfl ?_
  refine ar_getfield (pc' := 25) hM rfl (am_gs f1_20) rfl rfl ?_
  refine ar_iload_n (pc' := 26) hM rfl rfl rfl ?_
  refine ar_newF (pc' := 29) (k3 := 2) (k4 := 20) (L := 22) hM rfl rfl rfl rfl (Nat.le_of_ble_eq_true rfl) (Nat.le_of_ble_eq_true rfl) rfl (List.length_set.trans hL1) (fun w2 hL2 hw2 hc2 => ?_)
  have hs2 : am_same (ge3 20 21 22) w1 w2 := ((am_same.set am_same.rf (by unfold ge3; omega)) : am_same (ge3 20 21 22) w1 (w1.set 20 (.inr (0, [.ref 21, .int 0, .int 0])))).tr (hw2.mono (fun b hb => Or.inr (Or.inr hb)))
  have ts2 : am_same (ge_ 20) w w2 := (ts1).tr (hs2.mono (fun b hb => by unfold ge3 at hb; unfold ge_; omega))
  have f2_20 : w2[20]? = some (.inr (0, [.ref 21, .int 0, .int 0])) := hw2.at (by unfold ge_; omega) (am_gs f1_20)
  have f2_21 : w2[21]? = some (.inl (2, 14, .inr (fun _ => none))) := hw2.at (by unfold ge_; omega) (am_gn (by decide) hc1)
  have rs2 : ∀ i, i < 0 → c_R w2 (22 + 4 * i) := c_Rs_s rs1 hs2 (fun b hb => by unfold ge3 at hb; omega)
  show am_Go 0 (29, [.ref 20, .int 0], [.ref 22, .int 0, .ref 21], w2, 2, 20) _
  refine ar_dup (pc' := 30) hM rfl rfl rfl ?_
  refine ar_special (pc' := 33) (k3 := 5) (k4 := 38) hM rfl (by decide) rfl rfl (n_X6 w2 22 (by omega) hL2 hc2) (fun r3 w3 q3 => ?_)
  obtain ⟨rfl, hL3, hw3, hp3⟩ := q3
  have hs3 : am_same (ge3 20 21 22) w2 w3 := (am_same.rf : am_same (ge3 20 21 22) w2 w2).tr (hw3.mono (fun b hb => Or.inr (Or.inr hb)))
  have ts3 : am_same (ge_ 20) w w3 := (ts2).tr (hs3.mono (fun b hb => by unfold ge3 at hb; unfold ge_; omega))
  have f3_20 : w3[20]? = some (.inr (0, [.ref 21, .int 0, .int 0])) := hw3.at (by unfold ge_; omega) f2_20
  have f3_21 : w3[21]? = some (.inl (2, 14, .inr (fun _ => none))) := hw3.at (by unfold ge_; omega) f2_21
  have rs3 : ∀ i, i < 0 → c_R w3 (22 + 4 * i) := c_Rs_s rs2 hs3 (fun b hb => by unfold ge3 at hb; omega)
  have rt3 : ∀ i, i < 1 → c_R w3 (22 + 4 * i) := c_Rs_n rs3 hp3.r
  show am_Go 0 (33, [.ref 20, .int 0], [.ref 22, .int 0, .ref 21], w3, 5, 38) _
  refine ar_aastoreF (j := 0) (pc' := 34) hM rfl f3_21 hp3.o (by decide) (by decide) (by decide) (by decide) (by decide) rfl ?_
  show am_Go 0 (34, [.ref 20, .int 0], [], (w3.set 21 (.inl (2, 14, .inr (va_up (fun _ => none) 0 (some 22))))), 5, 38) _
  refine ar_iinc (z := 1) (pc' := 37) hM rfl rfl (by decide) rfl rfl rfl ?_
  refine ar_goto hM rfl ?_
  refine ar_iload_n (pc' := 16) hM rfl rfl rfl ?_
  refine ar_bipush (x := 14) (pc' := 18) hM rfl (by decide) rfl ?_
  refine ar_icmp_ge (pc' := 21) hM rfl rfl (fun q => absurd q (by decide)) (fun _ => ?_)
  refine ar_aload_n (pc' := 22) hM rfl rfl rfl ?_
  refine ar_getfield (pc' := 25) hM rfl (am_gn (by decide) f3_20) rfl rfl ?_
  refine ar_iload_n (pc' := 26) hM rfl rfl rfl ?_
  refine ar_newF (pc' := 29) (k3 := 6) (k4 := 44) (L := 26) hM rfl rfl rfl rfl (Nat.le_of_ble_eq_true rfl) (Nat.le_of_ble_eq_true rfl) rfl (List.length_set.trans hL3) (fun w4 hL4 hw4 hc4 => ?_)
  have hs4 : am_same (ge3 20 21 26) w3 w4 := ((am_same.set am_same.rf (by unfold ge3; omega)) : am_same (ge3 20 21 26) w3 (w3.set 21 (.inl (2, 14, .inr (va_up (fun _ => none) 0 (some 22)))))).tr (hw4.mono (fun b hb => Or.inr (Or.inr hb)))
  have ts4 : am_same (ge_ 20) w w4 := (ts3).tr (hs4.mono (fun b hb => by unfold ge3 at hb; unfold ge_; omega))
  have f4_20 : w4[20]? = some (.inr (0, [.ref 21, .int 0, .int 0])) := hw4.at (by unfold ge_; omega) (am_gn (by decide) f3_20)
  have f4_21 : w4[21]? = some (.inl (2, 14, .inr (va_up (fun _ => none) 0 (some 22)))) := hw4.at (by unfold ge_; omega) (am_gs f3_21)
  have rs4 : ∀ i, i < 1 → c_R w4 (22 + 4 * i) := c_Rs_s rt3 hs4 (fun b hb => by unfold ge3 at hb; omega)
  show am_Go 0 (29, [.ref 20, .int 1], [.ref 26, .int 1, .ref 21], w4, 6, 44) _
  refine ar_dup (pc' := 30) hM rfl rfl rfl ?_
  refine ar_special (pc' := 33) (k3 := 9) (k4 := 62) hM rfl (by decide) rfl rfl (n_X6 w4 26 (by omega) hL4 hc4) (fun r5 w5 q5 => ?_)
  obtain ⟨rfl, hL5, hw5, hp5⟩ := q5
  have hs5 : am_same (ge3 20 21 26) w4 w5 := (am_same.rf : am_same (ge3 20 21 26) w4 w4).tr (hw5.mono (fun b hb => Or.inr (Or.inr hb)))
  have ts5 : am_same (ge_ 20) w w5 := (ts4).tr (hs5.mono (fun b hb => by unfold ge3 at hb; unfold ge_; omega))
  have f5_20 : w5[20]? = some (.inr (0, [.ref 21, .int 0, .int 0])) := hw5.at (by unfold ge_; omega) f4_20
  have f5_21 : w5[21]? = some (.inl (2, 14, .inr (va_up (fun _ => none) 0 (some 22)))) := hw5.at (by unfold ge_; omega) f4_21
  have rs5 : ∀ i, i < 1 → c_R w5 (22 + 4 * i) := c_Rs_s rs4 hs5 (fun b hb => by unfold ge3 at hb; omega)
  have rt5 : ∀ i, i < 2 → c_R w5 (22 + 4 * i) := c_Rs_n rs5 hp5.r
  show am_Go 0 (33, [.ref 20, .int 1], [.ref 26, .int 1, .ref 21], w5, 9, 62) _
  refine ar_aastoreF (j := 1) (pc' := 34) hM rfl f5_21 hp5.o (by decide) (by decide) (by decide) (by decide) (by decide) rfl ?_
  show am_Go 0 (34, [.ref 20, .int 1], [], (w5.set 21 (.inl (2, 14, .inr (va_up (va_up (fun _ => none) 0 (some 22)) 1 (some 26))))), 9, 62) _
  refine ar_iinc (z := 2) (pc' := 37) hM rfl rfl (by decide) rfl rfl rfl ?_
  refine ar_goto hM rfl ?_
  refine ar_iload_n (pc' := 16) hM rfl rfl rfl ?_
  refine ar_bipush (x := 14) (pc' := 18) hM rfl (by decide) rfl ?_
  refine ar_icmp_ge (pc' := 21) hM rfl rfl (fun q => absurd q (by decide)) (fun _ => ?_)
  refine ar_aload_n (pc' := 22) hM rfl rfl rfl ?_
  refine ar_getfield (pc' := 25) hM rfl (am_gn (by decide) f5_20) rfl rfl ?_
  refine ar_iload_n (pc' := 26) hM rfl rfl rfl ?_
  refine ar_newF (pc' := 29) (k3 := 10) (k4 := 68) (L := 30) hM rfl rfl rfl rfl (Nat.le_of_ble_eq_true rfl) (Nat.le_of_ble_eq_true rfl) rfl (List.length_set.trans hL5) (fun w6 hL6 hw6 hc6 => ?_)
  have hs6 : am_same (ge3 20 21 30) w5 w6 := ((am_same.set am_same.rf (by unfold ge3; omega)) : am_same (ge3 20 21 30) w5 (w5.set 21 (.inl (2, 14, .inr (va_up (va_up (fun _ => none) 0 (some 22)) 1 (some 26)))))).tr (hw6.mono (fun b hb => Or.inr (Or.inr hb)))
  have ts6 : am_same (ge_ 20) w w6 := (ts5).tr (hs6.mono (fun b hb => by unfold ge3 at hb; unfold ge_; omega))
  have f6_20 : w6[20]? = some (.inr (0, [.ref 21, .int 0, .int 0])) := hw6.at (by unfold ge_; omega) (am_gn (by decide) f5_20)
  have f6_21 : w6[21]? = some (.inl (2, 14, .inr (va_up (va_up (fun _ => none) 0 (some 22)) 1 (some 26)))) := hw6.at (by unfold ge_; omega) (am_gs f5_21)
  have rs6 : ∀ i, i < 2 → c_R w6 (22 + 4 * i) := c_Rs_s rt5 hs6 (fun b hb => by unfold ge3 at hb; omega)
  show am_Go 0 (29, [.ref 20, .int 2], [.ref 30, .int 2, .ref 21], w6, 10, 68) _
  refine ar_dup (pc' := 30) hM rfl rfl rfl ?_
  refine ar_special (pc' := 33) (k3 := 13) (k4 := 86) hM rfl (by decide) rfl rfl (n_X6 w6 30 (by omega) hL6 hc6) (fun r7 w7 q7 => ?_)
  obtain ⟨rfl, hL7, hw7, hp7⟩ := q7
  have hs7 : am_same (ge3 20 21 30) w6 w7 := (am_same.rf : am_same (ge3 20 21 30) w6 w6).tr (hw7.mono (fun b hb => Or.inr (Or.inr hb)))
  have ts7 : am_same (ge_ 20) w w7 := (ts6).tr (hs7.mono (fun b hb => by unfold ge3 at hb; unfold ge_; omega))
  have f7_20 : w7[20]? = some (.inr (0, [.ref 21, .int 0, .int 0])) := hw7.at (by unfold ge_; omega) f6_20
  have f7_21 : w7[21]? = some (.inl (2, 14, .inr (va_up (va_up (fun _ => none) 0 (some 22)) 1 (some 26)))) := hw7.at (by unfold ge_; omega) f6_21
  have rs7 : ∀ i, i < 2 → c_R w7 (22 + 4 * i) := c_Rs_s rs6 hs7 (fun b hb => by unfold ge3 at hb; omega)
  have rt7 : ∀ i, i < 3 → c_R w7 (22 + 4 * i) := c_Rs_n rs7 hp7.r
  show am_Go 0 (33, [.ref 20, .int 2], [.ref 30, .int 2, .ref 21], w7, 13, 86) _
  refine ar_aastoreF (j := 2) (pc' := 34) hM rfl f7_21 hp7.o (by decide) (by decide) (by decide) (by decide) (by decide) rfl ?_
  show am_Go 0 (34, [.ref 20, .int 2], [], (w7.set 21 (.inl (2, 14, .inr (va_up (va_up (va_up (fun _ => none) 0 (some 22)) 1 (some 26)) 2 (some 30))))), 13, 86) _
  refine ar_iinc (z := 3) (pc' := 37) hM rfl rfl (by decide) rfl rfl rfl ?_
  refine ar_goto hM rfl ?_
  refine ar_iload_n (pc' := 16) hM rfl rfl rfl ?_
  refine ar_bipush (x := 14) (pc' := 18) hM rfl (by decide) rfl ?_
  refine ar_icmp_ge (pc' := 21) hM rfl rfl (fun q => absurd q (by decide)) (fun _ => ?_)
  refine ar_aload_n (pc' := 22) hM rfl rfl rfl ?_
  refine ar_getfield (pc' := 25) hM rfl (am_gn (by decide) f7_20) rfl rfl ?_
  refine ar_iload_n (pc' := 26) hM rfl rfl rfl ?_
  refine ar_newF (pc' := 29) (k3 := 14) (k4 := 92) (L := 34) hM rfl rfl rfl rfl (Nat.le_of_ble_eq_true rfl) (Nat.le_of_ble_eq_true rfl) rfl (List.length_set.trans hL7) (fun w8 hL8 hw8 hc8 => ?_)
  have hs8 : am_same (ge3 20 21 34) w7 w8 := ((am_same.set am_same.rf (by unfold ge3; omega)) : am_same (ge3 20 21 34) w7 (w7.set 21 (.inl (2, 14, .inr (va_up (va_up (va_up (fun _ => none) 0 (some 22)) 1 (some 26)) 2 (some 30)))))).tr (hw8.mono (fun b hb => Or.inr (Or.inr hb)))
  have ts8 : am_same (ge_ 20) w w8 := (ts7).tr (hs8.mono (fun b hb => by unfold ge3 at hb; unfold ge_; omega))
  have f8_20 : w8[20]? = some (.inr (0, [.ref 21, .int 0, .int 0])) := hw8.at (by unfold ge_; omega) (am_gn (by decide) f7_20)
  have f8_21 : w8[21]? = some (.inl (2, 14, .inr (va_up (va_up (va_up (fun _ => none) 0 (some 22)) 1 (some 26)) 2 (some 30)))) := hw8.at (by unfold ge_; omega) (am_gs f7_21)
  have rs8 : ∀ i, i < 3 → c_R w8 (22 + 4 * i) := c_Rs_s rt7 hs8 (fun b hb => by unfold ge3 at hb; omega)
  show am_Go 0 (29, [.ref 20, .int 3], [.ref 34, .int 3, .ref 21], w8, 14, 92) _
  refine ar_dup (pc' := 30) hM rfl rfl rfl ?_
  refine ar_special (pc' := 33) (k3 := 17) (k4 := 110) hM rfl (by decide) rfl rfl (n_X6 w8 34 (by omega) hL8 hc8) (fun r9 w9 q9 => ?_)
  obtain ⟨rfl, hL9, hw9, hp9⟩ := q9
  have hs9 : am_same (ge3 20 21 34) w8 w9 := (am_same.rf : am_same (ge3 20 21 34) w8 w8).tr (hw9.mono (fun b hb => Or.inr (Or.inr hb)))
  have ts9 : am_same (ge_ 20) w w9 := (ts8).tr (hs9.mono (fun b hb => by unfold ge3 at hb; unfold ge_; omega))
  have f9_20 : w9[20]? = some (.inr (0, [.ref 21, .int 0, .int 0])) := hw9.at (by unfold ge_; omega) f8_20
  have f9_21 : w9[21]? = some (.inl (2, 14, .inr (va_up (va_up (va_up (fun _ => none) 0 (some 22)) 1 (some 26)) 2 (some 30)))) := hw9.at (by unfold ge_; omega) f8_21
  have rs9 : ∀ i, i < 3 → c_R w9 (22 + 4 * i) := c_Rs_s rs8 hs9 (fun b hb => by unfold ge3 at hb; omega)
  have rt9 : ∀ i, i < 4 → c_R w9 (22 + 4 * i) := c_Rs_n rs9 hp9.r
  show am_Go 0 (33, [.ref 20, .int 3], [.ref 34, .int 3, .ref 21], w9, 17, 110) _
  refine ar_aastoreF (j := 3) (pc' := 34) hM rfl f9_21 hp9.o (by decide) (by decide) (by decide) (by decide) (by decide) rfl ?_
  show am_Go 0 (34, [.ref 20, .int 3], [], (w9.set 21 (.inl (2, 14, .inr (va_up (va_up (va_up (va_up (fun _ => none) 0 (some 22)) 1 (some 26)) 2 (some 30)) 3 (some 34))))), 17, 110) _
  refine ar_iinc (z := 4) (pc' := 37) hM rfl rfl (by decide) rfl rfl rfl ?_
  refine ar_goto hM rfl ?_
  refine ar_iload_n (pc' := 16) hM rfl rfl rfl ?_
  refine ar_bipush (x := 14) (pc' := 18) hM rfl (by decide) rfl ?_
  refine ar_icmp_ge (pc' := 21) hM rfl rfl (fun q => absurd q (by decide)) (fun _ => ?_)
  refine ar_aload_n (pc' := 22) hM rfl rfl rfl ?_
  refine ar_getfield (pc' := 25) hM rfl (am_gn (by decide) f9_20) rfl rfl ?_
  refine ar_iload_n (pc' := 26) hM rfl rfl rfl ?_
  refine ar_newF (pc' := 29) (k3 := 18) (k4 := 116) (L := 38) hM rfl rfl rfl rfl (Nat.le_of_ble_eq_true rfl) (Nat.le_of_ble_eq_true rfl) rfl (List.length_set.trans hL9) (fun w10 hL10 hw10 hc10 => ?_)
  have hs10 : am_same (ge3 20 21 38) w9 w10 := ((am_same.set am_same.rf (by unfold ge3; omega)) : am_same (ge3 20 21 38) w9 (w9.set 21 (.inl (2, 14, .inr (va_up (va_up (va_up (va_up (fun _ => none) 0 (some 22)) 1 (some 26)) 2 (some 30)) 3 (some 34)))))).tr (hw10.mono (fun b hb => Or.inr (Or.inr hb)))
  have ts10 : am_same (ge_ 20) w w10 := (ts9).tr (hs10.mono (fun b hb => by unfold ge3 at hb; unfold ge_; omega))
  have f10_20 : w10[20]? = some (.inr (0, [.ref 21, .int 0, .int 0])) := hw10.at (by unfold ge_; omega) (am_gn (by decide) f9_20)
  have f10_21 : w10[21]? = some (.inl (2, 14, .inr (va_up (va_up (va_up (va_up (fun _ => none) 0 (some 22)) 1 (some 26)) 2 (some 30)) 3 (some 34)))) := hw10.at (by unfold ge_; omega) (am_gs f9_21)
  have rs10 : ∀ i, i < 4 → c_R w10 (22 + 4 * i) := c_Rs_s rt9 hs10 (fun b hb => by unfold ge3 at hb; omega)
  show am_Go 0 (29, [.ref 20, .int 4], [.ref 38, .int 4, .ref 21], w10, 18, 116) _
  refine ar_dup (pc' := 30) hM rfl rfl rfl ?_
  refine ar_special (pc' := 33) (k3 := 21) (k4 := 134) hM rfl (by decide) rfl rfl (n_X6 w10 38 (by omega) hL10 hc10) (fun r11 w11 q11 => ?_)
  obtain ⟨rfl, hL11, hw11, hp11⟩ := q11
  have hs11 : am_same (ge3 20 21 38) w10 w11 := (am_same.rf : am_same (ge3 20 21 38) w10 w10).tr (hw11.mono (fun b hb => Or.inr (Or.inr hb)))
  have ts11 : am_same (ge_ 20) w w11 := (ts10).tr (hs11.mono (fun b hb => by unfold ge3 at hb; unfold ge_; omega))
  have f11_20 : w11[20]? = some (.inr (0, [.ref 21, .int 0, .int 0])) := hw11.at (by unfold ge_; omega) f10_20
  have f11_21 : w11[21]? = some (.inl (2, 14, .inr (va_up (va_up (va_up (va_up (fun _ => none) 0 (some 22)) 1 (some 26)) 2 (some 30)) 3 (some 34)))) := hw11.at (by unfold ge_; omega) f10_21
  have rs11 : ∀ i, i < 4 → c_R w11 (22 + 4 * i) := c_Rs_s rs10 hs11 (fun b hb => by unfold ge3 at hb; omega)
  have rt11 : ∀ i, i < 5 → c_R w11 (22 + 4 * i) := c_Rs_n rs11 hp11.r
  show am_Go 0 (33, [.ref 20, .int 4], [.ref 38, .int 4, .ref 21], w11, 21, 134) _
  refine ar_aastoreF (j := 4) (pc' := 34) hM rfl f11_21 hp11.o (by decide) (by decide) (by decide) (by decide) (by decide) rfl ?_
  show am_Go 0 (34, [.ref 20, .int 4], [], (w11.set 21 (.inl (2, 14, .inr (va_up (va_up (va_up (va_up (va_up (fun _ => none) 0 (some 22)) 1 (some 26)) 2 (some 30)) 3 (some 34)) 4 (some 38))))), 21, 134) _
  refine ar_iinc (z := 5) (pc' := 37) hM rfl rfl (by decide) rfl rfl rfl ?_
  refine ar_goto hM rfl ?_
  refine ar_iload_n (pc' := 16) hM rfl rfl rfl ?_
  refine ar_bipush (x := 14) (pc' := 18) hM rfl (by decide) rfl ?_
  refine ar_icmp_ge (pc' := 21) hM rfl rfl (fun q => absurd q (by decide)) (fun _ => ?_)
  refine ar_aload_n (pc' := 22) hM rfl rfl rfl ?_
  refine ar_getfield (pc' := 25) hM rfl (am_gn (by decide) f11_20) rfl rfl ?_
  refine ar_iload_n (pc' := 26) hM rfl rfl rfl ?_
  refine ar_newF (pc' := 29) (k3 := 22) (k4 := 140) (L := 42) hM rfl rfl rfl rfl (Nat.le_of_ble_eq_true rfl) (Nat.le_of_ble_eq_true rfl) rfl (List.length_set.trans hL11) (fun w12 hL12 hw12 hc12 => ?_)
  have hs12 : am_same (ge3 20 21 42) w11 w12 := ((am_same.set am_same.rf (by unfold ge3; omega)) : am_same (ge3 20 21 42) w11 (w11.set 21 (.inl (2, 14, .inr (va_up (va_up (va_up (va_up (va_up (fun _ => none) 0 (some 22)) 1 (some 26)) 2 (some 30)) 3 (some 34)) 4 (some 38)))))).tr (hw12.mono (fun b hb => Or.inr (Or.inr hb)))
  have ts12 : am_same (ge_ 20) w w12 := (ts11).tr (hs12.mono (fun b hb => by unfold ge3 at hb; unfold ge_; omega))
  have f12_20 : w12[20]? = some (.inr (0, [.ref 21, .int 0, .int 0])) := hw12.at (by unfold ge_; omega) (am_gn (by decide) f11_20)
  have f12_21 : w12[21]? = some (.inl (2, 14, .inr (va_up (va_up (va_up (va_up (va_up (fun _ => none) 0 (some 22)) 1 (some 26)) 2 (some 30)) 3 (some 34)) 4 (some 38)))) := hw12.at (by unfold ge_; omega) (am_gs f11_21)
  have rs12 : ∀ i, i < 5 → c_R w12 (22 + 4 * i) := c_Rs_s rt11 hs12 (fun b hb => by unfold ge3 at hb; omega)
  show am_Go 0 (29, [.ref 20, .int 5], [.ref 42, .int 5, .ref 21], w12, 22, 140) _
  refine ar_dup (pc' := 30) hM rfl rfl rfl ?_
  refine ar_special (pc' := 33) (k3 := 25) (k4 := 158) hM rfl (by decide) rfl rfl (n_X6 w12 42 (by omega) hL12 hc12) (fun r13 w13 q13 => ?_)
  obtain ⟨rfl, hL13, hw13, hp13⟩ := q13
  have hs13 : am_same (ge3 20 21 42) w12 w13 := (am_same.rf : am_same (ge3 20 21 42) w12 w12).tr (hw13.mono (fun b hb => Or.inr (Or.inr hb)))
  have ts13 : am_same (ge_ 20) w w13 := (ts12).tr (hs13.mono (fun b hb => by unfold ge3 at hb; unfold ge_; omega))
  have f13_20 : w13[20]? = some (.inr (0, [.ref 21, .int 0, .int 0])) := hw13.at (by unfold ge_; omega) f12_20
  have f13_21 : w13[21]? = some (.inl (2, 14, .inr (va_up (va_up (va_up (va_up (va_up (fun _ => none) 0 (some 22)) 1 (some 26)) 2 (some 30)) 3 (some 34)) 4 (some 38)))) := hw13.at (by unfold ge_; omega) f12_21
  have rs13 : ∀ i, i < 5 → c_R w13 (22 + 4 * i) := c_Rs_s rs12 hs13 (fun b hb => by unfold ge3 at hb; omega)
  have rt13 : ∀ i, i < 6 → c_R w13 (22 + 4 * i) := c_Rs_n rs13 hp13.r
  show am_Go 0 (33, [.ref 20, .int 5], [.ref 42, .int 5, .ref 21], w13, 25, 158) _
  refine ar_aastoreF (j := 5) (pc' := 34) hM rfl f13_21 hp13.o (by decide) (by decide) (by decide) (by decide) (by decide) rfl ?_
  show am_Go 0 (34, [.ref 20, .int 5], [], (w13.set 21 (.inl (2, 14, .inr (va_up (va_up (va_up (va_up (va_up (va_up (fun _ => none) 0 (some 22)) 1 (some 26)) 2 (some 30)) 3 (some 34)) 4 (some 38)) 5 (some 42))))), 25, 158) _
  refine ar_iinc (z := 6) (pc' := 37) hM rfl rfl (by decide) rfl rfl rfl ?_
  refine ar_goto hM rfl ?_
  refine ar_iload_n (pc' := 16) hM rfl rfl rfl ?_
  refine ar_bipush (x := 14) (pc' := 18) hM rfl (by decide) rfl ?_
  refine ar_icmp_ge (pc' := 21) hM rfl rfl (fun q => absurd q (by decide)) (fun _ => ?_)
  refine ar_aload_n (pc' := 22) hM rfl rfl rfl ?_
  refine ar_getfield (pc' := 25) hM rfl (am_gn (by decide) f13_20) rfl rfl ?_
  refine ar_iload_n (pc' := 26) hM rfl rfl rfl ?_
  refine ar_newF (pc' := 29) (k3 := 26) (k4 := 164) (L := 46) hM rfl rfl rfl rfl (Nat.le_of_ble_eq_true rfl) (Nat.le_of_ble_eq_true rfl) rfl (List.length_set.trans hL13) (fun w14 hL14 hw14 hc14 => ?_)
  have hs14 : am_same (ge3 20 21 46) w13 w14 := ((am_same.set am_same.rf (by unfold ge3; omega)) : am_same (ge3 20 21 46) w13 (w13.set 21 (.inl (2, 14, .inr (va_up (va_up (va_up (va_up (va_up (va_up (fun _ => none) 0 (some 22)) 1 (some 26)) 2 (some 30)) 3 (some 34)) 4 (some 38)) 5 (some 42)))))).tr (hw14.mono (fun b hb => Or.inr (Or.inr hb)))
  have ts14 : am_same (ge_ 20) w w14 := (ts13).tr (hs14.mono (fun b hb => by unfold ge3 at hb; unfold ge_; omega))
  have f14_20 : w14[20]? = some (.inr (0, [.ref 21, .int 0, .int 0])) := hw14.at (by unfold ge_; omega) (am_gn (by decide) f13_20)
  have f14_21 : w14[21]? = some (.inl (2, 14, .inr (va_up (va_up (va_up (va_up (va_up (va_up (fun _ => none) 0 (some 22)) 1 (some 26)) 2 (some 30)) 3 (some 34)) 4 (some 38)) 5 (some 42)))) := hw14.at (by unfold ge_; omega) (am_gs f13_21)
  have rs14 : ∀ i, i < 6 → c_R w14 (22 + 4 * i) := c_Rs_s rt13 hs14 (fun b hb => by unfold ge3 at hb; omega)
  show am_Go 0 (29, [.ref 20, .int 6], [.ref 46, .int 6, .ref 21], w14, 26, 164) _
  refine ar_dup (pc' := 30) hM rfl rfl rfl ?_
  refine ar_special (pc' := 33) (k3 := 29) (k4 := 182) hM rfl (by decide) rfl rfl (n_X6 w14 46 (by omega) hL14 hc14) (fun r15 w15 q15 => ?_)
  obtain ⟨rfl, hL15, hw15, hp15⟩ := q15
  have hs15 : am_same (ge3 20 21 46) w14 w15 := (am_same.rf : am_same (ge3 20 21 46) w14 w14).tr (hw15.mono (fun b hb => Or.inr (Or.inr hb)))
  have ts15 : am_same (ge_ 20) w w15 := (ts14).tr (hs15.mono (fun b hb => by unfold ge3 at hb; unfold ge_; omega))
  have f15_20 : w15[20]? = some (.inr (0, [.ref 21, .int 0, .int 0])) := hw15.at (by unfold ge_; omega) f14_20
  have f15_21 : w15[21]? = some (.inl (2, 14, .inr (va_up (va_up (va_up (va_up (va_up (va_up (fun _ => none) 0 (some 22)) 1 (some 26)) 2 (some 30)) 3 (some 34)) 4 (some 38)) 5 (some 42)))) := hw15.at (by unfold ge_; omega) f14_21
  have rs15 : ∀ i, i < 6 → c_R w15 (22 + 4 * i) := c_Rs_s rs14 hs15 (fun b hb => by unfold ge3 at hb; omega)
  have rt15 : ∀ i, i < 7 → c_R w15 (22 + 4 * i) := c_Rs_n rs15 hp15.r
  show am_Go 0 (33, [.ref 20, .int 6], [.ref 46, .int 6, .ref 21], w15, 29, 182) _
  refine ar_aastoreF (j := 6) (pc' := 34) hM rfl f15_21 hp15.o (by decide) (by decide) (by decide) (by decide) (by decide) rfl ?_
  show am_Go 0 (34, [.ref 20, .int 6], [], (w15.set 21 (.inl (2, 14, .inr (va_up (va_up (va_up (va_up (va_up (va_up (va_up (fun _ => none) 0 (some 22)) 1 (some 26)) 2 (some 30)) 3 (some 34)) 4 (some 38)) 5 (some 42)) 6 (some 46))))), 29, 182) _
  refine ar_iinc (z := 7) (pc' := 37) hM rfl rfl (by decide) rfl rfl rfl ?_
  refine ar_goto hM rfl ?_
  refine ar_iload_n (pc' := 16) hM rfl rfl rfl ?_
  refine ar_bipush (x := 14) (pc' := 18) hM rfl (by decide) rfl ?_
  refine ar_icmp_ge (pc' := 21) hM rfl rfl (fun q => absurd q (by decide)) (fun _ => ?_)
  refine ar_aload_n (pc' := 22) hM rfl rfl rfl ?_
  refine ar_getfield (pc' := 25) hM rfl (am_gn (by decide) f15_20) rfl rfl ?_
  refine ar_iload_n (pc' := 26) hM rfl rfl rfl ?_
  refine ar_newF (pc' := 29) (k3 := 30) (k4 := 188) (L := 50) hM rfl rfl rfl rfl (Nat.le_of_ble_eq_true rfl) (Nat.le_of_ble_eq_true rfl) rfl (List.length_set.trans hL15) (fun w16 hL16 hw16 hc16 => ?_)
  have hs16 : am_same (ge3 20 21 50) w15 w16 := ((am_same.set am_same.rf (by unfold ge3; omega)) : am_same (ge3 20 21 50) w15 (w15.set 21 (.inl (2, 14, .inr (va_up (va_up (va_up (va_up (va_up (va_up (va_up (fun _ => none) 0 (some 22)) 1 (some 26)) 2 (some 30)) 3 (some 34)) 4 (some 38)) 5 (some 42)) 6 (some 46)))))).tr (hw16.mono (fun b hb => Or.inr (Or.inr hb)))
  have ts16 : am_same (ge_ 20) w w16 := (ts15).tr (hs16.mono (fun b hb => by unfold ge3 at hb; unfold ge_; omega))
  have f16_20 : w16[20]? = some (.inr (0, [.ref 21, .int 0, .int 0])) := hw16.at (by unfold ge_; omega) (am_gn (by decide) f15_20)
  have f16_21 : w16[21]? = some (.inl (2, 14, .inr (va_up (va_up (va_up (va_up (va_up (va_up (va_up (fun _ => none) 0 (some 22)) 1 (some 26)) 2 (some 30)) 3 (some 34)) 4 (some 38)) 5 (some 42)) 6 (some 46)))) := hw16.at (by unfold ge_; omega) (am_gs f15_21)
  have rs16 : ∀ i, i < 7 → c_R w16 (22 + 4 * i) := c_Rs_s rt15 hs16 (fun b hb => by unfold ge3 at hb; omega)
  show am_Go 0 (29, [.ref 20, .int 7], [.ref 50, .int 7, .ref 21], w16, 30, 188) _
  refine ar_dup (pc' := 30) hM rfl rfl rfl ?_
  refine ar_special (pc' := 33) (k3 := 33) (k4 := 206) hM rfl (by decide) rfl rfl (n_X6 w16 50 (by omega) hL16 hc16) (fun r17 w17 q17 => ?_)
  obtain ⟨rfl, hL17, hw17, hp17⟩ := q17
  have hs17 : am_same (ge3 20 21 50) w16 w17 := (am_same.rf : am_same (ge3 20 21 50) w16 w16).tr (hw17.mono (fun b hb => Or.inr (Or.inr hb)))
  have ts17 : am_same (ge_ 20) w w17 := (ts16).tr (hs17.mono (fun b hb => by unfold ge3 at hb; unfold ge_; omega))
  have f17_20 : w17[20]? = some (.inr (0, [.ref 21, .int 0, .int 0])) := hw17.at (by unfold ge_; omega) f16_20
  have f17_21 : w17[21]? = some (.inl (2, 14, .inr (va_up (va_up (va_up (va_up (va_up (va_up (va_up (fun _ => none) 0 (some 22)) 1 (some 26)) 2 (some 30)) 3 (some 34)) 4 (some 38)) 5 (some 42)) 6 (some 46)))) := hw17.at (by unfold ge_; omega) f16_21
  have rs17 : ∀ i, i < 7 → c_R w17 (22 + 4 * i) := c_Rs_s rs16 hs17 (fun b hb => by unfold ge3 at hb; omega)
  have rt17 : ∀ i, i < 8 → c_R w17 (22 + 4 * i) := c_Rs_n rs17 hp17.r
  show am_Go 0 (33, [.ref 20, .int 7], [.ref 50, .int 7, .ref 21], w17, 33, 206) _
  refine ar_aastoreF (j := 7) (pc' := 34) hM rfl f17_21 hp17.o (by decide) (by decide) (by decide) (by decide) (by decide) rfl ?_
  show am_Go 0 (34, [.ref 20, .int 7], [], (w17.set 21 (.inl (2, 14, .inr (va_up (va_up (va_up (va_up (va_up (va_up (va_up (va_up (fun _ => none) 0 (some 22)) 1 (some 26)) 2 (some 30)) 3 (some 34)) 4 (some 38)) 5 (some 42)) 6 (some 46)) 7 (some 50))))), 33, 206) _
  refine ar_iinc (z := 8) (pc' := 37) hM rfl rfl (by decide) rfl rfl rfl ?_
  refine ar_goto hM rfl ?_
  refine ar_iload_n (pc' := 16) hM rfl rfl rfl ?_
  refine ar_bipush (x := 14) (pc' := 18) hM rfl (by decide) rfl ?_
  refine ar_icmp_ge (pc' := 21) hM rfl rfl (fun q => absurd q (by decide)) (fun _ => ?_)
  refine ar_aload_n (pc' := 22) hM rfl rfl rfl ?_
  refine ar_getfield (pc' := 25) hM rfl (am_gn (by decide) f17_20) rfl rfl ?_
  refine ar_iload_n (pc' := 26) hM rfl rfl rfl ?_
  refine ar_newF (pc' := 29) (k3 := 34) (k4 := 212) (L := 54) hM rfl rfl rfl rfl (Nat.le_of_ble_eq_true rfl) (Nat.le_of_ble_eq_true rfl) rfl (List.length_set.trans hL17) (fun w18 hL18 hw18 hc18 => ?_)
  have hs18 : am_same (ge3 20 21 54) w17 w18 := ((am_same.set am_same.rf (by unfold ge3; omega)) : am_same (ge3 20 21 54) w17 (w17.set 21 (.inl (2, 14, .inr (va_up (va_up (va_up (va_up (va_up (va_up (va_up (va_up (fun _ => none) 0 (some 22)) 1 (some 26)) 2 (some 30)) 3 (some 34)) 4 (some 38)) 5 (some 42)) 6 (some 46)) 7 (some 50)))))).tr (hw18.mono (fun b hb => Or.inr (Or.inr hb)))
  have ts18 : am_same (ge_ 20) w w18 := (ts17).tr (hs18.mono (fun b hb => by unfold ge3 at hb; unfold ge_; omega))
  have f18_20 : w18[20]? = some (.inr (0, [.ref 21, .int 0, .int 0])) := hw18.at (by unfold ge_; omega) (am_gn (by decide) f17_20)
  have f18_21 : w18[21]? = some (.inl (2, 14, .inr (va_up (va_up (va_up (va_up (va_up (va_up (va_up (va_up (fun _ => none) 0 (some 22)) 1 (some 26)) 2 (some 30)) 3 (some 34)) 4 (some 38)) 5 (some 42)) 6 (some 46)) 7 (some 50)))) := hw18.at (by unfold ge_; omega) (am_gs f17_21)
  have rs18 : ∀ i, i < 8 → c_R w18 (22 + 4 * i) := c_Rs_s rt17 hs18 (fun b hb => by unfold ge3 at hb; omega)
  show am_Go 0 (29, [.ref 20, .int 8], [.ref 54, .int 8, .ref 21], w18, 34, 212) _
  refine ar_dup (pc' := 30) hM rfl rfl rfl ?_
  refine ar_special (pc' := 33) (k3 := 37) (k4 := 230) hM rfl (by decide) rfl rfl (n_X6 w18 54 (by omega) hL18 hc18) (fun r19 w19 q19 => ?_)
  obtain ⟨rfl, hL19, hw19, hp19⟩ := q19
  have hs19 : am_same (ge3 20 21 54) w18 w19 := (am_same.rf : am_same (ge3 20 21 54) w18 w18).tr (hw19.mono (fun b hb => Or.inr (Or.inr hb)))
  have ts19 : am_same (ge_ 20) w w19 := (ts18).tr (hs19.mono (fun b hb => by unfold ge3 at hb; unfold ge_; omega))
  have f19_20 : w19[20]? = some (.inr (0, [.ref 21, .int 0, .int 0])) := hw19.at (by unfold ge_; omega) f18_20
  have f19_21 : w19[21]? = some (.inl (2, 14, .inr (va_up (va_up (va_up (va_up (va_up (va_up (va_up (va_up (fun _ => none) 0 (some 22)) 1 (some 26)) 2 (some 30)) 3 (some 34)) 4 (some 38)) 5 (some 42)) 6 (some 46)) 7 (some 50)))) := hw19.at (by unfold ge_; omega) f18_21
  have rs19 : ∀ i, i < 8 → c_R w19 (22 + 4 * i) := c_Rs_s rs18 hs19 (fun b hb => by unfold ge3 at hb; omega)
  have rt19 : ∀ i, i < 9 → c_R w19 (22 + 4 * i) := c_Rs_n rs19 hp19.r
  show am_Go 0 (33, [.ref 20, .int 8], [.ref 54, .int 8, .ref 21], w19, 37, 230) _
  refine ar_aastoreF (j := 8) (pc' := 34) hM rfl f19_21 hp19.o (by decide) (by decide) (by decide) (by decide) (by decide) rfl ?_
  show am_Go 0 (34, [.ref 20, .int 8], [], (w19.set 21 (.inl (2, 14, .inr (va_up (va_up (va_up (va_up (va_up (va_up (va_up (va_up (va_up (fun _ => none) 0 (some 22)) 1 (some 26)) 2 (some 30)) 3 (some 34)) 4 (some 38)) 5 (some 42)) 6 (some 46)) 7 (some 50)) 8 (some 54))))), 37, 230) _
  refine ar_iinc (z := 9) (pc' := 37) hM rfl rfl (by decide) rfl rfl rfl ?_
  refine ar_goto hM rfl ?_
  refine ar_iload_n (pc' := 16) hM rfl rfl rfl ?_
  refine ar_bipush (x := 14) (pc' := 18) hM rfl (by decide) rfl ?_
  refine ar_icmp_ge (pc' := 21) hM rfl rfl (fun q => absurd q (by decide)) (fun _ => ?_)
  refine ar_aload_n (pc' := 22) hM rfl rfl rfl ?_
  refine ar_getfield (pc' := 25) hM rfl (am_gn (by decide) f19_20) rfl rfl ?_
  refine ar_iload_n (pc' := 26) hM rfl rfl rfl ?_
  refine ar_newF (pc' := 29) (k3 := 38) (k4 := 236) (L := 58) hM rfl rfl rfl rfl (Nat.le_of_ble_eq_true rfl) (Nat.le_of_ble_eq_true rfl) rfl (List.length_set.trans hL19) (fun w20 hL20 hw20 hc20 => ?_)
  have hs20 : am_same (ge3 20 21 58) w19 w20 := ((am_same.set am_same.rf (by unfold ge3; omega)) : am_same (ge3 20 21 58) w19 (w19.set 21 (.inl (2, 14, .inr (va_up (va_up (va_up (va_up (va_up (va_up (va_up (va_up (va_up (fun _ => none) 0 (some 22)) 1 (some 26)) 2 (some 30)) 3 (some 34)) 4 (some 38)) 5 (some 42)) 6 (some 46)) 7 (some 50)) 8 (some 54)))))).tr (hw20.mono (fun b hb => Or.inr (Or.inr hb)))
  have ts20 : am_same (ge_ 20) w w20 := (ts19).tr (hs20.mono (fun b hb => by unfold ge3 at hb; unfold ge_; omega))
  have f20_20 : w20[20]? = some (.inr (0, [.ref 21, .int 0, .int 0])) := hw20.at (by unfold ge_; omega) (am_gn (by decide) f19_20)
  have f20_21 : w20[21]? = some (.inl (2, 14, .inr (va_up (va_up (va_up (va_up (va_up (va_up (va_up (va_up (va_up (fun _ => none) 0 (some 22)) 1 (some 26)) 2 (some 30)) 3 (some 34)) 4 (some 38)) 5 (some 42)) 6 (some 46)) 7 (some 50)) 8 (some 54)))) := hw20.at (by unfold ge_; omega) (am_gs f19_21)
  have rs20 : ∀ i, i < 9 → c_R w20 (22 + 4 * i) := c_Rs_s rt19 hs20 (fun b hb => by unfold ge3 at hb; omega)
  show am_Go 0 (29, [.ref 20, .int 9], [.ref 58, .int 9, .ref 21], w20, 38, 236) _
  refine ar_dup (pc' := 30) hM rfl rfl rfl ?_
  refine ar_special (pc' := 33) (k3 := 41) (k4 := 254) hM rfl (by decide) rfl rfl (n_X6 w20 58 (by omega) hL20 hc20) (fun r21 w21 q21 => ?_)
  obtain ⟨rfl, hL21, hw21, hp21⟩ := q21
  have hs21 : am_same (ge3 20 21 58) w20 w21 := (am_same.rf : am_same (ge3 20 21 58) w20 w20).tr (hw21.mono (fun b hb => Or.inr (Or.inr hb)))
  have ts21 : am_same (ge_ 20) w w21 := (ts20).tr (hs21.mono (fun b hb => by unfold ge3 at hb; unfold ge_; omega))
  have f21_20 : w21[20]? = some (.inr (0, [.ref 21, .int 0, .int 0])) := hw21.at (by unfold ge_; omega) f20_20
  have f21_21 : w21[21]? = some (.inl (2, 14, .inr (va_up (va_up (va_up (va_up (va_up (va_up (va_up (va_up (va_up (fun _ => none) 0 (some 22)) 1 (some 26)) 2 (some 30)) 3 (some 34)) 4 (some 38)) 5 (some 42)) 6 (some 46)) 7 (some 50)) 8 (some 54)))) := hw21.at (by unfold ge_; omega) f20_21
  have rs21 : ∀ i, i < 9 → c_R w21 (22 + 4 * i) := c_Rs_s rs20 hs21 (fun b hb => by unfold ge3 at hb; omega)
  have rt21 : ∀ i, i < 10 → c_R w21 (22 + 4 * i) := c_Rs_n rs21 hp21.r
  show am_Go 0 (33, [.ref 20, .int 9], [.ref 58, .int 9, .ref 21], w21, 41, 254) _
  refine ar_aastoreF (j := 9) (pc' := 34) hM rfl f21_21 hp21.o (by decide) (by decide) (by decide) (by decide) (by decide) rfl ?_
  show am_Go 0 (34, [.ref 20, .int 9], [], (w21.set 21 (.inl (2, 14, .inr (va_up (va_up (va_up (va_up (va_up (va_up (va_up (va_up (va_up (va_up (fun _ => none) 0 (some 22)) 1 (some 26)) 2 (some 30)) 3 (some 34)) 4 (some 38)) 5 (some 42)) 6 (some 46)) 7 (some 50)) 8 (some 54)) 9 (some 58))))), 41, 254) _
  refine ar_iinc (z := 10) (pc' := 37) hM rfl rfl (by decide) rfl rfl rfl ?_
  refine ar_goto hM rfl ?_
  refine ar_iload_n (pc' := 16) hM rfl rfl rfl ?_
  refine ar_bipush (x := 14) (pc' := 18) hM rfl (by decide) rfl ?_
  refine ar_icmp_ge (pc' := 21) hM rfl rfl (fun q => absurd q (by decide)) (fun _ => ?_)
  refine ar_aload_n (pc' := 22) hM rfl rfl rfl ?_
  refine ar_getfield (pc' := 25) hM rfl (am_gn (by decide) f21_20) rfl rfl ?_
  refine ar_iload_n (pc' := 26) hM rfl rfl rfl ?_
  refine ar_newF (pc' := 29) (k3 := 42) (k4 := 260) (L := 62) hM rfl rfl rfl rfl (Nat.le_of_ble_eq_true rfl) (Nat.le_of_ble_eq_true rfl) rfl (List.length_set.trans hL21) (fun w22 hL22 hw22 hc22 => ?_)
  have hs22 : am_same (ge3 20 21 62) w21 w22 := ((am_same.set am_same.rf (by unfold ge3; omega)) : am_same (ge3 20 21 62) w21 (w21.set 21 (.inl (2, 14, .inr (va_up (va_up (va_up (va_up (va_up (va_up (va_up (va_up (va_up (va_up (fun _ => none) 0 (some 22)) 1 (some 26)) 2 (some 30)) 3 (some 34)) 4 (some 38)) 5 (some 42)) 6 (some 46)) 7 (some 50)) 8 (some 54)) 9 (some 58)))))).tr (hw22.mono (fun b hb => Or.inr (Or.inr hb)))
  have ts22 : am_same (ge_ 20) w w22 := (ts21).tr (hs22.mono (fun b hb => by unfold ge3 at hb; unfold ge_; omega))
  have f22_20 : w22[20]? = some (.inr (0, [.ref 21, .int 0, .int 0])) := hw22.at (by unfold ge_; omega) (am_gn (by decide) f21_20)
  have f22_21 : w22[21]? = some (.inl (2, 14, .inr (va_up (va_up (va_up (va_up (va_up (va_up (va_up (va_up (va_up (va_up (fun _ => none) 0 (some 22)) 1 (some 26)) 2 (some 30)) 3 (some 34)) 4 (some 38)) 5 (some 42)) 6 (some 46)) 7 (some 50)) 8 (some 54)) 9 (some 58)))) := hw22.at (by unfold ge_; omega) (am_gs f21_21)
  have rs22 : ∀ i, i < 10 → c_R w22 (22 + 4 * i) := c_Rs_s rt21 hs22 (fun b hb => by unfold ge3 at hb; omega)
  show am_Go 0 (29, [.ref 20, .int 10], [.ref 62, .int 10, .ref 21], w22, 42, 260) _
  refine ar_dup (pc' := 30) hM rfl rfl rfl ?_
  refine ar_special (pc' := 33) (k3 := 45) (k4 := 278) hM rfl (by decide) rfl rfl (n_X6 w22 62 (by omega) hL22 hc22) (fun r23 w23 q23 => ?_)
  obtain ⟨rfl, hL23, hw23, hp23⟩ := q23
  have hs23 : am_same (ge3 20 21 62) w22 w23 := (am_same.rf : am_same (ge3 20 21 62) w22 w22).tr (hw23.mono (fun b hb => Or.inr (Or.inr hb)))
  have ts23 : am_same (ge_ 20) w w23 := (ts22).tr (hs23.mono (fun b hb => by unfold ge3 at hb; unfold ge_; omega))
  have f23_20 : w23[20]? = some (.inr (0, [.ref 21, .int 0, .int 0])) := hw23.at (by unfold ge_; omega) f22_20
  have f23_21 : w23[21]? = some (.inl (2, 14, .inr (va_up (va_up (va_up (va_up (va_up (va_up (va_up (va_up (va_up (va_up (fun _ => none) 0 (some 22)) 1 (some 26)) 2 (some 30)) 3 (some 34)) 4 (some 38)) 5 (some 42)) 6 (some 46)) 7 (some 50)) 8 (some 54)) 9 (some 58)))) := hw23.at (by unfold ge_; omega) f22_21
  have rs23 : ∀ i, i < 10 → c_R w23 (22 + 4 * i) := c_Rs_s rs22 hs23 (fun b hb => by unfold ge3 at hb; omega)
  have rt23 : ∀ i, i < 11 → c_R w23 (22 + 4 * i) := c_Rs_n rs23 hp23.r
  show am_Go 0 (33, [.ref 20, .int 10], [.ref 62, .int 10, .ref 21], w23, 45, 278) _
  refine ar_aastoreF (j := 10) (pc' := 34) hM rfl f23_21 hp23.o (by decide) (by decide) (by decide) (by decide) (by decide) rfl ?_
  show am_Go 0 (34, [.ref 20, .int 10], [], (w23.set 21 (.inl (2, 14, .inr (va_up (va_up (va_up (va_up (va_up (va_up (va_up (va_up (va_up (va_up (va_up (fun _ => none) 0 (some 22)) 1 (some 26)) 2 (some 30)) 3 (some 34)) 4 (some 38)) 5 (some 42)) 6 (some 46)) 7 (some 50)) 8 (some 54)) 9 (some 58)) 10 (some 62))))), 45, 278) _
  refine ar_iinc (z := 11) (pc' := 37) hM rfl rfl (by decide) rfl rfl rfl ?_
  refine ar_goto hM rfl ?_
  refine ar_iload_n (pc' := 16) hM rfl rfl rfl ?_
  refine ar_bipush (x := 14) (pc' := 18) hM rfl (by decide) rfl ?_
  refine ar_icmp_ge (pc' := 21) hM rfl rfl (fun q => absurd q (by decide)) (fun _ => ?_)
  refine ar_aload_n (pc' := 22) hM rfl rfl rfl ?_
  refine ar_getfield (pc' := 25) hM rfl (am_gn (by decide) f23_20) rfl rfl ?_
  refine ar_iload_n (pc' := 26) hM rfl rfl rfl ?_
  refine ar_newF (pc' := 29) (k3 := 46) (k4 := 284) (L := 66) hM rfl rfl rfl rfl (Nat.le_of_ble_eq_true rfl) (Nat.le_of_ble_eq_true rfl) rfl (List.length_set.trans hL23) (fun w24 hL24 hw24 hc24 => ?_)
  have hs24 : am_same (ge3 20 21 66) w23 w24 := ((am_same.set am_same.rf (by unfold ge3; omega)) : am_same (ge3 20 21 66) w23 (w23.set 21 (.inl (2, 14, .inr (va_up (va_up (va_up (va_up (va_up (va_up (va_up (va_up (va_up (va_up (va_up (fun _ => none) 0 (some 22)) 1 (some 26)) 2 (some 30)) 3 (some 34)) 4 (some 38)) 5 (some 42)) 6 (some 46)) 7 (some 50)) 8 (some 54)) 9 (some 58)) 10 (some 62)))))).tr (hw24.mono (fun b hb => Or.inr (Or.inr hb)))
  have ts24 : am_same (ge_ 20) w w24 := (ts23).tr (hs24.mono (fun b hb => by unfold ge3 at hb; unfold ge_; omega))
  have f24_20 : w24[20]? = some (.inr (0, [.ref 21, .int 0, .int 0])) := hw24.at (by unfold ge_; omega) (am_gn (by decide) f23_20)
  have f24_21 : w24[21]? = some (.inl (2, 14, .inr (va_up (va_up (va_up (va_up (va_up (va_up (va_up (va_up (va_up (va_up (va_up (fun _ => none) 0 (some 22)) 1 (some 26)) 2 (some 30)) 3 (some 34)) 4 (some 38)) 5 (some 42)) 6 (some 46)) 7 (some 50)) 8 (some 54)) 9 (some 58)) 10 (some 62)))) := hw24.at (by unfold ge_; omega) (am_gs f23_21)
  have rs24 : ∀ i, i < 11 → c_R w24 (22 + 4 * i) := c_Rs_s rt23 hs24 (fun b hb => by unfold ge3 at hb; omega)
  show am_Go 0 (29, [.ref 20, .int 11], [.ref 66, .int 11, .ref 21], w24, 46, 284) _
  refine ar_dup (pc' := 30) hM rfl rfl rfl ?_
  refine ar_special (pc' := 33) (k3 := 49) (k4 := 302) hM rfl (by decide) rfl rfl (n_X6 w24 66 (by omega) hL24 hc24) (fun r25 w25 q25 => ?_)
  obtain ⟨rfl, hL25, hw25, hp25⟩ := q25
  have hs25 : am_same (ge3 20 21 66) w24 w25 := (am_same.rf : am_same (ge3 20 21 66) w24 w24).tr (hw25.mono (fun b hb => Or.inr (Or.inr hb)))
  have ts25 : am_same (ge_ 20) w w25 := (ts24).tr (hs25.mono (fun b hb => by unfold ge3 at hb; unfold ge_; omega))
  have f25_20 : w25[20]? = some (.inr (0, [.ref 21, .int 0, .int 0])) := hw25.at (by unfold ge_; omega) f24_20
  have f25_21 : w25[21]? = some (.inl (2, 14, .inr (va_up (va_up (va_up (va_up (va_up (va_up (va_up (va_up (va_up (va_up (va_up (fun _ => none) 0 (some 22)) 1 (some 26)) 2 (some 30)) 3 (some 34)) 4 (some 38)) 5 (some 42)) 6 (some 46)) 7 (some 50)) 8 (some 54)) 9 (some 58)) 10 (some 62)))) := hw25.at (by unfold ge_; omega) f24_21
  have rs25 : ∀ i, i < 11 → c_R w25 (22 + 4 * i) := c_Rs_s rs24 hs25 (fun b hb => by unfold ge3 at hb; omega)
  have rt25 : ∀ i, i < 12 → c_R w25 (22 + 4 * i) := c_Rs_n rs25 hp25.r
  show am_Go 0 (33, [.ref 20, .int 11], [.ref 66, .int 11, .ref 21], w25, 49, 302) _
  refine ar_aastoreF (j := 11) (pc' := 34) hM rfl f25_21 hp25.o (by decide) (by decide) (by decide) (by decide) (by decide) rfl ?_
  show am_Go 0 (34, [.ref 20, .int 11], [], (w25.set 21 (.inl (2, 14, .inr (va_up (va_up (va_up (va_up (va_up (va_up (va_up (va_up (va_up (va_up (va_up (va_up (fun _ => none) 0 (some 22)) 1 (some 26)) 2 (some 30)) 3 (some 34)) 4 (some 38)) 5 (some 42)) 6 (some 46)) 7 (some 50)) 8 (some 54)) 9 (some 58)) 10 (some 62)) 11 (some 66))))), 49, 302) _
  refine ar_iinc (z := 12) (pc' := 37) hM rfl rfl (by decide) rfl rfl rfl ?_
  refine ar_goto hM rfl ?_
  refine ar_iload_n (pc' := 16) hM rfl rfl rfl ?_
  refine ar_bipush (x := 14) (pc' := 18) hM rfl (by decide) rfl ?_
  refine ar_icmp_ge (pc' := 21) hM rfl rfl (fun q => absurd q (by decide)) (fun _ => ?_)
  refine ar_aload_n (pc' := 22) hM rfl rfl rfl ?_
  refine ar_getfield (pc' := 25) hM rfl (am_gn (by decide) f25_20) rfl rfl ?_
  refine ar_iload_n (pc' := 26) hM rfl rfl rfl ?_
  refine ar_newF (pc' := 29) (k3 := 50) (k4 := 308) (L := 70) hM rfl rfl rfl rfl (Nat.le_of_ble_eq_true rfl) (Nat.le_of_ble_eq_true rfl) rfl (List.length_set.trans hL25) (fun w26 hL26 hw26 hc26 => ?_)
  have hs26 : am_same (ge3 20 21 70) w25 w26 := ((am_same.set am_same.rf (by unfold ge3; omega)) : am_same (ge3 20 21 70) w25 (w25.set 21 (.inl (2, 14, .inr (va_up (va_up (va_up (va_up (va_up (va_up (va_up (va_up (va_up (va_up (va_up (va_up (fun _ => none) 0 (some 22)) 1 (some 26)) 2 (some 30)) 3 (some 34)) 4 (some 38)) 5 (some 42)) 6 (some 46)) 7 (some 50)) 8 (some 54)) 9 (some 58)) 10 (some 62)) 11 (some 66)))))).tr (hw26.mono (fun b hb => Or.inr (Or.inr hb)))
  have ts26 : am_same (ge_ 20) w w26 := (ts25).tr (hs26.mono (fun b hb => by unfold ge3 at hb; unfold ge_; omega))
  have f26_20 : w26[20]? = some (.inr (0, [.ref 21, .int 0, .int 0])) := hw26.at (by unfold ge_; omega) (am_gn (by decide) f25_20)
  have f26_21 : w26[21]? = some (.inl (2, 14, .inr (va_up (va_up (va_up (va_up (va_up (va_up (va_up (va_up (va_up (va_up (va_up (va_up (fun _ => none) 0 (some 22)) 1 (some 26)) 2 (some 30)) 3 (some 34)) 4 (some 38)) 5 (some 42)) 6 (some 46)) 7 (some 50)) 8 (some 54)) 9 (some 58)) 10 (some 62)) 11 (some 66)))) := hw26.at (by unfold ge_; omega) (am_gs f25_21)
  have rs26 : ∀ i, i < 12 → c_R w26 (22 + 4 * i) := c_Rs_s rt25 hs26 (fun b hb => by unfold ge3 at hb; omega)
  show am_Go 0 (29, [.ref 20, .int 12], [.ref 70, .int 12, .ref 21], w26, 50, 308) _
  refine ar_dup (pc' := 30) hM rfl rfl rfl ?_
  refine ar_special (pc' := 33) (k3 := 53) (k4 := 326) hM rfl (by decide) rfl rfl (n_X6 w26 70 (by omega) hL26 hc26) (fun r27 w27 q27 => ?_)
  obtain ⟨rfl, hL27, hw27, hp27⟩ := q27
  have hs27 : am_same (ge3 20 21 70) w26 w27 := (am_same.rf : am_same (ge3 20 21 70) w26 w26).tr (hw27.mono (fun b hb => Or.inr (Or.inr hb)))
  have ts27 : am_same (ge_ 20) w w27 := (ts26).tr (hs27.mono (fun b hb => by unfold ge3 at hb; unfold ge_; omega))
  have f27_20 : w27[20]? = some (.inr (0, [.ref 21, .int 0, .int 0])) := hw27.at (by unfold ge_; omega) f26_20
  have f27_21 : w27[21]? = some (.inl (2, 14, .inr (va_up (va_up (va_up (va_up (va_up (va_up (va_up (va_up (va_up (va_up (va_up (va_up (fun _ => none) 0 (some 22)) 1 (some 26)) 2 (some 30)) 3 (some 34)) 4 (some 38)) 5 (some 42)) 6 (some 46)) 7 (some 50)) 8 (some 54)) 9 (some 58)) 10 (some 62)) 11 (some 66)))) := hw27.at (by unfold ge_; omega) f26_21
  have rs27 : ∀ i, i < 12 → c_R w27 (22 + 4 * i) := c_Rs_s rs26 hs27 (fun b hb => by unfold ge3 at hb; omega)
  have rt27 : ∀ i, i < 13 → c_R w27 (22 + 4 * i) := c_Rs_n rs27 hp27.r
  show am_Go 0 (33, [.ref 20, .int 12], [.ref 70, .int 12, .ref 21], w27, 53, 326) _
  refine ar_aastoreF (j := 12) (pc' := 34) hM rfl f27_21 hp27.o (by decide) (by decide) (by decide) (by decide) (by decide) rfl ?_
  show am_Go 0 (34, [.ref 20, .int 12], [], (w27.set 21 (.inl (2, 14, .inr (va_up (va_up (va_up (va_up (va_up (va_up (va_up (va_up (va_up (va_up (va_up (va_up (va_up (fun _ => none) 0 (some 22)) 1 (some 26)) 2 (some 30)) 3 (some 34)) 4 (some 38)) 5 (some 42)) 6 (some 46)) 7 (some 50)) 8 (some 54)) 9 (some 58)) 10 (some 62)) 11 (some 66)) 12 (some 70))))), 53, 326) _
  refine ar_iinc (z := 13) (pc' := 37) hM rfl rfl (by decide) rfl rfl rfl ?_
  refine ar_goto hM rfl ?_
  refine ar_iload_n (pc' := 16) hM rfl rfl rfl ?_
  refine ar_bipush (x := 14) (pc' := 18) hM rfl (by decide) rfl ?_
  refine ar_icmp_ge (pc' := 21) hM rfl rfl (fun q => absurd q (by decide)) (fun _ => ?_)
  refine ar_aload_n (pc' := 22) hM rfl rfl rfl ?_
  refine ar_getfield (pc' := 25) hM rfl (am_gn (by decide) f27_20) rfl rfl ?_
  refine ar_iload_n (pc' := 26) hM rfl rfl rfl ?_
  refine ar_newF (pc' := 29) (k3 := 54) (k4 := 332) (L := 74) hM rfl rfl rfl rfl (Nat.le_of_ble_eq_true rfl) (Nat.le_of_ble_eq_true rfl) rfl (List.length_set.trans hL27) (fun w28 hL28 hw28 hc28 => ?_)
  have hs28 : am_same (ge3 20 21 74) w27 w28 := ((am_same.set am_same.rf (by unfold ge3; omega)) : am_same (ge3 20 21 74) w27 (w27.set 21 (.inl (2, 14, .inr (va_up (va_up (va_up (va_up (va_up (va_up (va_up (va_up (va_up (va_up (va_up (va_up (va_up (fun _ => none) 0 (some 22)) 1 (some 26)) 2 (some 30)) 3 (some 34)) 4 (some 38)) 5 (some 42)) 6 (some 46)) 7 (some 50)) 8 (some 54)) 9 (some 58)) 10 (some 62)) 11 (some 66)) 12 (some 70)))))).tr (hw28.mono (fun b hb => Or.inr (Or.inr hb)))
  have ts28 : am_same (ge_ 20) w w28 := (ts27).tr (hs28.mono (fun b hb => by unfold ge3 at hb; unfold ge_; omega))
  have f28_20 : w28[20]? = some (.inr (0, [.ref 21, .int 0, .int 0])) := hw28.at (by unfold ge_; omega) (am_gn (by decide) f27_20)
  have f28_21 : w28[21]? = some (.inl (2, 14, .inr (va_up (va_up (va_up (va_up (va_up (va_up (va_up (va_up (va_up (va_up (va_up (va_up (va_up (fun _ => none) 0 (some 22)) 1 (some 26)) 2 (some 30)) 3 (some 34)) 4 (some 38)) 5 (some 42)) 6 (some 46)) 7 (some 50)) 8 (some 54)) 9 (some 58)) 10 (some 62)) 11 (some 66)) 12 (some 70)))) := hw28.at (by unfold ge_; omega) (am_gs f27_21)
  have rs28 : ∀ i, i < 13 → c_R w28 (22 + 4 * i) := c_Rs_s rt27 hs28 (fun b hb => by unfold ge3 at hb; omega)
  show am_Go 0 (29, [.ref 20, .int 13], [.ref 74, .int 13, .ref 21], w28, 54, 332) _
  refine ar_dup (pc' := 30) hM rfl rfl rfl ?_
  refine ar_special (pc' := 33) (k3 := 57) (k4 := 350) hM rfl (by decide) rfl rfl (n_X6 w28 74 (by omega) hL28 hc28) (fun r29 w29 q29 => ?_)
  obtain ⟨rfl, hL29, hw29, hp29⟩ := q29
  have hs29 : am_same (ge3 20 21 74) w28 w29 := (am_same.rf : am_same (ge3 20 21 74) w28 w28).tr (hw29.mono (fun b hb => Or.inr (Or.inr hb)))
  have ts29 : am_same (ge_ 20) w w29 := (ts28).tr (hs29.mono (fun b hb => by unfold ge3 at hb; unfold ge_; omega))
  have f29_20 : w29[20]? = some (.inr (0, [.ref 21, .int 0, .int 0])) := hw29.at (by unfold ge_; omega) f28_20
  have f29_21 : w29[21]? = some (.inl (2, 14, .inr (va_up (va_up (va_up (va_up (va_up (va_up (va_up (va_up (va_up (va_up (va_up (va_up (va_up (fun _ => none) 0 (some 22)) 1 (some 26)) 2 (some 30)) 3 (some 34)) 4 (some 38)) 5 (some 42)) 6 (some 46)) 7 (some 50)) 8 (some 54)) 9 (some 58)) 10 (some 62)) 11 (some 66)) 12 (some 70)))) := hw29.at (by unfold ge_; omega) f28_21
  have rs29 : ∀ i, i < 13 → c_R w29 (22 + 4 * i) := c_Rs_s rs28 hs29 (fun b hb => by unfold ge3 at hb; omega)
  have rt29 : ∀ i, i < 14 → c_R w29 (22 + 4 * i) := c_Rs_n rs29 hp29.r
  show am_Go 0 (33, [.ref 20, .int 13], [.ref 74, .int 13, .ref 21], w29, 57, 350) _
  refine ar_aastoreF (j := 13) (pc' := 34) hM rfl f29_21 hp29.o (by decide) (by decide) (by decide) (by decide) (by decide) rfl ?_
  show am_Go 0 (34, [.ref 20, .int 13], [], (w29.set 21 (.inl (2, 14, .inr (va_up (va_up (va_up (va_up (va_up (va_up (va_up (va_up (va_up (va_up (va_up (va_up (va_up (va_up (fun _ => none) 0 (some 22)) 1 (some 26)) 2 (some 30)) 3 (some 34)) 4 (some 38)) 5 (some 42)) 6 (some 46)) 7 (some 50)) 8 (some 54)) 9 (some 58)) 10 (some 62)) 11 (some 66)) 12 (some 70)) 13 (some 74))))), 57, 350) _
  refine ar_iinc (z := 14) (pc' := 37) hM rfl rfl (by decide) rfl rfl rfl ?_
  refine ar_goto hM rfl ?_
  refine ar_iload_n (pc' := 16) hM rfl rfl rfl ?_
  refine ar_bipush (x := 14) (pc' := 18) hM rfl (by decide) rfl ?_
  refine ar_icmp_ge (pc' := 21) hM rfl rfl (fun _ => ?_) (fun q => absurd (by decide) q)
  refine ar_aload_n (pc' := 41) hM rfl rfl rfl ?_
  refine ar_iconst (x := 0) (pc' := 42) hM rfl (by decide) rfl ?_
  refine ar_putfield (pc' := 45) hM rfl (am_gn (by decide) f29_20) (Nat.le_of_ble_eq_true rfl) rfl (by decide) rfl ?_
  show am_Go 0 (45, [.ref 20, .int 14], [], ((w29.set 21 (.inl (2, 14, .inr (va_up (va_up (va_up (va_up (va_up (va_up (va_up (va_up (va_up (va_up (va_up (va_up (va_up (va_up (fun _ => none) 0 (some 22)) 1 (some 26)) 2 (some 30)) 3 (some 34)) 4 (some 38)) 5 (some 42)) 6 (some 46)) 7 (some 50)) 8 (some 54)) 9 (some 58)) 10 (some 62)) 11 (some 66)) 12 (some 70)) 13 (some 74))))).set 20 (.inr (0, [.ref 21, .int 0, .int 0]))), 57, 350) _
  refine ar_aload_n (pc' := 46) hM rfl rfl rfl ?_
  refine ar_iconst (x := 0) (pc' := 47) hM rfl (by decide) rfl ?_
  refine ar_putfield (pc' := 50) hM rfl (am_gs (am_gn (by decide) f29_20)) (Nat.le_of_ble_eq_true rfl) rfl (by decide) rfl ?_
  show am_Go 0 (50, [.ref 20, .int 14], [], (((w29.set 21 (.inl (2, 14, .inr (va_up (va_up (va_up (va_up (va_up (va_up (va_up (va_up (va_up (va_up (va_up (va_up (va_up (va_up (fun _ => none) 0 (some 22)) 1 (some 26)) 2 (some 30)) 3 (some 34)) 4 (some 38)) 5 (some 42)) 6 (some 46)) 7 (some 50)) 8 (some 54)) 9 (some 58)) 10 (some 62)) 11 (some 66)) 12 (some 70)) 13 (some 74))))).set 20 (.inr (0, [.ref 21, .int 0, .int 0]))).set 20 (.inr (0, [.ref 21, .int 0, .int 0]))), 57, 350) _
  refine ar_return hM rfl ?_
  exact ⟨rfl, (List.length_set.trans (List.length_set.trans (List.length_set.trans hL29))), (am_same.set (am_same.set (am_same.set ts29 (by unfold ge_; omega)) (by unfold ge_; omega)) (by unfold ge_; omega)), ⟨Nat.zero_le _, 0, by decide, (am_gs (am_gs (am_gn (by decide) f29_20))), ⟨_, (am_gn (by decide) (am_gn (by decide) (am_gs f29_21))), by decide⟩, (c_Rs_s rt29 ((am_same.set (am_same.set (am_same.set am_same.rf (by unfold ge3; omega)) (by unfold ge3; omega)) (by unfold ge3; omega)) : am_same (ge3 20 21 78) w29 (((w29.set 21 (.inl (2, 14, .inr (va_up (va_up (va_up (va_up (va_up (va_up (va_up (va_up (va_up (va_up (va_up (va_up (va_up (va_up (fun _ => none) 0 (some 22)) 1 (some 26)) 2 (some 30)) 3 (some 34)) 4 (some 38)) 5 (some 42)) 6 (some 46)) 7 (some 50)) 8 (some 54)) 9 (some 58)) 10 (some 62)) 11 (some 66)) 12 (some 70)) 13 (some 74))))).set 20 (.inr (0, [.ref 21, .int 0, .int 0]))).set 20 (.inr (0, [.ref 21, .int 0, .int 0])))) (fun b hb => by unfold ge3 at hb; omega)), fun i S hi => by simp at hi⟩⟩
set_option maxRecDepth 100000 in
set_option maxHeartbeats 4000000 in
theorem n_X5 (w : am_W) (hL : w.length = 79) (ho : w[78]? = some (.inr (5, [.null, .int 0]))) : am_Go 35 (0, [.ref 78, .float 0], [], w, 0, 0) (fun res w' => res = none ∧ w'.length = 88 ∧ am_same (ge_ 78) w w' ∧ c_K w' 0 (fun _ => none)) := by
  have hM : am_P[35]? = some zm_X5_init := rfl
  refine ar_aload_n (pc' := 1) hM rfl rfl rfl ?_
  refine ar_super (pc' := 4) hM rfl (Nat.le_of_ble_eq_true rfl) rfl ?_
  show am_Go 35 (4, [.ref 78, .float 0], [], w, 0, 0) _
  refine ar_aload_n (pc' := 5) hM rfl rfl rfl ?_
  refine ar_iconst (x := 2) (pc' := 6) hM rfl (by decide) rfl ?_
  refine ar_newA (m := 2) (pc' := 9) (k3 := 1) (k4 := 2) (L := 79) hM rfl (by decide) (by decide) rfl rfl (Nat.le_of_ble_eq_true rfl) (Nat.le_of_ble_eq_true rfl) rfl hL (fun w1 hL1 hw1 hc1 => ?_)
  have hs1 : am_same (ge3 78 79 79) w w1 := (am_same.rf : am_same (ge3 78 79 79) w w).tr (hw1.mono (fun b hb => Or.inr (Or.inr hb)))
  have ts1 : am_same (ge_ 78) w w1 := (am_same.rf).tr (hs1.mono (fun b hb => by unfold ge3 at hb; unfold ge_; omega))
  have f1_78 : w1[78]? = some (.inr (5, [.null, .int 0])) := hw1.at (by unfold ge_; omega) ho
  have rs1 : ∀ i, i < 0 → c_R w1 (80 + 4 * i) := c_Rs_s (c_Rs_0 _ 80) hs1 (fun b hb => by unfold ge3 at hb; omega)
  show am_Go 35 (9, [.ref 78, .float 0], [.ref 79, .ref 78], w1, 1, 2) _
  refine ar_putfield (pc' := 12) hM rfl f1_78 (Nat.le_of_ble_eq_true rfl) rfl (by decide) rfl ?_
  show am_Go 35 (12, [.ref 78, .float 0], [], (w1.set 78 (.inr (5, [.ref 79, .int 0]))), 1, 2) _
  refine ar_iconst (x := 0) (pc' := 13) hM rfl (by decide) rfl ?_
  refine ar_istore_n (pc' := 14) hM rfl rfl rfl rfl ?_
  refine ar_iload_n (pc' := 15) hM rfl rfl rfl ?_
  refine ar_iconst (x := 2) (pc' := 16) hM rfl (by decide) rfl ?_
  refine ar_icmp_ge (pc' := 19) hM rfl rfl (fun q => absurd q (by decide)) (fun _ => ?_)
  refine ar_aload_n (pc' := 20) hM rfl rfl rfl ?_
  refine ar_getfield (pc' := 23) hM rfl (am_gs f1_78) rfl rfl ?_
  refine ar_iload_n (pc' := 24) hM rfl rfl rfl ?_
  refine ar_newF (pc' := 27) (k3 := 2) (k4 := 8) (L := 80) hM rfl rfl rfl rfl (Nat.le_of_ble_eq_true rfl) (Nat.le_of_ble_eq_true rfl) rfl (List.length_set.trans hL1) (fun w2 hL2 hw2 hc2 => ?_)
  have hs2 : am_same (ge3 78 79 80) w1 w2 := ((am_same.set am_same.rf (by unfold ge3; omega)) : am_same (ge3 78 79 80) w1 (w1.set 78 (.inr (5, [.ref 79, .int 0])))).tr (hw2.mono (fun b hb => Or.inr (Or.inr hb)))
  have ts2 : am_same (ge_ 78) w w2 := (ts1).tr (hs2.mono (fun b hb => by unfold ge3 at hb; unfold ge_; omega))
  have f2_78 : w2[78]? = some (.inr (5, [.ref 79, .int 0])) := hw2.at (by unfold ge_; omega) (am_gs f1_78)
  have f2_79 : w2[79]? = some (.inl (2, 2, .inr (fun _ => none))) := hw2.at (by unfold ge_; omega) (am_gn (by decide) hc1)
  have rs2 : ∀ i, i < 0 → c_R w2 (80 + 4 * i) := c_Rs_s rs1 hs2 (fun b hb => by unfold ge3 at hb; omega)
  show am_Go 35 (27, [.ref 78, .int 0], [.ref 80, .int 0, .ref 79], w2, 2, 8) _
  refine ar_dup (pc' := 28) hM rfl rfl rfl ?_
  refine ar_special (pc' := 31) (k3 := 5) (k4 := 26) hM rfl (by decide) rfl rfl (n_X6 w2 80 (by omega) hL2 hc2) (fun r3 w3 q3 => ?_)
  obtain ⟨rfl, hL3, hw3, hp3⟩ := q3
  have hs3 : am_same (ge3 78 79 80) w2 w3 := (am_same.rf : am_same (ge3 78 79 80) w2 w2).tr (hw3.mono (fun b hb => Or.inr (Or.inr hb)))
  have ts3 : am_same (ge_ 78) w w3 := (ts2).tr (hs3.mono (fun b hb => by unfold ge3 at hb; unfold ge_; omega))
  have f3_78 : w3[78]? = some (.inr (5, [.ref 79, .int 0])) := hw3.at (by unfold ge_; omega) f2_78
  have f3_79 : w3[79]? = some (.inl (2, 2, .inr (fun _ => none))) := hw3.at (by unfold ge_; omega) f2_79
  have rs3 : ∀ i, i < 0 → c_R w3 (80 + 4 * i) := c_Rs_s rs2 hs3 (fun b hb => by unfold ge3 at hb; omega)
  have rt3 : ∀ i, i < 1 → c_R w3 (80 + 4 * i) := c_Rs_n rs3 hp3.r
  show am_Go 35 (31, [.ref 78, .int 0], [.ref 80, .int 0, .ref 79], w3, 5, 26) _
  refine ar_aastoreF (j := 0) (pc' := 32) hM rfl f3_79 hp3.o (by decide) (by decide) (by decide) (by decide) (by decide) rfl ?_
  show am_Go 35 (32, [.ref 78, .int 0], [], (w3.set 79 (.inl (2, 2, .inr (va_up (fun _ => none) 0 (some 80))))), 5, 26) _
  refine ar_iinc (z := 1) (pc' := 35) hM rfl rfl (by decide) rfl rfl rfl ?_
  refine ar_goto hM rfl ?_
  refine ar_iload_n (pc' := 15) hM rfl rfl rfl ?_
  refine ar_iconst (x := 2) (pc' := 16) hM rfl (by decide) rfl ?_
  refine ar_icmp_ge (pc' := 19) hM rfl rfl (fun q => absurd q (by decide)) (fun _ => ?_)
  refine ar_aload_n (pc' := 20) hM rfl rfl rfl ?_
  refine ar_getfield (pc' := 23) hM rfl (am_gn (by decide) f3_78) rfl rfl ?_
  refine ar_iload_n (pc' := 24) hM rfl rfl rfl ?_
  refine ar_newF (pc' := 27) (k3 := 6) (k4 := 32) (L := 84) hM rfl rfl rfl rfl (Nat.le_of_ble_eq_true rfl) (Nat.le_of_ble_eq_true rfl) rfl (List.length_set.trans hL3) (fun w4 hL4 hw4 hc4 => ?_)
  have hs4 : am_same (ge3 78 79 84) w3 w4 := ((am_same.set am_same.rf (by unfold ge3; omega)) : am_same (ge3 78 79 84) w3 (w3.set 79 (.inl (2, 2, .inr (va_up (fun _ => none) 0 (some 80)))))).tr (hw4.mono (fun b hb => Or.inr (Or.inr hb)))
  have ts4 : am_same (ge_ 78) w w4 := (ts3).tr (hs4.mono (fun b hb => by unfold ge3 at hb; unfold ge_; omega))
  have f4_78 : w4[78]? = some (.inr (5, [.ref 79, .int 0])) := hw4.at (by unfold ge_; omega) (am_gn (by decide) f3_78)
  have f4_79 : w4[79]? = some (.inl (2, 2, .inr (va_up (fun _ => none) 0 (some 80)))) := hw4.at (by unfold ge_; omega) (am_gs f3_79)
  have rs4 : ∀ i, i < 1 → c_R w4 (80 + 4 * i) := c_Rs_s rt3 hs4 (fun b hb => by unfold ge3 at hb; omega)
  show am_Go 35 (27, [.ref 78, .int 1], [.ref 84, .int 1, .ref 79], w4, 6, 32) _
  refine ar_dup (pc' := 28) hM rfl rfl rfl ?_
  refine ar_special (pc' := 31) (k3 := 9) (k4 := 50) hM rfl (by decide) rfl rfl (n_X6 w4 84 (by omega) hL4 hc4) (fun r5 w5 q5 => ?_)
  obtain ⟨rfl, hL5, hw5, hp5⟩ := q5
  have hs5 : am_same (ge3 78 79 84) w4 w5 := (am_same.rf : am_same (ge3 78 79 84) w4 w4).tr (hw5.mono (fun b hb => Or.inr (Or.inr hb)))
  have ts5 : am_same (ge_ 78) w w5 := (ts4).tr (hs5.mono (fun b hb => by unfold ge3 at hb; unfold ge_; omega))
  have f5_78 : w5[78]? = some (.inr (5, [.ref 79, .int 0])) := hw5.at (by unfold ge_; omega) f4_78
  have f5_79 : w5[79]? = some (.inl (2, 2, .inr (va_up (fun _ => none) 0 (some 80)))) := hw5.at (by unfold ge_; omega) f4_79
  have rs5 : ∀ i, i < 1 → c_R w5 (80 + 4 * i) := c_Rs_s rs4 hs5 (fun b hb => by unfold ge3 at hb; omega)
  have rt5 : ∀ i, i < 2 → c_R w5 (80 + 4 * i) := c_Rs_n rs5 hp5.r
  show am_Go 35 (31, [.ref 78, .int 1], [.ref 84, .int 1, .ref 79], w5, 9, 50) _
  refine ar_aastoreF (j := 1) (pc' := 32) hM rfl f5_79 hp5.o (by decide) (by decide) (by decide) (by decide) (by decide) rfl ?_
  show am_Go 35 (32, [.ref 78, .int 1], [], (w5.set 79 (.inl (2, 2, .inr (va_up (va_up (fun _ => none) 0 (some 80)) 1 (some 84))))), 9, 50) _
  refine ar_iinc (z := 2) (pc' := 35) hM rfl rfl (by decide) rfl rfl rfl ?_
  refine ar_goto hM rfl ?_
  refine ar_iload_n (pc' := 15) hM rfl rfl rfl ?_
  refine ar_iconst (x := 2) (pc' := 16) hM rfl (by decide) rfl ?_
  refine ar_icmp_ge (pc' := 19) hM rfl rfl (fun _ => ?_) (fun q => absurd (by decide) q)
  refine ar_aload_n (pc' := 39) hM rfl rfl rfl ?_
  refine ar_iconst (x := 0) (pc' := 40) hM rfl (by decide) rfl ?_
  refine ar_putfield (pc' := 43) hM rfl (am_gn (by decide) f5_78) (Nat.le_of_ble_eq_true rfl) rfl (by decide) rfl ?_
  show am_Go 35 (43, [.ref 78, .int 2], [], ((w5.set 79 (.inl (2, 2, .inr (va_up (va_up (fun _ => none) 0 (some 80)) 1 (some 84))))).set 78 (.inr (5, [.ref 79, .int 0]))), 9, 50) _
  refine ar_return hM rfl ?_
  exact ⟨rfl, (List.length_set.trans (List.length_set.trans hL5)), (am_same.set (am_same.set ts5 (by unfold ge_; omega)) (by unfold ge_; omega)), ⟨0, by decide, (am_gs (am_gn (by decide) f5_78)), ⟨_, (am_gn (by decide) (am_gs f5_79)), by decide⟩, (c_Rs_s rt5 ((am_same.set (am_same.set am_same.rf (by unfold ge3; omega)) (by unfold ge3; omega)) : am_same (ge3 78 79 88) w5 ((w5.set 79 (.inl (2, 2, .inr (va_up (va_up (fun _ => none) 0 (some 80)) 1 (some 84))))).set 78 (.inr (5, [.ref 79, .int 0])))) (fun b hb => by unfold ge3 at hb; omega)), fun i hi => Or.inl ⟨rfl, by rw [Nat.zero_div]⟩⟩⟩
set_option maxRecDepth 100000 in
set_option maxHeartbeats 4000000 in
theorem n_X10 (w : am_W) (hf : w[0]? = some (.inl (0, 7, .inl am_fac))) (hL : w.length = 3) (ho : w[2]? = some (.inr (10, [.null, .null, .null, .null, .null, .null, .null, .null, .null, .null, .long 0]))) : am_Go 63 (0, [.ref 2], [], w, 0, 0) (fun res w' => res = none ∧ w'.length = 133 ∧ am_same (ge_ 2) w w' ∧ c_W w' (0, (fun _ => 0)) p_D0 m_S0 [] (fun _ => none) (0, (fun _ => 0), (fun _ => 0), (fun _ => 0)) 0) := by
  have hM : am_P[63]? = some zm_X10_init := rfl
  refine ar_aload_n (pc' := 1) hM rfl rfl rfl ?_
  refine ar_super (pc' := 4) hM rfl (Nat.le_of_ble_eq_true rfl) rfl ?_
  show am_Go 63 (4, [.ref 2], [], w, 0, 0) _
  refine ar_aload_n (pc' := 5) hM rfl rfl rfl ?_
  refine ar_newF (pc' := 8) (k3 := 1) (k4 := 2) (L := 3) hM rfl rfl rfl rfl (Nat.le_of_ble_eq_true rfl) (Nat.le_of_ble_eq_true rfl) rfl hL (fun w1 hL1 hw1 hc1 => ?_)
  have hs1 : am_same (ge3 2 2 3) w w1 := (am_same.rf : am_same (ge3 2 2 3) w w).tr (hw1.mono (fun b hb => Or.inr (Or.inr hb)))
  have ts1 : am_same (ge_ 2) w w1 := (am_same.rf).tr (hs1.mono (fun b hb => by unfold ge3 at hb; unfold ge_; omega))
  have f1_2 : w1[2]? = some (.inr (10, [.null, .null, .null, .null, .null, .null, .null, .null, .null, .null, .long 0])) := hw1.at (by unfold ge_; omega) ho
  show am_Go 63 (8, [.ref 2], [.ref 3, .ref 2], w1, 1, 2) _
  refine ar_dup (pc' := 9) hM rfl rfl rfl ?_
  refine ar_special (pc' := 12) (k3 := 2) (k4 := 42) hM rfl (by decide) rfl rfl (n_X7 w1 hL1 hc1) (fun r2 w2 q2 => ?_)
  obtain ⟨rfl, hL2, hw2, hp2⟩ := q2
  have hs2 : am_same (ge3 2 2 3) w1 w2 := (am_same.rf : am_same (ge3 2 2 3) w1 w1).tr (hw2.mono (fun b hb => Or.inr (Or.inr hb)))
  have ts2 : am_same (ge_ 2) w w2 := (ts1).tr (hs2.mono (fun b hb => by unfold ge3 at hb; unfold ge_; omega))
  have f2_2 : w2[2]? = some (.inr (10, [.null, .null, .null, .null, .null, .null, .null, .null, .null, .null, .long 0])) := hw2.at (by unfold ge_; omega) f1_2
  show am_Go 63 (12, [.ref 2], [.ref 3, .ref 2], w2, 2, 42) _
  refine ar_putfield (pc' := 15) hM rfl f2_2 (Nat.le_of_ble_eq_true rfl) rfl (by decide) rfl ?_
  show am_Go 63 (15, [.ref 2], [], (w2.set 2 (.inr (10, [.ref 3, .null, .null, .null, .null, .null, .null, .null, .null, .null, .long 0]))), 2, 42) _
  refine ar_aload_n (pc' := 16) hM rfl rfl rfl ?_
  refine ar_newF (pc' := 19) (k3 := 3) (k4 := 43) (L := 5) hM rfl rfl rfl rfl (Nat.le_of_ble_eq_true rfl) (Nat.le_of_ble_eq_true rfl) rfl (List.length_set.trans hL2) (fun w3 hL3 hw3 hc3 => ?_)
  have hs3 : am_same (ge3 2 2 5) w2 w3 := ((am_same.set am_same.rf (by unfold ge3; omega)) : am_same (ge3 2 2 5) w2 (w2.set 2 (.inr (10, [.ref 3, .null, .null, .null, .null, .null, .null, .null, .null, .null, .long 0])))).tr (hw3.mono (fun b hb => Or.inr (Or.inr hb)))
  have ts3 : am_same (ge_ 2) w w3 := (ts2).tr (hs3.mono (fun b hb => by unfold ge3 at hb; unfold ge_; omega))
  have f3_2 : w3[2]? = some (.inr (10, [.ref 3, .null, .null, .null, .null, .null, .null, .null, .null, .null, .long 0])) := hw3.at (by unfold ge_; omega) (am_gs f2_2)
  have pX_3 := hp2.same hs3 (fun b h1 h2 => by unfold ge3; omega)
  show am_Go 63 (19, [.ref 2], [.ref 5, .ref 2], w3, 3, 43) _
  refine ar_dup (pc' := 20) hM rfl rfl rfl ?_
  refine ar_special (pc' := 23) (k3 := 8) (k4 := 74) hM rfl (by decide) rfl rfl (n_X3 w3 hL3 hc3) (fun r4 w4 q4 => ?_)
  obtain ⟨rfl, hL4, hw4, hp4⟩ := q4
  have hs4 : am_same (ge3 2 2 5) w3 w4 := (am_same.rf : am_same (ge3 2 2 5) w3 w3).tr (hw4.mono (fun b hb => Or.inr (Or.inr hb)))
  have ts4 : am_same (ge_ 2) w w4 := (ts3).tr (hs4.mono (fun b hb => by unfold ge3 at hb; unfold ge_; omega))
  have f4_2 : w4[2]? = some (.inr (10, [.ref 3, .null, .null, .null, .null, .null, .null, .null, .null, .null, .long 0])) := hw4.at (by unfold ge_; omega) f3_2
  have pX_4 := pX_3.same hs4 (fun b h1 h2 => by unfold ge3; omega)
  show am_Go 63 (23, [.ref 2], [.ref 5, .ref 2], w4, 8, 74) _
  refine ar_putfield (pc' := 26) hM rfl f4_2 (Nat.le_of_ble_eq_true rfl) rfl (by decide) rfl ?_
  show am_Go 63 (26, [.ref 2], [], (w4.set 2 (.inr (10, [.ref 3, .ref 5, .null, .null, .null, .null, .null, .null, .null, .null, .long 0]))), 8, 74) _
  refine ar_aload_n (pc' := 27) hM rfl rfl rfl ?_
  refine ar_newF (pc' := 30) (k3 := 9) (k4 := 82) (L := 11) hM rfl rfl rfl rfl (Nat.le_of_ble_eq_true rfl) (Nat.le_of_ble_eq_true rfl) rfl (List.length_set.trans hL4) (fun w5 hL5 hw5 hc5 => ?_)
  have hs5 : am_same (ge3 2 2 11) w4 w5 := ((am_same.set am_same.rf (by unfold ge3; omega)) : am_same (ge3 2 2 11) w4 (w4.set 2 (.inr (10, [.ref 3, .ref 5, .null, .null, .null, .null, .null, .null, .null, .null, .long 0])))).tr (hw5.mono (fun b hb => Or.inr (Or.inr hb)))
  have ts5 : am_same (ge_ 2) w w5 := (ts4).tr (hs5.mono (fun b hb => by unfold ge3 at hb; unfold ge_; omega))
  have f5_2 : w5[2]? = some (.inr (10, [.ref 3, .ref 5, .null, .null, .null, .null, .null, .null, .null, .null, .long 0])) := hw5.at (by unfold ge_; omega) (am_gs f4_2)
  have pX_5 := pX_4.same hs5 (fun b h1 h2 => by unfold ge3; omega)
  have pG_5 := hp4.same hs5 (fun b h1 h2 => by unfold ge3; omega)
  show am_Go 63 (30, [.ref 2], [.ref 11, .ref 2], w5, 9, 82) _
  refine ar_dup (pc' := 31) hM rfl rfl rfl ?_
  refine ar_special (pc' := 34) (k3 := 13) (k4 := 105) hM rfl (by decide) rfl rfl (n_X9 w5 11 (by omega) hL5 hc5) (fun r6 w6 q6 => ?_)
  obtain ⟨rfl, hL6, hw6, hp6⟩ := q6
  have hs6 : am_same (ge3 2 2 11) w5 w6 := (am_same.rf : am_same (ge3 2 2 11) w5 w5).tr (hw6.mono (fun b hb => Or.inr (Or.inr hb)))
  have ts6 : am_same (ge_ 2) w w6 := (ts5).tr (hs6.mono (fun b hb => by unfold ge3 at hb; unfold ge_; omega))
  have f6_2 : w6[2]? = some (.inr (10, [.ref 3, .ref 5, .null, .null, .null, .null, .null, .null, .null, .null, .long 0])) := hw6.at (by unfold ge_; omega) f5_2
  have pX_6 := pX_5.same hs6 (fun b h1 h2 => by unfold ge3; omega)
  have pG_6 := pG_5.same hs6 (fun b h1 h2 => by unfold ge3; omega)
  show am_Go 63 (34, [.ref 2], [.ref 11, .ref 2], w6, 13, 105) _
  refine ar_putfield (pc' := 37) hM rfl f6_2 (Nat.le_of_ble_eq_true rfl) rfl (by decide) rfl ?_
  show am_Go 63 (37, [.ref 2], [], (w6.set 2 (.inr (10, [.ref 3, .ref 5, .ref 11, .null, .null, .null, .null, .null, .null, .null, .long 0]))), 13, 105) _
  refine ar_aload_n (pc' := 38) hM rfl rfl rfl ?_
  refine ar_newF (pc' := 41) (k3 := 14) (k4 := 111) (L := 16) hM rfl rfl rfl rfl (Nat.le_of_ble_eq_true rfl) (Nat.le_of_ble_eq_true rfl) rfl (List.length_set.trans hL6) (fun w7 hL7 hw7 hc7 => ?_)
  have hs7 : am_same (ge3 2 2 16) w6 w7 := ((am_same.set am_same.rf (by unfold ge3; omega)) : am_same (ge3 2 2 16) w6 (w6.set 2 (.inr (10, [.ref 3, .ref 5, .ref 11, .null, .null, .null, .null, .null, .null, .null, .long 0])))).tr (hw7.mono (fun b hb => Or.inr (Or.inr hb)))
  have ts7 : am_same (ge_ 2) w w7 := (ts6).tr (hs7.mono (fun b hb => by unfold ge3 at hb; unfold ge_; omega))
  have f7_2 : w7[2]? = some (.inr (10, [.ref 3, .ref 5, .ref 11, .null, .null, .null, .null, .null, .null, .null, .long 0])) := hw7.at (by unfold ge_; omega) (am_gs f6_2)
  have pX_7 := pX_6.same hs7 (fun b h1 h2 => by unfold ge3; omega)
  have pG_7 := pG_6.same hs7 (fun b h1 h2 => by unfold ge3; omega)
  have pT_7 := hp6.same hs7 (fun b h1 h2 => by unfold ge3; omega)
  show am_Go 63 (41, [.ref 2], [.ref 16, .ref 2], w7, 14, 111) _
  refine ar_dup (pc' := 42) hM rfl rfl rfl ?_
  refine ar_special (pc' := 45) (k3 := 17) (k4 := 129) hM rfl (by decide) rfl rfl (n_X6 w7 16 (by omega) hL7 hc7) (fun r8 w8 q8 => ?_)
  obtain ⟨rfl, hL8, hw8, hp8⟩ := q8
  have hs8 : am_same (ge3 2 2 16) w7 w8 := (am_same.rf : am_same (ge3 2 2 16) w7 w7).tr (hw8.mono (fun b hb => Or.inr (Or.inr hb)))
  have ts8 : am_same (ge_ 2) w w8 := (ts7).tr (hs8.mono (fun b hb => by unfold ge3 at hb; unfold ge_; omega))
  have f8_2 : w8[2]? = some (.inr (10, [.ref 3, .ref 5, .ref 11, .null, .null, .null, .null, .null, .null, .null, .long 0])) := hw8.at (by unfold ge_; omega) f7_2
  have pX_8 := pX_7.same hs8 (fun b h1 h2 => by unfold ge3; omega)
  have pG_8 := pG_7.same hs8 (fun b h1 h2 => by unfold ge3; omega)
  have pT_8 := pT_7.same hs8 (fun b h1 h2 => by unfold ge3; omega)
  show am_Go 63 (45, [.ref 2], [.ref 16, .ref 2], w8, 17, 129) _
  refine ar_putfield (pc' := 48) hM rfl f8_2 (Nat.le_of_ble_eq_true rfl) rfl (by decide) rfl ?_
  show am_Go 63 (48, [.ref 2], [], (w8.set 2 (.inr (10, [.ref 3, .ref 5, .ref 11, .ref 16, .null, .null, .null, .null, .null, .null, .long 0]))), 17, 129) _
  refine ar_aload_n (pc' := 49) hM rfl rfl rfl ?_
  refine ar_newF (pc' := 52) (k3 := 18) (k4 := 132) (L := 20) hM rfl rfl rfl rfl (Nat.le_of_ble_eq_true rfl) (Nat.le_of_ble_eq_true rfl) rfl (List.length_set.trans hL8) (fun w9 hL9 hw9 hc9 => ?_)
  have hs9 : am_same (ge3 2 2 20) w8 w9 := ((am_same.set am_same.rf (by unfold ge3; omega)) : am_same (ge3 2 2 20) w8 (w8.set 2 (.inr (10, [.ref 3, .ref 5, .ref 11, .ref 16, .null, .null, .null, .null, .null, .null, .long 0])))).tr (hw9.mono (fun b hb => Or.inr (Or.inr hb)))
  have ts9 : am_same (ge_ 2) w w9 := (ts8).tr (hs9.mono (fun b hb => by unfold ge3 at hb; unfold ge_; omega))
  have f9_2 : w9[2]? = some (.inr (10, [.ref 3, .ref 5, .ref 11, .ref 16, .null, .null, .null, .null, .null, .null, .long 0])) := hw9.at (by unfold ge_; omega) (am_gs f8_2)
  have pX_9 := pX_8.same hs9 (fun b h1 h2 => by unfold ge3; omega)
  have pG_9 := pG_8.same hs9 (fun b h1 h2 => by unfold ge3; omega)
  have pT_9 := pT_8.same hs9 (fun b h1 h2 => by unfold ge3; omega)
  have pS_9 := hp8.same hs9 (fun b h1 h2 => by unfold ge3; omega)
  show am_Go 63 (52, [.ref 2], [.ref 20, .ref 2], w9, 18, 132) _
  refine ar_dup (pc' := 53) hM rfl rfl rfl ?_
  refine ar_special (pc' := 56) (k3 := 75) (k4 := 482) hM rfl (by decide) rfl rfl (n_X0 w9 hL9 hc9) (fun r10 w10 q10 => ?_)
  obtain ⟨rfl, hL10, hw10, hp10⟩ := q10
  have hs10 : am_same (ge3 2 2 20) w9 w10 := (am_same.rf : am_same (ge3 2 2 20) w9 w9).tr (hw10.mono (fun b hb => Or.inr (Or.inr hb)))
  have ts10 : am_same (ge_ 2) w w10 := (ts9).tr (hs10.mono (fun b hb => by unfold ge3 at hb; unfold ge_; omega))
  have f10_2 : w10[2]? = some (.inr (10, [.ref 3, .ref 5, .ref 11, .ref 16, .null, .null, .null, .null, .null, .null, .long 0])) := hw10.at (by unfold ge_; omega) f9_2
  have pX_10 := pX_9.same hs10 (fun b h1 h2 => by unfold ge3; omega)
  have pG_10 := pG_9.same hs10 (fun b h1 h2 => by unfold ge3; omega)
  have pT_10 := pT_9.same hs10 (fun b h1 h2 => by unfold ge3; omega)
  have pS_10 := pS_9.same hs10 (fun b h1 h2 => by unfold ge3; omega)
  show am_Go 63 (56, [.ref 2], [.ref 20, .ref 2], w10, 75, 482) _
  refine ar_putfield (pc' := 59) hM rfl f10_2 (Nat.le_of_ble_eq_true rfl) rfl (by decide) rfl ?_
  show am_Go 63 (59, [.ref 2], [], (w10.set 2 (.inr (10, [.ref 3, .ref 5, .ref 11, .ref 16, .ref 20, .null, .null, .null, .null, .null, .long 0]))), 75, 482) _
  refine ar_aload_n (pc' := 60) hM rfl rfl rfl ?_
  refine ar_newF (pc' := 63) (k3 := 76) (k4 := 484) (L := 78) hM rfl rfl rfl rfl (Nat.le_of_ble_eq_true rfl) (Nat.le_of_ble_eq_true rfl) rfl (List.length_set.trans hL10) (fun w11 hL11 hw11 hc11 => ?_)
  have hs11 : am_same (ge3 2 2 78) w10 w11 := ((am_same.set am_same.rf (by unfold ge3; omega)) : am_same (ge3 2 2 78) w10 (w10.set 2 (.inr (10, [.ref 3, .ref 5, .ref 11, .ref 16, .ref 20, .null, .null, .null, .null, .null, .long 0])))).tr (hw11.mono (fun b hb => Or.inr (Or.inr hb)))
  have ts11 : am_same (ge_ 2) w w11 := (ts10).tr (hs11.mono (fun b hb => by unfold ge3 at hb; unfold ge_; omega))
  have f11_2 : w11[2]? = some (.inr (10, [.ref 3, .ref 5, .ref 11, .ref 16, .ref 20, .null, .null, .null, .null, .null, .long 0])) := hw11.at (by unfold ge_; omega) (am_gs f10_2)
  have pX_11 := pX_10.same hs11 (fun b h1 h2 => by unfold ge3; omega)
  have pG_11 := pG_10.same hs11 (fun b h1 h2 => by unfold ge3; omega)
  have pT_11 := pT_10.same hs11 (fun b h1 h2 => by unfold ge3; omega)
  have pS_11 := pS_10.same hs11 (fun b h1 h2 => by unfold ge3; omega)
  have pA_11 := hp10.same hs11 (fun b h1 h2 => by unfold ge3; omega)
  show am_Go 63 (63, [.ref 2], [.ref 78, .ref 2], w11, 76, 484) _
  refine ar_dup (pc' := 64) hM rfl rfl rfl ?_
  refine ar_special (pc' := 67) (k3 := 85) (k4 := 534) hM rfl (by decide) rfl rfl (n_X5 w11 hL11 hc11) (fun r12 w12 q12 => ?_)
  obtain ⟨rfl, hL12, hw12, hp12⟩ := q12
  have hs12 : am_same (ge3 2 2 78) w11 w12 := (am_same.rf : am_same (ge3 2 2 78) w11 w11).tr (hw12.mono (fun b hb => Or.inr (Or.inr hb)))
  have ts12 : am_same (ge_ 2) w w12 := (ts11).tr (hs12.mono (fun b hb => by unfold ge3 at hb; unfold ge_; omega))
  have f12_2 : w12[2]? = some (.inr (10, [.ref 3, .ref 5, .ref 11, .ref 16, .ref 20, .null, .null, .null, .null, .null, .long 0])) := hw12.at (by unfold ge_; omega) f11_2
  have pX_12 := pX_11.same hs12 (fun b h1 h2 => by unfold ge3; omega)
  have pG_12 := pG_11.same hs12 (fun b h1 h2 => by unfold ge3; omega)
  have pT_12 := pT_11.same hs12 (fun b h1 h2 => by unfold ge3; omega)
  have pS_12 := pS_11.same hs12 (fun b h1 h2 => by unfold ge3; omega)
  have pA_12 := pA_11.same hs12 (fun b h1 h2 => by unfold ge3; omega)
  show am_Go 63 (67, [.ref 2], [.ref 78, .ref 2], w12, 85, 534) _
  refine ar_putfield (pc' := 70) hM rfl f12_2 (Nat.le_of_ble_eq_true rfl) rfl (by decide) rfl ?_
  show am_Go 63 (70, [.ref 2], [], (w12.set 2 (.inr (10, [.ref 3, .ref 5, .ref 11, .ref 16, .ref 20, .ref 78, .null, .null, .null, .null, .long 0]))), 85, 534) _
  refine ar_aload_n (pc' := 71) hM rfl rfl rfl ?_
  refine ar_newF (pc' := 74) (k3 := 86) (k4 := 538) (L := 88) hM rfl rfl rfl rfl (Nat.le_of_ble_eq_true rfl) (Nat.le_of_ble_eq_true rfl) rfl (List.length_set.trans hL12) (fun w13 hL13 hw13 hc13 => ?_)
  have hs13 : am_same (ge3 2 2 88) w12 w13 := ((am_same.set am_same.rf (by unfold ge3; omega)) : am_same (ge3 2 2 88) w12 (w12.set 2 (.inr (10, [.ref 3, .ref 5, .ref 11, .ref 16, .ref 20, .ref 78, .null, .null, .null, .null, .long 0])))).tr (hw13.mono (fun b hb => Or.inr (Or.inr hb)))
  have ts13 : am_same (ge_ 2) w w13 := (ts12).tr (hs13.mono (fun b hb => by unfold ge3 at hb; unfold ge_; omega))
  have f13_2 : w13[2]? = some (.inr (10, [.ref 3, .ref 5, .ref 11, .ref 16, .ref 20, .ref 78, .null, .null, .null, .null, .long 0])) := hw13.at (by unfold ge_; omega) (am_gs f12_2)
  have pX_13 := pX_12.same hs13 (fun b h1 h2 => by unfold ge3; omega)
  have pG_13 := pG_12.same hs13 (fun b h1 h2 => by unfold ge3; omega)
  have pT_13 := pT_12.same hs13 (fun b h1 h2 => by unfold ge3; omega)
  have pS_13 := pS_12.same hs13 (fun b h1 h2 => by unfold ge3; omega)
  have pA_13 := pA_12.same hs13 (fun b h1 h2 => by unfold ge3; omega)
  have pK_13 := hp12.same hs13 (fun b h1 h2 => by unfold ge3; omega)
  show am_Go 63 (74, [.ref 2], [.ref 88, .ref 2], w13, 86, 538) _
  refine ar_dup (pc' := 75) hM rfl rfl rfl ?_
  refine ar_special (pc' := 78) (k3 := 89) (k4 := 556) hM rfl (by decide) rfl rfl (n_X4 w13 hL13 hc13) (fun r14 w14 q14 => ?_)
  obtain ⟨rfl, hL14, hw14, hp14⟩ := q14
  have hs14 : am_same (ge3 2 2 88) w13 w14 := (am_same.rf : am_same (ge3 2 2 88) w13 w13).tr (hw14.mono (fun b hb => Or.inr (Or.inr hb)))
  have ts14 : am_same (ge_ 2) w w14 := (ts13).tr (hs14.mono (fun b hb => by unfold ge3 at hb; unfold ge_; omega))
  have f14_2 : w14[2]? = some (.inr (10, [.ref 3, .ref 5, .ref 11, .ref 16, .ref 20, .ref 78, .null, .null, .null, .null, .long 0])) := hw14.at (by unfold ge_; omega) f13_2
  have pX_14 := pX_13.same hs14 (fun b h1 h2 => by unfold ge3; omega)
  have pG_14 := pG_13.same hs14 (fun b h1 h2 => by unfold ge3; omega)
  have pT_14 := pT_13.same hs14 (fun b h1 h2 => by unfold ge3; omega)
  have pS_14 := pS_13.same hs14 (fun b h1 h2 => by unfold ge3; omega)
  have pA_14 := pA_13.same hs14 (fun b h1 h2 => by unfold ge3; omega)
  have pK_14 := pK_13.same hs14 (fun b h1 h2 => by unfold ge3; omega)
  show am_Go 63 (78, [.ref 2], [.ref 88, .ref 2], w14, 89, 556) _
  refine ar_putfield (pc' := 81) hM rfl f14_2 (Nat.le_of_ble_eq_true rfl) rfl (by decide) rfl ?_
  show am_Go 63 (81, [.ref 2], [], (w14.set 2 (.inr (10, [.ref 3, .ref 5, .ref 11, .ref 16, .ref 20, .ref 78, .ref 88, .null, .null, .null, .long 0]))), 89, 556) _
  refine ar_aload_n (pc' := 82) hM rfl rfl rfl ?_
  refine ar_newF (pc' := 85) (k3 := 90) (k4 := 563) (L := 92) hM rfl rfl rfl rfl (Nat.le_of_ble_eq_true rfl) (Nat.le_of_ble_eq_true rfl) rfl (List.length_set.trans hL14) (fun w15 hL15 hw15 hc15 => ?_)
  have hs15 : am_same (ge3 2 2 92) w14 w15 := ((am_same.set am_same.rf (by unfold ge3; omega)) : am_same (ge3 2 2 92) w14 (w14.set 2 (.inr (10, [.ref 3, .ref 5, .ref 11, .ref 16, .ref 20, .ref 78, .ref 88, .null, .null, .null, .long 0])))).tr (hw15.mono (fun b hb => Or.inr (Or.inr hb)))
  have ts15 : am_same (ge_ 2) w w15 := (ts14).tr (hs15.mono (fun b hb => by unfold ge3 at hb; unfold ge_; omega))
  have f15_2 : w15[2]? = some (.inr (10, [.ref 3, .ref 5, .ref 11, .ref 16, .ref 20, .ref 78, .ref 88, .null, .null, .null, .long 0])) := hw15.at (by unfold ge_; omega) (am_gs f14_2)
  have pX_15 := pX_14.same hs15 (fun b h1 h2 => by unfold ge3; omega)
  have pG_15 := pG_14.same hs15 (fun b h1 h2 => by unfold ge3; omega)
  have pT_15 := pT_14.same hs15 (fun b h1 h2 => by unfold ge3; omega)
  have pS_15 := pS_14.same hs15 (fun b h1 h2 => by unfold ge3; omega)
  have pA_15 := pA_14.same hs15 (fun b h1 h2 => by unfold ge3; omega)
  have pK_15 := pK_14.same hs15 (fun b h1 h2 => by unfold ge3; omega)
  have pN_15 := hp14.same hs15 (fun b h1 h2 => by unfold ge3; omega)
  show am_Go 63 (85, [.ref 2], [.ref 92, .ref 2], w15, 90, 563) _
  refine ar_dup (pc' := 86) hM rfl rfl rfl ?_
  refine ar_special (pc' := 89) (k3 := 97) (k4 := 605) hM rfl (by decide) rfl rfl (n_X8 w15 92 (by omega) hL15 hc15) (fun r16 w16 q16 => ?_)
  obtain ⟨rfl, hL16, hw16, hp16⟩ := q16
  have hs16 : am_same (ge3 2 2 92) w15 w16 := (am_same.rf : am_same (ge3 2 2 92) w15 w15).tr (hw16.mono (fun b hb => Or.inr (Or.inr hb)))
  have ts16 : am_same (ge_ 2) w w16 := (ts15).tr (hs16.mono (fun b hb => by unfold ge3 at hb; unfold ge_; omega))
  have f16_2 : w16[2]? = some (.inr (10, [.ref 3, .ref 5, .ref 11, .ref 16, .ref 20, .ref 78, .ref 88, .null, .null, .null, .long 0])) := hw16.at (by unfold ge_; omega) f15_2
  have pX_16 := pX_15.same hs16 (fun b h1 h2 => by unfold ge3; omega)
  have pG_16 := pG_15.same hs16 (fun b h1 h2 => by unfold ge3; omega)
  have pT_16 := pT_15.same hs16 (fun b h1 h2 => by unfold ge3; omega)
  have pS_16 := pS_15.same hs16 (fun b h1 h2 => by unfold ge3; omega)
  have pA_16 := pA_15.same hs16 (fun b h1 h2 => by unfold ge3; omega)
  have pK_16 := pK_15.same hs16 (fun b h1 h2 => by unfold ge3; omega)
  have pN_16 := pN_15.same hs16 (fun b h1 h2 => by unfold ge3; omega)
  show am_Go 63 (89, [.ref 2], [.ref 92, .ref 2], w16, 97, 605) _
  refine ar_putfield (pc' := 92) hM rfl f16_2 (Nat.le_of_ble_eq_true rfl) rfl (by decide) rfl ?_
  show am_Go 63 (92, [.ref 2], [], (w16.set 2 (.inr (10, [.ref 3, .ref 5, .ref 11, .ref 16, .ref 20, .ref 78, .ref 88, .ref 92, .null, .null, .long 0]))), 97, 605) _
  refine ar_aload_n (pc' := 93) hM rfl rfl rfl ?_
  refine ar_newF (pc' := 96) (k3 := 98) (k4 := 610) (L := 100) hM rfl rfl rfl rfl (Nat.le_of_ble_eq_true rfl) (Nat.le_of_ble_eq_true rfl) rfl (List.length_set.trans hL16) (fun w17 hL17 hw17 hc17 => ?_)
  have hs17 : am_same (ge3 2 2 100) w16 w17 := ((am_same.set am_same.rf (by unfold ge3; omega)) : am_same (ge3 2 2 100) w16 (w16.set 2 (.inr (10, [.ref 3, .ref 5, .ref 11, .ref 16, .ref 20, .ref 78, .ref 88, .ref 92, .null, .null, .long 0])))).tr (hw17.mono (fun b hb => Or.inr (Or.inr hb)))
  have ts17 : am_same (ge_ 2) w w17 := (ts16).tr (hs17.mono (fun b hb => by unfold ge3 at hb; unfold ge_; omega))
  have f17_2 : w17[2]? = some (.inr (10, [.ref 3, .ref 5, .ref 11, .ref 16, .ref 20, .ref 78, .ref 88, .ref 92, .null, .null, .long 0])) := hw17.at (by unfold ge_; omega) (am_gs f16_2)
  have pX_17 := pX_16.same hs17 (fun b h1 h2 => by unfold ge3; omega)
  have pG_17 := pG_16.same hs17 (fun b h1 h2 => by unfold ge3; omega)
  have pT_17 := pT_16.same hs17 (fun b h1 h2 => by unfold ge3; omega)
  have pS_17 := pS_16.same hs17 (fun b h1 h2 => by unfold ge3; omega)
  have pA_17 := pA_16.same hs17 (fun b h1 h2 => by unfold ge3; omega)
  have pK_17 := pK_16.same hs17 (fun b h1 h2 => by unfold ge3; omega)
  have pN_17 := pN_16.same hs17 (fun b h1 h2 => by unfold ge3; omega)
  have pD_17 := hp16.same hs17 (fun b h1 h2 => by unfold ge3; omega)
  show am_Go 63 (96, [.ref 2], [.ref 100, .ref 2], w17, 98, 610) _
  refine ar_dup (pc' := 97) hM rfl rfl rfl ?_
  refine ar_special (pc' := 100) (k3 := 115) (k4 := 714) hM rfl (by decide) rfl rfl (n_X2 w17 hL17 hc17) (fun r18 w18 q18 => ?_)
  obtain ⟨rfl, hL18, hw18, hp18⟩ := q18
  have hs18 : am_same (ge3 2 2 100) w17 w18 := (am_same.rf : am_same (ge3 2 2 100) w17 w17).tr (hw18.mono (fun b hb => Or.inr (Or.inr hb)))
  have ts18 : am_same (ge_ 2) w w18 := (ts17).tr (hs18.mono (fun b hb => by unfold ge3 at hb; unfold ge_; omega))
  have f18_2 : w18[2]? = some (.inr (10, [.ref 3, .ref 5, .ref 11, .ref 16, .ref 20, .ref 78, .ref 88, .ref 92, .null, .null, .long 0])) := hw18.at (by unfold ge_; omega) f17_2
  have pX_18 := pX_17.same hs18 (fun b h1 h2 => by unfold ge3; omega)
  have pG_18 := pG_17.same hs18 (fun b h1 h2 => by unfold ge3; omega)
  have pT_18 := pT_17.same hs18 (fun b h1 h2 => by unfold ge3; omega)
  have pS_18 := pS_17.same hs18 (fun b h1 h2 => by unfold ge3; omega)
  have pA_18 := pA_17.same hs18 (fun b h1 h2 => by unfold ge3; omega)
  have pK_18 := pK_17.same hs18 (fun b h1 h2 => by unfold ge3; omega)
  have pN_18 := pN_17.same hs18 (fun b h1 h2 => by unfold ge3; omega)
  have pD_18 := pD_17.same hs18 (fun b h1 h2 => by unfold ge3; omega)
  show am_Go 63 (100, [.ref 2], [.ref 100, .ref 2], w18, 115, 714) _
  refine ar_putfield (pc' := 103) hM rfl f18_2 (Nat.le_of_ble_eq_true rfl) rfl (by decide) rfl ?_
  show am_Go 63 (103, [.ref 2], [], (w18.set 2 (.inr (10, [.ref 3, .ref 5, .ref 11, .ref 16, .ref 20, .ref 78, .ref 88, .ref 92, .ref 100, .null, .long 0]))), 115, 714) _
  refine ar_aload_n (pc' := 104) hM rfl rfl rfl ?_
  refine ar_newF (pc' := 107) (k3 := 116) (k4 := 721) (L := 118) hM rfl rfl rfl rfl (Nat.le_of_ble_eq_true rfl) (Nat.le_of_ble_eq_true rfl) rfl (List.length_set.trans hL18) (fun w19 hL19 hw19 hc19 => ?_)
  have hs19 : am_same (ge3 2 2 118) w18 w19 := ((am_same.set am_same.rf (by unfold ge3; omega)) : am_same (ge3 2 2 118) w18 (w18.set 2 (.inr (10, [.ref 3, .ref 5, .ref 11, .ref 16, .ref 20, .ref 78, .ref 88, .ref 92, .ref 100, .null, .long 0])))).tr (hw19.mono (fun b hb => Or.inr (Or.inr hb)))
  have ts19 : am_same (ge_ 2) w w19 := (ts18).tr (hs19.mono (fun b hb => by unfold ge3 at hb; unfold ge_; omega))
  have f19_2 : w19[2]? = some (.inr (10, [.ref 3, .ref 5, .ref 11, .ref 16, .ref 20, .ref 78, .ref 88, .ref 92, .ref 100, .null, .long 0])) := hw19.at (by unfold ge_; omega) (am_gs f18_2)
  have pX_19 := pX_18.same hs19 (fun b h1 h2 => by unfold ge3; omega)
  have pG_19 := pG_18.same hs19 (fun b h1 h2 => by unfold ge3; omega)
  have pT_19 := pT_18.same hs19 (fun b h1 h2 => by unfold ge3; omega)
  have pS_19 := pS_18.same hs19 (fun b h1 h2 => by unfold ge3; omega)
  have pA_19 := pA_18.same hs19 (fun b h1 h2 => by unfold ge3; omega)
  have pK_19 := pK_18.same hs19 (fun b h1 h2 => by unfold ge3; omega)
  have pN_19 := pN_18.same hs19 (fun b h1 h2 => by unfold ge3; omega)
  have pD_19 := pD_18.same hs19 (fun b h1 h2 => by unfold ge3; omega)
  have pO_19 := hp18.same hs19 (fun b h1 h2 => by unfold ge3; omega)
  show am_Go 63 (107, [.ref 2], [.ref 118, .ref 2], w19, 116, 721) _
  refine ar_dup (pc' := 108) hM rfl rfl rfl ?_
  refine ar_special (pc' := 111) (k3 := 130) (k4 := 802) hM rfl (by decide) rfl rfl (n_X1 w19 hL19 hc19) (fun r20 w20 q20 => ?_)
  obtain ⟨rfl, hL20, hw20, hp20⟩ := q20
  have hs20 : am_same (ge3 2 2 118) w19 w20 := (am_same.rf : am_same (ge3 2 2 118) w19 w19).tr (hw20.mono (fun b hb => Or.inr (Or.inr hb)))
  have ts20 : am_same (ge_ 2) w w20 := (ts19).tr (hs20.mono (fun b hb => by unfold ge3 at hb; unfold ge_; omega))
  have f20_2 : w20[2]? = some (.inr (10, [.ref 3, .ref 5, .ref 11, .ref 16, .ref 20, .ref 78, .ref 88, .ref 92, .ref 100, .null, .long 0])) := hw20.at (by unfold ge_; omega) f19_2
  have pX_20 := pX_19.same hs20 (fun b h1 h2 => by unfold ge3; omega)
  have pG_20 := pG_19.same hs20 (fun b h1 h2 => by unfold ge3; omega)
  have pT_20 := pT_19.same hs20 (fun b h1 h2 => by unfold ge3; omega)
  have pS_20 := pS_19.same hs20 (fun b h1 h2 => by unfold ge3; omega)
  have pA_20 := pA_19.same hs20 (fun b h1 h2 => by unfold ge3; omega)
  have pK_20 := pK_19.same hs20 (fun b h1 h2 => by unfold ge3; omega)
  have pN_20 := pN_19.same hs20 (fun b h1 h2 => by unfold ge3; omega)
  have pD_20 := pD_19.same hs20 (fun b h1 h2 => by unfold ge3; omega)
  have pO_20 := pO_19.same hs20 (fun b h1 h2 => by unfold ge3; omega)
  show am_Go 63 (111, [.ref 2], [.ref 118, .ref 2], w20, 130, 802) _
  refine ar_putfield (pc' := 114) hM rfl f20_2 (Nat.le_of_ble_eq_true rfl) rfl (by decide) rfl ?_
  show am_Go 63 (114, [.ref 2], [], (w20.set 2 (.inr (10, [.ref 3, .ref 5, .ref 11, .ref 16, .ref 20, .ref 78, .ref 88, .ref 92, .ref 100, .ref 118, .long 0]))), 130, 802) _
  refine ar_aload_n (pc' := 115) hM rfl rfl rfl ?_
  refine ar_lconst (x := 0) (pc' := 116) hM rfl (by decide) rfl ?_
  refine ar_putfield (pc' := 119) hM rfl (am_gs f20_2) (Nat.le_of_ble_eq_true rfl) rfl (by decide) rfl ?_
  show am_Go 63 (119, [.ref 2], [], ((w20.set 2 (.inr (10, [.ref 3, .ref 5, .ref 11, .ref 16, .ref 20, .ref 78, .ref 88, .ref 92, .ref 100, .ref 118, .long 0]))).set 2 (.inr (10, [.ref 3, .ref 5, .ref 11, .ref 16, .ref 20, .ref 78, .ref 88, .ref 92, .ref 100, .ref 118, .long 0]))), 130, 802) _
  refine ar_return hM rfl ?_
  exact ⟨rfl, (List.length_set.trans (List.length_set.trans hL20)), (am_same.set (am_same.set ts20 (by unfold ge_; omega)) (by unfold ge_; omega)), ⟨am_same.at (X := ge_ 2) (am_same.set (am_same.set ts20 (by unfold ge_; omega)) (by unfold ge_; omega)) (by unfold ge_; omega) hf, (am_gs (am_gs f20_2)), (pX_20.same ((am_same.set (am_same.set am_same.rf (by unfold ge3; omega)) (by unfold ge3; omega)) : am_same (ge3 2 2 133) w20 ((w20.set 2 (.inr (10, [.ref 3, .ref 5, .ref 11, .ref 16, .ref 20, .ref 78, .ref 88, .ref 92, .ref 100, .ref 118, .long 0]))).set 2 (.inr (10, [.ref 3, .ref 5, .ref 11, .ref 16, .ref 20, .ref 78, .ref 88, .ref 92, .ref 100, .ref 118, .long 0])))) (fun b h1 h2 => by unfold ge3; omega)), (pG_20.same ((am_same.set (am_same.set am_same.rf (by unfold ge3; omega)) (by unfold ge3; omega)) : am_same (ge3 2 2 133) w20 ((w20.set 2 (.inr (10, [.ref 3, .ref 5, .ref 11, .ref 16, .ref 20, .ref 78, .ref 88, .ref 92, .ref 100, .ref 118, .long 0]))).set 2 (.inr (10, [.ref 3, .ref 5, .ref 11, .ref 16, .ref 20, .ref 78, .ref 88, .ref 92, .ref 100, .ref 118, .long 0])))) (fun b h1 h2 => by unfold ge3; omega)), (pT_20.same ((am_same.set (am_same.set am_same.rf (by unfold ge3; omega)) (by unfold ge3; omega)) : am_same (ge3 2 2 133) w20 ((w20.set 2 (.inr (10, [.ref 3, .ref 5, .ref 11, .ref 16, .ref 20, .ref 78, .ref 88, .ref 92, .ref 100, .ref 118, .long 0]))).set 2 (.inr (10, [.ref 3, .ref 5, .ref 11, .ref 16, .ref 20, .ref 78, .ref 88, .ref 92, .ref 100, .ref 118, .long 0])))) (fun b h1 h2 => by unfold ge3; omega)), (pS_20.same ((am_same.set (am_same.set am_same.rf (by unfold ge3; omega)) (by unfold ge3; omega)) : am_same (ge3 2 2 133) w20 ((w20.set 2 (.inr (10, [.ref 3, .ref 5, .ref 11, .ref 16, .ref 20, .ref 78, .ref 88, .ref 92, .ref 100, .ref 118, .long 0]))).set 2 (.inr (10, [.ref 3, .ref 5, .ref 11, .ref 16, .ref 20, .ref 78, .ref 88, .ref 92, .ref 100, .ref 118, .long 0])))) (fun b h1 h2 => by unfold ge3; omega)), (pA_20.same ((am_same.set (am_same.set am_same.rf (by unfold ge3; omega)) (by unfold ge3; omega)) : am_same (ge3 2 2 133) w20 ((w20.set 2 (.inr (10, [.ref 3, .ref 5, .ref 11, .ref 16, .ref 20, .ref 78, .ref 88, .ref 92, .ref 100, .ref 118, .long 0]))).set 2 (.inr (10, [.ref 3, .ref 5, .ref 11, .ref 16, .ref 20, .ref 78, .ref 88, .ref 92, .ref 100, .ref 118, .long 0])))) (fun b h1 h2 => by unfold ge3; omega)), (pK_20.same ((am_same.set (am_same.set am_same.rf (by unfold ge3; omega)) (by unfold ge3; omega)) : am_same (ge3 2 2 133) w20 ((w20.set 2 (.inr (10, [.ref 3, .ref 5, .ref 11, .ref 16, .ref 20, .ref 78, .ref 88, .ref 92, .ref 100, .ref 118, .long 0]))).set 2 (.inr (10, [.ref 3, .ref 5, .ref 11, .ref 16, .ref 20, .ref 78, .ref 88, .ref 92, .ref 100, .ref 118, .long 0])))) (fun b h1 h2 => by unfold ge3; omega)), (pN_20.same ((am_same.set (am_same.set am_same.rf (by unfold ge3; omega)) (by unfold ge3; omega)) : am_same (ge3 2 2 133) w20 ((w20.set 2 (.inr (10, [.ref 3, .ref 5, .ref 11, .ref 16, .ref 20, .ref 78, .ref 88, .ref 92, .ref 100, .ref 118, .long 0]))).set 2 (.inr (10, [.ref 3, .ref 5, .ref 11, .ref 16, .ref 20, .ref 78, .ref 88, .ref 92, .ref 100, .ref 118, .long 0])))) (fun b h1 h2 => by unfold ge3; omega)), (pD_20.same ((am_same.set (am_same.set am_same.rf (by unfold ge3; omega)) (by unfold ge3; omega)) : am_same (ge3 2 2 133) w20 ((w20.set 2 (.inr (10, [.ref 3, .ref 5, .ref 11, .ref 16, .ref 20, .ref 78, .ref 88, .ref 92, .ref 100, .ref 118, .long 0]))).set 2 (.inr (10, [.ref 3, .ref 5, .ref 11, .ref 16, .ref 20, .ref 78, .ref 88, .ref 92, .ref 100, .ref 118, .long 0])))) (fun b h1 h2 => by unfold ge3; omega)), (pO_20.same ((am_same.set (am_same.set am_same.rf (by unfold ge3; omega)) (by unfold ge3; omega)) : am_same (ge3 2 2 133) w20 ((w20.set 2 (.inr (10, [.ref 3, .ref 5, .ref 11, .ref 16, .ref 20, .ref 78, .ref 88, .ref 92, .ref 100, .ref 118, .long 0]))).set 2 (.inr (10, [.ref 3, .ref 5, .ref 11, .ref 16, .ref 20, .ref 78, .ref 88, .ref 92, .ref 100, .ref 118, .long 0])))) (fun b h1 h2 => by unfold ge3; omega)), (hp20.same ((am_same.set (am_same.set am_same.rf (by unfold ge3; omega)) (by unfold ge3; omega)) : am_same (ge3 2 2 133) w20 ((w20.set 2 (.inr (10, [.ref 3, .ref 5, .ref 11, .ref 16, .ref 20, .ref 78, .ref 88, .ref 92, .ref 100, .ref 118, .long 0]))).set 2 (.inr (10, [.ref 3, .ref 5, .ref 11, .ref 16, .ref 20, .ref 78, .ref 88, .ref 92, .ref 100, .ref 118, .long 0])))) (fun b h1 h2 => by unfold ge3; omega))⟩⟩
set_option maxRecDepth 100000 in
set_option maxHeartbeats 4000000 in
theorem n_X11 (w : am_W) (hL : w.length = 134) (ho : w[133]? = some (.inr (11, [.int 0, .int 0, .int 0, .int 0, .null, .null, .null, .null, .null, .null, .null, .int 0, .int 0, .null, .int 0, .int 0, .int 0, .null, .int 0, .int 0, .int 0, .null, .null, .int 0, .null, .null, .null, .long 0, .null, .null]))) : am_Go 105 (0, [.ref 133], [], w, 0, 0) (fun res w' => res = none ∧ w'.length = 150 ∧ am_same (ge_ 133) w w' ∧ d_W w' (0, (fun _ => 0)) p_D0 m_S0 [] (fun _ => none) (0, (fun _ => 0), (fun _ => 0), (fun _ => 0)) 0) := by
  have hM : am_P[105]? = some zm_X11_init := rfl
  refine ar_aload_n (pc' := 1) hM rfl rfl rfl ?_
  refine ar_super (pc' := 4) hM rfl (Nat.le_of_ble_eq_true rfl) rfl ?_
  show am_Go 105 (4, [.ref 133], [], w, 0, 0) _
  refine ar_aload_n (pc' := 5) hM rfl rfl rfl ?_
  refine ar_bipush (x := 6) (pc' := 7) hM rfl (by decide) rfl ?_
  refine ar_newI (m := 6) (pc' := 9) (k3 := 1) (k4 := 6) (L := 134) hM rfl (by decide) (by decide) rfl rfl (Nat.le_of_ble_eq_true rfl) (Nat.le_of_ble_eq_true rfl) rfl hL (fun w1 hL1 hw1 hc1 => ?_)
  have hs1 : am_same (ge3 133 133 134) w w1 := (am_same.rf : am_same (ge3 133 133 134) w w).tr (hw1.mono (fun b hb => Or.inr (Or.inr hb)))
  have ts1 : am_same (ge_ 133) w w1 := (am_same.rf).tr (hs1.mono (fun b hb => by unfold ge3 at hb; unfold ge_; omega))
  have f1_133 : w1[133]? = some (.inr (11, [.int 0, .int 0, .int 0, .int 0, .null, .null, .null, .null, .null, .null, .null, .int 0, .int 0, .null, .int 0, .int 0, .int 0, .null, .int 0, .int 0, .int 0, .null, .null, .int 0, .null, .null, .null, .long 0, .null, .null])) := hw1.at (by unfold ge_; omega) ho
  show am_Go 105 (9, [.ref 133], [.ref 134, .ref 133], w1, 1, 6) _
  refine ar_putfield (pc' := 12) hM rfl f1_133 (Nat.le_of_ble_eq_true rfl) rfl (by decide) rfl ?_
  show am_Go 105 (12, [.ref 133], [], (w1.set 133 (.inr (11, [.int 0, .int 0, .int 0, .int 0, .ref 134, .null, .null, .null, .null, .null, .null, .int 0, .int 0, .null, .int 0, .int 0, .int 0, .null, .int 0, .int 0, .int 0, .null, .null, .int 0, .null, .null, .null, .long 0, .null, .null]))), 1, 6) _
  refine ar_aload_n (pc' := 13) hM rfl rfl rfl ?_
  refine ar_bipush (x := 6) (pc' := 15) hM rfl (by decide) rfl ?_
  refine ar_newI (m := 6) (pc' := 17) (k3 := 2) (k4 := 12) (L := 135) hM rfl (by decide) (by decide) rfl rfl (Nat.le_of_ble_eq_true rfl) (Nat.le_of_ble_eq_true rfl) rfl (List.length_set.trans hL1) (fun w2 hL2 hw2 hc2 => ?_)
  have hs2 : am_same (ge3 133 133 135) w1 w2 := ((am_same.set am_same.rf (by unfold ge3; omega)) : am_same (ge3 133 133 135) w1 (w1.set 133 (.inr (11, [.int 0, .int 0, .int 0, .int 0, .ref 134, .null, .null, .null, .null, .null, .null, .int 0, .int 0, .null, .int 0, .int 0, .int 0, .null, .int 0, .int 0, .int 0, .null, .null, .int 0, .null, .null, .null, .long 0, .null, .null])))).tr (hw2.mono (fun b hb => Or.inr (Or.inr hb)))
  have ts2 : am_same (ge_ 133) w w2 := (ts1).tr (hs2.mono (fun b hb => by unfold ge3 at hb; unfold ge_; omega))
  have f2_133 : w2[133]? = some (.inr (11, [.int 0, .int 0, .int 0, .int 0, .ref 134, .null, .null, .null, .null, .null, .null, .int 0, .int 0, .null, .int 0, .int 0, .int 0, .null, .int 0, .int 0, .int 0, .null, .null, .int 0, .null, .null, .null, .long 0, .null, .null])) := hw2.at (by unfold ge_; omega) (am_gs f1_133)
  have f2_134 : w2[134]? = some (.inl (0, 6, .inl (fun _ => 0))) := hw2.at (by unfold ge_; omega) (am_gn (by decide) hc1)
  show am_Go 105 (17, [.ref 133], [.ref 135, .ref 133], w2, 2, 12) _
  refine ar_putfield (pc' := 20) hM rfl f2_133 (Nat.le_of_ble_eq_true rfl) rfl (by decide) rfl ?_
  show am_Go 105 (20, [.ref 133], [], (w2.set 133 (.inr (11, [.int 0, .int 0, .int 0, .int 0, .ref 134, .ref 135, .null, .null, .null, .null, .null, .int 0, .int 0, .null, .int 0, .int 0, .int 0, .null, .int 0, .int 0, .int 0, .null, .null, .int 0, .null, .null, .null, .long 0, .null, .null]))), 2, 12) _
  refine ar_aload_n (pc' := 21) hM rfl rfl rfl ?_
  refine ar_bipush (x := 6) (pc' := 23) hM rfl (by decide) rfl ?_
  refine ar_newI (m := 6) (pc' := 25) (k3 := 3) (k4 := 18) (L := 136) hM rfl (by decide) (by decide) rfl rfl (Nat.le_of_ble_eq_true rfl) (Nat.le_of_ble_eq_true rfl) rfl (List.length_set.trans hL2) (fun w3 hL3 hw3 hc3 => ?_)
  have hs3 : am_same (ge3 133 133 136) w2 w3 := ((am_same.set am_same.rf (by unfold ge3; omega)) : am_same (ge3 133 133 136) w2 (w2.set 133 (.inr (11, [.int 0, .int 0, .int 0, .int 0, .ref 134, .ref 135, .null, .null, .null, .null, .null, .int 0, .int 0, .null, .int 0, .int 0, .int 0, .null, .int 0, .int 0, .int 0, .null, .null, .int 0, .null, .null, .null, .long 0, .null, .null])))).tr (hw3.mono (fun b hb => Or.inr (Or.inr hb)))
  have ts3 : am_same (ge_ 133) w w3 := (ts2).tr (hs3.mono (fun b hb => by unfold ge3 at hb; unfold ge_; omega))
  have f3_133 : w3[133]? = some (.inr (11, [.int 0, .int 0, .int 0, .int 0, .ref 134, .ref 135, .null, .null, .null, .null, .null, .int 0, .int 0, .null, .int 0, .int 0, .int 0, .null, .int 0, .int 0, .int 0, .null, .null, .int 0, .null, .null, .null, .long 0, .null, .null])) := hw3.at (by unfold ge_; omega) (am_gs f2_133)
  have f3_134 : w3[134]? = some (.inl (0, 6, .inl (fun _ => 0))) := hw3.at (by unfold ge_; omega) (am_gn (by decide) f2_134)
  have f3_135 : w3[135]? = some (.inl (0, 6, .inl (fun _ => 0))) := hw3.at (by unfold ge_; omega) (am_gn (by decide) hc2)
  show am_Go 105 (25, [.ref 133], [.ref 136, .ref 133], w3, 3, 18) _
  refine ar_putfield (pc' := 28) hM rfl f3_133 (Nat.le_of_ble_eq_true rfl) rfl (by decide) rfl ?_
  show am_Go 105 (28, [.ref 133], [], (w3.set 133 (.inr (11, [.int 0, .int 0, .int 0, .int 0, .ref 134, .ref 135, .ref 136, .null, .null, .null, .null, .int 0, .int 0, .null, .int 0, .int 0, .int 0, .null, .int 0, .int 0, .int 0, .null, .null, .int 0, .null, .null, .null, .long 0, .null, .null]))), 3, 18) _
  refine ar_aload_n (pc' := 29) hM rfl rfl rfl ?_
  refine ar_iconst (x := 5) (pc' := 30) hM rfl (by decide) rfl ?_
  refine ar_newI (m := 5) (pc' := 32) (k3 := 4) (k4 := 23) (L := 137) hM rfl (by decide) (by decide) rfl rfl (Nat.le_of_ble_eq_true rfl) (Nat.le_of_ble_eq_true rfl) rfl (List.length_set.trans hL3) (fun w4 hL4 hw4 hc4 => ?_)
  have hs4 : am_same (ge3 133 133 137) w3 w4 := ((am_same.set am_same.rf (by unfold ge3; omega)) : am_same (ge3 133 133 137) w3 (w3.set 133 (.inr (11, [.int 0, .int 0, .int 0, .int 0, .ref 134, .ref 135, .ref 136, .null, .null, .null, .null, .int 0, .int 0, .null, .int 0, .int 0, .int 0, .null, .int 0, .int 0, .int 0, .null, .null, .int 0, .null, .null, .null, .long 0, .null, .null])))).tr (hw4.mono (fun b hb => Or.inr (Or.inr hb)))
  have ts4 : am_same (ge_ 133) w w4 := (ts3).tr (hs4.mono (fun b hb => by unfold ge3 at hb; unfold ge_; omega))
  have f4_133 : w4[133]? = some (.inr (11, [.int 0, .int 0, .int 0, .int 0, .ref 134, .ref 135, .ref 136, .null, .null, .null, .null, .int 0, .int 0, .null, .int 0, .int 0, .int 0, .null, .int 0, .int 0, .int 0, .null, .null, .int 0, .null, .null, .null, .long 0, .null, .null])) := hw4.at (by unfold ge_; omega) (am_gs f3_133)
  have f4_134 : w4[134]? = some (.inl (0, 6, .inl (fun _ => 0))) := hw4.at (by unfold ge_; omega) (am_gn (by decide) f3_134)
  have f4_135 : w4[135]? = some (.inl (0, 6, .inl (fun _ => 0))) := hw4.at (by unfold ge_; omega) (am_gn (by decide) f3_135)
  have f4_136 : w4[136]? = some (.inl (0, 6, .inl (fun _ => 0))) := hw4.at (by unfold ge_; omega) (am_gn (by decide) hc3)
  show am_Go 105 (32, [.ref 133], [.ref 137, .ref 133], w4, 4, 23) _
  refine ar_putfield (pc' := 35) hM rfl f4_133 (Nat.le_of_ble_eq_true rfl) rfl (by decide) rfl ?_
  show am_Go 105 (35, [.ref 133], [], (w4.set 133 (.inr (11, [.int 0, .int 0, .int 0, .int 0, .ref 134, .ref 135, .ref 136, .ref 137, .null, .null, .null, .int 0, .int 0, .null, .int 0, .int 0, .int 0, .null, .int 0, .int 0, .int 0, .null, .null, .int 0, .null, .null, .null, .long 0, .null, .null]))), 4, 23) _
  refine ar_aload_n (pc' := 36) hM rfl rfl rfl ?_
  refine ar_bipush (x := 42) (pc' := 38) hM rfl (by decide) rfl ?_
  refine ar_newI (m := 42) (pc' := 40) (k3 := 5) (k4 := 65) (L := 138) hM rfl (by decide) (by decide) rfl rfl (Nat.le_of_ble_eq_true rfl) (Nat.le_of_ble_eq_true rfl) rfl (List.length_set.trans hL4) (fun w5 hL5 hw5 hc5 => ?_)
  have hs5 : am_same (ge3 133 133 138) w4 w5 := ((am_same.set am_same.rf (by unfold ge3; omega)) : am_same (ge3 133 133 138) w4 (w4.set 133 (.inr (11, [.int 0, .int 0, .int 0, .int 0, .ref 134, .ref 135, .ref 136, .ref 137, .null, .null, .null, .int 0, .int 0, .null, .int 0, .int 0, .int 0, .null, .int 0, .int 0, .int 0, .null, .null, .int 0, .null, .null, .null, .long 0, .null, .null])))).tr (hw5.mono (fun b hb => Or.inr (Or.inr hb)))
  have ts5 : am_same (ge_ 133) w w5 := (ts4).tr (hs5.mono (fun b hb => by unfold ge3 at hb; unfold ge_; omega))
  have f5_133 : w5[133]? = some (.inr (11, [.int 0, .int 0, .int 0, .int 0, .ref 134, .ref 135, .ref 136, .ref 137, .null, .null, .null, .int 0, .int 0, .null, .int 0, .int 0, .int 0, .null, .int 0, .int 0, .int 0, .null, .null, .int 0, .null, .null, .null, .long 0, .null, .null])) := hw5.at (by unfold ge_; omega) (am_gs f4_133)
  have f5_134 : w5[134]? = some (.inl (0, 6, .inl (fun _ => 0))) := hw5.at (by unfold ge_; omega) (am_gn (by decide) f4_134)
  have f5_135 : w5[135]? = some (.inl (0, 6, .inl (fun _ => 0))) := hw5.at (by unfold ge_; omega) (am_gn (by decide) f4_135)
  have f5_136 : w5[136]? = some (.inl (0, 6, .inl (fun _ => 0))) := hw5.at (by unfold ge_; omega) (am_gn (by decide) f4_136)
  have f5_137 : w5[137]? = some (.inl (0, 5, .inl (fun _ => 0))) := hw5.at (by unfold ge_; omega) (am_gn (by decide) hc4)
  show am_Go 105 (40, [.ref 133], [.ref 138, .ref 133], w5, 5, 65) _
  refine ar_putfield (pc' := 43) hM rfl f5_133 (Nat.le_of_ble_eq_true rfl) rfl (by decide) rfl ?_
  show am_Go 105 (43, [.ref 133], [], (w5.set 133 (.inr (11, [.int 0, .int 0, .int 0, .int 0, .ref 134, .ref 135, .ref 136, .ref 137, .ref 138, .null, .null, .int 0, .int 0, .null, .int 0, .int 0, .int 0, .null, .int 0, .int 0, .int 0, .null, .null, .int 0, .null, .null, .null, .long 0, .null, .null]))), 5, 65) _
  refine ar_aload_n (pc' := 44) hM rfl rfl rfl ?_
  refine ar_bipush (x := 18) (pc' := 46) hM rfl (by decide) rfl ?_
  refine ar_newI (m := 18) (pc' := 48) (k3 := 6) (k4 := 83) (L := 139) hM rfl (by decide) (by decide) rfl rfl (Nat.le_of_ble_eq_true rfl) (Nat.le_of_ble_eq_true rfl) rfl (List.length_set.trans hL5) (fun w6 hL6 hw6 hc6 => ?_)
  have hs6 : am_same (ge3 133 133 139) w5 w6 := ((am_same.set am_same.rf (by unfold ge3; omega)) : am_same (ge3 133 133 139) w5 (w5.set 133 (.inr (11, [.int 0, .int 0, .int 0, .int 0, .ref 134, .ref 135, .ref 136, .ref 137, .ref 138, .null, .null, .int 0, .int 0, .null, .int 0, .int 0, .int 0, .null, .int 0, .int 0, .int 0, .null, .null, .int 0, .null, .null, .null, .long 0, .null, .null])))).tr (hw6.mono (fun b hb => Or.inr (Or.inr hb)))
  have ts6 : am_same (ge_ 133) w w6 := (ts5).tr (hs6.mono (fun b hb => by unfold ge3 at hb; unfold ge_; omega))
  have f6_133 : w6[133]? = some (.inr (11, [.int 0, .int 0, .int 0, .int 0, .ref 134, .ref 135, .ref 136, .ref 137, .ref 138, .null, .null, .int 0, .int 0, .null, .int 0, .int 0, .int 0, .null, .int 0, .int 0, .int 0, .null, .null, .int 0, .null, .null, .null, .long 0, .null, .null])) := hw6.at (by unfold ge_; omega) (am_gs f5_133)
  have f6_134 : w6[134]? = some (.inl (0, 6, .inl (fun _ => 0))) := hw6.at (by unfold ge_; omega) (am_gn (by decide) f5_134)
  have f6_135 : w6[135]? = some (.inl (0, 6, .inl (fun _ => 0))) := hw6.at (by unfold ge_; omega) (am_gn (by decide) f5_135)
  have f6_136 : w6[136]? = some (.inl (0, 6, .inl (fun _ => 0))) := hw6.at (by unfold ge_; omega) (am_gn (by decide) f5_136)
  have f6_137 : w6[137]? = some (.inl (0, 5, .inl (fun _ => 0))) := hw6.at (by unfold ge_; omega) (am_gn (by decide) f5_137)
  have f6_138 : w6[138]? = some (.inl (0, 42, .inl (fun _ => 0))) := hw6.at (by unfold ge_; omega) (am_gn (by decide) hc5)
  show am_Go 105 (48, [.ref 133], [.ref 139, .ref 133], w6, 6, 83) _
  refine ar_putfield (pc' := 51) hM rfl f6_133 (Nat.le_of_ble_eq_true rfl) rfl (by decide) rfl ?_
  show am_Go 105 (51, [.ref 133], [], (w6.set 133 (.inr (11, [.int 0, .int 0, .int 0, .int 0, .ref 134, .ref 135, .ref 136, .ref 137, .ref 138, .ref 139, .null, .int 0, .int 0, .null, .int 0, .int 0, .int 0, .null, .int 0, .int 0, .int 0, .null, .null, .int 0, .null, .null, .null, .long 0, .null, .null]))), 6, 83) _
  refine ar_aload_n (pc' := 52) hM rfl rfl rfl ?_
  refine ar_iconst (x := 5) (pc' := 53) hM rfl (by decide) rfl ?_
  refine ar_newI (m := 5) (pc' := 55) (k3 := 7) (k4 := 88) (L := 140) hM rfl (by decide) (by decide) rfl rfl (Nat.le_of_ble_eq_true rfl) (Nat.le_of_ble_eq_true rfl) rfl (List.length_set.trans hL6) (fun w7 hL7 hw7 hc7 => ?_)
  have hs7 : am_same (ge3 133 133 140) w6 w7 := ((am_same.set am_same.rf (by unfold ge3; omega)) : am_same (ge3 133 133 140) w6 (w6.set 133 (.inr (11, [.int 0, .int 0, .int 0, .int 0, .ref 134, .ref 135, .ref 136, .ref 137, .ref 138, .ref 139, .null, .int 0, .int 0, .null, .int 0, .int 0, .int 0, .null, .int 0, .int 0, .int 0, .null, .null, .int 0, .null, .null, .null, .long 0, .null, .null])))).tr (hw7.mono (fun b hb => Or.inr (Or.inr hb)))
  have ts7 : am_same (ge_ 133) w w7 := (ts6).tr (hs7.mono (fun b hb => by unfold ge3 at hb; unfold ge_; omega))
  have f7_133 : w7[133]? = some (.inr (11, [.int 0, .int 0, .int 0, .int 0, .ref 134, .ref 135, .ref 136, .ref 137, .ref 138, .ref 139, .null, .int 0, .int 0, .null, .int 0, .int 0, .int 0, .null, .int 0, .int 0, .int 0, .null, .null, .int 0, .null, .null, .null, .long 0, .null, .null])) := hw7.at (by unfold ge_; omega) (am_gs f6_133)
  have f7_134 : w7[134]? = some (.inl (0, 6, .inl (fun _ => 0))) := hw7.at (by unfold ge_; omega) (am_gn (by decide) f6_134)
  have f7_135 : w7[135]? = some (.inl (0, 6, .inl (fun _ => 0))) := hw7.at (by unfold ge_; omega) (am_gn (by decide) f6_135)
  have f7_136 : w7[136]? = some (.inl (0, 6, .inl (fun _ => 0))) := hw7.at (by unfold ge_; omega) (am_gn (by decide) f6_136)
  have f7_137 : w7[137]? = some (.inl (0, 5, .inl (fun _ => 0))) := hw7.at (by unfold ge_; omega) (am_gn (by decide) f6_137)
  have f7_138 : w7[138]? = some (.inl (0, 42, .inl (fun _ => 0))) := hw7.at (by unfold ge_; omega) (am_gn (by decide) f6_138)
  have f7_139 : w7[139]? = some (.inl (0, 18, .inl (fun _ => 0))) := hw7.at (by unfold ge_; omega) (am_gn (by decide) hc6)
  show am_Go 105 (55, [.ref 133], [.ref 140, .ref 133], w7, 7, 88) _
  refine ar_putfield (pc' := 58) hM rfl f7_133 (Nat.le_of_ble_eq_true rfl) rfl (by decide) rfl ?_
  show am_Go 105 (58, [.ref 133], [], (w7.set 133 (.inr (11, [.int 0, .int 0, .int 0, .int 0, .ref 134, .ref 135, .ref 136, .ref 137, .ref 138, .ref 139, .ref 140, .int 0, .int 0, .null, .int 0, .int 0, .int 0, .null, .int 0, .int 0, .int 0, .null, .null, .int 0, .null, .null, .null, .long 0, .null, .null]))), 7, 88) _
  refine ar_aload_n (pc' := 59) hM rfl rfl rfl ?_
  refine ar_bipush (x := 40) (pc' := 61) hM rfl (by decide) rfl ?_
  refine ar_newI (m := 40) (pc' := 63) (k3 := 8) (k4 := 128) (L := 141) hM rfl (by decide) (by decide) rfl rfl (Nat.le_of_ble_eq_true rfl) (Nat.le_of_ble_eq_true rfl) rfl (List.length_set.trans hL7) (fun w8 hL8 hw8 hc8 => ?_)
  have hs8 : am_same (ge3 133 133 141) w7 w8 := ((am_same.set am_same.rf (by unfold ge3; omega)) : am_same (ge3 133 133 141) w7 (w7.set 133 (.inr (11, [.int 0, .int 0, .int 0, .int 0, .ref 134, .ref 135, .ref 136, .ref 137, .ref 138, .ref 139, .ref 140, .int 0, .int 0, .null, .int 0, .int 0, .int 0, .null, .int 0, .int 0, .int 0, .null, .null, .int 0, .null, .null, .null, .long 0, .null, .null])))).tr (hw8.mono (fun b hb => Or.inr (Or.inr hb)))
  have ts8 : am_same (ge_ 133) w w8 := (ts7).tr (hs8.mono (fun b hb => by unfold ge3 at hb; unfold ge_; omega))
  have f8_133 : w8[133]? = some (.inr (11, [.int 0, .int 0, .int 0, .int 0, .ref 134, .ref 135, .ref 136, .ref 137, .ref 138, .ref 139, .ref 140, .int 0, .int 0, .null, .int 0, .int 0, .int 0, .null, .int 0, .int 0, .int 0, .null, .null, .int 0, .null, .null, .null, .long 0, .null, .null])) := hw8.at (by unfold ge_; omega) (am_gs f7_133)
  have f8_134 : w8[134]? = some (.inl (0, 6, .inl (fun _ => 0))) := hw8.at (by unfold ge_; omega) (am_gn (by decide) f7_134)
  have f8_135 : w8[135]? = some (.inl (0, 6, .inl (fun _ => 0))) := hw8.at (by unfold ge_; omega) (am_gn (by decide) f7_135)
  have f8_136 : w8[136]? = some (.inl (0, 6, .inl (fun _ => 0))) := hw8.at (by unfold ge_; omega) (am_gn (by decide) f7_136)
  have f8_137 : w8[137]? = some (.inl (0, 5, .inl (fun _ => 0))) := hw8.at (by unfold ge_; omega) (am_gn (by decide) f7_137)
  have f8_138 : w8[138]? = some (.inl (0, 42, .inl (fun _ => 0))) := hw8.at (by unfold ge_; omega) (am_gn (by decide) f7_138)
  have f8_139 : w8[139]? = some (.inl (0, 18, .inl (fun _ => 0))) := hw8.at (by unfold ge_; omega) (am_gn (by decide) f7_139)
  have f8_140 : w8[140]? = some (.inl (0, 5, .inl (fun _ => 0))) := hw8.at (by unfold ge_; omega) (am_gn (by decide) hc7)
  show am_Go 105 (63, [.ref 133], [.ref 141, .ref 133], w8, 8, 128) _
  refine ar_putfield (pc' := 66) hM rfl f8_133 (Nat.le_of_ble_eq_true rfl) rfl (by decide) rfl ?_
  show am_Go 105 (66, [.ref 133], [], (w8.set 133 (.inr (11, [.int 0, .int 0, .int 0, .int 0, .ref 134, .ref 135, .ref 136, .ref 137, .ref 138, .ref 139, .ref 140, .int 0, .int 0, .ref 141, .int 0, .int 0, .int 0, .null, .int 0, .int 0, .int 0, .null, .null, .int 0, .null, .null, .null, .long 0, .null, .null]))), 8, 128) _
  refine ar_aload_n (pc' := 67) hM rfl rfl rfl ?_
  refine ar_bipush (x := 36) (pc' := 69) hM rfl (by decide) rfl ?_
  refine ar_newI (m := 36) (pc' := 71) (k3 := 9) (k4 := 164) (L := 142) hM rfl (by decide) (by decide) rfl rfl (Nat.le_of_ble_eq_true rfl) (Nat.le_of_ble_eq_true rfl) rfl (List.length_set.trans hL8) (fun w9 hL9 hw9 hc9 => ?_)
  have hs9 : am_same (ge3 133 133 142) w8 w9 := ((am_same.set am_same.rf (by unfold ge3; omega)) : am_same (ge3 133 133 142) w8 (w8.set 133 (.inr (11, [.int 0, .int 0, .int 0, .int 0, .ref 134, .ref 135, .ref 136, .ref 137, .ref 138, .ref 139, .ref 140, .int 0, .int 0, .ref 141, .int 0, .int 0, .int 0, .null, .int 0, .int 0, .int 0, .null, .null, .int 0, .null, .null, .null, .long 0, .null, .null])))).tr (hw9.mono (fun b hb => Or.inr (Or.inr hb)))
  have ts9 : am_same (ge_ 133) w w9 := (ts8).tr (hs9.mono (fun b hb => by unfold ge3 at hb; unfold ge_; omega))
  have f9_133 : w9[133]? = some (.inr (11, [.int 0, .int 0, .int 0, .int 0, .ref 134, .ref 135, .ref 136, .ref 137, .ref 138, .ref 139, .ref 140, .int 0, .int 0, .ref 141, .int 0, .int 0, .int 0, .null, .int 0, .int 0, .int 0, .null, .null, .int 0, .null, .null, .null, .long 0, .null, .null])) := hw9.at (by unfold ge_; omega) (am_gs f8_133)
  have f9_134 : w9[134]? = some (.inl (0, 6, .inl (fun _ => 0))) := hw9.at (by unfold ge_; omega) (am_gn (by decide) f8_134)
  have f9_135 : w9[135]? = some (.inl (0, 6, .inl (fun _ => 0))) := hw9.at (by unfold ge_; omega) (am_gn (by decide) f8_135)
  have f9_136 : w9[136]? = some (.inl (0, 6, .inl (fun _ => 0))) := hw9.at (by unfold ge_; omega) (am_gn (by decide) f8_136)
  have f9_137 : w9[137]? = some (.inl (0, 5, .inl (fun _ => 0))) := hw9.at (by unfold ge_; omega) (am_gn (by decide) f8_137)
  have f9_138 : w9[138]? = some (.inl (0, 42, .inl (fun _ => 0))) := hw9.at (by unfold ge_; omega) (am_gn (by decide) f8_138)
  have f9_139 : w9[139]? = some (.inl (0, 18, .inl (fun _ => 0))) := hw9.at (by unfold ge_; omega) (am_gn (by decide) f8_139)
  have f9_140 : w9[140]? = some (.inl (0, 5, .inl (fun _ => 0))) := hw9.at (by unfold ge_; omega) (am_gn (by decide) f8_140)
  have f9_141 : w9[141]? = some (.inl (0, 40, .inl (fun _ => 0))) := hw9.at (by unfold ge_; omega) (am_gn (by decide) hc8)
  show am_Go 105 (71, [.ref 133], [.ref 142, .ref 133], w9, 9, 164) _
  refine ar_putfield (pc' := 74) hM rfl f9_133 (Nat.le_of_ble_eq_true rfl) rfl (by decide) rfl ?_
  show am_Go 105 (74, [.ref 133], [], (w9.set 133 (.inr (11, [.int 0, .int 0, .int 0, .int 0, .ref 134, .ref 135, .ref 136, .ref 137, .ref 138, .ref 139, .ref 140, .int 0, .int 0, .ref 141, .int 0, .int 0, .int 0, .ref 142, .int 0, .int 0, .int 0, .null, .null, .int 0, .null, .null, .null, .long 0, .null, .null]))), 9, 164) _
  refine ar_aload_n (pc' := 75) hM rfl rfl rfl ?_
  refine ar_sipush (x := 294) (pc' := 78) hM rfl (by decide) rfl ?_
  refine ar_newI (m := 294) (pc' := 80) (k3 := 10) (k4 := 458) (L := 143) hM rfl (by decide) (by decide) rfl rfl (Nat.le_of_ble_eq_true rfl) (Nat.le_of_ble_eq_true rfl) rfl (List.length_set.trans hL9) (fun w10 hL10 hw10 hc10 => ?_)
  have hs10 : am_same (ge3 133 133 143) w9 w10 := ((am_same.set am_same.rf (by unfold ge3; omega)) : am_same (ge3 133 133 143) w9 (w9.set 133 (.inr (11, [.int 0, .int 0, .int 0, .int 0, .ref 134, .ref 135, .ref 136, .ref 137, .ref 138, .ref 139, .ref 140, .int 0, .int 0, .ref 141, .int 0, .int 0, .int 0, .ref 142, .int 0, .int 0, .int 0, .null, .null, .int 0, .null, .null, .null, .long 0, .null, .null])))).tr (hw10.mono (fun b hb => Or.inr (Or.inr hb)))
  have ts10 : am_same (ge_ 133) w w10 := (ts9).tr (hs10.mono (fun b hb => by unfold ge3 at hb; unfold ge_; omega))
  have f10_133 : w10[133]? = some (.inr (11, [.int 0, .int 0, .int 0, .int 0, .ref 134, .ref 135, .ref 136, .ref 137, .ref 138, .ref 139, .ref 140, .int 0, .int 0, .ref 141, .int 0, .int 0, .int 0, .ref 142, .int 0, .int 0, .int 0, .null, .null, .int 0, .null, .null, .null, .long 0, .null, .null])) := hw10.at (by unfold ge_; omega) (am_gs f9_133)
  have f10_134 : w10[134]? = some (.inl (0, 6, .inl (fun _ => 0))) := hw10.at (by unfold ge_; omega) (am_gn (by decide) f9_134)
  have f10_135 : w10[135]? = some (.inl (0, 6, .inl (fun _ => 0))) := hw10.at (by unfold ge_; omega) (am_gn (by decide) f9_135)
  have f10_136 : w10[136]? = some (.inl (0, 6, .inl (fun _ => 0))) := hw10.at (by unfold ge_; omega) (am_gn (by decide) f9_136)
  have f10_137 : w10[137]? = some (.inl (0, 5, .inl (fun _ => 0))) := hw10.at (by unfold ge_; omega) (am_gn (by decide) f9_137)
  have f10_138 : w10[138]? = some (.inl (0, 42, .inl (fun _ => 0))) := hw10.at (by unfold ge_; omega) (am_gn (by decide) f9_138)
  have f10_139 : w10[139]? = some (.inl (0, 18, .inl (fun _ => 0))) := hw10.at (by unfold ge_; omega) (am_gn (by decide) f9_139)
  have f10_140 : w10[140]? = some (.inl (0, 5, .inl (fun _ => 0))) := hw10.at (by unfold ge_; omega) (am_gn (by decide) f9_140)
  have f10_141 : w10[141]? = some (.inl (0, 40, .inl (fun _ => 0))) := hw10.at (by unfold ge_; omega) (am_gn (by decide) f9_141)
  have f10_142 : w10[142]? = some (.inl (0, 36, .inl (fun _ => 0))) := hw10.at (by unfold ge_; omega) (am_gn (by decide) hc9)
  show am_Go 105 (80, [.ref 133], [.ref 143, .ref 133], w10, 10, 458) _
  refine ar_putfield (pc' := 83) hM rfl f10_133 (Nat.le_of_ble_eq_true rfl) rfl (by decide) rfl ?_
  show am_Go 105 (83, [.ref 133], [], (w10.set 133 (.inr (11, [.int 0, .int 0, .int 0, .int 0, .ref 134, .ref 135, .ref 136, .ref 137, .ref 138, .ref 139, .ref 140, .int 0, .int 0, .ref 141, .int 0, .int 0, .int 0, .ref 142, .int 0, .int 0, .int 0, .ref 143, .null, .int 0, .null, .null, .null, .long 0, .null, .null]))), 10, 458) _
  refine ar_aload_n (pc' := 84) hM rfl rfl rfl ?_
  refine ar_bipush (x := 6) (pc' := 86) hM rfl (by decide) rfl ?_
  refine ar_newI (m := 6) (pc' := 88) (k3 := 11) (k4 := 464) (L := 144) hM rfl (by decide) (by decide) rfl rfl (Nat.le_of_ble_eq_true rfl) (Nat.le_of_ble_eq_true rfl) rfl (List.length_set.trans hL10) (fun w11 hL11 hw11 hc11 => ?_)
  have hs11 : am_same (ge3 133 133 144) w10 w11 := ((am_same.set am_same.rf (by unfold ge3; omega)) : am_same (ge3 133 133 144) w10 (w10.set 133 (.inr (11, [.int 0, .int 0, .int 0, .int 0, .ref 134, .ref 135, .ref 136, .ref 137, .ref 138, .ref 139, .ref 140, .int 0, .int 0, .ref 141, .int 0, .int 0, .int 0, .ref 142, .int 0, .int 0, .int 0, .ref 143, .null, .int 0, .null, .null, .null, .long 0, .null, .null])))).tr (hw11.mono (fun b hb => Or.inr (Or.inr hb)))
  have ts11 : am_same (ge_ 133) w w11 := (ts10).tr (hs11.mono (fun b hb => by unfold ge3 at hb; unfold ge_; omega))
  have f11_133 : w11[133]? = some (.inr (11, [.int 0, .int 0, .int 0, .int 0, .ref 134, .ref 135, .ref 136, .ref 137, .ref 138, .ref 139, .ref 140, .int 0, .int 0, .ref 141, .int 0, .int 0, .int 0, .ref 142, .int 0, .int 0, .int 0, .ref 143, .null, .int 0, .null, .null, .null, .long 0, .null, .null])) := hw11.at (by unfold ge_; omega) (am_gs f10_133)
  have f11_134 : w11[134]? = some (.inl (0, 6, .inl (fun _ => 0))) := hw11.at (by unfold ge_; omega) (am_gn (by decide) f10_134)
  have f11_135 : w11[135]? = some (.inl (0, 6, .inl (fun _ => 0))) := hw11.at (by unfold ge_; omega) (am_gn (by decide) f10_135)
  have f11_136 : w11[136]? = some (.inl (0, 6, .inl (fun _ => 0))) := hw11.at (by unfold ge_; omega) (am_gn (by decide) f10_136)
  have f11_137 : w11[137]? = some (.inl (0, 5, .inl (fun _ => 0))) := hw11.at (by unfold ge_; omega) (am_gn (by decide) f10_137)
  have f11_138 : w11[138]? = some (.inl (0, 42, .inl (fun _ => 0))) := hw11.at (by unfold ge_; omega) (am_gn (by decide) f10_138)
  have f11_139 : w11[139]? = some (.inl (0, 18, .inl (fun _ => 0))) := hw11.at (by unfold ge_; omega) (am_gn (by decide) f10_139)
  have f11_140 : w11[140]? = some (.inl (0, 5, .inl (fun _ => 0))) := hw11.at (by unfold ge_; omega) (am_gn (by decide) f10_140)
  have f11_141 : w11[141]? = some (.inl (0, 40, .inl (fun _ => 0))) := hw11.at (by unfold ge_; omega) (am_gn (by decide) f10_141)
  have f11_142 : w11[142]? = some (.inl (0, 36, .inl (fun _ => 0))) := hw11.at (by unfold ge_; omega) (am_gn (by decide) f10_142)
  have f11_143 : w11[143]? = some (.inl (0, 294, .inl (fun _ => 0))) := hw11.at (by unfold ge_; omega) (am_gn (by decide) hc10)
  show am_Go 105 (88, [.ref 133], [.ref 144, .ref 133], w11, 11, 464) _
  refine ar_putfield (pc' := 91) hM rfl f11_133 (Nat.le_of_ble_eq_true rfl) rfl (by decide) rfl ?_
  show am_Go 105 (91, [.ref 133], [], (w11.set 133 (.inr (11, [.int 0, .int 0, .int 0, .int 0, .ref 134, .ref 135, .ref 136, .ref 137, .ref 138, .ref 139, .ref 140, .int 0, .int 0, .ref 141, .int 0, .int 0, .int 0, .ref 142, .int 0, .int 0, .int 0, .ref 143, .ref 144, .int 0, .null, .null, .null, .long 0, .null, .null]))), 11, 464) _
  refine ar_aload_n (pc' := 92) hM rfl rfl rfl ?_
  refine ar_bipush (x := 6) (pc' := 94) hM rfl (by decide) rfl ?_
  refine ar_newI (m := 6) (pc' := 96) (k3 := 12) (k4 := 470) (L := 145) hM rfl (by decide) (by decide) rfl rfl (Nat.le_of_ble_eq_true rfl) (Nat.le_of_ble_eq_true rfl) rfl (List.length_set.trans hL11) (fun w12 hL12 hw12 hc12 => ?_)
  have hs12 : am_same (ge3 133 133 145) w11 w12 := ((am_same.set am_same.rf (by unfold ge3; omega)) : am_same (ge3 133 133 145) w11 (w11.set 133 (.inr (11, [.int 0, .int 0, .int 0, .int 0, .ref 134, .ref 135, .ref 136, .ref 137, .ref 138, .ref 139, .ref 140, .int 0, .int 0, .ref 141, .int 0, .int 0, .int 0, .ref 142, .int 0, .int 0, .int 0, .ref 143, .ref 144, .int 0, .null, .null, .null, .long 0, .null, .null])))).tr (hw12.mono (fun b hb => Or.inr (Or.inr hb)))
  have ts12 : am_same (ge_ 133) w w12 := (ts11).tr (hs12.mono (fun b hb => by unfold ge3 at hb; unfold ge_; omega))
  have f12_133 : w12[133]? = some (.inr (11, [.int 0, .int 0, .int 0, .int 0, .ref 134, .ref 135, .ref 136, .ref 137, .ref 138, .ref 139, .ref 140, .int 0, .int 0, .ref 141, .int 0, .int 0, .int 0, .ref 142, .int 0, .int 0, .int 0, .ref 143, .ref 144, .int 0, .null, .null, .null, .long 0, .null, .null])) := hw12.at (by unfold ge_; omega) (am_gs f11_133)
  have f12_134 : w12[134]? = some (.inl (0, 6, .inl (fun _ => 0))) := hw12.at (by unfold ge_; omega) (am_gn (by decide) f11_134)
  have f12_135 : w12[135]? = some (.inl (0, 6, .inl (fun _ => 0))) := hw12.at (by unfold ge_; omega) (am_gn (by decide) f11_135)
  have f12_136 : w12[136]? = some (.inl (0, 6, .inl (fun _ => 0))) := hw12.at (by unfold ge_; omega) (am_gn (by decide) f11_136)
  have f12_137 : w12[137]? = some (.inl (0, 5, .inl (fun _ => 0))) := hw12.at (by unfold ge_; omega) (am_gn (by decide) f11_137)
  have f12_138 : w12[138]? = some (.inl (0, 42, .inl (fun _ => 0))) := hw12.at (by unfold ge_; omega) (am_gn (by decide) f11_138)
  have f12_139 : w12[139]? = some (.inl (0, 18, .inl (fun _ => 0))) := hw12.at (by unfold ge_; omega) (am_gn (by decide) f11_139)
  have f12_140 : w12[140]? = some (.inl (0, 5, .inl (fun _ => 0))) := hw12.at (by unfold ge_; omega) (am_gn (by decide) f11_140)
  have f12_141 : w12[141]? = some (.inl (0, 40, .inl (fun _ => 0))) := hw12.at (by unfold ge_; omega) (am_gn (by decide) f11_141)
  have f12_142 : w12[142]? = some (.inl (0, 36, .inl (fun _ => 0))) := hw12.at (by unfold ge_; omega) (am_gn (by decide) f11_142)
  have f12_143 : w12[143]? = some (.inl (0, 294, .inl (fun _ => 0))) := hw12.at (by unfold ge_; omega) (am_gn (by decide) f11_143)
  have f12_144 : w12[144]? = some (.inl (0, 6, .inl (fun _ => 0))) := hw12.at (by unfold ge_; omega) (am_gn (by decide) hc11)
  show am_Go 105 (96, [.ref 133], [.ref 145, .ref 133], w12, 12, 470) _
  refine ar_putfield (pc' := 99) hM rfl f12_133 (Nat.le_of_ble_eq_true rfl) rfl (by decide) rfl ?_
  show am_Go 105 (99, [.ref 133], [], (w12.set 133 (.inr (11, [.int 0, .int 0, .int 0, .int 0, .ref 134, .ref 135, .ref 136, .ref 137, .ref 138, .ref 139, .ref 140, .int 0, .int 0, .ref 141, .int 0, .int 0, .int 0, .ref 142, .int 0, .int 0, .int 0, .ref 143, .ref 144, .int 0, .ref 145, .null, .null, .long 0, .null, .null]))), 12, 470) _
  refine ar_aload_n (pc' := 100) hM rfl rfl rfl ?_
  refine ar_bipush (x := 6) (pc' := 102) hM rfl (by decide) rfl ?_
  refine ar_newI (m := 6) (pc' := 104) (k3 := 13) (k4 := 476) (L := 146) hM rfl (by decide) (by decide) rfl rfl (Nat.le_of_ble_eq_true rfl) (Nat.le_of_ble_eq_true rfl) rfl (List.length_set.trans hL12) (fun w13 hL13 hw13 hc13 => ?_)
  have hs13 : am_same (ge3 133 133 146) w12 w13 := ((am_same.set am_same.rf (by unfold ge3; omega)) : am_same (ge3 133 133 146) w12 (w12.set 133 (.inr (11, [.int 0, .int 0, .int 0, .int 0, .ref 134, .ref 135, .ref 136, .ref 137, .ref 138, .ref 139, .ref 140, .int 0, .int 0, .ref 141, .int 0, .int 0, .int 0, .ref 142, .int 0, .int 0, .int 0, .ref 143, .ref 144, .int 0, .ref 145, .null, .null, .long 0, .null, .null])))).tr (hw13.mono (fun b hb => Or.inr (Or.inr hb)))
  have ts13 : am_same (ge_ 133) w w13 := (ts12).tr (hs13.mono (fun b hb => by unfold ge3 at hb; unfold ge_; omega))
  have f13_133 : w13[133]? = some (.inr (11, [.int 0, .int 0, .int 0, .int 0, .ref 134, .ref 135, .ref 136, .ref 137, .ref 138, .ref 139, .ref 140, .int 0, .int 0, .ref 141, .int 0, .int 0, .int 0, .ref 142, .int 0, .int 0, .int 0, .ref 143, .ref 144, .int 0, .ref 145, .null, .null, .long 0, .null, .null])) := hw13.at (by unfold ge_; omega) (am_gs f12_133)
  have f13_134 : w13[134]? = some (.inl (0, 6, .inl (fun _ => 0))) := hw13.at (by unfold ge_; omega) (am_gn (by decide) f12_134)
  have f13_135 : w13[135]? = some (.inl (0, 6, .inl (fun _ => 0))) := hw13.at (by unfold ge_; omega) (am_gn (by decide) f12_135)
  have f13_136 : w13[136]? = some (.inl (0, 6, .inl (fun _ => 0))) := hw13.at (by unfold ge_; omega) (am_gn (by decide) f12_136)
  have f13_137 : w13[137]? = some (.inl (0, 5, .inl (fun _ => 0))) := hw13.at (by unfold ge_; omega) (am_gn (by decide) f12_137)
  have f13_138 : w13[138]? = some (.inl (0, 42, .inl (fun _ => 0))) := hw13.at (by unfold ge_; omega) (am_gn (by decide) f12_138)
  have f13_139 : w13[139]? = some (.inl (0, 18, .inl (fun _ => 0))) := hw13.at (by unfold ge_; omega) (am_gn (by decide) f12_139)
  have f13_140 : w13[140]? = some (.inl (0, 5, .inl (fun _ => 0))) := hw13.at (by unfold ge_; omega) (am_gn (by decide) f12_140)
  have f13_141 : w13[141]? = some (.inl (0, 40, .inl (fun _ => 0))) := hw13.at (by unfold ge_; omega) (am_gn (by decide) f12_141)
  have f13_142 : w13[142]? = some (.inl (0, 36, .inl (fun _ => 0))) := hw13.at (by unfold ge_; omega) (am_gn (by decide) f12_142)
  have f13_143 : w13[143]? = some (.inl (0, 294, .inl (fun _ => 0))) := hw13.at (by unfold ge_; omega) (am_gn (by decide) f12_143)
  have f13_144 : w13[144]? = some (.inl (0, 6, .inl (fun _ => 0))) := hw13.at (by unfold ge_; omega) (am_gn (by decide) f12_144)
  have f13_145 : w13[145]? = some (.inl (0, 6, .inl (fun _ => 0))) := hw13.at (by unfold ge_; omega) (am_gn (by decide) hc12)
  show am_Go 105 (104, [.ref 133], [.ref 146, .ref 133], w13, 13, 476) _
  refine ar_putfield (pc' := 107) hM rfl f13_133 (Nat.le_of_ble_eq_true rfl) rfl (by decide) rfl ?_
  show am_Go 105 (107, [.ref 133], [], (w13.set 133 (.inr (11, [.int 0, .int 0, .int 0, .int 0, .ref 134, .ref 135, .ref 136, .ref 137, .ref 138, .ref 139, .ref 140, .int 0, .int 0, .ref 141, .int 0, .int 0, .int 0, .ref 142, .int 0, .int 0, .int 0, .ref 143, .ref 144, .int 0, .ref 145, .ref 146, .null, .long 0, .null, .null]))), 13, 476) _
  refine ar_aload_n (pc' := 108) hM rfl rfl rfl ?_
  refine ar_bipush (x := 6) (pc' := 110) hM rfl (by decide) rfl ?_
  refine ar_newI (m := 6) (pc' := 112) (k3 := 14) (k4 := 482) (L := 147) hM rfl (by decide) (by decide) rfl rfl (Nat.le_of_ble_eq_true rfl) (Nat.le_of_ble_eq_true rfl) rfl (List.length_set.trans hL13) (fun w14 hL14 hw14 hc14 => ?_)
  have hs14 : am_same (ge3 133 133 147) w13 w14 := ((am_same.set am_same.rf (by unfold ge3; omega)) : am_same (ge3 133 133 147) w13 (w13.set 133 (.inr (11, [.int 0, .int 0, .int 0, .int 0, .ref 134, .ref 135, .ref 136, .ref 137, .ref 138, .ref 139, .ref 140, .int 0, .int 0, .ref 141, .int 0, .int 0, .int 0, .ref 142, .int 0, .int 0, .int 0, .ref 143, .ref 144, .int 0, .ref 145, .ref 146, .null, .long 0, .null, .null])))).tr (hw14.mono (fun b hb => Or.inr (Or.inr hb)))
  have ts14 : am_same (ge_ 133) w w14 := (ts13).tr (hs14.mono (fun b hb => by unfold ge3 at hb; unfold ge_; omega))
  have f14_133 : w14[133]? = some (.inr (11, [.int 0, .int 0, .int 0, .int 0, .ref 134, .ref 135, .ref 136, .ref 137, .ref 138, .ref 139, .ref 140, .int 0, .int 0, .ref 141, .int 0, .int 0, .int 0, .ref 142, .int 0, .int 0, .int 0, .ref 143, .ref 144, .int 0, .ref 145, .ref 146, .null, .long 0, .null, .null])) := hw14.at (by unfold ge_; omega) (am_gs f13_133)
  have f14_134 : w14[134]? = some (.inl (0, 6, .inl (fun _ => 0))) := hw14.at (by unfold ge_; omega) (am_gn (by decide) f13_134)
  have f14_135 : w14[135]? = some (.inl (0, 6, .inl (fun _ => 0))) := hw14.at (by unfold ge_; omega) (am_gn (by decide) f13_135)
  have f14_136 : w14[136]? = some (.inl (0, 6, .inl (fun _ => 0))) := hw14.at (by unfold ge_; omega) (am_gn (by decide) f13_136)
  have f14_137 : w14[137]? = some (.inl (0, 5, .inl (fun _ => 0))) := hw14.at (by unfold ge_; omega) (am_gn (by decide) f13_137)
  have f14_138 : w14[138]? = some (.inl (0, 42, .inl (fun _ => 0))) := hw14.at (by unfold ge_; omega) (am_gn (by decide) f13_138)
  have f14_139 : w14[139]? = some (.inl (0, 18, .inl (fun _ => 0))) := hw14.at (by unfold ge_; omega) (am_gn (by decide) f13_139)
  have f14_140 : w14[140]? = some (.inl (0, 5, .inl (fun _ => 0))) := hw14.at (by unfold ge_; omega) (am_gn (by decide) f13_140)
  have f14_141 : w14[141]? = some (.inl (0, 40, .inl (fun _ => 0))) := hw14.at (by unfold ge_; omega) (am_gn (by decide) f13_141)
  have f14_142 : w14[142]? = some (.inl (0, 36, .inl (fun _ => 0))) := hw14.at (by unfold ge_; omega) (am_gn (by decide) f13_142)
  have f14_143 : w14[143]? = some (.inl (0, 294, .inl (fun _ => 0))) := hw14.at (by unfold ge_; omega) (am_gn (by decide) f13_143)
  have f14_144 : w14[144]? = some (.inl (0, 6, .inl (fun _ => 0))) := hw14.at (by unfold ge_; omega) (am_gn (by decide) f13_144)
  have f14_145 : w14[145]? = some (.inl (0, 6, .inl (fun _ => 0))) := hw14.at (by unfold ge_; omega) (am_gn (by decide) f13_145)
  have f14_146 : w14[146]? = some (.inl (0, 6, .inl (fun _ => 0))) := hw14.at (by unfold ge_; omega) (am_gn (by decide) hc13)
  show am_Go 105 (112, [.ref 133], [.ref 147, .ref 133], w14, 14, 482) _
  refine ar_putfield (pc' := 115) hM rfl f14_133 (Nat.le_of_ble_eq_true rfl) rfl (by decide) rfl ?_
  show am_Go 105 (115, [.ref 133], [], (w14.set 133 (.inr (11, [.int 0, .int 0, .int 0, .int 0, .ref 134, .ref 135, .ref 136, .ref 137, .ref 138, .ref 139, .ref 140, .int 0, .int 0, .ref 141, .int 0, .int 0, .int 0, .ref 142, .int 0, .int 0, .int 0, .ref 143, .ref 144, .int 0, .ref 145, .ref 146, .ref 147, .long 0, .null, .null]))), 14, 482) _
  refine ar_aload_n (pc' := 116) hM rfl rfl rfl ?_
  refine ar_iconst (x := 2) (pc' := 117) hM rfl (by decide) rfl ?_
  refine ar_newB (m := 2) (pc' := 119) (k3 := 15) (k4 := 484) (L := 148) hM rfl (by decide) (by decide) rfl rfl (Nat.le_of_ble_eq_true rfl) (Nat.le_of_ble_eq_true rfl) rfl (List.length_set.trans hL14) (fun w15 hL15 hw15 hc15 => ?_)
  have hs15 : am_same (ge3 133 133 148) w14 w15 := ((am_same.set am_same.rf (by unfold ge3; omega)) : am_same (ge3 133 133 148) w14 (w14.set 133 (.inr (11, [.int 0, .int 0, .int 0, .int 0, .ref 134, .ref 135, .ref 136, .ref 137, .ref 138, .ref 139, .ref 140, .int 0, .int 0, .ref 141, .int 0, .int 0, .int 0, .ref 142, .int 0, .int 0, .int 0, .ref 143, .ref 144, .int 0, .ref 145, .ref 146, .ref 147, .long 0, .null, .null])))).tr (hw15.mono (fun b hb => Or.inr (Or.inr hb)))
  have ts15 : am_same (ge_ 133) w w15 := (ts14).tr (hs15.mono (fun b hb => by unfold ge3 at hb; unfold ge_; omega))
  have f15_133 : w15[133]? = some (.inr (11, [.int 0, .int 0, .int 0, .int 0, .ref 134, .ref 135, .ref 136, .ref 137, .ref 138, .ref 139, .ref 140, .int 0, .int 0, .ref 141, .int 0, .int 0, .int 0, .ref 142, .int 0, .int 0, .int 0, .ref 143, .ref 144, .int 0, .ref 145, .ref 146, .ref 147, .long 0, .null, .null])) := hw15.at (by unfold ge_; omega) (am_gs f14_133)
  have f15_134 : w15[134]? = some (.inl (0, 6, .inl (fun _ => 0))) := hw15.at (by unfold ge_; omega) (am_gn (by decide) f14_134)
  have f15_135 : w15[135]? = some (.inl (0, 6, .inl (fun _ => 0))) := hw15.at (by unfold ge_; omega) (am_gn (by decide) f14_135)
  have f15_136 : w15[136]? = some (.inl (0, 6, .inl (fun _ => 0))) := hw15.at (by unfold ge_; omega) (am_gn (by decide) f14_136)
  have f15_137 : w15[137]? = some (.inl (0, 5, .inl (fun _ => 0))) := hw15.at (by unfold ge_; omega) (am_gn (by decide) f14_137)
  have f15_138 : w15[138]? = some (.inl (0, 42, .inl (fun _ => 0))) := hw15.at (by unfold ge_; omega) (am_gn (by decide) f14_138)
  have f15_139 : w15[139]? = some (.inl (0, 18, .inl (fun _ => 0))) := hw15.at (by unfold ge_; omega) (am_gn (by decide) f14_139)
  have f15_140 : w15[140]? = some (.inl (0, 5, .inl (fun _ => 0))) := hw15.at (by unfold ge_; omega) (am_gn (by decide) f14_140)
  have f15_141 : w15[141]? = some (.inl (0, 40, .inl (fun _ => 0))) := hw15.at (by unfold ge_; omega) (am_gn (by decide) f14_141)
  have f15_142 : w15[142]? = some (.inl (0, 36, .inl (fun _ => 0))) := hw15.at (by unfold ge_; omega) (am_gn (by decide) f14_142)
  have f15_143 : w15[143]? = some (.inl (0, 294, .inl (fun _ => 0))) := hw15.at (by unfold ge_; omega) (am_gn (by decide) f14_143)
  have f15_144 : w15[144]? = some (.inl (0, 6, .inl (fun _ => 0))) := hw15.at (by unfold ge_; omega) (am_gn (by decide) f14_144)
  have f15_145 : w15[145]? = some (.inl (0, 6, .inl (fun _ => 0))) := hw15.at (by unfold ge_; omega) (am_gn (by decide) f14_145)
  have f15_146 : w15[146]? = some (.inl (0, 6, .inl (fun _ => 0))) := hw15.at (by unfold ge_; omega) (am_gn (by decide) f14_146)
  have f15_147 : w15[147]? = some (.inl (0, 6, .inl (fun _ => 0))) := hw15.at (by unfold ge_; omega) (am_gn (by decide) hc14)
  show am_Go 105 (119, [.ref 133], [.ref 148, .ref 133], w15, 15, 484) _
  refine ar_putfield (pc' := 122) hM rfl f15_133 (Nat.le_of_ble_eq_true rfl) rfl (by decide) rfl ?_
  show am_Go 105 (122, [.ref 133], [], (w15.set 133 (.inr (11, [.int 0, .int 0, .int 0, .int 0, .ref 134, .ref 135, .ref 136, .ref 137, .ref 138, .ref 139, .ref 140, .int 0, .int 0, .ref 141, .int 0, .int 0, .int 0, .ref 142, .int 0, .int 0, .int 0, .ref 143, .ref 144, .int 0, .ref 145, .ref 146, .ref 147, .long 0, .ref 148, .null]))), 15, 484) _
  refine ar_aload_n (pc' := 123) hM rfl rfl rfl ?_
  refine ar_bipush (x := 42) (pc' := 125) hM rfl (by decide) rfl ?_
  refine ar_newI (m := 42) (pc' := 127) (k3 := 16) (k4 := 526) (L := 149) hM rfl (by decide) (by decide) rfl rfl (Nat.le_of_ble_eq_true rfl) (Nat.le_of_ble_eq_true rfl) rfl (List.length_set.trans hL15) (fun w16 hL16 hw16 hc16 => ?_)
  have hs16 : am_same (ge3 133 133 149) w15 w16 := ((am_same.set am_same.rf (by unfold ge3; omega)) : am_same (ge3 133 133 149) w15 (w15.set 133 (.inr (11, [.int 0, .int 0, .int 0, .int 0, .ref 134, .ref 135, .ref 136, .ref 137, .ref 138, .ref 139, .ref 140, .int 0, .int 0, .ref 141, .int 0, .int 0, .int 0, .ref 142, .int 0, .int 0, .int 0, .ref 143, .ref 144, .int 0, .ref 145, .ref 146, .ref 147, .long 0, .ref 148, .null])))).tr (hw16.mono (fun b hb => Or.inr (Or.inr hb)))
  have ts16 : am_same (ge_ 133) w w16 := (ts15).tr (hs16.mono (fun b hb => by unfold ge3 at hb; unfold ge_; omega))
  have f16_133 : w16[133]? = some (.inr (11, [.int 0, .int 0, .int 0, .int 0, .ref 134, .ref 135, .ref 136, .ref 137, .ref 138, .ref 139, .ref 140, .int 0, .int 0, .ref 141, .int 0, .int 0, .int 0, .ref 142, .int 0, .int 0, .int 0, .ref 143, .ref 144, .int 0, .ref 145, .ref 146, .ref 147, .long 0, .ref 148, .null])) := hw16.at (by unfold ge_; omega) (am_gs f15_133)
  have f16_134 : w16[134]? = some (.inl (0, 6, .inl (fun _ => 0))) := hw16.at (by unfold ge_; omega) (am_gn (by decide) f15_134)
  have f16_135 : w16[135]? = some (.inl (0, 6, .inl (fun _ => 0))) := hw16.at (by unfold ge_; omega) (am_gn (by decide) f15_135)
  have f16_136 : w16[136]? = some (.inl (0, 6, .inl (fun _ => 0))) := hw16.at (by unfold ge_; omega) (am_gn (by decide) f15_136)
  have f16_137 : w16[137]? = some (.inl (0, 5, .inl (fun _ => 0))) := hw16.at (by unfold ge_; omega) (am_gn (by decide) f15_137)
  have f16_138 : w16[138]? = some (.inl (0, 42, .inl (fun _ => 0))) := hw16.at (by unfold ge_; omega) (am_gn (by decide) f15_138)
  have f16_139 : w16[139]? = some (.inl (0, 18, .inl (fun _ => 0))) := hw16.at (by unfold ge_; omega) (am_gn (by decide) f15_139)
  have f16_140 : w16[140]? = some (.inl (0, 5, .inl (fun _ => 0))) := hw16.at (by unfold ge_; omega) (am_gn (by decide) f15_140)
  have f16_141 : w16[141]? = some (.inl (0, 40, .inl (fun _ => 0))) := hw16.at (by unfold ge_; omega) (am_gn (by decide) f15_141)
  have f16_142 : w16[142]? = some (.inl (0, 36, .inl (fun _ => 0))) := hw16.at (by unfold ge_; omega) (am_gn (by decide) f15_142)
  have f16_143 : w16[143]? = some (.inl (0, 294, .inl (fun _ => 0))) := hw16.at (by unfold ge_; omega) (am_gn (by decide) f15_143)
  have f16_144 : w16[144]? = some (.inl (0, 6, .inl (fun _ => 0))) := hw16.at (by unfold ge_; omega) (am_gn (by decide) f15_144)
  have f16_145 : w16[145]? = some (.inl (0, 6, .inl (fun _ => 0))) := hw16.at (by unfold ge_; omega) (am_gn (by decide) f15_145)
  have f16_146 : w16[146]? = some (.inl (0, 6, .inl (fun _ => 0))) := hw16.at (by unfold ge_; omega) (am_gn (by decide) f15_146)
  have f16_147 : w16[147]? = some (.inl (0, 6, .inl (fun _ => 0))) := hw16.at (by unfold ge_; omega) (am_gn (by decide) f15_147)
  have f16_148 : w16[148]? = some (.inl (1, 2, .inl (fun _ => 0))) := hw16.at (by unfold ge_; omega) (am_gn (by decide) hc15)
  show am_Go 105 (127, [.ref 133], [.ref 149, .ref 133], w16, 16, 526) _
  refine ar_putfield (pc' := 130) hM rfl f16_133 (Nat.le_of_ble_eq_true rfl) rfl (by decide) rfl ?_
  show am_Go 105 (130, [.ref 133], [], (w16.set 133 (.inr (11, [.int 0, .int 0, .int 0, .int 0, .ref 134, .ref 135, .ref 136, .ref 137, .ref 138, .ref 139, .ref 140, .int 0, .int 0, .ref 141, .int 0, .int 0, .int 0, .ref 142, .int 0, .int 0, .int 0, .ref 143, .ref 144, .int 0, .ref 145, .ref 146, .ref 147, .long 0, .ref 148, .ref 149]))), 16, 526) _
  refine ar_return hM rfl ?_
  exact ⟨rfl, (List.length_set.trans hL16), (am_same.set ts16 (by unfold ge_; omega)), ⟨0, 0, 0, 0, 0, _, _, _, _, _, _, _, _, _, _, _, _, _, _, _, _, (am_gs f16_133), (am_gn (by decide) f16_134), (am_gn (by decide) f16_135), (am_gn (by decide) f16_136), (am_gn (by decide) f16_137), (am_gn (by decide) f16_138), (am_gn (by decide) f16_139), (am_gn (by decide) f16_140), (am_gn (by decide) f16_141), (am_gn (by decide) f16_142), (am_gn (by decide) f16_143), (am_gn (by decide) f16_144), (am_gn (by decide) f16_145), (am_gn (by decide) f16_146), (am_gn (by decide) f16_147), (am_gn (by decide) f16_148), (am_gn (by decide) hc16), ⟨by omega, by omega⟩, ⟨fun h hh => absurd hh (Nat.not_lt_zero _), fun h hh => absurd hh (Nat.not_lt_zero _)⟩, ⟨fun h hh => absurd hh (Nat.not_lt_zero _), rfl, rfl, rfl⟩, fun i hi => absurd hi (Nat.not_lt_zero _), ⟨by decide, Nat.zero_le _, fun i S hi => by simp at hi⟩, fun i hi => Or.inl ⟨rfl, rfl⟩, fun i hi => absurd hi (Nat.not_lt_zero _)⟩⟩
