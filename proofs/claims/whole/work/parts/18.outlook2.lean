/-! Outlook: salts, barrels -/
theorem i_shl1 : ∀ n, n ≤ 6 → (1 : Int32) <<< (nI n &&& 31) = nI (2 ^ n) := by decide
/-- a standing with other bits and day -/
def m_set (S : s_S) (x y : Int32) (d : Nat) : s_S := (S.1, S.2.1, S.2.2.1, S.2.2.2.1, x, y, d)
theorem c_S.setO {w : am_W} {a n : Nat} {S : s_S} (h : c_S w a n S) (x y : Int32) (d : Nat) : c_S (w.set a (.inr (6, [.ref (a + 1), .ref (a + 2), .ref (a + 3), .int x, .int y, .int (nI d)]))) a n (m_set S x y d) := by
  obtain ⟨so, ss, sl, h0, h1, h2, h3, h4⟩ := h
  exact ⟨so, ss, sl, am_gs h0, am_gn (by omega) h1, am_gn (by omega) h2, am_gn (by omega) h3, h4⟩
theorem c_LS.d {w : am_W} {t : Nat} {T : p_D} {S : s_S} {g : Int32} (h : c_LS w t T S g) : c_D w t := by
  obtain ⟨dw, ds, dg, dd, dl, df, dv, h, -⟩ := h
  exact ⟨dw, ds, dg, dd, dl, df, dv, h⟩
/-- the fewest to salt: the best and its number, of the first b sets -/
def m_few (T : p_D) (S : s_S) (h : Nat) : Nat → Int32 × Int32
  | 0 => (-9, 7)
  | b + 1 => if (nI b &&& S.2.2.2.2.1 = 0 ∧ i_bc (nI b) < (m_few T S h b).2) ∧ m_lk T (m_set S (S.2.2.2.2.1 ||| nI b) S.2.2.2.2.2.1 S.2.2.2.2.2.2) 0 h = 0 then (nI b, i_bc (nI b)) else m_few T S h b
set_option maxRecDepth 100000 in
set_option maxHeartbeats 4000000 in
theorem k_lackOf (w : am_W) (T : p_D) (S1 : s_S) (bl bo : Int32) (hvT : v_T T) (hvS1 : v_S T.2.2.1 S1) (hT : c_T w 11 T) (hS1 : c_S w 106 T.2.2.1 S1) (hD : c_D w 110) (ho0 : w[100]? = some (.inr (2, [.ref 101, .ref 106, .ref 110, .int bl, .int bo]))) (h : Nat) (hh : h < T.2.2.1) : am_Go 22 (0, [.ref 100, .ref 11, .int (nI h)], [], w, 0, 0) (fun res w' => res = some (.int (m_lk T S1 0 h)) ∧ am_same (rg 110 8) w w' ∧ c_D w' 110) := by
  have hM : am_P[22]? = some zm_X2_lackOf := rfl
  refine ar_aload_n (pc' := 1) hM rfl rfl rfl ?_
  refine ar_getfield (pc' := 4) hM rfl ho0 rfl rfl ?_
  refine ar_aload_n (pc' := 5) hM rfl rfl rfl ?_
  refine ar_aload_n (pc' := 6) hM rfl rfl rfl ?_
  refine ar_getfield (pc' := 9) hM rfl ho0 rfl rfl ?_
  refine ar_virtual (pc' := 12) (k3 := 0) (k4 := 0) hM rfl rfl (hD.o) ⟨rfl, (by decide)⟩ rfl rfl (k_lookAt _ 110 11 106 T S1 hvT hvS1 hT hS1 hD (by decide) (by decide) (by decide) (by omega) (by omega) (by omega)) (fun r9 w9 q9 => ?_)
  obtain ⟨rfl, hL2, hsm⟩ := q9
  obtain ⟨dw, ds, dg, dd, dl, df, dv, ⟨hd0, hd1, hd2, hd3, hd4, hd5, hd6, hd7⟩, hdl⟩ := id hL2
  show am_Go 22 (12, [.ref 100, .ref 11, .int (nI h)], [], w9, 0, 0) _
  refine ar_aload_n (pc' := 13) hM rfl rfl rfl ?_
  refine ar_getfield (pc' := 16) hM rfl (hsm.at (by unfold rg; omega) ho0) rfl rfl ?_
  refine ar_getfield (pc' := 19) hM rfl hd0 rfl rfl ?_
  refine ar_iload_n (pc' := 20) hM rfl rfl rfl ?_
  refine ar_ialoadN (j := h) (pc' := 21) hM rfl hd5 rfl (by have := hvT.1; omega) (Nat.le_of_ble_eq_true rfl) rfl ?_
  rw [show (dl h : Int32) = m_lk T S1 0 h from (hdl h hh).2.2.2.2.1]
  refine ar_ireturn hM rfl (Or.inl rfl) ?_
  exact ⟨rfl, hsm, hL2.d⟩
set_option maxRecDepth 100000 in
set_option maxHeartbeats 4000000 in
theorem k_fewestSalts (w : am_W) (T : p_D) (S : s_S) (bl bo : Int32) (hvT : v_T T) (hvS : v_S T.2.2.1 S) (hT : c_T w 11 T) (hN : c_S w 16 T.2.2.1 S) (hR : c_R w 106) (hD : c_D w 110) (ho0 : w[100]? = some (.inr (2, [.ref 101, .ref 106, .ref 110, .int bl, .int bo]))) (h : Nat) (hh : h < T.2.2.1) : am_Go 18 (0, [.ref 100, .ref 11, .ref 16, .int (nI h), .float 0, .float 0, .float 0, .float 0], [], w, 0, 0) (fun res w' => res = some (.int (m_few T S h (2 ^ T.2.2.1)).1) ∧ am_same (rg 106 12) w w' ∧ c_R w' 106 ∧ c_D w' 110) := by
  have hM : am_P[18]? = some zm_X2_fewestSalts := rfl
  have ht0 : w[11]? = some (.inr (9, [.int T.1, .int T.2.1, .int (nI T.2.2.1), .int (nI T.2.2.2.1), .ref 12, .ref 13, .ref 14, .ref 15])) := by obtain ⟨_, _, _, _, h, -⟩ := hT; exact h
  have hn6 : T.2.2.1 ≤ 6 := hvT.1
  obtain ⟨_, _, _, x6, y6, z6, hr6, -⟩ := id hR
  have h64 : 2 ^ T.2.2.1 ≤ 64 := by have := Nat.pow_le_pow_right (show 0 < 2 by decide) hn6; omega
  refine ar_aload_n (pc' := 1) hM rfl rfl rfl ?_
  refine ar_getfield (pc' := 4) hM rfl ho0 rfl rfl ?_
  refine ar_aload_n (pc' := 5) hM rfl rfl rfl ?_
  refine ar_virtual (pc' := 8) (k3 := 0) (k4 := 0) hM rfl rfl hr6 ⟨rfl, (by decide)⟩ rfl rfl (k_copyR _ 106 16 _ S hR hN hn6 (by decide) (by decide) (by omega)) (fun r5 w5 q5 => ?_)
  obtain ⟨rfl, hS1, q5s⟩ := q5
  have hsm0 : am_same (rg 106 12) w w5 := q5s.mono (fun b hb => by unfold rg at *; omega)
  show am_Go 18 (8, [.ref 100, .ref 11, .ref 16, .int (nI h), .float 0, .float 0, .float 0, .float 0], [], w5, 0, 0) _
  refine ar_bipush (x := (-9)) (pc' := 10) hM rfl (by decide) rfl ?_
  refine ar_istore (pc' := 12) hM rfl rfl rfl rfl ?_
  refine ar_bipush (x := 7) (pc' := 14) hM rfl (by decide) rfl ?_
  refine ar_istore (pc' := 16) hM rfl rfl rfl rfl ?_
  refine ar_iconst (x := 0) (pc' := 17) hM rfl (by decide) rfl ?_
  refine ar_istore (pc' := 19) hM rfl rfl rfl rfl ?_
  have loop : ∀ (dj j : Nat) (x : Int32) (y : Int32) (z : Int32) (wj : am_W) (z7 : Value), dj + j = 2 ^ T.2.2.1 → (m_few T S h j = (x, y)) → (c_S wj 106 T.2.2.1 (m_set S z S.2.2.2.2.2.1 S.2.2.2.2.2.2)) → (c_D wj 110) → (am_same (rg 106 12) w wj) → am_Go 18 (19, [.ref 100, .ref 11, .ref 16, .int (nI h), .int x, .int y, .int (nI j), z7], [], wj, 0, 0) (fun res w' => res = some (.int (m_few T S h (2 ^ T.2.2.1)).1) ∧ am_same (rg 106 12) w w' ∧ c_R w' 106 ∧ c_D w' 110) := by
    intro dj
    induction dj with
    | zero =>
      intro j x y z wj z7 hj hx hS hD hsm
      refine ar_iload (pc' := 21) hM rfl rfl rfl ?_
      refine ar_iconst (x := 1) (pc' := 22) hM rfl (by decide) rfl ?_
      refine ar_aload_n (pc' := 23) hM rfl rfl rfl ?_
      refine ar_getfield (pc' := 26) hM rfl (hsm.at (by unfold rg; omega) ht0) rfl rfl ?_
      refine ar_ishl (pc' := 27) hM rfl rfl ?_
      rw [show (1 <<< ((nI T.2.2.1) &&& 31) : Int32) = nI (2 ^ T.2.2.1) from i_shl1 _ hn6]
      refine ar_icmp_ge (pc' := 30) hM rfl rfl (fun _ => ?_) (fun q => absurd (nI_le (a := 2 ^ T.2.2.1) (b := j) (by omega) (by omega)) q)
      refine ar_iload (pc' := 119) hM rfl rfl rfl ?_
      refine ar_ireturn hM rfl (Or.inl rfl) ?_
      exact ⟨by rw [show j = 2 ^ T.2.2.1 by omega] at hx; rw [hx], hsm, hS.r, hD⟩
    | succ dj ih =>
      intro j x y z wj z7 hj hx hS hD hsm
      refine ar_iload (pc' := 21) hM rfl rfl rfl ?_
      refine ar_iconst (x := 1) (pc' := 22) hM rfl (by decide) rfl ?_
      refine ar_aload_n (pc' := 23) hM rfl rfl rfl ?_
      refine ar_getfield (pc' := 26) hM rfl (hsm.at (by unfold rg; omega) ht0) rfl rfl ?_
      refine ar_ishl (pc' := 27) hM rfl rfl ?_
      rw [show (1 <<< ((nI T.2.2.1) &&& 31) : Int32) = nI (2 ^ T.2.2.1) from i_shl1 _ hn6]
      refine ar_icmp_ge (pc' := 30) hM rfl rfl (fun q => absurd q (nI_ge (a := j) (b := 2 ^ T.2.2.1) (by omega) (by omega))) (fun _ => ?_)
      refine ar_iload (pc' := 32) hM rfl rfl rfl ?_
      refine ar_aload_n (pc' := 33) hM rfl rfl rfl ?_
      refine ar_getfield (pc' := 36) hM rfl (hsm.at (by unfold rg; omega) hN.o) rfl rfl ?_
      refine ar_iand (pc' := 37) hM rfl rfl ?_
      suffices hj37 : ∀ z_37 : Int32, z_37 = (if ((nI j) &&& S.2.2.2.2.1) = (0 : Int32) then 1 else 0) → am_Go 18 (45, [.ref 100, .ref 11, .ref 16, .int (nI h), .int x, .int y, .int (nI j), z7], [.int z_37], wj, 0, 0) _ by
        refine ar_if_ne (pc' := 40) hM rfl rfl (fun c => ?_) (fun c => ?_)
        · refine ar_iconst (x := 0) (pc' := 45) hM rfl (by decide) rfl ?_
          exact hj37 _ (if_neg c).symm
        · refine ar_iconst (x := 1) (pc' := 41) hM rfl (by decide) rfl ?_
          refine ar_goto hM rfl ?_
          exact hj37 _ (if_pos c).symm
      rintro _ rfl
      refine ar_istore (pc' := 47) hM rfl rfl rfl rfl ?_
      refine ar_iload (pc' := 49) hM rfl rfl rfl ?_
      refine ar_if_eq (pc' := 52) hM rfl rfl (fun c49 => ?_) (fun c49 => ?_)
      · refine ar_iinc (z := nI (j + 1)) (pc' := 114) hM rfl rfl (nI_1 _) rfl rfl rfl ?_
        refine ar_goto hM rfl ?_
        exact ih (j + 1) x y z wj (.int (if ((nI j) &&& S.2.2.2.2.1) = (0 : Int32) then 1 else 0)) (by omega) (by show (if _ then _ else m_few T S h j) = _; rw [if_neg (fun q => am_eq0 c49 q.1.1)]; exact hx) hS hD hsm
      · refine ar_iload (pc' := 54) hM rfl rfl rfl ?_
        refine ar_static (pc' := 57) (k3 := 0) (k4 := 0) hM rfl (by decide) rfl rfl (c_bitCount _ _) (fun r54 w54 q54 => ?_)
        obtain ⟨rfl, q54w⟩ := q54
        rw [q54w]
        show am_Go 18 (57, [.ref 100, .ref 11, .ref 16, .int (nI h), .int x, .int y, .int (nI j), .int (if ((nI j) &&& S.2.2.2.2.1) = (0 : Int32) then 1 else 0)], [.int (i_bc (nI j))], wj, 0, 0) _
        refine ar_iload (pc' := 59) hM rfl rfl rfl ?_
        refine ar_icmp_ge (pc' := 62) hM rfl rfl (fun c59 => ?_) (fun c59 => ?_)
        · refine ar_iinc (z := nI (j + 1)) (pc' := 114) hM rfl rfl (nI_1 _) rfl rfl rfl ?_
          refine ar_goto hM rfl ?_
          exact ih (j + 1) x y z wj (.int (if ((nI j) &&& S.2.2.2.2.1) = (0 : Int32) then 1 else 0)) (by omega) (by show (if _ then _ else m_few T S h j) = _; rw [if_neg (fun q => absurd q.1.2 (by rw [hx]; exact Int32.not_lt.mpr c59))]; exact hx) hS hD hsm
        · refine ar_aload_n (pc' := 63) hM rfl rfl rfl ?_
          refine ar_getfield (pc' := 66) hM rfl (hsm.at (by unfold rg; omega) ho0) rfl rfl ?_
          refine ar_aload_n (pc' := 67) hM rfl rfl rfl ?_
          refine ar_getfield (pc' := 70) hM rfl (hsm.at (by unfold rg; omega) hN.o) rfl rfl ?_
          refine ar_iload (pc' := 72) hM rfl rfl rfl ?_
          refine ar_ior (pc' := 73) hM rfl rfl ?_
          refine ar_putfield (pc' := 76) hM rfl (hS.o) (Nat.le_of_ble_eq_true rfl) rfl (by decide) rfl ?_
          show am_Go 18 (76, [.ref 100, .ref 11, .ref 16, .int (nI h), .int x, .int y, .int (nI j), .int (if ((nI j) &&& S.2.2.2.2.1) = (0 : Int32) then 1 else 0)], [], (wj.set 106 (.inr (6, [.ref 107, .ref 108, .ref 109, .int (S.2.2.2.2.1 ||| (nI j)), .int ((m_set S z S.2.2.2.2.2.1 S.2.2.2.2.2.2).2.2.2.2.2.1), .int (nI (m_set S z S.2.2.2.2.2.1 S.2.2.2.2.2.2).2.2.2.2.2.2)]))), 0, 0) _
          refine ar_aload_n (pc' := 77) hM rfl rfl rfl ?_
          refine ar_getfield (pc' := 80) hM rfl (am_gn (by decide) (hsm.at (by unfold rg; omega) ho0)) rfl rfl ?_
          refine ar_aload_n (pc' := 81) hM rfl rfl rfl ?_
          refine ar_aload_n (pc' := 82) hM rfl rfl rfl ?_
          refine ar_getfield (pc' := 85) hM rfl (am_gn (by decide) (hsm.at (by unfold rg; omega) ho0)) rfl rfl ?_
          refine ar_virtual (pc' := 88) (k3 := 0) (k4 := 0) hM rfl rfl (am_gn (by decide) (hD.o)) ⟨rfl, (by decide)⟩ rfl rfl (k_lookAt _ 110 11 106 T (m_set S (S.2.2.2.2.1 ||| nI j) S.2.2.2.2.2.1 S.2.2.2.2.2.2) hvT hvS (hT.same (am_same.set hsm (by unfold rg; omega)) (fun b h1 h2 => by unfold rg; omega)) (hS.setO (S.2.2.2.2.1 ||| nI j) S.2.2.2.2.2.1 S.2.2.2.2.2.2) (hD.same (am_same.set (X := rg 106 1) am_same.rf (by unfold rg; omega)) (fun b h1 h2 => by unfold rg; omega)) (by decide) (by decide) (by decide) (by omega) (by omega) (by omega)) (fun r85 w85 q85 => ?_)
          obtain ⟨rfl, hL2, q85s⟩ := q85
          have hsm2 : am_same (rg 106 12) w w85 := (am_same.set hsm (by unfold rg; omega)).tr (q85s.mono (fun b hb => by unfold rg at *; omega))
          have hS2 := (c_S.setO hS (S.2.2.2.2.1 ||| nI j) S.2.2.2.2.2.1 S.2.2.2.2.2.2).same q85s (fun b h1 h2 => by unfold rg; omega)
          obtain ⟨dw, ds, dg, dd, dl, df, dv, ⟨hd0, hd1, hd2, hd3, hd4, hd5, hd6, hd7⟩, hdl⟩ := id hL2
          show am_Go 18 (88, [.ref 100, .ref 11, .ref 16, .int (nI h), .int x, .int y, .int (nI j), .int (if ((nI j) &&& S.2.2.2.2.1) = (0 : Int32) then 1 else 0)], [], w85, 0, 0) _
          refine ar_aload_n (pc' := 89) hM rfl rfl rfl ?_
          refine ar_getfield (pc' := 92) hM rfl (hsm2.at (by unfold rg; omega) ho0) rfl rfl ?_
          refine ar_getfield (pc' := 95) hM rfl hd0 rfl rfl ?_
          refine ar_iload_n (pc' := 96) hM rfl rfl rfl ?_
          refine ar_ialoadN (j := h) (pc' := 97) hM rfl hd5 rfl (by omega) (Nat.le_of_ble_eq_true rfl) rfl ?_
          rw [show (dl h : Int32) = m_lk T (m_set S (S.2.2.2.2.1 ||| nI j) S.2.2.2.2.2.1 S.2.2.2.2.2.2) 0 h from (hdl h hh).2.2.2.2.1]
          refine ar_if_ne (pc' := 100) hM rfl rfl (fun c97 => ?_) (fun c97 => ?_)
          · refine ar_iinc (z := nI (j + 1)) (pc' := 114) hM rfl rfl (nI_1 _) rfl rfl rfl ?_
            refine ar_goto hM rfl ?_
            exact ih (j + 1) x y (S.2.2.2.2.1 ||| nI j) w85 (.int (if ((nI j) &&& S.2.2.2.2.1) = (0 : Int32) then 1 else 0)) (by omega) (by show (if _ then _ else m_few T S h j) = _; rw [if_neg (fun q => c97 q.2)]; exact hx) hS2 hL2.d hsm2
          · refine ar_iload (pc' := 102) hM rfl rfl rfl ?_
            refine ar_istore (pc' := 104) hM rfl rfl rfl rfl ?_
            refine ar_iload (pc' := 106) hM rfl rfl rfl ?_
            refine ar_static (pc' := 109) (k3 := 0) (k4 := 0) hM rfl (by decide) rfl rfl (c_bitCount _ _) (fun r106 w106 q106 => ?_)
            obtain ⟨rfl, q106w⟩ := q106
            rw [q106w]
            show am_Go 18 (109, [.ref 100, .ref 11, .ref 16, .int (nI h), .int (nI j), .int y, .int (nI j), .int (if ((nI j) &&& S.2.2.2.2.1) = (0 : Int32) then 1 else 0)], [.int (i_bc (nI j))], w85, 0, 0) _
            refine ar_istore (pc' := 111) hM rfl rfl rfl rfl ?_
            refine ar_iinc (z := nI (j + 1)) (pc' := 114) hM rfl rfl (nI_1 _) rfl rfl rfl ?_
            refine ar_goto hM rfl ?_
            exact ih (j + 1) (nI j) (i_bc (nI j)) (S.2.2.2.2.1 ||| nI j) w85 (.int (if ((nI j) &&& S.2.2.2.2.1) = (0 : Int32) then 1 else 0)) (by omega) (by show (if _ then _ else m_few T S h j) = _; rw [if_pos ⟨⟨am_ne0 c49, by rw [hx]; exact Int32.not_le.mp c59⟩, c97⟩]) hS2 hL2.d hsm2
  exact loop (2 ^ T.2.2.1) 0 (-9) 7 S.2.2.2.2.1 w5 (.float 0) (by omega) rfl hS1 (hD.same q5s (fun b h1 h2 => by unfold rg; omega)) hsm0
