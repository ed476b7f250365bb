/-! Outlook: the best order, sought -/
theorem c_S.setOrd {w : am_W} {a n : Nat} {S : s_S} (h : c_S w a n S) {g : Nat → Int32} {o : Nat → Nat} (hg : ∀ p, p < 6 → g p = nI (o p)) : c_S (w.set (a + 1) (.inl (0, 6, .inl g))) a n (m_ord S o) := by
  obtain ⟨so, ss, sl, h0, h1, h2, h3, h4, h5, h6⟩ := h
  exact ⟨g, ss, sl, am_gn (by omega) h0, am_gs h1, am_gn (by omega) h2, am_gn (by omega) h3, hg, h5, h6⟩
theorem n_fac_le : ∀ n, n < 7 → n_fac n ≤ 720 := by decide
theorem n_fac_pos : ∀ n, n < 7 → 0 < n_fac n := by decide
theorem i_if_iff {P Q : Prop} [Decidable P] [Decidable Q] (h : P ↔ Q) : (if P then (0 : Int32) else 1) = if Q then 0 else 1 := by
  by_cases q : P
  · rw [if_pos q, if_pos (h.mp q)]
  · rw [if_neg q, if_neg (fun e => q (h.mpr e))]
set_option maxRecDepth 100000 in
set_option maxHeartbeats 4000000 in
theorem k_seekOrder (w : am_W) (T : p_D) (S : s_S) (bl bo : Int32) (hvT : v_T T) (hvS : v_S T.2.2.1 S) (hT : c_T w 11 T) (hN : c_S w 16 T.2.2.1 S) (hR : c_R w 106) (hD : c_D w 110) (ho0 : w[100]? = some (.inr (2, [.ref 101, .ref 106, .ref 110, .int bl, .int bo]))) (hQ : c_Q w 101) (gr : Int32) : am_Go 14 (0, [.ref 100, .ref 11, .ref 16, .int gr, .float 0, .float 0, .float 0], [], w, 0, 0) (fun res w' => res = none ∧ w'[100]? = some (.inr (2, [.ref 101, .ref 106, .ref 110, .int (m_bst T S gr (n_fac T.2.2.1)).1, .int (m_bst T S gr (n_fac T.2.2.1)).2])) ∧ am_same (rg 100 18) w w' ∧ c_Q w' 101 ∧ c_R w' 106 ∧ c_D w' 110) := by
  have hM : am_P[14]? = some zm_X2_seekOrder := rfl
  have ht0 : w[11]? = some (.inr (9, [.int T.1, .int T.2.1, .int (nI T.2.2.1), .int (nI T.2.2.2.1), .ref 12, .ref 13, .ref 14, .ref 15])) := by obtain ⟨_, _, _, _, h, -⟩ := hT; exact h
  have hn6 : T.2.2.1 ≤ 6 := hvT.1
  obtain ⟨_, _, _, x6, y6, z6, hr6, -⟩ := id hR
  have hf1 := n_fac_le T.2.2.1 (by omega)
  have hf2 := n_fac_pos T.2.2.1 (by omega)
  refine ar_aload_n (pc' := 1) hM rfl rfl rfl ?_
  refine ar_getfield (pc' := 4) hM rfl ho0 rfl rfl ?_
  refine ar_aload_n (pc' := 5) hM rfl rfl rfl ?_
  refine ar_virtual (pc' := 8) (k3 := 0) (k4 := 0) hM rfl rfl hr6 ⟨rfl, (by decide)⟩ rfl rfl (k_copyR _ 106 16 _ S hR hN hn6 (by decide) (by decide) (by omega)) (fun r5 w5 q5 => ?_)
  obtain ⟨rfl, hS1, q5s⟩ := q5
  have hsm1 : am_same (rg 106 4) w w5 := q5s
  show am_Go 14 (8, [.ref 100, .ref 11, .ref 16, .int gr, .float 0, .float 0, .float 0], [], w5, 0, 0) _
  refine ar_aload_n (pc' := 9) hM rfl rfl rfl ?_
  refine ar_getfield (pc' := 12) hM rfl (hsm1.at (by unfold rg; omega) ho0) rfl rfl ?_
  refine ar_virtual (pc' := 15) (k3 := 0) (k4 := 0) hM rfl rfl (hS1.o) ⟨rfl, (by decide)⟩ rfl rfl (k_stand _ 106 _ S hS1 (by decide)) (fun r12 w12 q12 => ?_)
  obtain ⟨rfl, hS2, q12s⟩ := q12
  have hsm2 : am_same (rg 106 4) w w12 := hsm1.tr q12s
  have hD2 := hD.same hsm2 (fun b h1 h2 => by unfold rg; omega)
  show am_Go 14 (15, [.ref 100, .ref 11, .ref 16, .int gr, .float 0, .float 0, .float 0], [], w12, 0, 0) _
  refine ar_aload_n (pc' := 16) hM rfl rfl rfl ?_
  refine ar_getfield (pc' := 19) hM rfl (hsm2.at (by unfold rg; omega) ho0) rfl rfl ?_
  refine ar_aload_n (pc' := 20) hM rfl rfl rfl ?_
  refine ar_aload_n (pc' := 21) hM rfl rfl rfl ?_
  refine ar_getfield (pc' := 24) hM rfl (hsm2.at (by unfold rg; omega) ho0) rfl rfl ?_
  refine ar_iconst (x := 0) (pc' := 25) hM rfl (by decide) rfl ?_
  refine ar_virtual (pc' := 28) (k3 := 0) (k4 := 0) hM rfl rfl (hD2.o) ⟨rfl, (by decide)⟩ rfl rfl (k_hear _ 110 11 106 T (m_ord S (m_ch T.2.2.1 0)) hvT hvS.2.2.2 (hT.same hsm2 (fun b h1 h2 => by unfold rg; omega)) hS2 hD2 (by decide) (by decide) (by decide) (by omega) (by omega) (by omega) 0) (fun r25 w25 q25 => ?_)
  obtain ⟨rfl, hH3, q25s⟩ := q25
  have hsm3 : am_same (rg 106 12) w w25 := (hsm2.mono (fun b hb => by unfold rg at *; omega)).tr (q25s.mono (fun b hb => by unfold rg at *; omega))
  have hS3 := hS2.same q25s (fun b h1 h2 => by unfold rg; omega)
  show am_Go 14 (28, [.ref 100, .ref 11, .ref 16, .int gr, .float 0, .float 0, .float 0], [], w25, 0, 0) _
  refine ar_aload_n (pc' := 29) hM rfl rfl rfl ?_
  refine ar_sipush (x := 1000) (pc' := 32) hM rfl (by decide) rfl ?_
  refine ar_putfield (pc' := 35) hM rfl (hsm3.at (by unfold rg; omega) ho0) (Nat.le_of_ble_eq_true rfl) rfl (by decide) rfl ?_
  show am_Go 14 (35, [.ref 100, .ref 11, .ref 16, .int gr, .float 0, .float 0, .float 0], [], (w25.set 100 (.inr (2, [.ref 101, .ref 106, .ref 110, .int 1000, .int bo]))), 0, 0) _
  refine ar_aload_n (pc' := 36) hM rfl rfl rfl ?_
  refine ar_iconst (x := 0) (pc' := 37) hM rfl (by decide) rfl ?_
  refine ar_putfield (pc' := 40) hM rfl (am_gs (hsm3.at (by unfold rg; omega) ho0)) (Nat.le_of_ble_eq_true rfl) rfl (by decide) rfl ?_
  show am_Go 14 (40, [.ref 100, .ref 11, .ref 16, .int gr, .float 0, .float 0, .float 0], [], ((w25.set 100 (.inr (2, [.ref 101, .ref 106, .ref 110, .int 1000, .int bo]))).set 100 (.inr (2, [.ref 101, .ref 106, .ref 110, .int 1000, .int 0]))), 0, 0) _
  refine ar_iconst (x := 1) (pc' := 41) hM rfl (by decide) rfl ?_
  refine ar_istore (pc' := 43) hM rfl rfl rfl rfl ?_
  refine ar_iconst (x := 0) (pc' := 44) hM rfl (by decide) rfl ?_
  refine ar_istore (pc' := 46) hM rfl rfl rfl rfl ?_
  have loop : ∀ (dj j : Nat) (x : Int32) (y : Int32) (mo : Int32) (wj : am_W) (z6 : Value), dj + j = n_fac T.2.2.1 → (m_bst T S gr j = (x, y)) → (mo = if j = n_fac T.2.2.1 then 0 else 1) → (c_S wj 106 T.2.2.1 (m_ord S (m_ch T.2.2.1 j))) → (c_H wj 110 T S 0) → (wj[100]? = some (.inr (2, [.ref 101, .ref 106, .ref 110, .int x, .int y]))) → (am_same (rg 100 18) w wj) → (c_Q wj 101) → am_Go 14 (46, [.ref 100, .ref 11, .ref 16, .int gr, .int mo, .int (nI j), z6], [], wj, 0, 0) (fun res w' => res = none ∧ w'[100]? = some (.inr (2, [.ref 101, .ref 106, .ref 110, .int (m_bst T S gr (n_fac T.2.2.1)).1, .int (m_bst T S gr (n_fac T.2.2.1)).2])) ∧ am_same (rg 100 18) w w' ∧ c_Q w' 101 ∧ c_R w' 106 ∧ c_D w' 110) := by
    intro dj
    induction dj with
    | zero =>
      intro j x y mo wj z6 hj hb hmo hS hH hO hsm hQj
      refine ar_iload (pc' := 48) hM rfl rfl rfl ?_
      refine ar_sipush (x := 720) (pc' := 51) hM rfl (by decide) rfl ?_
      refine ar_icmp_ge (pc' := 54) hM rfl rfl (fun c51 => ?_) (fun c51 => ?_)
      · refine ar_return hM rfl ?_
        exact ⟨rfl, by rw [show n_fac T.2.2.1 = j by omega, hb]; exact hO, hsm, hQj, hS.r, hH.d⟩
      · refine ar_iload (pc' := 56) hM rfl rfl rfl ?_
        refine ar_if_eq (pc' := 59) hM rfl rfl (fun _ => ?_) (fun q => absurd (by rw [hmo, if_pos (by omega)]) q)
        refine ar_return hM rfl ?_
        exact ⟨rfl, by rw [show n_fac T.2.2.1 = j by omega, hb]; exact hO, hsm, hQj, hS.r, hH.d⟩
    | succ dj ih =>
      intro j x y mo wj z6 hj hb hmo hS hH hO hsm hQj
      have hpm := (m_ch_ok hn6 (k := j) (by omega)).1
      have hvj : v_S T.2.2.1 (m_ord S (m_ch T.2.2.1 j)) := m_ord_v hn6 hpm hvS.2.2.2
      refine ar_iload (pc' := 48) hM rfl rfl rfl ?_
      refine ar_sipush (x := 720) (pc' := 51) hM rfl (by decide) rfl ?_
      refine ar_icmp_ge (pc' := 54) hM rfl rfl (fun q => absurd q (nI_ge (a := j) (b := 720) (by omega) (by omega))) (fun _ => ?_)
      refine ar_iload (pc' := 56) hM rfl rfl rfl ?_
      refine ar_if_eq (pc' := 59) hM rfl rfl (fun q => absurd q (by rw [hmo, if_neg (by omega)]; decide)) (fun _ => ?_)
      refine ar_aload_n (pc' := 60) hM rfl rfl rfl ?_
      refine ar_getfield (pc' := 63) hM rfl hO rfl rfl ?_
      refine ar_aload_n (pc' := 64) hM rfl rfl rfl ?_
      refine ar_aload_n (pc' := 65) hM rfl rfl rfl ?_
      refine ar_getfield (pc' := 68) hM rfl hO rfl rfl ?_
      refine ar_virtual (pc' := 71) (k3 := 0) (k4 := 0) hM rfl rfl (hH.d.o) ⟨rfl, (by decide)⟩ rfl rfl (k_pour _ 110 11 106 T (m_ord S (m_ch T.2.2.1 j)) 0 hvT hvj (hT.same hsm (fun b h1 h2 => by unfold rg; omega)) hS hH (by decide) (by decide) (by decide) (by omega) (by omega) (by omega)) (fun r68 w68 q68 => ?_)
      obtain ⟨rfl, hL4, q68s⟩ := q68
      have hsm4 : am_same (rg 100 18) w w68 := hsm.tr (q68s.mono (fun b hb => by unfold rg at *; omega))
      have hS4 := hS.same q68s (fun b h1 h2 => by unfold rg; omega)
      have hO4 := q68s.at (by unfold rg; omega) hO
      have hQ4 := hQj.same q68s (fun b h1 h2 => by unfold rg; omega)
      obtain ⟨so, ss, sl, hs0, hs1, hs2, hs3, hso, -⟩ := id hS4
      obtain ⟨dw, ds, dg, dd, dl, df, dv, ⟨hd0, hd1, hd2, hd3, hd4, hd5, hd6, hd7⟩, hdl⟩ := id hL4
      have hws : am_same (rg 100 1) w68 w68 := am_same.rf
      show am_Go 14 (71, [.ref 100, .ref 11, .ref 16, .int gr, .int mo, .int (nI j), z6], [], w68, 0, 0) _
      refine ar_iload_n (pc' := 72) hM rfl rfl rfl ?_
      refine ar_if_eq (pc' := 75) hM rfl rfl (fun c72 => ?_) (fun c72 => ?_)
      · refine ar_aload_n (pc' := 93) hM rfl rfl rfl ?_
        refine ar_getfield (pc' := 96) hM rfl hO4 rfl rfl ?_
        refine ar_getfield (pc' := 99) hM rfl hd0 rfl rfl ?_
        refine ar_aload_n (pc' := 100) hM rfl rfl rfl ?_
        refine ar_getfield (pc' := 103) hM rfl (hsm4.at (by unfold rg; omega) ht0) rfl rfl ?_
        refine ar_static (pc' := 106) (k3 := 0) (k4 := 0) hM rfl (by decide) rfl rfl (c_sum _ 115 _ hd5 _ hn6) (fun r103 w103 q103 => ?_)
        obtain ⟨rfl, q103w⟩ := q103
        rw [q103w]
        have hlk : i_sum dl T.2.2.1 = m_lko T S gr j := by unfold m_lko; rw [if_pos c72]; exact i_sum_congr (fun h hh => (hdl h hh).2.2.2.2.1)
        rw [hlk]
        show am_Go 14 (106, [.ref 100, .ref 11, .ref 16, .int gr, .int mo, .int (nI j), z6], [.int (m_lko T S gr j)], w68, 0, 0) _
        refine ar_istore (pc' := 108) hM rfl rfl rfl rfl ?_
        refine ar_iload (pc' := 110) hM rfl rfl rfl ?_
        refine ar_aload_n (pc' := 111) hM rfl rfl rfl ?_
        refine ar_getfield (pc' := 114) hM rfl hO4 rfl rfl ?_
        refine ar_icmp_ge (pc' := 117) hM rfl rfl (fun c114 => ?_) (fun c114 => ?_)
        · refine ar_aload_n (pc' := 136) hM rfl rfl rfl ?_
          refine ar_aload_n (pc' := 137) hM rfl rfl rfl ?_
          refine ar_getfield (pc' := 140) hM rfl (hsm4.at (by unfold rg; omega) ht0) rfl rfl ?_
          have hws4 : am_same (rg 100 1) w68 w68 := am_same.rf
          have hO5 : w68[100]? = some (.inr (2, [.ref 101, .ref 106, .ref 110, .int x, .int y])) := hO4
          refine ar_virtual (pc' := 143) (k3 := 0) (k4 := 0) hM rfl rfl hO4 ⟨rfl, (by decide)⟩ rfl rfl (c_toNext _ _ _ _ _ _ so hO4 hs0 hs1 _ hn6 (m_ch T.2.2.1 j) hso (fun p hp => (m_pm_at hpm hp).1)) (fun r140 w140 q140 => ?_)
          obtain ⟨rfl, g, q140w, hg⟩ := q140
          have hS6 : c_S w140 106 T.2.2.1 (m_ord S (m_ch T.2.2.1 (j + 1))) := by rw [q140w]; exact (hS4.same hws4 (fun b h1 h2 => by unfold rg; omega)).setOrd (fun p hp => (hg p hp).trans (congrArg nI (m_nx_o _ _ p hp).symm))
          have hs6 : am_same (rg 100 10) w68 w140 := by rw [q140w]; exact am_same.set (hws4.mono (fun b hb => by unfold rg at *; omega)) (by unfold rg; omega)
          have hH6 : c_H w140 110 T S 0 := hL4.hh.same hs6 (fun b h1 h2 => by unfold rg; omega)
          have hO6 : w140[100]? = some (.inr (2, [.ref 101, .ref 106, .ref 110, .int x, .int y])) := by rw [q140w]; exact am_gn (by decide) hO5
          have hQ6 : c_Q w140 101 := by rw [q140w]; exact (hQ4.same hws4 (fun b h1 h2 => by unfold rg; omega)).same (am_same.set (X := rg 107 1) am_same.rf (by unfold rg; omega)) (fun b h1 h2 => by unfold rg; omega)
          have hsm6 : am_same (rg 100 18) w w140 := hsm4.tr (hs6.mono (fun b hb => by unfold rg at *; omega))
          show am_Go 14 (143, [.ref 100, .ref 11, .ref 16, .int gr, .int mo, .int (nI j), .int (m_lko T S gr j)], [.int (if m_trn (m_ch T.2.2.1 j) (T.2.2.1 - 1) = 0 then 0 else 1)], w140, 0, 0) _
          refine ar_istore (pc' := 145) hM rfl rfl rfl rfl ?_
          refine ar_iinc (z := nI (j + 1)) (pc' := 148) hM rfl rfl (nI_1 _) rfl rfl rfl ?_
          refine ar_goto hM rfl ?_
          exact ih (j + 1) x y (if m_trn (m_ch T.2.2.1 j) (T.2.2.1 - 1) = 0 then 0 else 1) w140 (.int (m_lko T S gr j)) (by omega) (by show (if _ then _ else _) = _; rw [if_neg (by rw [hb]; exact Int32.not_lt.mpr c114)]; exact hb) (i_if_iff (m_ch_ok hn6 (k := j) (by omega)).2) hS6 hH6 hO6 hsm6 hQ6
        · refine ar_aload_n (pc' := 118) hM rfl rfl rfl ?_
          refine ar_iload (pc' := 120) hM rfl rfl rfl ?_
          refine ar_putfield (pc' := 123) hM rfl hO4 (Nat.le_of_ble_eq_true rfl) rfl (by decide) rfl ?_
          show am_Go 14 (123, [.ref 100, .ref 11, .ref 16, .int gr, .int mo, .int (nI j), .int (m_lko T S gr j)], [], (w68.set 100 (.inr (2, [.ref 101, .ref 106, .ref 110, .int (m_lko T S gr j), .int y]))), 0, 0) _
          refine ar_aload_n (pc' := 124) hM rfl rfl rfl ?_
          refine ar_aload_n (pc' := 125) hM rfl rfl rfl ?_
          refine ar_aload_n (pc' := 126) hM rfl rfl rfl ?_
          refine ar_getfield (pc' := 129) hM rfl (am_gn (by decide) (hsm4.at (by unfold rg; omega) ht0)) rfl rfl ?_
          refine ar_virtual (pc' := 132) (k3 := 0) (k4 := 0) hM rfl rfl (am_gs hO4) ⟨rfl, (by decide)⟩ rfl rfl (c_figures _ _ _ _ _ _ _ (am_gs hO4) (am_gn (by decide) hs0) (am_gn (by decide) hs1) _ hn6) (fun r129 w129 q129 => ?_)
          obtain ⟨rfl, q129w⟩ := q129
          rw [q129w]
          show am_Go 14 (132, [.ref 100, .ref 11, .ref 16, .int gr, .int mo, .int (nI j), .int (m_lko T S gr j)], [.int (i_fig so T.2.2.1), .ref 100], (w68.set 100 (.inr (2, [.ref 101, .ref 106, .ref 110, .int (m_lko T S gr j), .int y]))), 0, 0) _
          refine ar_putfield (pc' := 135) hM rfl (am_gs hO4) (Nat.le_of_ble_eq_true rfl) rfl (by decide) rfl ?_
          show am_Go 14 (135, [.ref 100, .ref 11, .ref 16, .int gr, .int mo, .int (nI j), .int (m_lko T S gr j)], [], ((w68.set 100 (.inr (2, [.ref 101, .ref 106, .ref 110, .int (m_lko T S gr j), .int y]))).set 100 (.inr (2, [.ref 101, .ref 106, .ref 110, .int (m_lko T S gr j), .int (i_fig so T.2.2.1)]))), 0, 0) _
          refine ar_aload_n (pc' := 136) hM rfl rfl rfl ?_
          refine ar_aload_n (pc' := 137) hM rfl rfl rfl ?_
          refine ar_getfield (pc' := 140) hM rfl (am_gn (by decide) (am_gn (by decide) (hsm4.at (by unfold rg; omega) ht0))) rfl rfl ?_
          have hws4 : am_same (rg 100 1) w68 ((w68.set 100 (.inr (2, [.ref 101, .ref 106, .ref 110, .int (m_lko T S gr j), .int y]))).set 100 (.inr (2, [.ref 101, .ref 106, .ref 110, .int (m_lko T S gr j), .int (i_fig so T.2.2.1)]))) := (am_same.set (am_same.set am_same.rf (by unfold rg; omega)) (by unfold rg; omega))
          have hO5 : ((w68.set 100 (.inr (2, [.ref 101, .ref 106, .ref 110, .int (m_lko T S gr j), .int y]))).set 100 (.inr (2, [.ref 101, .ref 106, .ref 110, .int (m_lko T S gr j), .int (i_fig so T.2.2.1)])))[100]? = some (.inr (2, [.ref 101, .ref 106, .ref 110, .int (m_lko T S gr j), .int (i_fig so T.2.2.1)])) := (am_gs (am_gs hO4))
          refine ar_virtual (pc' := 143) (k3 := 0) (k4 := 0) hM rfl rfl (am_gs (am_gs hO4)) ⟨rfl, (by decide)⟩ rfl rfl (c_toNext _ _ _ _ _ _ so (am_gs (am_gs hO4)) (am_gn (by decide) (am_gn (by decide) hs0)) (am_gn (by decide) (am_gn (by decide) hs1)) _ hn6 (m_ch T.2.2.1 j) hso (fun p hp => (m_pm_at hpm hp).1)) (fun r140 w140 q140 => ?_)
          obtain ⟨rfl, g, q140w, hg⟩ := q140
          have hS6 : c_S w140 106 T.2.2.1 (m_ord S (m_ch T.2.2.1 (j + 1))) := by rw [q140w]; exact (hS4.same hws4 (fun b h1 h2 => by unfold rg; omega)).setOrd (fun p hp => (hg p hp).trans (congrArg nI (m_nx_o _ _ p hp).symm))
          have hs6 : am_same (rg 100 10) w68 w140 := by rw [q140w]; exact am_same.set (hws4.mono (fun b hb => by unfold rg at *; omega)) (by unfold rg; omega)
          have hH6 : c_H w140 110 T S 0 := hL4.hh.same hs6 (fun b h1 h2 => by unfold rg; omega)
          have hO6 : w140[100]? = some (.inr (2, [.ref 101, .ref 106, .ref 110, .int (m_lko T S gr j), .int (i_fig so T.2.2.1)])) := by rw [q140w]; exact am_gn (by decide) hO5
          have hQ6 : c_Q w140 101 := by rw [q140w]; exact (hQ4.same hws4 (fun b h1 h2 => by unfold rg; omega)).same (am_same.set (X := rg 107 1) am_same.rf (by unfold rg; omega)) (fun b h1 h2 => by unfold rg; omega)
          have hsm6 : am_same (rg 100 18) w w140 := hsm4.tr (hs6.mono (fun b hb => by unfold rg at *; omega))
          show am_Go 14 (143, [.ref 100, .ref 11, .ref 16, .int gr, .int mo, .int (nI j), .int (m_lko T S gr j)], [.int (if m_trn (m_ch T.2.2.1 j) (T.2.2.1 - 1) = 0 then 0 else 1)], w140, 0, 0) _
          refine ar_istore (pc' := 145) hM rfl rfl rfl rfl ?_
          refine ar_iinc (z := nI (j + 1)) (pc' := 148) hM rfl rfl (nI_1 _) rfl rfl rfl ?_
          refine ar_goto hM rfl ?_
          exact ih (j + 1) (m_lko T S gr j) (i_fig so T.2.2.1) (if m_trn (m_ch T.2.2.1 j) (T.2.2.1 - 1) = 0 then 0 else 1) w140 (.int (m_lko T S gr j)) (by omega) (by show (if _ then _ else _) = _; rw [if_pos (by rw [hb]; exact Int32.not_le.mp c114)]; exact Prod.ext rfl (i_fig_congr (fun p hp => (hso p (by omega)).symm))) (i_if_iff (m_ch_ok hn6 (k := j) (by omega)).2) hS6 hH6 hO6 hsm6 hQ6
      · refine ar_aload_n (pc' := 76) hM rfl rfl rfl ?_
        refine ar_getfield (pc' := 79) hM rfl hO4 rfl rfl ?_
        refine ar_getfield (pc' := 82) hM rfl hd0 rfl rfl ?_
        refine ar_aload_n (pc' := 83) hM rfl rfl rfl ?_
        refine ar_getfield (pc' := 86) hM rfl (hsm4.at (by unfold rg; omega) ht0) rfl rfl ?_
        refine ar_static (pc' := 89) (k3 := 0) (k4 := 0) hM rfl (by decide) rfl rfl (c_greatest _ 115 _ hd5 _ hn6) (fun r86 w86 q86 => ?_)
        obtain ⟨rfl, q86w⟩ := q86
        rw [q86w]
        have hlk : i_grt dl T.2.2.1 = m_lko T S gr j := by unfold m_lko; rw [if_neg c72]; exact i_grt_congr (fun h hh => (hdl h hh).2.2.2.2.1)
        rw [hlk]
        show am_Go 14 (89, [.ref 100, .ref 11, .ref 16, .int gr, .int mo, .int (nI j), z6], [.int (m_lko T S gr j)], w68, 0, 0) _
        refine ar_goto hM rfl ?_
        refine ar_istore (pc' := 108) hM rfl rfl rfl rfl ?_
        refine ar_iload (pc' := 110) hM rfl rfl rfl ?_
        refine ar_aload_n (pc' := 111) hM rfl rfl rfl ?_
        refine ar_getfield (pc' := 114) hM rfl hO4 rfl rfl ?_
        refine ar_icmp_ge (pc' := 117) hM rfl rfl (fun c114 => ?_) (fun c114 => ?_)
        · refine ar_aload_n (pc' := 136) hM rfl rfl rfl ?_
          refine ar_aload_n (pc' := 137) hM rfl rfl rfl ?_
          refine ar_getfield (pc' := 140) hM rfl (hsm4.at (by unfold rg; omega) ht0) rfl rfl ?_
          have hws4 : am_same (rg 100 1) w68 w68 := am_same.rf
          have hO5 : w68[100]? = some (.inr (2, [.ref 101, .ref 106, .ref 110, .int x, .int y])) := hO4
          refine ar_virtual (pc' := 143) (k3 := 0) (k4 := 0) hM rfl rfl hO4 ⟨rfl, (by decide)⟩ rfl rfl (c_toNext _ _ _ _ _ _ so hO4 hs0 hs1 _ hn6 (m_ch T.2.2.1 j) hso (fun p hp => (m_pm_at hpm hp).1)) (fun r140 w140 q140 => ?_)
          obtain ⟨rfl, g, q140w, hg⟩ := q140
          have hS6 : c_S w140 106 T.2.2.1 (m_ord S (m_ch T.2.2.1 (j + 1))) := by rw [q140w]; exact (hS4.same hws4 (fun b h1 h2 => by unfold rg; omega)).setOrd (fun p hp => (hg p hp).trans (congrArg nI (m_nx_o _ _ p hp).symm))
          have hs6 : am_same (rg 100 10) w68 w140 := by rw [q140w]; exact am_same.set (hws4.mono (fun b hb => by unfold rg at *; omega)) (by unfold rg; omega)
          have hH6 : c_H w140 110 T S 0 := hL4.hh.same hs6 (fun b h1 h2 => by unfold rg; omega)
          have hO6 : w140[100]? = some (.inr (2, [.ref 101, .ref 106, .ref 110, .int x, .int y])) := by rw [q140w]; exact am_gn (by decide) hO5
          have hQ6 : c_Q w140 101 := by rw [q140w]; exact (hQ4.same hws4 (fun b h1 h2 => by unfold rg; omega)).same (am_same.set (X := rg 107 1) am_same.rf (by unfold rg; omega)) (fun b h1 h2 => by unfold rg; omega)
          have hsm6 : am_same (rg 100 18) w w140 := hsm4.tr (hs6.mono (fun b hb => by unfold rg at *; omega))
          show am_Go 14 (143, [.ref 100, .ref 11, .ref 16, .int gr, .int mo, .int (nI j), .int (m_lko T S gr j)], [.int (if m_trn (m_ch T.2.2.1 j) (T.2.2.1 - 1) = 0 then 0 else 1)], w140, 0, 0) _
          refine ar_istore (pc' := 145) hM rfl rfl rfl rfl ?_
          refine ar_iinc (z := nI (j + 1)) (pc' := 148) hM rfl rfl (nI_1 _) rfl rfl rfl ?_
          refine ar_goto hM rfl ?_
          exact ih (j + 1) x y (if m_trn (m_ch T.2.2.1 j) (T.2.2.1 - 1) = 0 then 0 else 1) w140 (.int (m_lko T S gr j)) (by omega) (by show (if _ then _ else _) = _; rw [if_neg (by rw [hb]; exact Int32.not_lt.mpr c114)]; exact hb) (i_if_iff (m_ch_ok hn6 (k := j) (by omega)).2) hS6 hH6 hO6 hsm6 hQ6
        · refine ar_aload_n (pc' := 118) hM rfl rfl rfl ?_
          refine ar_iload (pc' := 120) hM rfl rfl rfl ?_
          refine ar_putfield (pc' := 123) hM rfl hO4 (Nat.le_of_ble_eq_true rfl) rfl (by decide) rfl ?_
          show am_Go 14 (123, [.ref 100, .ref 11, .ref 16, .int gr, .int mo, .int (nI j), .int (m_lko T S gr j)], [], (w68.set 100 (.inr (2, [.ref 101, .ref 106, .ref 110, .int (m_lko T S gr j), .int y]))), 0, 0) _
          refine ar_aload_n (pc' := 124) hM rfl rfl rfl ?_
          refine ar_aload_n (pc' := 125) hM rfl rfl rfl ?_
          refine ar_aload_n (pc' := 126) hM rfl rfl rfl ?_
          refine ar_getfield (pc' := 129) hM rfl (am_gn (by decide) (hsm4.at (by unfold rg; omega) ht0)) rfl rfl ?_
          refine ar_virtual (pc' := 132) (k3 := 0) (k4 := 0) hM rfl rfl (am_gs hO4) ⟨rfl, (by decide)⟩ rfl rfl (c_figures _ _ _ _ _ _ _ (am_gs hO4) (am_gn (by decide) hs0) (am_gn (by decide) hs1) _ hn6) (fun r129 w129 q129 => ?_)
          obtain ⟨rfl, q129w⟩ := q129
          rw [q129w]
          show am_Go 14 (132, [.ref 100, .ref 11, .ref 16, .int gr, .int mo, .int (nI j), .int (m_lko T S gr j)], [.int (i_fig so T.2.2.1), .ref 100], (w68.set 100 (.inr (2, [.ref 101, .ref 106, .ref 110, .int (m_lko T S gr j), .int y]))), 0, 0) _
          refine ar_putfield (pc' := 135) hM rfl (am_gs hO4) (Nat.le_of_ble_eq_true rfl) rfl (by decide) rfl ?_
          show am_Go 14 (135, [.ref 100, .ref 11, .ref 16, .int gr, .int mo, .int (nI j), .int (m_lko T S gr j)], [], ((w68.set 100 (.inr (2, [.ref 101, .ref 106, .ref 110, .int (m_lko T S gr j), .int y]))).set 100 (.inr (2, [.ref 101, .ref 106, .ref 110, .int (m_lko T S gr j), .int (i_fig so T.2.2.1)]))), 0, 0) _
          refine ar_aload_n (pc' := 136) hM rfl rfl rfl ?_
          refine ar_aload_n (pc' := 137) hM rfl rfl rfl ?_
          refine ar_getfield (pc' := 140) hM rfl (am_gn (by decide) (am_gn (by decide) (hsm4.at (by unfold rg; omega) ht0))) rfl rfl ?_
          have hws4 : am_same (rg 100 1) w68 ((w68.set 100 (.inr (2, [.ref 101, .ref 106, .ref 110, .int (m_lko T S gr j), .int y]))).set 100 (.inr (2, [.ref 101, .ref 106, .ref 110, .int (m_lko T S gr j), .int (i_fig so T.2.2.1)]))) := (am_same.set (am_same.set am_same.rf (by unfold rg; omega)) (by unfold rg; omega))
          have hO5 : ((w68.set 100 (.inr (2, [.ref 101, .ref 106, .ref 110, .int (m_lko T S gr j), .int y]))).set 100 (.inr (2, [.ref 101, .ref 106, .ref 110, .int (m_lko T S gr j), .int (i_fig so T.2.2.1)])))[100]? = some (.inr (2, [.ref 101, .ref 106, .ref 110, .int (m_lko T S gr j), .int (i_fig so T.2.2.1)])) := (am_gs (am_gs hO4))
          refine ar_virtual (pc' := 143) (k3 := 0) (k4 := 0) hM rfl rfl (am_gs (am_gs hO4)) ⟨rfl, (by decide)⟩ rfl rfl (c_toNext _ _ _ _ _ _ so (am_gs (am_gs hO4)) (am_gn (by decide) (am_gn (by decide) hs0)) (am_gn (by decide) (am_gn (by decide) hs1)) _ hn6 (m_ch T.2.2.1 j) hso (fun p hp => (m_pm_at hpm hp).1)) (fun r140 w140 q140 => ?_)
          obtain ⟨rfl, g, q140w, hg⟩ := q140
          have hS6 : c_S w140 106 T.2.2.1 (m_ord S (m_ch T.2.2.1 (j + 1))) := by rw [q140w]; exact (hS4.same hws4 (fun b h1 h2 => by unfold rg; omega)).setOrd (fun p hp => (hg p hp).trans (congrArg nI (m_nx_o _ _ p hp).symm))
          have hs6 : am_same (rg 100 10) w68 w140 := by rw [q140w]; exact am_same.set (hws4.mono (fun b hb => by unfold rg at *; omega)) (by unfold rg; omega)
          have hH6 : c_H w140 110 T S 0 := hL4.hh.same hs6 (fun b h1 h2 => by unfold rg; omega)
          have hO6 : w140[100]? = some (.inr (2, [.ref 101, .ref 106, .ref 110, .int (m_lko T S gr j), .int (i_fig so T.2.2.1)])) := by rw [q140w]; exact am_gn (by decide) hO5
          have hQ6 : c_Q w140 101 := by rw [q140w]; exact (hQ4.same hws4 (fun b h1 h2 => by unfold rg; omega)).same (am_same.set (X := rg 107 1) am_same.rf (by unfold rg; omega)) (fun b h1 h2 => by unfold rg; omega)
          have hsm6 : am_same (rg 100 18) w w140 := hsm4.tr (hs6.mono (fun b hb => by unfold rg at *; omega))
          show am_Go 14 (143, [.ref 100, .ref 11, .ref 16, .int gr, .int mo, .int (nI j), .int (m_lko T S gr j)], [.int (if m_trn (m_ch T.2.2.1 j) (T.2.2.1 - 1) = 0 then 0 else 1)], w140, 0, 0) _
          refine ar_istore (pc' := 145) hM rfl rfl rfl rfl ?_
          refine ar_iinc (z := nI (j + 1)) (pc' := 148) hM rfl rfl (nI_1 _) rfl rfl rfl ?_
          refine ar_goto hM rfl ?_
          exact ih (j + 1) (m_lko T S gr j) (i_fig so T.2.2.1) (if m_trn (m_ch T.2.2.1 j) (T.2.2.1 - 1) = 0 then 0 else 1) w140 (.int (m_lko T S gr j)) (by omega) (by show (if _ then _ else _) = _; rw [if_pos (by rw [hb]; exact Int32.not_le.mp c114)]; exact Prod.ext rfl (i_fig_congr (fun p hp => (hso p (by omega)).symm))) (i_if_iff (m_ch_ok hn6 (k := j) (by omega)).2) hS6 hH6 hO6 hsm6 hQ6
  exact loop (n_fac T.2.2.1) 0 1000 0 1 ((w25.set 100 (.inr (2, [.ref 101, .ref 106, .ref 110, .int 1000, .int bo]))).set 100 (.inr (2, [.ref 101, .ref 106, .ref 110, .int 1000, .int 0]))) (.float 0) (by omega) rfl (by rw [if_neg (by omega)]) (hS3.same (am_same.set (X := rg 100 1) (am_same.set am_same.rf (by unfold rg; omega)) (by unfold rg; omega)) (fun b h1 h2 => by unfold rg; omega)) (hH3.same (am_same.set (X := rg 100 1) (am_same.set am_same.rf (by unfold rg; omega)) (by unfold rg; omega)) (fun b h1 h2 => by unfold rg; omega)) (am_gs (am_gs (hsm3.at (by unfold rg; omega) ho0))) ((hsm3.mono (fun b hb => by unfold rg at *; omega)).tr ((am_same.set (X := rg 100 1) (am_same.set am_same.rf (by unfold rg; omega)) (by unfold rg; omega)).mono (fun b hb => by unfold rg at *; omega))) ((hQ.same hsm3 (fun b h1 h2 => by unfold rg; omega)).same (am_same.set (X := rg 100 1) (am_same.set am_same.rf (by unfold rg; omega)) (by unfold rg; omega)) (fun b h1 h2 => by unfold rg; omega))
