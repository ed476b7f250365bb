/-! Outlook: the best order, sought -/
theorem c_S.setOrd {w : am_W} {a n : Nat} {S : s_S} (h : c_S w a n S) {g : Nat → Int32} {o : Nat → Nat} (hg : ∀ p, p < 6 → g p = nI (o p)) : c_S (w.set (a + 1) (.inl (0, 6, .inl g))) a n (m_ord S o) := by
  obtain ⟨so, ss, sl, h0, h1, h2, h3, h4, h5, h6⟩ := h
  exact ⟨g, ss, sl, am_gn (by omega) h0, am_gs h1, am_gn (by omega) h2, am_gn (by omega) h3, hg, h5, h6⟩
theorem n_fac_le : ∀ n, n < 7 → n_fac n ≤ 720 := by decide
theorem n_fac_pos : ∀ n, n < 7 → 0 < n_fac n := by decide
theorem i_if_iff {P Q : Prop} [Decidable P] [Decidable Q] (h : P ↔ Q) : (if P then (0 : Int32) else 1) = if Q then 0 else 1 := by
  by_cases q : P
  · rw [if_pos q, if_pos (h.mp q)]
  · rw [if_neg q, if_neg (fun e => q (h.mpr e))]
set_option maxRecDepth 100000 in
set_option maxHeartbeats 4000000 in
theorem k_seekOrder (w : am_W) (T : p_D) (S : s_S) (bl bo : Int32) (hvT : v_T T) (hvS : v_S T.2.2.1 S) (hT : c_T w 11 T) (hN : c_S w 16 T.2.2.1 S) (hR : c_R w 106) (hD : c_D w 110) (ho0 : w[100]? = some (.inr (2, [.ref 101, .ref 106, .ref 110, .int bl, .int bo]))) (hQ : c_Q w 101) (gr : Int32) : am_Go 14 (0, [.ref 100, .ref 11, .ref 16, .int gr, .float 0, .float 0, .float 0], [], w, 0, 0) (fun res w' => res = none ∧ w'[100]? = some (.inr (2, [.ref 101, .ref 106, .ref 110, .int (m_bst T S gr (n_fac T.2.2.1)).1, .int (m_bst T S gr (n_fac T.2.2.1)).2])) ∧ am_same (rg 100 18) w w' ∧ c_Q w' 101 ∧ c_R w' 106 ∧ c_D w' 110) := by
  have hM : am_P[14]? = some zm_X2_seekOrder := rfl
  have ht0 : w[11]? = some (.inr (9, [.int T.1, .int T.2.1, .int (nI T.2.2.1), .int (nI T.2.2.2.1), .ref 12, .ref 13, .ref 14, .ref 15])) := by obtain ⟨_, _, _, _, h, -⟩ := hT; exact h
  have hn6 : T.2.2.1 ≤ 6 := hvT.1
  obtain ⟨_, _, _, x6, y6, z6, hr6, -⟩ := id hR
  have hf1 := n_fac_le T.2.2.1 (by omega)
  have hf2 := n_fac_pos T.2.2.1 (by omega)
  refine ar_aload_n (pc' := 1) hM rfl rfl rfl ?_
  refine ar_getfield (pc' := 4) hM rfl ho0 rfl rfl ?_
  refine ar_aload_n (pc' := 5) hM rfl rfl rfl ?_
  refine ar_virtual (pc' := 8) (k3 := 0) (k4 := 0) hM rfl rfl hr6 ⟨rfl, (by decide)⟩ rfl rfl (k_copyR _ 106 16 _ S hR hN hn6 (by decide) (by decide) (by omega)) (fun r5 w5 q5 => ?_)
  obtain ⟨rfl, hS1, q5s⟩ := q5
  have hsm1 : am_same (rg 106 4) w w5 := q5s
  show am_Go 14 (8, [.ref 100, .ref 11, .ref 16, .int gr, .float 0, .float 0, .float 0], [], w5, 0, 0) _
  refine ar_aload_n (pc' := 9) hM rfl rfl rfl ?_
  refine ar_getfield (pc' := 12) hM rfl (hsm1.at (by unfold rg; omega) ho0) rfl rfl ?_
  refine ar_virtual (pc' := 15) (k3 := 0) (k4 := 0) hM rfl rfl (hS1.o) ⟨rfl, (by decide)⟩ rfl rfl (k_stand _ 106 _ S hS1 (by decide)) (fun r12 w12 q12 => ?_)
  obtain ⟨rfl, hS2, q12s⟩ := q12
  have hsm2 : am_same (rg 106 4) w w12 := hsm1.tr q12s
  have hD2 := hD.same hsm2 (fun b h1 h2 => by unfold rg; omega)
  show am_Go 14 (15, [.ref 100, .ref 11, .ref 16, .int gr, .float 0, .float 0, .float 0], [], w12, 0, 0) _
  refine ar_aload_n (pc' := 16) hM rfl rfl rfl ?_
  refine ar_getfield (pc' := 19) hM rfl (hsm2.at (by unfold rg; omega) ho0) rfl rfl ?_
  refine ar_aload_n (pc' := 20) hM rfl rfl rfl ?_
  refine ar_aload_n (pc' := 21) hM rfl rfl rfl ?_
  refine ar_getfield (pc' := 24) hM rfl (hsm2.at (by unfold rg; omega) ho0) rfl rfl ?_
  refine ar_iconst (x := 0) (pc' := 25) hM rfl (by decide) rfl ?_
  refine ar_virtual (pc' := 28) (k3 := 0) (k4 := 0) hM rfl rfl (hD2.o) ⟨rfl, (by decide)⟩ rfl rfl (k_hear _ 110 11 106 T (m_ord S (m_ch T.2.2.1 0)) hvT hvS.2.2.2 (hT.same hsm2 (fun b h1 h2 => by unfold rg; omega)) hS2 hD2 (by decide) (by decide) (by decide) (by omega) (by omega) (by omega) 0) (fun r25 w25 q25 => ?_)
  obtain ⟨rfl, hH3, q25s⟩ := q25
  have hsm3 : am_same (rg 106 12) w w25 := (hsm2.mono (fun b hb => by unfold rg at *; omega)).tr (q25s.mono (fun b hb => by unfold rg at *; omega))
  have hS3 := hS2.same q25s (fun b h1 h2 => by unfold rg; omega)
  show am_Go 14 (28, [.ref 100, .ref 11, .ref 16, .int gr, .float 0, .float 0, .float 0], [], w25, 0, 0) _
  refine ar_aload_n (pc' := 29) hM rfl rfl rfl ?_
  refine ar_ldc (x := 2147483647) (pc' := 31) hM rfl (by decide) rfl ?_
  refine ar_putfield (pc' := 34) hM rfl (hsm3.at (by unfold rg; omega) ho0) (Nat.le_of_ble_eq_true rfl) rfl (by decide) rfl ?_
  show am_Go 14 (34, [.ref 100, .ref 11, .ref 16, .int gr, .float 0, .float 0, .float 0], [], (w25.set 100 (.inr (2, [.ref 101, .ref 106, .ref 110, .int 2147483647, .int bo]))), 0, 0) _
  refine ar_aload_n (pc' := 35) hM rfl rfl rfl ?_
  refine ar_iconst (x := 0) (pc' := 36) hM rfl (by decide) rfl ?_
  refine ar_putfield (pc' := 39) hM rfl (am_gs (hsm3.at (by unfold rg; omega) ho0)) (Nat.le_of_ble_eq_true rfl) rfl (by decide) rfl ?_
  show am_Go 14 (39, [.ref 100, .ref 11, .ref 16, .int gr, .float 0, .float 0, .float 0], [], ((w25.set 100 (.inr (2, [.ref 101, .ref 106, .ref 110, .int 2147483647, .int bo]))).set 100 (.inr (2, [.ref 101, .ref 106, .ref 110, .int 2147483647, .int 0]))), 0, 0) _
  refine ar_iconst (x := 1) (pc' := 40) hM rfl (by decide) rfl ?_
  refine ar_istore (pc' := 42) hM rfl rfl rfl rfl ?_
  refine ar_iconst (x := 0) (pc' := 43) hM rfl (by decide) rfl ?_
  refine ar_istore (pc' := 45) hM rfl rfl rfl rfl ?_
  have loop : ∀ (dj j : Nat) (x : Int32) (y : Int32) (mo : Int32) (wj : am_W) (z6 : Value), dj + j = n_fac T.2.2.1 → (m_bst T S gr j = (x, y)) → (mo = if j = n_fac T.2.2.1 then 0 else 1) → (c_S wj 106 T.2.2.1 (m_ord S (m_ch T.2.2.1 j))) → (c_H wj 110 T S 0) → (wj[100]? = some (.inr (2, [.ref 101, .ref 106, .ref 110, .int x, .int y]))) → (am_same (rg 100 18) w wj) → (c_Q wj 101) → am_Go 14 (45, [.ref 100, .ref 11, .ref 16, .int gr, .int mo, .int (nI j), z6], [], wj, 0, 0) (fun res w' => res = none ∧ w'[100]? = some (.inr (2, [.ref 101, .ref 106, .ref 110, .int (m_bst T S gr (n_fac T.2.2.1)).1, .int (m_bst T S gr (n_fac T.2.2.1)).2])) ∧ am_same (rg 100 18) w w' ∧ c_Q w' 101 ∧ c_R w' 106 ∧ c_D w' 110) := by
    intro dj
    induction dj with
    | zero =>
      intro j x y mo wj z6 hj hb hmo hS hH hO hsm hQj
      refine ar_iload (pc' := 47) hM rfl rfl rfl ?_
      refine ar_sipush (x := 720) (pc' := 50) hM rfl (by decide) rfl ?_
      refine ar_icmp_ge (pc' := 53) hM rfl rfl (fun c50 => ?_) (fun c50 => ?_)
      · refine ar_return hM rfl ?_
        exact ⟨rfl, by rw [show n_fac T.2.2.1 = j by omega, hb]; exact hO, hsm, hQj, hS.r, hH.d⟩
      · refine ar_iload (pc' := 55) hM rfl rfl rfl ?_
        refine ar_if_eq (pc' := 58) hM rfl rfl (fun _ => ?_) (fun q => absurd (by rw [hmo, if_pos (by omega)]) q)
        refine ar_return hM rfl ?_
        exact ⟨rfl, by rw [show n_fac T.2.2.1 = j by omega, hb]; exact hO, hsm, hQj, hS.r, hH.d⟩
    | succ dj ih =>
      intro j x y mo wj z6 hj hb hmo hS hH hO hsm hQj
      have hpm := (m_ch_ok hn6 (k := j) (by omega)).1
      have hvj : v_S T.2.2.1 (m_ord S (m_ch T.2.2.1 j)) := m_ord_v hn6 hpm hvS.2.2.2
      refine ar_iload (pc' := 47) hM rfl rfl rfl ?_
      refine ar_sipush (x := 720) (pc' := 50) hM rfl (by decide) rfl ?_
      refine ar_icmp_ge (pc' := 53) hM rfl rfl (fun q => absurd q (nI_ge (a := j) (b := 720) (by omega) (by omega))) (fun _ => ?_)
      refine ar_iload (pc' := 55) hM rfl rfl rfl ?_
      refine ar_if_eq (pc' := 58) hM rfl rfl (fun q => absurd q (by rw [hmo, if_neg (by omega)]; decide)) (fun _ => ?_)
      refine ar_aload_n (pc' := 59) hM rfl rfl rfl ?_
      refine ar_getfield (pc' := 62) hM rfl hO rfl rfl ?_
      refine ar_aload_n (pc' := 63) hM rfl rfl rfl ?_
      refine ar_aload_n (pc' := 64) hM rfl rfl rfl ?_
      refine ar_getfield (pc' := 67) hM rfl hO rfl rfl ?_
      refine ar_virtual (pc' := 70) (k3 := 0) (k4 := 0) hM rfl rfl (hH.d.o) ⟨rfl, (by decide)⟩ rfl rfl (k_pour _ 110 11 106 T (m_ord S (m_ch T.2.2.1 j)) 0 hvT hvj (hT.same hsm (fun b h1 h2 => by unfold rg; omega)) hS hH (by decide) (by decide) (by decide) (by omega) (by omega) (by omega)) (fun r67 w67 q67 => ?_)
      obtain ⟨rfl, hL4, q67s⟩ := q67
      have hsm4 : am_same (rg 100 18) w w67 := hsm.tr (q67s.mono (fun b hb => by unfold rg at *; omega))
      have hS4 := hS.same q67s (fun b h1 h2 => by unfold rg; omega)
      have hO4 := q67s.at (by unfold rg; omega) hO
      have hQ4 := hQj.same q67s (fun b h1 h2 => by unfold rg; omega)
      obtain ⟨so, ss, sl, hs0, hs1, hs2, hs3, hso, -⟩ := id hS4
      obtain ⟨dw, ds, dg, dd, dl, df, dv, ⟨hd0, hd1, hd2, hd3, hd4, hd5, hd6, hd7⟩, hdl⟩ := id hL4
      have hws : am_same (rg 100 1) w67 w67 := am_same.rf
      show am_Go 14 (70, [.ref 100, .ref 11, .ref 16, .int gr, .int mo, .int (nI j), z6], [], w67, 0, 0) _
      refine ar_iload_n (pc' := 71) hM rfl rfl rfl ?_
      refine ar_if_eq (pc' := 74) hM rfl rfl (fun c71 => ?_) (fun c71 => ?_)
      · refine ar_aload_n (pc' := 92) hM rfl rfl rfl ?_
        refine ar_getfield (pc' := 95) hM rfl hO4 rfl rfl ?_
        refine ar_getfield (pc' := 98) hM rfl hd0 rfl rfl ?_
        refine ar_aload_n (pc' := 99) hM rfl rfl rfl ?_
        refine ar_getfield (pc' := 102) hM rfl (hsm4.at (by unfold rg; omega) ht0) rfl rfl ?_
        refine ar_static (pc' := 105) (k3 := 0) (k4 := 0) hM rfl (by decide) rfl rfl (c_sum _ 115 _ hd5 _ hn6) (fun r102 w102 q102 => ?_)
        obtain ⟨rfl, q102w⟩ := q102
        rw [q102w]
        have hlk : i_sum dl T.2.2.1 = m_lko T S gr j := by unfold m_lko; rw [if_pos c71]; exact i_sum_congr (fun h hh => (hdl h hh).2.2.2.2.1)
        rw [hlk]
        show am_Go 14 (105, [.ref 100, .ref 11, .ref 16, .int gr, .int mo, .int (nI j), z6], [.int (m_lko T S gr j)], w67, 0, 0) _
        refine ar_istore (pc' := 107) hM rfl rfl rfl rfl ?_
        refine ar_iload (pc' := 109) hM rfl rfl rfl ?_
        refine ar_aload_n (pc' := 110) hM rfl rfl rfl ?_
        refine ar_getfield (pc' := 113) hM rfl hO4 rfl rfl ?_
        refine ar_icmp_ge (pc' := 116) hM rfl rfl (fun c113 => ?_) (fun c113 => ?_)
        · refine ar_aload_n (pc' := 135) hM rfl rfl rfl ?_
          refine ar_aload_n (pc' := 136) hM rfl rfl rfl ?_
          refine ar_getfield (pc' := 139) hM rfl (hsm4.at (by unfold rg; omega) ht0) rfl rfl ?_
          have hws4 : am_same (rg 100 1) w67 w67 := am_same.rf
          have hO5 : w67[100]? = some (.inr (2, [.ref 101, .ref 106, .ref 110, .int x, .int y])) := hO4
          refine ar_virtual (pc' := 142) (k3 := 0) (k4 := 0) hM rfl rfl hO4 ⟨rfl, (by decide)⟩ rfl rfl (c_toNext _ _ _ _ _ _ so hO4 hs0 hs1 _ hn6 (m_ch T.2.2.1 j) hso (fun p hp => (m_pm_at hpm hp).1)) (fun r139 w139 q139 => ?_)
          obtain ⟨rfl, g, q139w, hg⟩ := q139
          have hS6 : c_S w139 106 T.2.2.1 (m_ord S (m_ch T.2.2.1 (j + 1))) := by rw [q139w]; exact (hS4.same hws4 (fun b h1 h2 => by unfold rg; omega)).setOrd (fun p hp => (hg p hp).trans (congrArg nI (m_nx_o _ _ p hp).symm))
          have hs6 : am_same (rg 100 10) w67 w139 := by rw [q139w]; exact am_same.set (hws4.mono (fun b hb => by unfold rg at *; omega)) (by unfold rg; omega)
          have hH6 : c_H w139 110 T S 0 := hL4.hh.same hs6 (fun b h1 h2 => by unfold rg; omega)
          have hO6 : w139[100]? = some (.inr (2, [.ref 101, .ref 106, .ref 110, .int x, .int y])) := by rw [q139w]; exact am_gn (by decide) hO5
          have hQ6 : c_Q w139 101 := by rw [q139w]; exact (hQ4.same hws4 (fun b h1 h2 => by unfold rg; omega)).same (am_same.set (X := rg 107 1) am_same.rf (by unfold rg; omega)) (fun b h1 h2 => by unfold rg; omega)
          have hsm6 : am_same (rg 100 18) w w139 := hsm4.tr (hs6.mono (fun b hb => by unfold rg at *; omega))
          show am_Go 14 (142, [.ref 100, .ref 11, .ref 16, .int gr, .int mo, .int (nI j), .int (m_lko T S gr j)], [.int (if m_trn (m_ch T.2.2.1 j) (T.2.2.1 - 1) = 0 then 0 else 1)], w139, 0, 0) _
          refine ar_istore (pc' := 144) hM rfl rfl rfl rfl ?_
          refine ar_iinc (z := nI (j + 1)) (pc' := 147) hM rfl rfl (nI_1 _) rfl rfl rfl ?_
          refine ar_goto hM rfl ?_
          exact ih (j + 1) x y (if m_trn (m_ch T.2.2.1 j) (T.2.2.1 - 1) = 0 then 0 else 1) w139 (.int (m_lko T S gr j)) (by omega) (by show (if _ then _ else _) = _; rw [if_neg (by rw [hb]; exact Int32.not_lt.mpr c113)]; exact hb) (i_if_iff (m_ch_ok hn6 (k := j) (by omega)).2) hS6 hH6 hO6 hsm6 hQ6
        · refine ar_aload_n (pc' := 117) hM rfl rfl rfl ?_
          refine ar_iload (pc' := 119) hM rfl rfl rfl ?_
          refine ar_putfield (pc' := 122) hM rfl hO4 (Nat.le_of_ble_eq_true rfl) rfl (by decide) rfl ?_
          show am_Go 14 (122, [.ref 100, .ref 11, .ref 16, .int gr, .int mo, .int (nI j), .int (m_lko T S gr j)], [], (w67.set 100 (.inr (2, [.ref 101, .ref 106, .ref 110, .int (m_lko T S gr j), .int y]))), 0, 0) _
          refine ar_aload_n (pc' := 123) hM rfl rfl rfl ?_
          refine ar_aload_n (pc' := 124) hM rfl rfl rfl ?_
          refine ar_aload_n (pc' := 125) hM rfl rfl rfl ?_
          refine ar_getfield (pc' := 128) hM rfl (am_gn (by decide) (hsm4.at (by unfold rg; omega) ht0)) rfl rfl ?_
          refine ar_virtual (pc' := 131) (k3 := 0) (k4 := 0) hM rfl rfl (am_gs hO4) ⟨rfl, (by decide)⟩ rfl rfl (c_figures _ _ _ _ _ _ _ (am_gs hO4) (am_gn (by decide) hs0) (am_gn (by decide) hs1) _ hn6) (fun r128 w128 q128 => ?_)
          obtain ⟨rfl, q128w⟩ := q128
          rw [q128w]
          show am_Go 14 (131, [.ref 100, .ref 11, .ref 16, .int gr, .int mo, .int (nI j), .int (m_lko T S gr j)], [.int (i_fig so T.2.2.1), .ref 100], (w67.set 100 (.inr (2, [.ref 101, .ref 106, .ref 110, .int (m_lko T S gr j), .int y]))), 0, 0) _
          refine ar_putfield (pc' := 134) hM rfl (am_gs hO4) (Nat.le_of_ble_eq_true rfl) rfl (by decide) rfl ?_
          show am_Go 14 (134, [.ref 100, .ref 11, .ref 16, .int gr, .int mo, .int (nI j), .int (m_lko T S gr j)], [], ((w67.set 100 (.inr (2, [.ref 101, .ref 106, .ref 110, .int (m_lko T S gr j), .int y]))).set 100 (.inr (2, [.ref 101, .ref 106, .ref 110, .int (m_lko T S gr j), .int (i_fig so T.2.2.1)]))), 0, 0) _
          refine ar_aload_n (pc' := 135) hM rfl rfl rfl ?_
          refine ar_aload_n (pc' := 136) hM rfl rfl rfl ?_
          refine ar_getfield (pc' := 139) hM rfl (am_gn (by decide) (am_gn (by decide) (hsm4.at (by unfold rg; omega) ht0))) rfl rfl ?_
          have hws4 : am_same (rg 100 1) w67 ((w67.set 100 (.inr (2, [.ref 101, .ref 106, .ref 110, .int (m_lko T S gr j), .int y]))).set 100 (.inr (2, [.ref 101, .ref 106, .ref 110, .int (m_lko T S gr j), .int (i_fig so T.2.2.1)]))) := (am_same.set (am_same.set am_same.rf (by unfold rg; omega)) (by unfold rg; omega))
          have hO5 : ((w67.set 100 (.inr (2, [.ref 101, .ref 106, .ref 110, .int (m_lko T S gr j), .int y]))).set 100 (.inr (2, [.ref 101, .ref 106, .ref 110, .int (m_lko T S gr j), .int (i_fig so T.2.2.1)])))[100]? = some (.inr (2, [.ref 101, .ref 106, .ref 110, .int (m_lko T S gr j), .int (i_fig so T.2.2.1)])) := (am_gs (am_gs hO4))
          refine ar_virtual (pc' := 142) (k3 := 0) (k4 := 0) hM rfl rfl (am_gs (am_gs hO4)) ⟨rfl, (by decide)⟩ rfl rfl (c_toNext _ _ _ _ _ _ so (am_gs (am_gs hO4)) (am_gn (by decide) (am_gn (by decide) hs0)) (am_gn (by decide) (am_gn (by decide) hs1)) _ hn6 (m_ch T.2.2.1 j) hso (fun p hp => (m_pm_at hpm hp).1)) (fun r139 w139 q139 => ?_)
          obtain ⟨rfl, g, q139w, hg⟩ := q139
          have hS6 : c_S w139 106 T.2.2.1 (m_ord S (m_ch T.2.2.1 (j + 1))) := by rw [q139w]; exact (hS4.same hws4 (fun b h1 h2 => by unfold rg; omega)).setOrd (fun p hp => (hg p hp).trans (congrArg nI (m_nx_o _ _ p hp).symm))
          have hs6 : am_same (rg 100 10) w67 w139 := by rw [q139w]; exact am_same.set (hws4.mono (fun b hb => by unfold rg at *; omega)) (by unfold rg; omega)
          have hH6 : c_H w139 110 T S 0 := hL4.hh.same hs6 (fun b h1 h2 => by unfold rg; omega)
          have hO6 : w139[100]? = some (.inr (2, [.ref 101, .ref 106, .ref 110, .int (m_lko T S gr j), .int (i_fig so T.2.2.1)])) := by rw [q139w]; exact am_gn (by decide) hO5
          have hQ6 : c_Q w139 101 := by rw [q139w]; exact (hQ4.same hws4 (fun b h1 h2 => by unfold rg; omega)).same (am_same.set (X := rg 107 1) am_same.rf (by unfold rg; omega)) (fun b h1 h2 => by unfold rg; omega)
          have hsm6 : am_same (rg 100 18) w w139 := hsm4.tr (hs6.mono (fun b hb => by unfold rg at *; omega))
          show am_Go 14 (142, [.ref 100, .ref 11, .ref 16, .int gr, .int mo, .int (nI j), .int (m_lko T S gr j)], [.int (if m_trn (m_ch T.2.2.1 j) (T.2.2.1 - 1) = 0 then 0 else 1)], w139, 0, 0) _
          refine ar_istore (pc' := 144) hM rfl rfl rfl rfl ?_
          refine ar_iinc (z := nI (j + 1)) (pc' := 147) hM rfl rfl (nI_1 _) rfl rfl rfl ?_
          refine ar_goto hM rfl ?_
          exact ih (j + 1) (m_lko T S gr j) (i_fig so T.2.2.1) (if m_trn (m_ch T.2.2.1 j) (T.2.2.1 - 1) = 0 then 0 else 1) w139 (.int (m_lko T S gr j)) (by omega) (by show (if _ then _ else _) = _; rw [if_pos (by rw [hb]; exact Int32.not_le.mp c113)]; exact Prod.ext rfl (i_fig_congr (fun p hp => (hso p (by omega)).symm))) (i_if_iff (m_ch_ok hn6 (k := j) (by omega)).2) hS6 hH6 hO6 hsm6 hQ6
      · refine ar_aload_n (pc' := 75) hM rfl rfl rfl ?_
        refine ar_getfield (pc' := 78) hM rfl hO4 rfl rfl ?_
        refine ar_getfield (pc' := 81) hM rfl hd0 rfl rfl ?_
        refine ar_aload_n (pc' := 82) hM rfl rfl rfl ?_
        refine ar_getfield (pc' := 85) hM rfl (hsm4.at (by unfold rg; omega) ht0) rfl rfl ?_
        refine ar_static (pc' := 88) (k3 := 0) (k4 := 0) hM rfl (by decide) rfl rfl (c_greatest _ 115 _ hd5 _ hn6) (fun r85 w85 q85 => ?_)
        obtain ⟨rfl, q85w⟩ := q85
        rw [q85w]
        have hlk : i_grt dl T.2.2.1 = m_lko T S gr j := by unfold m_lko; rw [if_neg c71]; exact i_grt_congr (fun h hh => (hdl h hh).2.2.2.2.1)
        rw [hlk]
        show am_Go 14 (88, [.ref 100, .ref 11, .ref 16, .int gr, .int mo, .int (nI j), z6], [.int (m_lko T S gr j)], w67, 0, 0) _
        refine ar_goto hM rfl ?_
        refine ar_istore (pc' := 107) hM rfl rfl rfl rfl ?_
        refine ar_iload (pc' := 109) hM rfl rfl rfl ?_
        refine ar_aload_n (pc' := 110) hM rfl rfl rfl ?_
        refine ar_getfield (pc' := 113) hM rfl hO4 rfl rfl ?_
        refine ar_icmp_ge (pc' := 116) hM rfl rfl (fun c113 => ?_) (fun c113 => ?_)
        · refine ar_aload_n (pc' := 135) hM rfl rfl rfl ?_
          refine ar_aload_n (pc' := 136) hM rfl rfl rfl ?_
          refine ar_getfield (pc' := 139) hM rfl (hsm4.at (by unfold rg; omega) ht0) rfl rfl ?_
          have hws4 : am_same (rg 100 1) w67 w67 := am_same.rf
          have hO5 : w67[100]? = some (.inr (2, [.ref 101, .ref 106, .ref 110, .int x, .int y])) := hO4
          refine ar_virtual (pc' := 142) (k3 := 0) (k4 := 0) hM rfl rfl hO4 ⟨rfl, (by decide)⟩ rfl rfl (c_toNext _ _ _ _ _ _ so hO4 hs0 hs1 _ hn6 (m_ch T.2.2.1 j) hso (fun p hp => (m_pm_at hpm hp).1)) (fun r139 w139 q139 => ?_)
          obtain ⟨rfl, g, q139w, hg⟩ := q139
          have hS6 : c_S w139 106 T.2.2.1 (m_ord S (m_ch T.2.2.1 (j + 1))) := by rw [q139w]; exact (hS4.same hws4 (fun b h1 h2 => by unfold rg; omega)).setOrd (fun p hp => (hg p hp).trans (congrArg nI (m_nx_o _ _ p hp).symm))
          have hs6 : am_same (rg 100 10) w67 w139 := by rw [q139w]; exact am_same.set (hws4.mono (fun b hb => by unfold rg at *; omega)) (by unfold rg; omega)
          have hH6 : c_H w139 110 T S 0 := hL4.hh.same hs6 (fun b h1 h2 => by unfold rg; omega)
          have hO6 : w139[100]? = some (.inr (2, [.ref 101, .ref 106, .ref 110, .int x, .int y])) := by rw [q139w]; exact am_gn (by decide) hO5
          have hQ6 : c_Q w139 101 := by rw [q139w]; exact (hQ4.same hws4 (fun b h1 h2 => by unfold rg; omega)).same (am_same.set (X := rg 107 1) am_same.rf (by unfold rg; omega)) (fun b h1 h2 => by unfold rg; omega)
          have hsm6 : am_same (rg 100 18) w w139 := hsm4.tr (hs6.mono (fun b hb => by unfold rg at *; omega))
          show am_Go 14 (142, [.ref 100, .ref 11, .ref 16, .int gr, .int mo, .int (nI j), .int (m_lko T S gr j)], [.int (if m_trn (m_ch T.2.2.1 j) (T.2.2.1 - 1) = 0 then 0 else 1)], w139, 0, 0) _
          refine ar_istore (pc' := 144) hM rfl rfl rfl rfl ?_
          refine ar_iinc (z := nI (j + 1)) (pc' := 147) hM rfl rfl (nI_1 _) rfl rfl rfl ?_
          refine ar_goto hM rfl ?_
          exact ih (j + 1) x y (if m_trn (m_ch T.2.2.1 j) (T.2.2.1 - 1) = 0 then 0 else 1) w139 (.int (m_lko T S gr j)) (by omega) (by show (if _ then _ else _) = _; rw [if_neg (by rw [hb]; exact Int32.not_lt.mpr c113)]; exact hb) (i_if_iff (m_ch_ok hn6 (k := j) (by omega)).2) hS6 hH6 hO6 hsm6 hQ6
        · refine ar_aload_n (pc' := 117) hM rfl rfl rfl ?_
          refine ar_iload (pc' := 119) hM rfl rfl rfl ?_
          refine ar_putfield (pc' := 122) hM rfl hO4 (Nat.le_of_ble_eq_true rfl) rfl (by decide) rfl ?_
          show am_Go 14 (122, [.ref 100, .ref 11, .ref 16, .int gr, .int mo, .int (nI j), .int (m_lko T S gr j)], [], (w67.set 100 (.inr (2, [.ref 101, .ref 106, .ref 110, .int (m_lko T S gr j), .int y]))), 0, 0) _
          refine ar_aload_n (pc' := 123) hM rfl rfl rfl ?_
          refine ar_aload_n (pc' := 124) hM rfl rfl rfl ?_
          refine ar_aload_n (pc' := 125) hM rfl rfl rfl ?_
          refine ar_getfield (pc' := 128) hM rfl (am_gn (by decide) (hsm4.at (by unfold rg; omega) ht0)) rfl rfl ?_
          refine ar_virtual (pc' := 131) (k3 := 0) (k4 := 0) hM rfl rfl (am_gs hO4) ⟨rfl, (by decide)⟩ rfl rfl (c_figures _ _ _ _ _ _ _ (am_gs hO4) (am_gn (by decide) hs0) (am_gn (by decide) hs1) _ hn6) (fun r128 w128 q128 => ?_)
          obtain ⟨rfl, q128w⟩ := q128
          rw [q128w]
          show am_Go 14 (131, [.ref 100, .ref 11, .ref 16, .int gr, .int mo, .int (nI j), .int (m_lko T S gr j)], [.int (i_fig so T.2.2.1), .ref 100], (w67.set 100 (.inr (2, [.ref 101, .ref 106, .ref 110, .int (m_lko T S gr j), .int y]))), 0, 0) _
          refine ar_putfield (pc' := 134) hM rfl (am_gs hO4) (Nat.le_of_ble_eq_true rfl) rfl (by decide) rfl ?_
          show am_Go 14 (134, [.ref 100, .ref 11, .ref 16, .int gr, .int mo, .int (nI j), .int (m_lko T S gr j)], [], ((w67.set 100 (.inr (2, [.ref 101, .ref 106, .ref 110, .int (m_lko T S gr j), .int y]))).set 100 (.inr (2, [.ref 101, .ref 106, .ref 110, .int (m_lko T S gr j), .int (i_fig so T.2.2.1)]))), 0, 0) _
          refine ar_aload_n (pc' := 135) hM rfl rfl rfl ?_
          refine ar_aload_n (pc' := 136) hM rfl rfl rfl ?_
          refine ar_getfield (pc' := 139) hM rfl (am_gn (by decide) (am_gn (by decide) (hsm4.at (by unfold rg; omega) ht0))) rfl rfl ?_
          have hws4 : am_same (rg 100 1) w67 ((w67.set 100 (.inr (2, [.ref 101, .ref 106, .ref 110, .int (m_lko T S gr j), .int y]))).set 100 (.inr (2, [.ref 101, .ref 106, .ref 110, .int (m_lko T S gr j), .int (i_fig so T.2.2.1)]))) := (am_same.set (am_same.set am_same.rf (by unfold rg; omega)) (by unfold rg; omega))
          have hO5 : ((w67.set 100 (.inr (2, [.ref 101, .ref 106, .ref 110, .int (m_lko T S gr j), .int y]))).set 100 (.inr (2, [.ref 101, .ref 106, .ref 110, .int (m_lko T S gr j), .int (i_fig so T.2.2.1)])))[100]? = some (.inr (2, [.ref 101, .ref 106, .ref 110, .int (m_lko T S gr j), .int (i_fig so T.2.2.1)])) := (am_gs (am_gs hO4))
          refine ar_virtual (pc' := 142) (k3 := 0) (k4 := 0) hM rfl rfl (am_gs (am_gs hO4)) ⟨rfl, (by decide)⟩ rfl rfl (c_toNext _ _ _ _ _ _ so (am_gs (am_gs hO4)) (am_gn (by decide) (am_gn (by decide) hs0)) (am_gn (by decide) (am_gn (by decide) hs1)) _ hn6 (m_ch T.2.2.1 j) hso (fun p hp => (m_pm_at hpm hp).1)) (fun r139 w139 q139 => ?_)
          obtain ⟨rfl, g, q139w, hg⟩ := q139
          have hS6 : c_S w139 106 T.2.2.1 (m_ord S (m_ch T.2.2.1 (j + 1))) := by rw [q139w]; exact (hS4.same hws4 (fun b h1 h2 => by unfold rg; omega)).setOrd (fun p hp => (hg p hp).trans (congrArg nI (m_nx_o _ _ p hp).symm))
          have hs6 : am_same (rg 100 10) w67 w139 := by rw [q139w]; exact am_same.set (hws4.mono (fun b hb => by unfold rg at *; omega)) (by unfold rg; omega)
          have hH6 : c_H w139 110 T S 0 := hL4.hh.same hs6 (fun b h1 h2 => by unfold rg; omega)
          have hO6 : w139[100]? = some (.inr (2, [.ref 101, .ref 106, .ref 110, .int (m_lko T S gr j), .int (i_fig so T.2.2.1)])) := by rw [q139w]; exact am_gn (by decide) hO5
          have hQ6 : c_Q w139 101 := by rw [q139w]; exact (hQ4.same hws4 (fun b h1 h2 => by unfold rg; omega)).same (am_same.set (X := rg 107 1) am_same.rf (by unfold rg; omega)) (fun b h1 h2 => by unfold rg; omega)
          have hsm6 : am_same (rg 100 18) w w139 := hsm4.tr (hs6.mono (fun b hb => by unfold rg at *; omega))
          show am_Go 14 (142, [.ref 100, .ref 11, .ref 16, .int gr, .int mo, .int (nI j), .int (m_lko T S gr j)], [.int (if m_trn (m_ch T.2.2.1 j) (T.2.2.1 - 1) = 0 then 0 else 1)], w139, 0, 0) _
          refine ar_istore (pc' := 144) hM rfl rfl rfl rfl ?_
          refine ar_iinc (z := nI (j + 1)) (pc' := 147) hM rfl rfl (nI_1 _) rfl rfl rfl ?_
          refine ar_goto hM rfl ?_
          exact ih (j + 1) (m_lko T S gr j) (i_fig so T.2.2.1) (if m_trn (m_ch T.2.2.1 j) (T.2.2.1 - 1) = 0 then 0 else 1) w139 (.int (m_lko T S gr j)) (by omega) (by show (if _ then _ else _) = _; rw [if_pos (by rw [hb]; exact Int32.not_le.mp c113)]; exact Prod.ext rfl (i_fig_congr (fun p hp => (hso p (by omega)).symm))) (i_if_iff (m_ch_ok hn6 (k := j) (by omega)).2) hS6 hH6 hO6 hsm6 hQ6
  exact loop (n_fac T.2.2.1) 0 2147483647 0 1 ((w25.set 100 (.inr (2, [.ref 101, .ref 106, .ref 110, .int 2147483647, .int bo]))).set 100 (.inr (2, [.ref 101, .ref 106, .ref 110, .int 2147483647, .int 0]))) (.float 0) (by omega) rfl (by rw [if_neg (by omega)]) (hS3.same (am_same.set (X := rg 100 1) (am_same.set am_same.rf (by unfold rg; omega)) (by unfold rg; omega)) (fun b h1 h2 => by unfold rg; omega)) (hH3.same (am_same.set (X := rg 100 1) (am_same.set am_same.rf (by unfold rg; omega)) (by unfold rg; omega)) (fun b h1 h2 => by unfold rg; omega)) (am_gs (am_gs (hsm3.at (by unfold rg; omega) ho0))) ((hsm3.mono (fun b hb => by unfold rg at *; omega)).tr ((am_same.set (X := rg 100 1) (am_same.set am_same.rf (by unfold rg; omega)) (by unfold rg; omega)).mono (fun b hb => by unfold rg at *; omega))) ((hQ.same hsm3 (fun b h1 h2 => by unfold rg; omega)).same (am_same.set (X := rg 100 1) (am_same.set am_same.rf (by unfold rg; omega)) (by unfold rg; omega)) (fun b h1 h2 => by unfold rg; omega))
