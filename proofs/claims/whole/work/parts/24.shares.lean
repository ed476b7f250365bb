/-! Chances: shares, rests -/
def m_dby (T : p_D) (S : s_S) (c : Int32) : Int32 := i_sum (m_dr T (m_set S S.2.2.2.2.1 (S.2.2.2.2.2.1 ||| (nI (2 ^ T.2.2.1) - 1) &&& (c ^^^ (-1))) S.2.2.2.2.2.2) 0) T.2.2.1
def m_add (T : p_D) (S : s_S) (h : Nat) : Nat → Int32
  | 0 => 0
  | c + 1 => if (nI c >>> (nI h &&& 31)) &&& 1 = 0 then m_add T S h c + am_fac (n_pop c) * am_fac (T.2.2.1 - 1 - n_pop c) * (m_dby T S (nI c ||| 1 <<< (nI h &&& 31)) - m_dby T S (nI c)) else m_add T S h c
theorem i_popb : ∀ n, n < 7 → ∀ c, c < 2 ^ n → ∀ h, h < n → (nI c >>> (nI h &&& 31)) &&& 1 = 0 → n_pop c + 1 ≤ n := by decide +kernel
def m_has (T : p_D) (S : s_S) (h : Nat) : Int32 := (if (S.2.2.2.2.1 >>> (nI h &&& 31)) &&& 1 = 1 then 2 else 0) - m_lk T S 0 h
def m_rs (S : s_S) (a b : Nat) (j : Nat) : s_S := m_set S ((S.2.2.2.2.1 ||| (nI j >>> (1 &&& 31)) <<< (nI a &&& 31)) ||| (nI j &&& 1) <<< (nI b &&& 31)) S.2.2.2.2.2.1 S.2.2.2.2.2.2
/-- pairs at rest, from the last one to the first: how many, the first one -/
def m_dn (o t : Nat → Int32) : Nat → Int32 × Int32 → Int32 × Int32
  | 0, x => x
  | k + 1, x => m_dn o t k (if o (k ^^^ 2) ≤ o k ∧ t (k ^^^ 1) ≤ t k then (x.1 + 1, nI (10 * (k / 2) + k % 2)) else x)
theorem m_dn_congr {o t o' t' : Nat → Int32} (h : ∀ k, k < 4 → o k = o' k ∧ t k = t' k) : ∀ k, k ≤ 4 → ∀ x, m_dn o t k x = m_dn o' t' k x
  | 0, _, x => rfl
  | k + 1, hk, x => by
    unfold m_dn
    have e : ∀ k, k < 4 → k ^^^ 2 < 4 ∧ k ^^^ 1 < 4 := by decide
    rw [m_dn_congr h k (by omega), (h k (by omega)).1, (h k (by omega)).2, (h _ (e k (by omega)).1).1, (h _ (e k (by omega)).2).2]
set_option maxRecDepth 100000 in
set_option maxHeartbeats 4000000 in
theorem k_drawnBy (w : am_W) (T : p_D) (S : s_S) (rc fr : Int32) (sd : Int64) (hvT : v_T T) (hvS : v_S T.2.2.1 S) (hT : c_T w 11 T) (hN : c_S w 16 T.2.2.1 S) (hc0 : w[118]? = some (.inr (1, [.ref 119, .ref 123, .ref 131, .ref 132, .int rc, .int fr, .long sd]))) (z : Int32) (hS : c_S w 119 T.2.2.1 (m_set S S.2.2.2.2.1 z S.2.2.2.2.2.2)) (hD : c_D w 123) (c : Int32) : am_Go 6 (0, [.ref 118, .ref 11, .ref 16, .int c, .float 0], [], w, 0, 0) (fun res w' => res = some (.int (m_dby T S c)) ∧ c_S w' 119 T.2.2.1 (m_set S S.2.2.2.2.1 (S.2.2.2.2.2.1 ||| (nI (2 ^ T.2.2.1) - 1) &&& (c ^^^ (-1))) S.2.2.2.2.2.2) ∧ am_same (rg 119 12) w w' ∧ c_D w' 123) := by
  have hM : am_P[6]? = some zm_X1_drawnBy := rfl
  have hn6 : T.2.2.1 ≤ 6 := hvT.1
  refine ar_iconst (x := 1) (pc' := 1) hM rfl (by decide) rfl ?_
  refine ar_aload_n (pc' := 2) hM rfl rfl rfl ?_
  refine ar_getfield (pc' := 5) hM rfl hT.o rfl rfl ?_
  refine ar_ishl (pc' := 6) hM rfl rfl ?_
  rw [show (1 <<< ((nI T.2.2.1) &&& 31) : Int32) = nI (2 ^ T.2.2.1) from i_shl1 _ hn6]
  refine ar_iconst (x := 1) (pc' := 7) hM rfl (by decide) rfl ?_
  refine ar_isub (pc' := 8) hM rfl rfl ?_
  refine ar_istore (pc' := 10) hM rfl rfl rfl rfl ?_
  refine ar_aload_n (pc' := 11) hM rfl rfl rfl ?_
  refine ar_getfield (pc' := 14) hM rfl hc0 rfl rfl ?_
  refine ar_aload_n (pc' := 15) hM rfl rfl rfl ?_
  refine ar_getfield (pc' := 18) hM rfl hN.o rfl rfl ?_
  refine ar_iload (pc' := 20) hM rfl rfl rfl ?_
  refine ar_iload_n (pc' := 21) hM rfl rfl rfl ?_
  refine ar_iconst (x := (-1)) (pc' := 22) hM rfl (by decide) rfl ?_
  refine ar_ixor (pc' := 23) hM rfl rfl ?_
  refine ar_iand (pc' := 24) hM rfl rfl ?_
  refine ar_ior (pc' := 25) hM rfl rfl ?_
  refine ar_putfield (pc' := 28) hM rfl (hS.o) (Nat.le_of_ble_eq_true rfl) rfl (by decide) rfl ?_
  show am_Go 6 (28, [.ref 118, .ref 11, .ref 16, .int c, .int ((nI (2 ^ T.2.2.1)) - 1)], [], (w.set 119 (.inr (6, [.ref 120, .ref 121, .ref 122, .int ((m_set S S.2.2.2.2.1 z S.2.2.2.2.2.2).2.2.2.2.1), .int (S.2.2.2.2.2.1 ||| (((nI (2 ^ T.2.2.1)) - 1) &&& (c ^^^ (-1)))), .int (nI (m_set S S.2.2.2.2.1 z S.2.2.2.2.2.2).2.2.2.2.2.2)]))), 0, 0) _
  refine ar_aload_n (pc' := 29) hM rfl rfl rfl ?_
  refine ar_getfield (pc' := 32) hM rfl (am_gn (by decide) hc0) rfl rfl ?_
  refine ar_aload_n (pc' := 33) hM rfl rfl rfl ?_
  refine ar_aload_n (pc' := 34) hM rfl rfl rfl ?_
  refine ar_getfield (pc' := 37) hM rfl (am_gn (by decide) hc0) rfl rfl ?_
  refine ar_virtual (pc' := 40) (k3 := 0) (k4 := 0) hM rfl rfl (am_gn (by decide) (hD.o)) ⟨rfl, (by decide)⟩ rfl rfl (k_lookAt _ 123 11 119 T (m_set S S.2.2.2.2.1 (S.2.2.2.2.2.1 ||| (nI (2 ^ T.2.2.1) - 1) &&& (c ^^^ (-1))) S.2.2.2.2.2.2) hvT hvS (hT.same (am_same.set (X := rg 119 1) am_same.rf (by unfold rg; omega)) (fun b h1 h2 => by unfold rg; omega)) (hS.setO S.2.2.2.2.1 (S.2.2.2.2.2.1 ||| (nI (2 ^ T.2.2.1) - 1) &&& (c ^^^ (-1))) S.2.2.2.2.2.2) (hD.same (am_same.set (X := rg 119 1) am_same.rf (by unfold rg; omega)) (fun b h1 h2 => by unfold rg; omega)) (by decide) (by decide) (by decide) (by omega) (by omega) (by omega)) (fun r37 w37 q37 => ?_)
  obtain ⟨rfl, hL2, q37s⟩ := q37
  have hsm2 : am_same (rg 119 12) w w37 := (am_same.set am_same.rf (by unfold rg; omega)).tr (q37s.mono (fun b hb => by unfold rg at *; omega))
  have hS2 := (c_S.setO hS S.2.2.2.2.1 (S.2.2.2.2.2.1 ||| (nI (2 ^ T.2.2.1) - 1) &&& (c ^^^ (-1))) S.2.2.2.2.2.2).same q37s (fun b h1 h2 => by unfold rg; omega)
  obtain ⟨dw, ds, dg, dd, dl, df, dv, ⟨hd0, hd1, hd2, hd3, hd4, hd5, hd6, hd7⟩, hdl⟩ := id hL2
  show am_Go 6 (40, [.ref 118, .ref 11, .ref 16, .int c, .int ((nI (2 ^ T.2.2.1)) - 1)], [], w37, 0, 0) _
  refine ar_aload_n (pc' := 41) hM rfl rfl rfl ?_
  refine ar_getfield (pc' := 44) hM rfl (hsm2.at (by unfold rg; omega) hc0) rfl rfl ?_
  refine ar_getfield (pc' := 47) hM rfl hd0 rfl rfl ?_
  refine ar_aload_n (pc' := 48) hM rfl rfl rfl ?_
  refine ar_getfield (pc' := 51) hM rfl (hsm2.at (by unfold rg; omega) hT.o) rfl rfl ?_
  refine ar_static (pc' := 54) (k3 := 0) (k4 := 0) hM rfl (by decide) rfl rfl (c_sum _ 127 _ hd4 _ hn6) (fun r51 w51 q51 => ?_)
  obtain ⟨rfl, q51w⟩ := q51
  rw [q51w]
  rw [show i_sum dd T.2.2.1 = m_dby T S c from i_sum_congr (fun h hh => (hdl h hh).2.2.2.1)]
  show am_Go 6 (54, [.ref 118, .ref 11, .ref 16, .int c, .int ((nI (2 ^ T.2.2.1)) - 1)], [.int (m_dby T S c)], w37, 0, 0) _
  refine ar_ireturn hM rfl (Or.inl rfl) ?_
  exact ⟨rfl, hS2, hsm2, hL2.d⟩
set_option maxRecDepth 100000 in
set_option maxHeartbeats 4000000 in
theorem k_added (w : am_W) (T : p_D) (S : s_S) (rc fr : Int32) (sd : Int64) (hvT : v_T T) (hvS : v_S T.2.2.1 S) (hT : c_T w 11 T) (hN : c_S w 16 T.2.2.1 S) (hc0 : w[118]? = some (.inr (1, [.ref 119, .ref 123, .ref 131, .ref 132, .int rc, .int fr, .long sd]))) (hF : w[0]? = some (.inl (0, 7, .inl am_fac))) (hR : c_R w 119) (hD : c_D w 123) (h : Nat) (hh : h < T.2.2.1) : am_Go 5 (0, [.ref 118, .ref 11, .ref 16, .int (nI h), .float 0, .float 0, .float 0, .float 0, .float 0], [], w, 0, 0) (fun res w' => res = some (.int (m_add T S h (2 ^ T.2.2.1))) ∧ am_same (rg 119 12) w w' ∧ c_R w' 119 ∧ c_D w' 123) := by
  have hM : am_P[5]? = some zm_X1_addedInAllOrders := rfl
  have hn6 : T.2.2.1 ≤ 6 := hvT.1
  obtain ⟨x9, y9, z9, hr9⟩ := hR.o
  have h64 : 2 ^ T.2.2.1 ≤ 64 := by have := Nat.pow_le_pow_right (show 0 < 2 by decide) hn6; omega
  refine ar_aload_n (pc' := 1) hM rfl rfl rfl ?_
  refine ar_getfield (pc' := 4) hM rfl hc0 rfl rfl ?_
  refine ar_aload_n (pc' := 5) hM rfl rfl rfl ?_
  refine ar_virtual (pc' := 8) (k3 := 0) (k4 := 0) hM rfl rfl hr9 ⟨rfl, (by decide)⟩ rfl rfl (k_copyR _ 119 16 _ S hR hN hn6 (by decide) (by decide) (by omega)) (fun r5 w5 q5 => ?_)
  obtain ⟨rfl, hS1, hsm1⟩ := q5
  have hsm0 : am_same (rg 119 12) w w5 := hsm1.mono (fun b hb => by unfold rg at *; omega)
  show am_Go 5 (8, [.ref 118, .ref 11, .ref 16, .int (nI h), .float 0, .float 0, .float 0, .float 0, .float 0], [], w5, 0, 0) _
  refine ar_iconst (x := 0) (pc' := 9) hM rfl (by decide) rfl ?_
  refine ar_istore (pc' := 11) hM rfl rfl rfl rfl ?_
  refine ar_iconst (x := 0) (pc' := 12) hM rfl (by decide) rfl ?_
  refine ar_istore (pc' := 14) hM rfl rfl rfl rfl ?_
  have loop : ∀ (dj j : Nat) (x : Int32) (z : Int32) (wj : am_W) (z6 : Value) (z7 : Value) (z8 : Value), dj + j = 2 ^ T.2.2.1 → (x = m_add T S h j) → (c_S wj 119 T.2.2.1 (m_set S S.2.2.2.2.1 z S.2.2.2.2.2.2)) → (c_D wj 123) → (am_same (rg 119 12) w wj) → am_Go 5 (14, [.ref 118, .ref 11, .ref 16, .int (nI h), .int x, .int (nI j), z6, z7, z8], [], wj, 0, 0) (fun res w' => res = some (.int (m_add T S h (2 ^ T.2.2.1))) ∧ am_same (rg 119 12) w w' ∧ c_R w' 119 ∧ c_D w' 123) := by
    intro dj
    induction dj with
    | zero =>
      intro j x z wj z6 z7 z8 hj hx hS hD hsm
      refine ar_iload (pc' := 16) hM rfl rfl rfl ?_
      refine ar_iconst (x := 1) (pc' := 17) hM rfl (by decide) rfl ?_
      refine ar_aload_n (pc' := 18) hM rfl rfl rfl ?_
      refine ar_getfield (pc' := 21) hM rfl (hsm.at (by unfold rg; omega) hT.o) rfl rfl ?_
      refine ar_ishl (pc' := 22) hM rfl rfl ?_
      rw [show (1 <<< ((nI T.2.2.1) &&& 31) : Int32) = nI (2 ^ T.2.2.1) from i_shl1 _ hn6]
      refine ar_icmp_ge (pc' := 25) hM rfl rfl (fun _ => ?_) (fun q => absurd (nI_le (a := 2 ^ T.2.2.1) (b := j) (by omega) (by omega)) q)
      refine ar_iload (pc' := 102) hM rfl rfl rfl ?_
      refine ar_ireturn hM rfl (Or.inl rfl) ?_
      exact ⟨by rw [hx, show j = 2 ^ T.2.2.1 by omega], hsm, hS.r, hD⟩
    | succ dj ih =>
      intro j x z wj z6 z7 z8 hj hx hS hD hsm
      refine ar_iload (pc' := 16) hM rfl rfl rfl ?_
      refine ar_iconst (x := 1) (pc' := 17) hM rfl (by decide) rfl ?_
      refine ar_aload_n (pc' := 18) hM rfl rfl rfl ?_
      refine ar_getfield (pc' := 21) hM rfl (hsm.at (by unfold rg; omega) hT.o) rfl rfl ?_
      refine ar_ishl (pc' := 22) hM rfl rfl ?_
      rw [show (1 <<< ((nI T.2.2.1) &&& 31) : Int32) = nI (2 ^ T.2.2.1) from i_shl1 _ hn6]
      refine ar_icmp_ge (pc' := 25) hM rfl rfl (fun q => absurd q (nI_ge (a := j) (b := 2 ^ T.2.2.1) (by omega) (by omega))) (fun _ => ?_)
      refine ar_iload (pc' := 27) hM rfl rfl rfl ?_
      refine ar_iload_n (pc' := 28) hM rfl rfl rfl ?_
      refine ar_ishr (pc' := 29) hM rfl rfl ?_
      refine ar_iconst (x := 1) (pc' := 30) hM rfl (by decide) rfl ?_
      refine ar_iand (pc' := 31) hM rfl rfl ?_
      refine ar_if_ne (pc' := 34) hM rfl rfl (fun c31 => ?_) (fun c31 => ?_)
      · refine ar_iinc (z := nI (j + 1)) (pc' := 97) hM rfl rfl (nI_1 _) rfl rfl rfl ?_
        refine ar_goto hM rfl ?_
        exact ih (j + 1) x z wj (z6) (z7) (z8) (by omega) (by show _ = if _ then _ else _; rw [if_neg c31]; exact hx) hS hD hsm
      · have hpp := i_popb T.2.2.1 (by omega) j (by omega) h hh c31
        refine ar_iload (pc' := 36) hM rfl rfl rfl ?_
        refine ar_static (pc' := 39) (k3 := 0) (k4 := 0) hM rfl (by decide) rfl rfl (c_bitCount _ (nI j)) (fun r36 w36 q36 => ?_)
        obtain ⟨rfl, q36w⟩ := q36
        rw [q36w, i_bc_tab j (by omega)]
        show am_Go 5 (39, [.ref 118, .ref 11, .ref 16, .int (nI h), .int x, .int (nI j), z6, z7, z8], [.int (nI (n_pop j))], wj, 0, 0) _
        refine ar_istore (pc' := 41) hM rfl rfl rfl rfl ?_
        refine ar_aload_n (pc' := 42) hM rfl rfl rfl ?_
        refine ar_getfield (pc' := 45) hM rfl (hsm.at (by unfold rg; omega) hT.o) rfl rfl ?_
        refine ar_iconst (x := 1) (pc' := 46) hM rfl (by decide) rfl ?_
        refine ar_isub (pc' := 47) hM rfl rfl ?_
        refine ar_iload (pc' := 49) hM rfl rfl rfl ?_
        refine ar_isub (pc' := 50) hM rfl rfl ?_
        rw [show (((nI T.2.2.1) - 1) - (nI (n_pop j)) : Int32) = nI (T.2.2.1 - 1 - n_pop j) from (by rw [i_pred (by omega), pk_sub (by omega)])]
        refine ar_istore (pc' := 52) hM rfl rfl rfl rfl ?_
        refine ar_aload_n (pc' := 53) hM rfl rfl rfl ?_
        refine ar_aload_n (pc' := 54) hM rfl rfl rfl ?_
        refine ar_aload_n (pc' := 55) hM rfl rfl rfl ?_
        refine ar_iload (pc' := 57) hM rfl rfl rfl ?_
        refine ar_iconst (x := 1) (pc' := 58) hM rfl (by decide) rfl ?_
        refine ar_iload_n (pc' := 59) hM rfl rfl rfl ?_
        refine ar_ishl (pc' := 60) hM rfl rfl ?_
        refine ar_ior (pc' := 61) hM rfl rfl ?_
        refine ar_virtual (pc' := 64) (k3 := 0) (k4 := 0) hM rfl rfl (hsm.at (by unfold rg; omega) hc0) ⟨rfl, (by decide)⟩ rfl rfl (k_drawnBy _ T S rc fr sd hvT hvS (hT.same hsm (fun b h1 h2 => by unfold rg; omega)) (hN.same hsm (fun b h1 h2 => by unfold rg; omega)) (hsm.at (by unfold rg; omega) hc0) _ hS hD ((nI j) ||| (1 <<< ((nI h) &&& 31)))) (fun r61 w61 q61 => ?_)
        obtain ⟨rfl, hS3, q61s, hD3⟩ := q61
        have hsm3 : am_same (rg 119 12) w w61 := hsm.tr q61s
        show am_Go 5 (64, [.ref 118, .ref 11, .ref 16, .int (nI h), .int x, .int (nI j), .int (nI (n_pop j)), .int (nI (T.2.2.1 - 1 - n_pop j)), z8], [.int (m_dby T S ((nI j) ||| (1 <<< ((nI h) &&& 31))))], w61, 0, 0) _
        refine ar_aload_n (pc' := 65) hM rfl rfl rfl ?_
        refine ar_aload_n (pc' := 66) hM rfl rfl rfl ?_
        refine ar_aload_n (pc' := 67) hM rfl rfl rfl ?_
        refine ar_iload (pc' := 69) hM rfl rfl rfl ?_
        refine ar_virtual (pc' := 72) (k3 := 0) (k4 := 0) hM rfl rfl (hsm3.at (by unfold rg; omega) hc0) ⟨rfl, (by decide)⟩ rfl rfl (k_drawnBy _ T S rc fr sd hvT hvS (hT.same hsm3 (fun b h1 h2 => by unfold rg; omega)) (hN.same hsm3 (fun b h1 h2 => by unfold rg; omega)) (hsm3.at (by unfold rg; omega) hc0) _ hS3 hD3 (nI j)) (fun r69 w69 q69 => ?_)
        obtain ⟨rfl, hS4, q69s, hD4⟩ := q69
        have hsm4 : am_same (rg 119 12) w w69 := hsm3.tr q69s
        show am_Go 5 (72, [.ref 118, .ref 11, .ref 16, .int (nI h), .int x, .int (nI j), .int (nI (n_pop j)), .int (nI (T.2.2.1 - 1 - n_pop j)), z8], [.int (m_dby T S (nI j)), .int (m_dby T S ((nI j) ||| (1 <<< ((nI h) &&& 31))))], w69, 0, 0) _
        refine ar_isub (pc' := 73) hM rfl rfl ?_
        refine ar_istore (pc' := 75) hM rfl rfl rfl rfl ?_
        refine ar_iload (pc' := 77) hM rfl rfl rfl ?_
        refine ar_iload (pc' := 79) hM rfl rfl rfl ?_
        refine ar_static (pc' := 82) (k3 := 0) (k4 := 0) hM rfl (by decide) rfl rfl (c_ordersOf _ (hsm4.at (by unfold rg; omega) hF) (n_pop j) (by omega)) (fun r79 w79 q79 => ?_)
        obtain ⟨rfl, q79w⟩ := q79
        rw [q79w]
        show am_Go 5 (82, [.ref 118, .ref 11, .ref 16, .int (nI h), .int x, .int (nI j), .int (nI (n_pop j)), .int (nI (T.2.2.1 - 1 - n_pop j)), .int ((m_dby T S ((nI j) ||| (1 <<< ((nI h) &&& 31)))) - (m_dby T S (nI j)))], [.int (am_fac (n_pop j)), .int x], w69, 0, 0) _
        refine ar_iload (pc' := 84) hM rfl rfl rfl ?_
        refine ar_static (pc' := 87) (k3 := 0) (k4 := 0) hM rfl (by decide) rfl rfl (c_ordersOf _ (hsm4.at (by unfold rg; omega) hF) (T.2.2.1 - 1 - n_pop j) (by omega)) (fun r84 w84 q84 => ?_)
        obtain ⟨rfl, q84w⟩ := q84
        rw [q84w]
        show am_Go 5 (87, [.ref 118, .ref 11, .ref 16, .int (nI h), .int x, .int (nI j), .int (nI (n_pop j)), .int (nI (T.2.2.1 - 1 - n_pop j)), .int ((m_dby T S ((nI j) ||| (1 <<< ((nI h) &&& 31)))) - (m_dby T S (nI j)))], [.int (am_fac (T.2.2.1 - 1 - n_pop j)), .int (am_fac (n_pop j)), .int x], w69, 0, 0) _
        refine ar_imul (pc' := 88) hM rfl rfl ?_
        refine ar_iload (pc' := 90) hM rfl rfl rfl ?_
        refine ar_imul (pc' := 91) hM rfl rfl ?_
        refine ar_iadd (pc' := 92) hM rfl rfl ?_
        refine ar_istore (pc' := 94) hM rfl rfl rfl rfl ?_
        refine ar_iinc (z := nI (j + 1)) (pc' := 97) hM rfl rfl (nI_1 _) rfl rfl rfl ?_
        refine ar_goto hM rfl ?_
        exact ih (j + 1) (x + (((am_fac (n_pop j)) * (am_fac (T.2.2.1 - 1 - n_pop j))) * ((m_dby T S ((nI j) ||| (1 <<< ((nI h) &&& 31)))) - (m_dby T S (nI j))))) ((S.2.2.2.2.2.1 ||| (nI (2 ^ T.2.2.1) - 1) &&& (nI j ^^^ (-1)))) w69 (.int (nI (n_pop j))) (.int (nI (T.2.2.1 - 1 - n_pop j))) (.int ((m_dby T S ((nI j) ||| (1 <<< ((nI h) &&& 31)))) - (m_dby T S (nI j)))) (by omega) (by show _ = if _ then _ else _; rw [if_pos c31, hx]) hS4 hD4 hsm4
  exact loop (2 ^ T.2.2.1) 0 0 S.2.2.2.2.2.1 w5 (.float 0) (.float 0) (.float 0) (by omega) rfl hS1 (hD.same hsm1 (fun b h1 h2 => by unfold rg; omega)) hsm0
set_option maxRecDepth 100000 in
set_option maxHeartbeats 4000000 in
theorem k_has (w : am_W) (T : p_D) (S1 : s_S) (rc fr : Int32) (sd : Int64) (hvT : v_T T) (hS : c_S w 119 T.2.2.1 S1) (hL : c_LS w 123 T S1 0) (h : Nat) (hh : h < T.2.2.1) (hc0 : w[118]? = some (.inr (1, [.ref 119, .ref 123, .ref 131, .ref 132, .int rc, .int fr, .long sd]))) : am_Go 8 (0, [.ref 118, .int (nI h)], [], w, 0, 0) (fun res w' => res = some (.int (m_has T S1 h)) ∧ w' = w) := by
  have hM : am_P[8]? = some zm_X1_has := rfl
  have hn6 : T.2.2.1 ≤ 6 := hvT.1
  obtain ⟨dw, ds, dg, dd, dl, df, dv, ⟨hd0, hd1, hd2, hd3, hd4, hd5, hd6, hd7⟩, hdl⟩ := hL
  refine ar_aload_n (pc' := 1) hM rfl rfl rfl ?_
  refine ar_getfield (pc' := 4) hM rfl hc0 rfl rfl ?_
  refine ar_iload_n (pc' := 5) hM rfl rfl rfl ?_
  refine ar_virtual (pc' := 8) (k3 := 0) (k4 := 0) hM rfl rfl (hS.o) ⟨rfl, (by decide)⟩ rfl rfl (by obtain ⟨so, ss, sl, g0, g1, g2, g3, -⟩ := hS; exact c_isSalted _ 119 (by decide) so ss sl _ _ _ g0 g1 g2 g3 (nI h)) (fun r5 w5 q5 => ?_)
  obtain ⟨rfl, q5w⟩ := q5
  rw [q5w]
  show am_Go 8 (8, [.ref 118, .int (nI h)], [.int (if (S1.2.2.2.2.1 >>> (nI h &&& 31)) &&& 1 = 1 then 1 else 0)], w, 0, 0) _
  suffices hj8 : ∀ z_8 : Int32, z_8 = (if (if (S1.2.2.2.2.1 >>> (nI h &&& 31)) &&& 1 = 1 then 1 else 0) = (0 : Int32) then 0 else 2) → am_Go 8 (16, [.ref 118, .int (nI h)], [.int z_8], w, 0, 0) _ by
    refine ar_if_eq (pc' := 11) hM rfl rfl (fun c => ?_) (fun c => ?_)
    · refine ar_iconst (x := 0) (pc' := 16) hM rfl (by decide) rfl ?_
      exact hj8 _ (if_pos c).symm
    · refine ar_iconst (x := 2) (pc' := 12) hM rfl (by decide) rfl ?_
      refine ar_goto hM rfl ?_
      exact hj8 _ (if_neg c).symm
  rintro _ rfl
  refine ar_aload_n (pc' := 17) hM rfl rfl rfl ?_
  refine ar_getfield (pc' := 20) hM rfl hc0 rfl rfl ?_
  refine ar_getfield (pc' := 23) hM rfl hd0 rfl rfl ?_
  refine ar_iload_n (pc' := 24) hM rfl rfl rfl ?_
  refine ar_ialoadN (j := h) (pc' := 25) hM rfl hd5 rfl (by omega) (Nat.le_of_ble_eq_true rfl) rfl ?_
  rw [show (dl h : Int32) = m_lk T S1 0 h from (hdl h hh).2.2.2.2.1]
  refine ar_isub (pc' := 26) hM rfl rfl ?_
  refine ar_ireturn hM rfl (Or.inl rfl) ?_
  exact ⟨by rw [i_if0]; rfl, rfl⟩
