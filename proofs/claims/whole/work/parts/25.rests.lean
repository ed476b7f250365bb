/-! Chances: rests, guests, weeks -/
theorem c_LS.same {w w' : am_W} {t : Nat} {T : p_D} {S : s_S} {g : Int32} {X : Nat → Prop} (h : c_LS w t T S g) (hs : am_same X w w') (hx : ∀ b, t ≤ b → b < t + 8 → ¬ X b) : c_LS w' t T S g := by
  obtain ⟨dw, ds, dg, dd, dl, df, dv, ⟨h0, h1, h2, h3, h4, h5, h6, h7⟩, h8⟩ := h
  exact ⟨dw, ds, dg, dd, dl, df, dv, ⟨hs.at (hx _ (by omega) (by omega)) h0, hs.at (hx _ (by omega) (by omega)) h1, hs.at (hx _ (by omega) (by omega)) h2, hs.at (hx _ (by omega) (by omega)) h3, hs.at (hx _ (by omega) (by omega)) h4, hs.at (hx _ (by omega) (by omega)) h5, hs.at (hx _ (by omega) (by omega)) h6, hs.at (hx _ (by omega) (by omega)) h7⟩, h8⟩
def c_4 (w : am_W) (a : Nat) : Prop := ∃ f : Nat → Int32, w[a]? = some (.inl (0, 4, .inl f))
theorem m_dn_no {o t : Nat → Int32} {k : Nat} {x : Int32 × Int32} (h : ¬ (o (k ^^^ 2) ≤ o k ∧ t (k ^^^ 1) ≤ t k)) : m_dn o t (k + 1) x = m_dn o t k x := by
  show m_dn o t k (if o (k ^^^ 2) ≤ o k ∧ t (k ^^^ 1) ≤ t k then (x.1 + 1, nI (10 * (k / 2) + k % 2)) else x) = _
  rw [if_neg h]
theorem m_dn_yes {o t : Nat → Int32} {k : Nat} {x : Int32 × Int32} (h : o (k ^^^ 2) ≤ o k ∧ t (k ^^^ 1) ≤ t k) : m_dn o t (k + 1) x = m_dn o t k (x.1 + 1, nI (10 * (k / 2) + k % 2)) := by
  show m_dn o t k (if o (k ^^^ 2) ≤ o k ∧ t (k ^^^ 1) ≤ t k then (x.1 + 1, nI (10 * (k / 2) + k % 2)) else x) = _
  rw [if_pos h]
def m_one (T : p_D) (S : s_S) (a b : Nat) : Nat → Int32 := fun p => m_has T (m_rs S a b p) a
def m_oth (T : p_D) (S : s_S) (a b : Nat) : Nat → Int32 := fun p => m_has T (m_rs S a b p) b
theorem m_dn_0 (o t : Nat → Int32) (x : Int32 × Int32) : m_dn o t 0 x = x := rfl
theorem m_dn_ex (o t : Nat → Int32) (R : Int32 × Int32) (hR : m_dn o t 4 (0, -9) = R) : ∃ P : Nat → Int32 → Int32 → Prop, P 4 0 (-9) ∧ (∀ k x y, ¬ (o (k ^^^ 2) ≤ o k ∧ t (k ^^^ 1) ≤ t k) → P (k + 1) x y → P k x y) ∧ (∀ k x y, (o (k ^^^ 2) ≤ o k ∧ t (k ^^^ 1) ≤ t k) → P (k + 1) x y → P k (x + 1) (nI (10 * (k / 2) + k % 2))) ∧ (∀ x y, P 0 x y → R = (x, y)) :=
  ⟨fun k x y => m_dn o t k (x, y) = R, hR, fun k x y h e => (m_dn_no h).symm.trans e, fun k x y h e => (m_dn_yes h).symm.trans e, fun x y e => e.symm⟩
def m_rests (T : p_D) (S : s_S) (a b : Nat) : Int32 × Int32 := m_dn (m_one T S a b) (m_oth T S a b) 4 (0, -9)
set_option maxRecDepth 100000 in
set_option maxHeartbeats 4000000 in
theorem k_seekRests (w : am_W) (T : p_D) (S : s_S) (rc fr : Int32) (sd : Int64) (hvT : v_T T) (hvS : v_S T.2.2.1 S) (hT : c_T w 11 T) (hN : c_S w 16 T.2.2.1 S) (hc0 : w[118]? = some (.inr (1, [.ref 119, .ref 123, .ref 131, .ref 132, .int rc, .int fr, .long sd]))) (hR : c_R w 119) (hD : c_D w 123) (h4 : c_4 w 131) (h5 : c_4 w 132) (a b : Nat) (ha : a < T.2.2.1) (hb : b < T.2.2.1) : am_Go 7 (0, [.ref 118, .ref 11, .ref 16, .int (nI a), .int (nI b), .float 0], [], w, 0, 0) (fun res w' => res = none ∧ w'[118]? = some (.inr (1, [.ref 119, .ref 123, .ref 131, .ref 132, .int (m_rests T S a b).1, .int (m_rests T S a b).2, .long sd])) ∧ am_same (rg 118 15) w w' ∧ c_R w' 119 ∧ c_D w' 123 ∧ c_4 w' 131 ∧ c_4 w' 132) := by
  have hM : am_P[7]? = some zm_X1_seekRests := rfl
  have hn6 : T.2.2.1 ≤ 6 := hvT.1
  obtain ⟨x9, y9, z9, hr9⟩ := hR.o
  obtain ⟨f1, hf1⟩ := h4
  obtain ⟨f2, hf2⟩ := h5
  refine ar_aload_n (pc' := 1) hM rfl rfl rfl ?_
  refine ar_getfield (pc' := 4) hM rfl hc0 rfl rfl ?_
  refine ar_aload_n (pc' := 5) hM rfl rfl rfl ?_
  refine ar_virtual (pc' := 8) (k3 := 0) (k4 := 0) hM rfl rfl hr9 ⟨rfl, (by decide)⟩ rfl rfl (k_copyR _ 119 16 _ S hR hN hn6 (by decide) (by decide) (by omega)) (fun r5 w5 q5 => ?_)
  obtain ⟨rfl, hS1, hsm1⟩ := q5
  have hsm0 : am_same (rg 119 14) w w5 := hsm1.mono (fun b hb => by unfold rg at *; omega)
  show am_Go 7 (8, [.ref 118, .ref 11, .ref 16, .int (nI a), .int (nI b), .float 0], [], w5, 0, 0) _
  refine ar_iconst (x := 0) (pc' := 9) hM rfl (by decide) rfl ?_
  refine ar_istore (pc' := 11) hM rfl rfl rfl rfl ?_
  have loop : ∀ (dj j : Nat) (oh : Nat → Int32) (th : Nat → Int32) (z : Int32) (wj : am_W), dj + j = 4 → (∀ p, p < j → oh p = m_one T S a b p) → (∀ p, p < j → th p = m_oth T S a b p) → (c_S wj 119 T.2.2.1 (m_set S z S.2.2.2.2.2.1 S.2.2.2.2.2.2)) → (c_D wj 123) → (wj[131]? = some (.inl (0, 4, .inl oh))) → (wj[132]? = some (.inl (0, 4, .inl th))) → (am_same (rg 119 14) w wj) → am_Go 7 (11, [.ref 118, .ref 11, .ref 16, .int (nI a), .int (nI b), .int (nI j)], [], wj, 0, 0) (fun res w' => res = none ∧ w'[118]? = some (.inr (1, [.ref 119, .ref 123, .ref 131, .ref 132, .int (m_rests T S a b).1, .int (m_rests T S a b).2, .long sd])) ∧ am_same (rg 118 15) w w' ∧ c_R w' 119 ∧ c_D w' 123 ∧ c_4 w' 131 ∧ c_4 w' 132) := by
    intro dj
    induction dj with
    | zero =>
      intro j oh th z wj hj hoh hth hS hD h131 h132 hsm
      refine ar_iload (pc' := 13) hM rfl rfl rfl ?_
      refine ar_iconst (x := 4) (pc' := 14) hM rfl (by decide) rfl ?_
      refine ar_icmp_ge (pc' := 17) hM rfl rfl (fun _ => ?_) (fun q => absurd (nI_le (a := 4) (b := j) (by omega) (by omega)) q)
      have hone : ∀ k, k < 4 → oh k = m_one T S a b k ∧ th k = m_oth T S a b k := fun k hk => ⟨hoh k (by omega), hth k (by omega)⟩
      obtain ⟨P, hP4, hno, hyes, hP0⟩ := m_dn_ex oh th (m_rests T S a b) (m_dn_congr hone 4 (Nat.le_refl _) _)
      have hp0 : ∀ (x y : Int32), P 0 x y → am_Go 7 (100, [.ref 118, .ref 11, .ref 16, .int (nI a), .int (nI b), .int (-1 : Int32)], [], (wj.set 118 (.inr (1, [.ref 119, .ref 123, .ref 131, .ref 132, .int x, .int y, .long sd]))), 0, 0) (fun res w' => res = none ∧ w'[118]? = some (.inr (1, [.ref 119, .ref 123, .ref 131, .ref 132, .int (m_rests T S a b).1, .int (m_rests T S a b).2, .long sd])) ∧ am_same (rg 118 15) w w' ∧ c_R w' 119 ∧ c_D w' 123 ∧ c_4 w' 131 ∧ c_4 w' 132) := by
        intro x y hxy
        refine ar_iload (pc' := 102) hM rfl rfl rfl ?_
        refine ar_if_lt (pc' := 105) hM rfl rfl (fun _ => ?_) (fun q => absurd (by decide) q)
        refine ar_return hM rfl ?_
        exact ⟨rfl, by rw [hP0 _ _ hxy]; exact am_gs (hsm.at (by unfold rg; omega) hc0), am_same.set (hsm.mono (fun b hb => by unfold rg at *; omega)) (by unfold rg; omega), (hS.same (am_same.set (X := rg 118 1) am_same.rf (by unfold rg; omega)) (fun b h1 h2 => by unfold rg; omega)).r, hD.same (am_same.set (X := rg 118 1) am_same.rf (by unfold rg; omega)) (fun b h1 h2 => by unfold rg; omega), ⟨_, am_gn (by decide) h131⟩, ⟨_, am_gn (by decide) h132⟩⟩
      have hp1 : ∀ (x y : Int32), P 1 x y → am_Go 7 (100, [.ref 118, .ref 11, .ref 16, .int (nI a), .int (nI b), .int (0 : Int32)], [], (wj.set 118 (.inr (1, [.ref 119, .ref 123, .ref 131, .ref 132, .int x, .int y, .long sd]))), 0, 0) (fun res w' => res = none ∧ w'[118]? = some (.inr (1, [.ref 119, .ref 123, .ref 131, .ref 132, .int (m_rests T S a b).1, .int (m_rests T S a b).2, .long sd])) ∧ am_same (rg 118 15) w w' ∧ c_R w' 119 ∧ c_D w' 123 ∧ c_4 w' 131 ∧ c_4 w' 132) := by
        intro x y hxy
        refine ar_iload (pc' := 102) hM rfl rfl rfl ?_
        refine ar_if_lt (pc' := 105) hM rfl rfl (fun q => absurd q (by decide)) (fun _ => ?_)
        refine ar_aload_n (pc' := 106) hM rfl rfl rfl ?_
        refine ar_getfield (pc' := 109) hM rfl (am_gs (hsm.at (by unfold rg; omega) hc0)) rfl rfl ?_
        refine ar_iload (pc' := 111) hM rfl rfl rfl ?_
        refine ar_ialoadN (j := 0) (pc' := 112) hM rfl (am_gn (by decide) h131) rfl (by omega) (Nat.le_of_ble_eq_true rfl) rfl ?_
        refine ar_aload_n (pc' := 113) hM rfl rfl rfl ?_
        refine ar_getfield (pc' := 116) hM rfl (am_gs (hsm.at (by unfold rg; omega) hc0)) rfl rfl ?_
        refine ar_iload (pc' := 118) hM rfl rfl rfl ?_
        refine ar_iconst (x := 2) (pc' := 119) hM rfl (by decide) rfl ?_
        refine ar_ixor (pc' := 120) hM rfl rfl ?_
        rw [show ((0 : Int32) ^^^ 2 : Int32) = (2 : Int32) from (by decide)]
        refine ar_ialoadN (j := 2) (pc' := 121) hM rfl (am_gn (by decide) h131) rfl (by omega) (Nat.le_of_ble_eq_true rfl) rfl ?_
        refine ar_icmp_lt (pc' := 124) hM rfl rfl (fun c121 => ?_) (fun c121 => ?_)
        · refine ar_iinc (z := (-1 : Int32)) (pc' := 172) hM rfl rfl (by decide) rfl rfl rfl ?_
          refine ar_goto hM rfl ?_
          exact hp0 _ _ (hno 0 x y (fun q => absurd q.1 (Int32.not_le.mpr c121)) hxy)
        · refine ar_aload_n (pc' := 125) hM rfl rfl rfl ?_
          refine ar_getfield (pc' := 128) hM rfl (am_gs (hsm.at (by unfold rg; omega) hc0)) rfl rfl ?_
          refine ar_iload (pc' := 130) hM rfl rfl rfl ?_
          refine ar_ialoadN (j := 0) (pc' := 131) hM rfl (am_gn (by decide) h132) rfl (by omega) (Nat.le_of_ble_eq_true rfl) rfl ?_
          refine ar_aload_n (pc' := 132) hM rfl rfl rfl ?_
          refine ar_getfield (pc' := 135) hM rfl (am_gs (hsm.at (by unfold rg; omega) hc0)) rfl rfl ?_
          refine ar_iload (pc' := 137) hM rfl rfl rfl ?_
          refine ar_iconst (x := 1) (pc' := 138) hM rfl (by decide) rfl ?_
          refine ar_ixor (pc' := 139) hM rfl rfl ?_
          rw [show ((0 : Int32) ^^^ 1 : Int32) = (1 : Int32) from (by decide)]
          refine ar_ialoadN (j := 1) (pc' := 140) hM rfl (am_gn (by decide) h132) rfl (by omega) (Nat.le_of_ble_eq_true rfl) rfl ?_
          refine ar_icmp_lt (pc' := 143) hM rfl rfl (fun c140 => ?_) (fun c140 => ?_)
          · refine ar_iinc (z := (-1 : Int32)) (pc' := 172) hM rfl rfl (by decide) rfl rfl rfl ?_
            refine ar_goto hM rfl ?_
            exact hp0 _ _ (hno 0 x y (fun q => absurd q.2 (Int32.not_le.mpr c140)) hxy)
          · refine ar_aload_n (pc' := 144) hM rfl rfl rfl ?_
            refine ar_dup (pc' := 145) hM rfl rfl rfl ?_
            refine ar_getfield (pc' := 148) hM rfl (am_gs (hsm.at (by unfold rg; omega) hc0)) rfl rfl ?_
            refine ar_iconst (x := 1) (pc' := 149) hM rfl (by decide) rfl ?_
            refine ar_iadd (pc' := 150) hM rfl rfl ?_
            refine ar_putfield (pc' := 153) hM rfl (am_gs (hsm.at (by unfold rg; omega) hc0)) (Nat.le_of_ble_eq_true rfl) rfl (by decide) rfl ?_
            show am_Go 7 (153, [.ref 118, .ref 11, .ref 16, .int (nI a), .int (nI b), .int (0 : Int32)], [], ((wj.set 118 (.inr (1, [.ref 119, .ref 123, .ref 131, .ref 132, .int x, .int y, .long sd]))).set 118 (.inr (1, [.ref 119, .ref 123, .ref 131, .ref 132, .int (x + 1), .int y, .long sd]))), 0, 0) _
            refine ar_aload_n (pc' := 154) hM rfl rfl rfl ?_
            refine ar_bipush (x := 10) (pc' := 156) hM rfl (by decide) rfl ?_
            refine ar_iload (pc' := 158) hM rfl rfl rfl ?_
            refine ar_iconst (x := 1) (pc' := 159) hM rfl (by decide) rfl ?_
            refine ar_ishr (pc' := 160) hM rfl rfl ?_
            rw [show ((0 : Int32) >>> (1 &&& 31) : Int32) = (0 : Int32) from (by decide)]
            refine ar_imul (pc' := 161) hM rfl rfl ?_
            rw [show (10 * (0 : Int32) : Int32) = (0 : Int32) from (by decide)]
            refine ar_iload (pc' := 163) hM rfl rfl rfl ?_
            refine ar_iconst (x := 1) (pc' := 164) hM rfl (by decide) rfl ?_
            refine ar_iand (pc' := 165) hM rfl rfl ?_
            rw [show ((0 : Int32) &&& 1 : Int32) = (0 : Int32) from (by decide)]
            refine ar_iadd (pc' := 166) hM rfl rfl ?_
            rw [show ((0 : Int32) + (0 : Int32) : Int32) = nI (10 * (0 / 2) + 0 % 2) from (by decide)]
            refine ar_putfield (pc' := 169) hM rfl (am_gs (am_gs (hsm.at (by unfold rg; omega) hc0))) (Nat.le_of_ble_eq_true rfl) rfl (by decide) rfl ?_
            show am_Go 7 (169, [.ref 118, .ref 11, .ref 16, .int (nI a), .int (nI b), .int (0 : Int32)], [], (((wj.set 118 (.inr (1, [.ref 119, .ref 123, .ref 131, .ref 132, .int x, .int y, .long sd]))).set 118 (.inr (1, [.ref 119, .ref 123, .ref 131, .ref 132, .int (x + 1), .int y, .long sd]))).set 118 (.inr (1, [.ref 119, .ref 123, .ref 131, .ref 132, .int (x + 1), .int (nI (10 * (0 / 2) + 0 % 2)), .long sd]))), 0, 0) _
            refine ar_iinc (z := (-1 : Int32)) (pc' := 172) hM rfl rfl (by decide) rfl rfl rfl ?_
            refine ar_goto hM rfl ?_
            rw [show ((wj.set 118 (.inr (1, [.ref 119, .ref 123, .ref 131, .ref 132, .int x, .int y, .long sd]))).set 118 (.inr (1, [.ref 119, .ref 123, .ref 131, .ref 132, .int (x + 1), .int y, .long sd]))) = (wj.set 118 (.inr (1, [.ref 119, .ref 123, .ref 131, .ref 132, .int (x + 1), .int y, .long sd]))) from by rw [List.set_set]]
            rw [show ((wj.set 118 (.inr (1, [.ref 119, .ref 123, .ref 131, .ref 132, .int (x + 1), .int y, .long sd]))).set 118 (.inr (1, [.ref 119, .ref 123, .ref 131, .ref 132, .int (x + 1), .int (nI (10 * (0 / 2) + 0 % 2)), .long sd]))) = (wj.set 118 (.inr (1, [.ref 119, .ref 123, .ref 131, .ref 132, .int (x + 1), .int (nI (10 * (0 / 2) + 0 % 2)), .long sd]))) from by rw [List.set_set]]
            exact hp0 _ _ (hyes 0 x y ⟨Int32.not_lt.mp c121, Int32.not_lt.mp c140⟩ hxy)
      have hp2 : ∀ (x y : Int32), P 2 x y → am_Go 7 (100, [.ref 118, .ref 11, .ref 16, .int (nI a), .int (nI b), .int (1 : Int32)], [], (wj.set 118 (.inr (1, [.ref 119, .ref 123, .ref 131, .ref 132, .int x, .int y, .long sd]))), 0, 0) (fun res w' => res = none ∧ w'[118]? = some (.inr (1, [.ref 119, .ref 123, .ref 131, .ref 132, .int (m_rests T S a b).1, .int (m_rests T S a b).2, .long sd])) ∧ am_same (rg 118 15) w w' ∧ c_R w' 119 ∧ c_D w' 123 ∧ c_4 w' 131 ∧ c_4 w' 132) := by
        intro x y hxy
        refine ar_iload (pc' := 102) hM rfl rfl rfl ?_
        refine ar_if_lt (pc' := 105) hM rfl rfl (fun q => absurd q (by decide)) (fun _ => ?_)
        refine ar_aload_n (pc' := 106) hM rfl rfl rfl ?_
        refine ar_getfield (pc' := 109) hM rfl (am_gs (hsm.at (by unfold rg; omega) hc0)) rfl rfl ?_
        refine ar_iload (pc' := 111) hM rfl rfl rfl ?_
        refine ar_ialoadN (j := 1) (pc' := 112) hM rfl (am_gn (by decide) h131) rfl (by omega) (Nat.le_of_ble_eq_true rfl) rfl ?_
        refine ar_aload_n (pc' := 113) hM rfl rfl rfl ?_
        refine ar_getfield (pc' := 116) hM rfl (am_gs (hsm.at (by unfold rg; omega) hc0)) rfl rfl ?_
        refine ar_iload (pc' := 118) hM rfl rfl rfl ?_
        refine ar_iconst (x := 2) (pc' := 119) hM rfl (by decide) rfl ?_
        refine ar_ixor (pc' := 120) hM rfl rfl ?_
        rw [show ((1 : Int32) ^^^ 2 : Int32) = (3 : Int32) from (by decide)]
        refine ar_ialoadN (j := 3) (pc' := 121) hM rfl (am_gn (by decide) h131) rfl (by omega) (Nat.le_of_ble_eq_true rfl) rfl ?_
        refine ar_icmp_lt (pc' := 124) hM rfl rfl (fun c121 => ?_) (fun c121 => ?_)
        · refine ar_iinc (z := (0 : Int32)) (pc' := 172) hM rfl rfl (by decide) rfl rfl rfl ?_
          refine ar_goto hM rfl ?_
          exact hp1 _ _ (hno 1 x y (fun q => absurd q.1 (Int32.not_le.mpr c121)) hxy)
        · refine ar_aload_n (pc' := 125) hM rfl rfl rfl ?_
          refine ar_getfield (pc' := 128) hM rfl (am_gs (hsm.at (by unfold rg; omega) hc0)) rfl rfl ?_
          refine ar_iload (pc' := 130) hM rfl rfl rfl ?_
          refine ar_ialoadN (j := 1) (pc' := 131) hM rfl (am_gn (by decide) h132) rfl (by omega) (Nat.le_of_ble_eq_true rfl) rfl ?_
          refine ar_aload_n (pc' := 132) hM rfl rfl rfl ?_
          refine ar_getfield (pc' := 135) hM rfl (am_gs (hsm.at (by unfold rg; omega) hc0)) rfl rfl ?_
          refine ar_iload (pc' := 137) hM rfl rfl rfl ?_
          refine ar_iconst (x := 1) (pc' := 138) hM rfl (by decide) rfl ?_
          refine ar_ixor (pc' := 139) hM rfl rfl ?_
          rw [show ((1 : Int32) ^^^ 1 : Int32) = (0 : Int32) from (by decide)]
          refine ar_ialoadN (j := 0) (pc' := 140) hM rfl (am_gn (by decide) h132) rfl (by omega) (Nat.le_of_ble_eq_true rfl) rfl ?_
          refine ar_icmp_lt (pc' := 143) hM rfl rfl (fun c140 => ?_) (fun c140 => ?_)
          · refine ar_iinc (z := (0 : Int32)) (pc' := 172) hM rfl rfl (by decide) rfl rfl rfl ?_
            refine ar_goto hM rfl ?_
            exact hp1 _ _ (hno 1 x y (fun q => absurd q.2 (Int32.not_le.mpr c140)) hxy)
          · refine ar_aload_n (pc' := 144) hM rfl rfl rfl ?_
            refine ar_dup (pc' := 145) hM rfl rfl rfl ?_
            refine ar_getfield (pc' := 148) hM rfl (am_gs (hsm.at (by unfold rg; omega) hc0)) rfl rfl ?_
            refine ar_iconst (x := 1) (pc' := 149) hM rfl (by decide) rfl ?_
            refine ar_iadd (pc' := 150) hM rfl rfl ?_
            refine ar_putfield (pc' := 153) hM rfl (am_gs (hsm.at (by unfold rg; omega) hc0)) (Nat.le_of_ble_eq_true rfl) rfl (by decide) rfl ?_
            show am_Go 7 (153, [.ref 118, .ref 11, .ref 16, .int (nI a), .int (nI b), .int (1 : Int32)], [], ((wj.set 118 (.inr (1, [.ref 119, .ref 123, .ref 131, .ref 132, .int x, .int y, .long sd]))).set 118 (.inr (1, [.ref 119, .ref 123, .ref 131, .ref 132, .int (x + 1), .int y, .long sd]))), 0, 0) _
            refine ar_aload_n (pc' := 154) hM rfl rfl rfl ?_
            refine ar_bipush (x := 10) (pc' := 156) hM rfl (by decide) rfl ?_
            refine ar_iload (pc' := 158) hM rfl rfl rfl ?_
            refine ar_iconst (x := 1) (pc' := 159) hM rfl (by decide) rfl ?_
            refine ar_ishr (pc' := 160) hM rfl rfl ?_
            rw [show ((1 : Int32) >>> (1 &&& 31) : Int32) = (0 : Int32) from (by decide)]
            refine ar_imul (pc' := 161) hM rfl rfl ?_
            rw [show (10 * (0 : Int32) : Int32) = (0 : Int32) from (by decide)]
            refine ar_iload (pc' := 163) hM rfl rfl rfl ?_
            refine ar_iconst (x := 1) (pc' := 164) hM rfl (by decide) rfl ?_
            refine ar_iand (pc' := 165) hM rfl rfl ?_
            rw [show ((1 : Int32) &&& 1 : Int32) = (1 : Int32) from (by decide)]
            refine ar_iadd (pc' := 166) hM rfl rfl ?_
            rw [show ((0 : Int32) + (1 : Int32) : Int32) = nI (10 * (1 / 2) + 1 % 2) from (by decide)]
            refine ar_putfield (pc' := 169) hM rfl (am_gs (am_gs (hsm.at (by unfold rg; omega) hc0))) (Nat.le_of_ble_eq_true rfl) rfl (by decide) rfl ?_
            show am_Go 7 (169, [.ref 118, .ref 11, .ref 16, .int (nI a), .int (nI b), .int (1 : Int32)], [], (((wj.set 118 (.inr (1, [.ref 119, .ref 123, .ref 131, .ref 132, .int x, .int y, .long sd]))).set 118 (.inr (1, [.ref 119, .ref 123, .ref 131, .ref 132, .int (x + 1), .int y, .long sd]))).set 118 (.inr (1, [.ref 119, .ref 123, .ref 131, .ref 132, .int (x + 1), .int (nI (10 * (1 / 2) + 1 % 2)), .long sd]))), 0, 0) _
            refine ar_iinc (z := (0 : Int32)) (pc' := 172) hM rfl rfl (by decide) rfl rfl rfl ?_
            refine ar_goto hM rfl ?_
            rw [show ((wj.set 118 (.inr (1, [.ref 119, .ref 123, .ref 131, .ref 132, .int x, .int y, .long sd]))).set 118 (.inr (1, [.ref 119, .ref 123, .ref 131, .ref 132, .int (x + 1), .int y, .long sd]))) = (wj.set 118 (.inr (1, [.ref 119, .ref 123, .ref 131, .ref 132, .int (x + 1), .int y, .long sd]))) from by rw [List.set_set]]
            rw [show ((wj.set 118 (.inr (1, [.ref 119, .ref 123, .ref 131, .ref 132, .int (x + 1), .int y, .long sd]))).set 118 (.inr (1, [.ref 119, .ref 123, .ref 131, .ref 132, .int (x + 1), .int (nI (10 * (1 / 2) + 1 % 2)), .long sd]))) = (wj.set 118 (.inr (1, [.ref 119, .ref 123, .ref 131, .ref 132, .int (x + 1), .int (nI (10 * (1 / 2) + 1 % 2)), .long sd]))) from by rw [List.set_set]]
            exact hp1 _ _ (hyes 1 x y ⟨Int32.not_lt.mp c121, Int32.not_lt.mp c140⟩ hxy)
      have hp3 : ∀ (x y : Int32), P 3 x y → am_Go 7 (100, [.ref 118, .ref 11, .ref 16, .int (nI a), .int (nI b), .int (2 : Int32)], [], (wj.set 118 (.inr (1, [.ref 119, .ref 123, .ref 131, .ref 132, .int x, .int y, .long sd]))), 0, 0) (fun res w' => res = none ∧ w'[118]? = some (.inr (1, [.ref 119, .ref 123, .ref 131, .ref 132, .int (m_rests T S a b).1, .int (m_rests T S a b).2, .long sd])) ∧ am_same (rg 118 15) w w' ∧ c_R w' 119 ∧ c_D w' 123 ∧ c_4 w' 131 ∧ c_4 w' 132) := by
        intro x y hxy
        refine ar_iload (pc' := 102) hM rfl rfl rfl ?_
        refine ar_if_lt (pc' := 105) hM rfl rfl (fun q => absurd q (by decide)) (fun _ => ?_)
        refine ar_aload_n (pc' := 106) hM rfl rfl rfl ?_
        refine ar_getfield (pc' := 109) hM rfl (am_gs (hsm.at (by unfold rg; omega) hc0)) rfl rfl ?_
        refine ar_iload (pc' := 111) hM rfl rfl rfl ?_
        refine ar_ialoadN (j := 2) (pc' := 112) hM rfl (am_gn (by decide) h131) rfl (by omega) (Nat.le_of_ble_eq_true rfl) rfl ?_
        refine ar_aload_n (pc' := 113) hM rfl rfl rfl ?_
        refine ar_getfield (pc' := 116) hM rfl (am_gs (hsm.at (by unfold rg; omega) hc0)) rfl rfl ?_
        refine ar_iload (pc' := 118) hM rfl rfl rfl ?_
        refine ar_iconst (x := 2) (pc' := 119) hM rfl (by decide) rfl ?_
        refine ar_ixor (pc' := 120) hM rfl rfl ?_
        rw [show ((2 : Int32) ^^^ 2 : Int32) = (0 : Int32) from (by decide)]
        refine ar_ialoadN (j := 0) (pc' := 121) hM rfl (am_gn (by decide) h131) rfl (by omega) (Nat.le_of_ble_eq_true rfl) rfl ?_
        refine ar_icmp_lt (pc' := 124) hM rfl rfl (fun c121 => ?_) (fun c121 => ?_)
        · refine ar_iinc (z := (1 : Int32)) (pc' := 172) hM rfl rfl (by decide) rfl rfl rfl ?_
          refine ar_goto hM rfl ?_
          exact hp2 _ _ (hno 2 x y (fun q => absurd q.1 (Int32.not_le.mpr c121)) hxy)
        · refine ar_aload_n (pc' := 125) hM rfl rfl rfl ?_
          refine ar_getfield (pc' := 128) hM rfl (am_gs (hsm.at (by unfold rg; omega) hc0)) rfl rfl ?_
          refine ar_iload (pc' := 130) hM rfl rfl rfl ?_
          refine ar_ialoadN (j := 2) (pc' := 131) hM rfl (am_gn (by decide) h132) rfl (by omega) (Nat.le_of_ble_eq_true rfl) rfl ?_
          refine ar_aload_n (pc' := 132) hM rfl rfl rfl ?_
          refine ar_getfield (pc' := 135) hM rfl (am_gs (hsm.at (by unfold rg; omega) hc0)) rfl rfl ?_
          refine ar_iload (pc' := 137) hM rfl rfl rfl ?_
          refine ar_iconst (x := 1) (pc' := 138) hM rfl (by decide) rfl ?_
          refine ar_ixor (pc' := 139) hM rfl rfl ?_
          rw [show ((2 : Int32) ^^^ 1 : Int32) = (3 : Int32) from (by decide)]
          refine ar_ialoadN (j := 3) (pc' := 140) hM rfl (am_gn (by decide) h132) rfl (by omega) (Nat.le_of_ble_eq_true rfl) rfl ?_
          refine ar_icmp_lt (pc' := 143) hM rfl rfl (fun c140 => ?_) (fun c140 => ?_)
          · refine ar_iinc (z := (1 : Int32)) (pc' := 172) hM rfl rfl (by decide) rfl rfl rfl ?_
            refine ar_goto hM rfl ?_
            exact hp2 _ _ (hno 2 x y (fun q => absurd q.2 (Int32.not_le.mpr c140)) hxy)
          · refine ar_aload_n (pc' := 144) hM rfl rfl rfl ?_
            refine ar_dup (pc' := 145) hM rfl rfl rfl ?_
            refine ar_getfield (pc' := 148) hM rfl (am_gs (hsm.at (by unfold rg; omega) hc0)) rfl rfl ?_
            refine ar_iconst (x := 1) (pc' := 149) hM rfl (by decide) rfl ?_
            refine ar_iadd (pc' := 150) hM rfl rfl ?_
            refine ar_putfield (pc' := 153) hM rfl (am_gs (hsm.at (by unfold rg; omega) hc0)) (Nat.le_of_ble_eq_true rfl) rfl (by decide) rfl ?_
            show am_Go 7 (153, [.ref 118, .ref 11, .ref 16, .int (nI a), .int (nI b), .int (2 : Int32)], [], ((wj.set 118 (.inr (1, [.ref 119, .ref 123, .ref 131, .ref 132, .int x, .int y, .long sd]))).set 118 (.inr (1, [.ref 119, .ref 123, .ref 131, .ref 132, .int (x + 1), .int y, .long sd]))), 0, 0) _
            refine ar_aload_n (pc' := 154) hM rfl rfl rfl ?_
            refine ar_bipush (x := 10) (pc' := 156) hM rfl (by decide) rfl ?_
            refine ar_iload (pc' := 158) hM rfl rfl rfl ?_
            refine ar_iconst (x := 1) (pc' := 159) hM rfl (by decide) rfl ?_
            refine ar_ishr (pc' := 160) hM rfl rfl ?_
            rw [show ((2 : Int32) >>> (1 &&& 31) : Int32) = (1 : Int32) from (by decide)]
            refine ar_imul (pc' := 161) hM rfl rfl ?_
            rw [show (10 * (1 : Int32) : Int32) = (10 : Int32) from (by decide)]
            refine ar_iload (pc' := 163) hM rfl rfl rfl ?_
            refine ar_iconst (x := 1) (pc' := 164) hM rfl (by decide) rfl ?_
            refine ar_iand (pc' := 165) hM rfl rfl ?_
            rw [show ((2 : Int32) &&& 1 : Int32) = (0 : Int32) from (by decide)]
            refine ar_iadd (pc' := 166) hM rfl rfl ?_
            rw [show ((10 : Int32) + (0 : Int32) : Int32) = nI (10 * (2 / 2) + 2 % 2) from (by decide)]
            refine ar_putfield (pc' := 169) hM rfl (am_gs (am_gs (hsm.at (by unfold rg; omega) hc0))) (Nat.le_of_ble_eq_true rfl) rfl (by decide) rfl ?_
            show am_Go 7 (169, [.ref 118, .ref 11, .ref 16, .int (nI a), .int (nI b), .int (2 : Int32)], [], (((wj.set 118 (.inr (1, [.ref 119, .ref 123, .ref 131, .ref 132, .int x, .int y, .long sd]))).set 118 (.inr (1, [.ref 119, .ref 123, .ref 131, .ref 132, .int (x + 1), .int y, .long sd]))).set 118 (.inr (1, [.ref 119, .ref 123, .ref 131, .ref 132, .int (x + 1), .int (nI (10 * (2 / 2) + 2 % 2)), .long sd]))), 0, 0) _
            refine ar_iinc (z := (1 : Int32)) (pc' := 172) hM rfl rfl (by decide) rfl rfl rfl ?_
            refine ar_goto hM rfl ?_
            rw [show ((wj.set 118 (.inr (1, [.ref 119, .ref 123, .ref 131, .ref 132, .int x, .int y, .long sd]))).set 118 (.inr (1, [.ref 119, .ref 123, .ref 131, .ref 132, .int (x + 1), .int y, .long sd]))) = (wj.set 118 (.inr (1, [.ref 119, .ref 123, .ref 131, .ref 132, .int (x + 1), .int y, .long sd]))) from by rw [List.set_set]]
            rw [show ((wj.set 118 (.inr (1, [.ref 119, .ref 123, .ref 131, .ref 132, .int (x + 1), .int y, .long sd]))).set 118 (.inr (1, [.ref 119, .ref 123, .ref 131, .ref 132, .int (x + 1), .int (nI (10 * (2 / 2) + 2 % 2)), .long sd]))) = (wj.set 118 (.inr (1, [.ref 119, .ref 123, .ref 131, .ref 132, .int (x + 1), .int (nI (10 * (2 / 2) + 2 % 2)), .long sd]))) from by rw [List.set_set]]
            exact hp2 _ _ (hyes 2 x y ⟨Int32.not_lt.mp c121, Int32.not_lt.mp c140⟩ hxy)
      have hp4 : ∀ (x y : Int32), P 4 x y → am_Go 7 (100, [.ref 118, .ref 11, .ref 16, .int (nI a), .int (nI b), .int (3 : Int32)], [], (wj.set 118 (.inr (1, [.ref 119, .ref 123, .ref 131, .ref 132, .int x, .int y, .long sd]))), 0, 0) (fun res w' => res = none ∧ w'[118]? = some (.inr (1, [.ref 119, .ref 123, .ref 131, .ref 132, .int (m_rests T S a b).1, .int (m_rests T S a b).2, .long sd])) ∧ am_same (rg 118 15) w w' ∧ c_R w' 119 ∧ c_D w' 123 ∧ c_4 w' 131 ∧ c_4 w' 132) := by
        intro x y hxy
        refine ar_iload (pc' := 102) hM rfl rfl rfl ?_
        refine ar_if_lt (pc' := 105) hM rfl rfl (fun q => absurd q (by decide)) (fun _ => ?_)
        refine ar_aload_n (pc' := 106) hM rfl rfl rfl ?_
        refine ar_getfield (pc' := 109) hM rfl (am_gs (hsm.at (by unfold rg; omega) hc0)) rfl rfl ?_
        refine ar_iload (pc' := 111) hM rfl rfl rfl ?_
        refine ar_ialoadN (j := 3) (pc' := 112) hM rfl (am_gn (by decide) h131) rfl (by omega) (Nat.le_of_ble_eq_true rfl) rfl ?_
        refine ar_aload_n (pc' := 113) hM rfl rfl rfl ?_
        refine ar_getfield (pc' := 116) hM rfl (am_gs (hsm.at (by unfold rg; omega) hc0)) rfl rfl ?_
        refine ar_iload (pc' := 118) hM rfl rfl rfl ?_
        refine ar_iconst (x := 2) (pc' := 119) hM rfl (by decide) rfl ?_
        refine ar_ixor (pc' := 120) hM rfl rfl ?_
        rw [show ((3 : Int32) ^^^ 2 : Int32) = (1 : Int32) from (by decide)]
        refine ar_ialoadN (j := 1) (pc' := 121) hM rfl (am_gn (by decide) h131) rfl (by omega) (Nat.le_of_ble_eq_true rfl) rfl ?_
        refine ar_icmp_lt (pc' := 124) hM rfl rfl (fun c121 => ?_) (fun c121 => ?_)
        · refine ar_iinc (z := (2 : Int32)) (pc' := 172) hM rfl rfl (by decide) rfl rfl rfl ?_
          refine ar_goto hM rfl ?_
          exact hp3 _ _ (hno 3 x y (fun q => absurd q.1 (Int32.not_le.mpr c121)) hxy)
        · refine ar_aload_n (pc' := 125) hM rfl rfl rfl ?_
          refine ar_getfield (pc' := 128) hM rfl (am_gs (hsm.at (by unfold rg; omega) hc0)) rfl rfl ?_
          refine ar_iload (pc' := 130) hM rfl rfl rfl ?_
          refine ar_ialoadN (j := 3) (pc' := 131) hM rfl (am_gn (by decide) h132) rfl (by omega) (Nat.le_of_ble_eq_true rfl) rfl ?_
          refine ar_aload_n (pc' := 132) hM rfl rfl rfl ?_
          refine ar_getfield (pc' := 135) hM rfl (am_gs (hsm.at (by unfold rg; omega) hc0)) rfl rfl ?_
          refine ar_iload (pc' := 137) hM rfl rfl rfl ?_
          refine ar_iconst (x := 1) (pc' := 138) hM rfl (by decide) rfl ?_
          refine ar_ixor (pc' := 139) hM rfl rfl ?_
          rw [show ((3 : Int32) ^^^ 1 : Int32) = (2 : Int32) from (by decide)]
          refine ar_ialoadN (j := 2) (pc' := 140) hM rfl (am_gn (by decide) h132) rfl (by omega) (Nat.le_of_ble_eq_true rfl) rfl ?_
          refine ar_icmp_lt (pc' := 143) hM rfl rfl (fun c140 => ?_) (fun c140 => ?_)
          · refine ar_iinc (z := (2 : Int32)) (pc' := 172) hM rfl rfl (by decide) rfl rfl rfl ?_
            refine ar_goto hM rfl ?_
            exact hp3 _ _ (hno 3 x y (fun q => absurd q.2 (Int32.not_le.mpr c140)) hxy)
          · refine ar_aload_n (pc' := 144) hM rfl rfl rfl ?_
            refine ar_dup (pc' := 145) hM rfl rfl rfl ?_
            refine ar_getfield (pc' := 148) hM rfl (am_gs (hsm.at (by unfold rg; omega) hc0)) rfl rfl ?_
            refine ar_iconst (x := 1) (pc' := 149) hM rfl (by decide) rfl ?_
            refine ar_iadd (pc' := 150) hM rfl rfl ?_
            refine ar_putfield (pc' := 153) hM rfl (am_gs (hsm.at (by unfold rg; omega) hc0)) (Nat.le_of_ble_eq_true rfl) rfl (by decide) rfl ?_
            show am_Go 7 (153, [.ref 118, .ref 11, .ref 16, .int (nI a), .int (nI b), .int (3 : Int32)], [], ((wj.set 118 (.inr (1, [.ref 119, .ref 123, .ref 131, .ref 132, .int x, .int y, .long sd]))).set 118 (.inr (1, [.ref 119, .ref 123, .ref 131, .ref 132, .int (x + 1), .int y, .long sd]))), 0, 0) _
            refine ar_aload_n (pc' := 154) hM rfl rfl rfl ?_
            refine ar_bipush (x := 10) (pc' := 156) hM rfl (by decide) rfl ?_
            refine ar_iload (pc' := 158) hM rfl rfl rfl ?_
            refine ar_iconst (x := 1) (pc' := 159) hM rfl (by decide) rfl ?_
            refine ar_ishr (pc' := 160) hM rfl rfl ?_
            rw [show ((3 : Int32) >>> (1 &&& 31) : Int32) = (1 : Int32) from (by decide)]
            refine ar_imul (pc' := 161) hM rfl rfl ?_
            rw [show (10 * (1 : Int32) : Int32) = (10 : Int32) from (by decide)]
            refine ar_iload (pc' := 163) hM rfl rfl rfl ?_
            refine ar_iconst (x := 1) (pc' := 164) hM rfl (by decide) rfl ?_
            refine ar_iand (pc' := 165) hM rfl rfl ?_
            rw [show ((3 : Int32) &&& 1 : Int32) = (1 : Int32) from (by decide)]
            refine ar_iadd (pc' := 166) hM rfl rfl ?_
            rw [show ((10 : Int32) + (1 : Int32) : Int32) = nI (10 * (3 / 2) + 3 % 2) from (by decide)]
            refine ar_putfield (pc' := 169) hM rfl (am_gs (am_gs (hsm.at (by unfold rg; omega) hc0))) (Nat.le_of_ble_eq_true rfl) rfl (by decide) rfl ?_
            show am_Go 7 (169, [.ref 118, .ref 11, .ref 16, .int (nI a), .int (nI b), .int (3 : Int32)], [], (((wj.set 118 (.inr (1, [.ref 119, .ref 123, .ref 131, .ref 132, .int x, .int y, .long sd]))).set 118 (.inr (1, [.ref 119, .ref 123, .ref 131, .ref 132, .int (x + 1), .int y, .long sd]))).set 118 (.inr (1, [.ref 119, .ref 123, .ref 131, .ref 132, .int (x + 1), .int (nI (10 * (3 / 2) + 3 % 2)), .long sd]))), 0, 0) _
            refine ar_iinc (z := (2 : Int32)) (pc' := 172) hM rfl rfl (by decide) rfl rfl rfl ?_
            refine ar_goto hM rfl ?_
            rw [show ((wj.set 118 (.inr (1, [.ref 119, .ref 123, .ref 131, .ref 132, .int x, .int y, .long sd]))).set 118 (.inr (1, [.ref 119, .ref 123, .ref 131, .ref 132, .int (x + 1), .int y, .long sd]))) = (wj.set 118 (.inr (1, [.ref 119, .ref 123, .ref 131, .ref 132, .int (x + 1), .int y, .long sd]))) from by rw [List.set_set]]
            rw [show ((wj.set 118 (.inr (1, [.ref 119, .ref 123, .ref 131, .ref 132, .int (x + 1), .int y, .long sd]))).set 118 (.inr (1, [.ref 119, .ref 123, .ref 131, .ref 132, .int (x + 1), .int (nI (10 * (3 / 2) + 3 % 2)), .long sd]))) = (wj.set 118 (.inr (1, [.ref 119, .ref 123, .ref 131, .ref 132, .int (x + 1), .int (nI (10 * (3 / 2) + 3 % 2)), .long sd]))) from by rw [List.set_set]]
            exact hp3 _ _ (hyes 3 x y ⟨Int32.not_lt.mp c121, Int32.not_lt.mp c140⟩ hxy)
      refine ar_aload_n (pc' := 87) hM rfl rfl rfl ?_
      refine ar_iconst (x := 0) (pc' := 88) hM rfl (by decide) rfl ?_
      refine ar_putfield (pc' := 91) hM rfl (hsm.at (by unfold rg; omega) hc0) (Nat.le_of_ble_eq_true rfl) rfl (by decide) rfl ?_
      show am_Go 7 (91, [.ref 118, .ref 11, .ref 16, .int (nI a), .int (nI b), .int (nI j)], [], (wj.set 118 (.inr (1, [.ref 119, .ref 123, .ref 131, .ref 132, .int 0, .int fr, .long sd]))), 0, 0) _
      refine ar_aload_n (pc' := 92) hM rfl rfl rfl ?_
      refine ar_bipush (x := (-9)) (pc' := 94) hM rfl (by decide) rfl ?_
      refine ar_putfield (pc' := 97) hM rfl (am_gs (hsm.at (by unfold rg; omega) hc0)) (Nat.le_of_ble_eq_true rfl) rfl (by decide) rfl ?_
      show am_Go 7 (97, [.ref 118, .ref 11, .ref 16, .int (nI a), .int (nI b), .int (nI j)], [], ((wj.set 118 (.inr (1, [.ref 119, .ref 123, .ref 131, .ref 132, .int 0, .int fr, .long sd]))).set 118 (.inr (1, [.ref 119, .ref 123, .ref 131, .ref 132, .int 0, .int (-9), .long sd]))), 0, 0) _
      refine ar_iconst (x := 3) (pc' := 98) hM rfl (by decide) rfl ?_
      refine ar_istore (pc' := 100) hM rfl rfl rfl rfl ?_
      rw [show ((wj.set 118 (.inr (1, [.ref 119, .ref 123, .ref 131, .ref 132, .int 0, .int fr, .long sd]))).set 118 (.inr (1, [.ref 119, .ref 123, .ref 131, .ref 132, .int 0, .int (-9), .long sd]))) = (wj.set 118 (.inr (1, [.ref 119, .ref 123, .ref 131, .ref 132, .int 0, .int (-9), .long sd]))) from by rw [List.set_set]]
      exact hp4 _ _ hP4
    | succ dj ih =>
      intro j oh th z wj hj hoh hth hS hD h131 h132 hsm
      refine ar_iload (pc' := 13) hM rfl rfl rfl ?_
      refine ar_iconst (x := 4) (pc' := 14) hM rfl (by decide) rfl ?_
      refine ar_icmp_ge (pc' := 17) hM rfl rfl (fun q => absurd q (nI_ge (a := j) (b := 4) (by omega) (by omega))) (fun _ => ?_)
      refine ar_aload_n (pc' := 18) hM rfl rfl rfl ?_
      refine ar_getfield (pc' := 21) hM rfl (hsm.at (by unfold rg; omega) hc0) rfl rfl ?_
      refine ar_aload_n (pc' := 22) hM rfl rfl rfl ?_
      refine ar_getfield (pc' := 25) hM rfl (hsm.at (by unfold rg; omega) hN.o) rfl rfl ?_
      refine ar_iload (pc' := 27) hM rfl rfl rfl ?_
      refine ar_iconst (x := 1) (pc' := 28) hM rfl (by decide) rfl ?_
      refine ar_ishr (pc' := 29) hM rfl rfl ?_
      refine ar_iload_n (pc' := 30) hM rfl rfl rfl ?_
      refine ar_ishl (pc' := 31) hM rfl rfl ?_
      refine ar_ior (pc' := 32) hM rfl rfl ?_
      refine ar_iload (pc' := 34) hM rfl rfl rfl ?_
      refine ar_iconst (x := 1) (pc' := 35) hM rfl (by decide) rfl ?_
      refine ar_iand (pc' := 36) hM rfl rfl ?_
      refine ar_iload (pc' := 38) hM rfl rfl rfl ?_
      refine ar_ishl (pc' := 39) hM rfl rfl ?_
      refine ar_ior (pc' := 40) hM rfl rfl ?_
      refine ar_putfield (pc' := 43) hM rfl (hS.o) (Nat.le_of_ble_eq_true rfl) rfl (by decide) rfl ?_
      show am_Go 7 (43, [.ref 118, .ref 11, .ref 16, .int (nI a), .int (nI b), .int (nI j)], [], (wj.set 119 (.inr (6, [.ref 120, .ref 121, .ref 122, .int ((S.2.2.2.2.1 ||| (((nI j) >>> (1 &&& 31)) <<< ((nI a) &&& 31))) ||| (((nI j) &&& 1) <<< ((nI b) &&& 31))), .int ((m_set S z S.2.2.2.2.2.1 S.2.2.2.2.2.2).2.2.2.2.2.1), .int (nI (m_set S z S.2.2.2.2.2.1 S.2.2.2.2.2.2).2.2.2.2.2.2)]))), 0, 0) _
      refine ar_aload_n (pc' := 44) hM rfl rfl rfl ?_
      refine ar_getfield (pc' := 47) hM rfl (am_gn (by decide) (hsm.at (by unfold rg; omega) hc0)) rfl rfl ?_
      refine ar_aload_n (pc' := 48) hM rfl rfl rfl ?_
      refine ar_aload_n (pc' := 49) hM rfl rfl rfl ?_
      refine ar_getfield (pc' := 52) hM rfl (am_gn (by decide) (hsm.at (by unfold rg; omega) hc0)) rfl rfl ?_
      refine ar_virtual (pc' := 55) (k3 := 0) (k4 := 0) hM rfl rfl (am_gn (by decide) (hD.o)) ⟨rfl, (by decide)⟩ rfl rfl (k_lookAt _ 123 11 119 T (m_rs S a b j) hvT hvS (hT.same (am_same.set hsm (by unfold rg; omega)) (fun b h1 h2 => by unfold rg; omega)) (hS.setO ((S.2.2.2.2.1 ||| (nI j >>> (1 &&& 31)) <<< (nI a &&& 31)) ||| (nI j &&& 1) <<< (nI b &&& 31)) S.2.2.2.2.2.1 S.2.2.2.2.2.2) (hD.same (am_same.set (X := rg 119 1) am_same.rf (by unfold rg; omega)) (fun b h1 h2 => by unfold rg; omega)) (by decide) (by decide) (by decide) (by omega) (by omega) (by omega)) (fun r52 w52 q52 => ?_)
      obtain ⟨rfl, hL2, q52s⟩ := q52
      have hs2 : am_same (rg 119 12) wj w52 := (am_same.set am_same.rf (by unfold rg; omega)).tr (q52s.mono (fun b hb => by unfold rg at *; omega))
      have hsm2 : am_same (rg 119 14) w w52 := hsm.tr (hs2.mono (fun b hb => by unfold rg at *; omega))
      have hS2 : c_S w52 119 T.2.2.1 (m_rs S a b j) := (c_S.setO hS ((S.2.2.2.2.1 ||| (nI j >>> (1 &&& 31)) <<< (nI a &&& 31)) ||| (nI j &&& 1) <<< (nI b &&& 31)) S.2.2.2.2.2.1 S.2.2.2.2.2.2).same q52s (fun b h1 h2 => by unfold rg; omega)
      have ha2 := hs2.at (by unfold rg; omega) h131
      have hb2 := hs2.at (by unfold rg; omega) h132
      show am_Go 7 (55, [.ref 118, .ref 11, .ref 16, .int (nI a), .int (nI b), .int (nI j)], [], w52, 0, 0) _
      refine ar_aload_n (pc' := 56) hM rfl rfl rfl ?_
      refine ar_getfield (pc' := 59) hM rfl (hsm2.at (by unfold rg; omega) hc0) rfl rfl ?_
      refine ar_iload (pc' := 61) hM rfl rfl rfl ?_
      refine ar_aload_n (pc' := 62) hM rfl rfl rfl ?_
      refine ar_iload_n (pc' := 63) hM rfl rfl rfl ?_
      refine ar_virtual (pc' := 66) (k3 := 0) (k4 := 0) hM rfl rfl (hsm2.at (by unfold rg; omega) hc0) ⟨rfl, (by decide)⟩ rfl rfl (k_has _ T (m_rs S a b j) rc fr sd hvT hS2 hL2 a ha (hsm2.at (by unfold rg; omega) hc0)) (fun r63 w63 q63 => ?_)
      obtain ⟨rfl, q63w⟩ := q63
      rw [q63w]
      show am_Go 7 (66, [.ref 118, .ref 11, .ref 16, .int (nI a), .int (nI b), .int (nI j)], [.int (m_has T (m_rs S a b j) a), .int (nI j), .ref 131], w52, 0, 0) _
      refine ar_iastoreN (j := j) (pc' := 67) hM rfl ha2 rfl (by omega) (Nat.le_of_ble_eq_true rfl) (by decide) rfl ?_
      refine ar_aload_n (pc' := 68) hM rfl rfl rfl ?_
      refine ar_getfield (pc' := 71) hM rfl (am_gn (by decide) (hsm2.at (by unfold rg; omega) hc0)) rfl rfl ?_
      refine ar_iload (pc' := 73) hM rfl rfl rfl ?_
      refine ar_aload_n (pc' := 74) hM rfl rfl rfl ?_
      refine ar_iload (pc' := 76) hM rfl rfl rfl ?_
      refine ar_virtual (pc' := 79) (k3 := 0) (k4 := 0) hM rfl rfl (am_gn (by decide) (hsm2.at (by unfold rg; omega) hc0)) ⟨rfl, (by decide)⟩ rfl rfl (k_has _ T (m_rs S a b j) rc fr sd hvT (hS2.same (am_same.set (X := rg 131 1) am_same.rf (by unfold rg; omega)) (fun b h1 h2 => by unfold rg; omega)) (hL2.same (am_same.set (X := rg 131 1) am_same.rf (by unfold rg; omega)) (fun b h1 h2 => by unfold rg; omega)) b hb (am_gn (by decide) (hsm2.at (by unfold rg; omega) hc0))) (fun r76 w76 q76 => ?_)
      obtain ⟨rfl, q76w⟩ := q76
      rw [q76w]
      show am_Go 7 (79, [.ref 118, .ref 11, .ref 16, .int (nI a), .int (nI b), .int (nI j)], [.int (m_has T (m_rs S a b j) b), .int (nI j), .ref 132], (w52.set 131 (.inl (0, 4, .inl (upd oh j (m_has T (m_rs S a b j) a))))), 0, 0) _
      refine ar_iastoreN (j := j) (pc' := 80) hM rfl (am_gn (by decide) hb2) rfl (by omega) (Nat.le_of_ble_eq_true rfl) (by decide) rfl ?_
      refine ar_iinc (z := nI (j + 1)) (pc' := 83) hM rfl rfl (nI_1 _) rfl rfl rfl ?_
      refine ar_goto hM rfl ?_
      exact ih (j + 1) (upd oh j (m_has T (m_rs S a b j) a)) (upd th j (m_has T (m_rs S a b j) b)) ((S.2.2.2.2.1 ||| (nI j >>> (1 &&& 31)) <<< (nI a &&& 31)) ||| (nI j &&& 1) <<< (nI b &&& 31)) ((w52.set 131 (.inl (0, 4, .inl (upd oh j (m_has T (m_rs S a b j) a))))).set 132 (.inl (0, 4, .inl (upd th j (m_has T (m_rs S a b j) b))))) (by omega) (am_fs (F := m_one T S a b) hoh rfl) (am_fs (F := m_oth T S a b) hth rfl) (hS2.same (am_same.set (X := rg 131 2) (am_same.set am_same.rf (by unfold rg; omega)) (by unfold rg; omega)) (fun b h1 h2 => by unfold rg; omega)) (hL2.d.same (am_same.set (X := rg 131 2) (am_same.set am_same.rf (by unfold rg; omega)) (by unfold rg; omega)) (fun b h1 h2 => by unfold rg; omega)) (am_gn (by decide) (am_gs ha2)) (am_gs (am_gn (by decide) hb2)) (am_same.set (am_same.set hsm2 (by unfold rg; omega)) (by unfold rg; omega))
  exact loop (4) 0 f1 f2 S.2.2.2.2.1 w5 (by omega) (fun p hp => by omega) (fun p hp => by omega) hS1 (hD.same hsm1 (fun b h1 h2 => by unfold rg; omega)) (hsm1.at (by unfold rg; omega) hf1) (hsm1.at (by unfold rg; omega) hf2) hsm0
