/-! Outlook: how large a barrel -/
def c_Q (w : am_W) (d : Nat) : Prop := ∃ (tr ri : Int32) (n kk : Nat) (wa ki ba he : Nat → Int32), w[d]? = some (.inr (9, [.int tr, .int ri, .int (nI n), .int (nI kk), .ref (d + 1), .ref (d + 2), .ref (d + 3), .ref (d + 4)])) ∧ w[d + 1]? = some (.inl (0, 6, .inl wa)) ∧ w[d + 2]? = some (.inl (0, 6, .inl ki)) ∧ w[d + 3]? = some (.inl (0, 6, .inl ba)) ∧ w[d + 4]? = some (.inl (0, 5, .inl he))
theorem c_T.q {w : am_W} {d : Nat} {T : p_D} (h : c_T w d T) : c_Q w d := by
  obtain ⟨wa, ki, ba, he, h0, h1, h2, h3, h4, -⟩ := h
  exact ⟨_, _, _, _, wa, ki, ba, he, h0, h1, h2, h3, h4⟩
theorem c_Q.same {w w' : am_W} {d : Nat} {X : Nat → Prop} (h : c_Q w d) (hs : am_same X w w') (hx : ∀ b, d ≤ b → b < d + 5 → ¬ X b) : c_Q w' d := by
  obtain ⟨tr, ri, n, kk, wa, ki, ba, he, h0, h1, h2, h3, h4⟩ := h
  exact ⟨tr, ri, n, kk, wa, ki, ba, he, hs.at (hx _ (by omega) (by omega)) h0, hs.at (hx _ (by omega) (by omega)) h1, hs.at (hx _ (by omega) (by omega)) h2, hs.at (hx _ (by omega) (by omega)) h3, hs.at (hx _ (by omega) (by omega)) h4⟩
theorem k_tcopy (w : am_W) (d o : Nat) (T : p_D) (hvT : v_T T) (hQ : c_Q w d) (hT : c_T w o T) (h2d : 2 ≤ d) (h2o : 2 ≤ o) (hdj : d + 5 ≤ o ∨ o + 5 ≤ d) : am_Go 61 (0, [.ref d, .ref o], [], w, 0, 0) (fun res w' => res = none ∧ c_T w' d T ∧ am_same (rg d 5) w w') := by
  obtain ⟨tr, ri, n, kk, wa, ki, ba, he, h0, h1, h2, h3, h4⟩ := hQ
  obtain ⟨owa, oki, oba, ohe, g0, g1, g2, g3, g4, q1, q2⟩ := hT
  refine (c_dcopy w d h2d tr ri n kk wa ki ba he h0 h1 h2 h3 h4 o h2o hdj T.1 T.2.1 T.2.2.1 T.2.2.2.1 owa oki oba ohe hvT.2.2 g0 g1 g2 g3 g4).mono ?_
  rintro res w' ⟨rfl, rfl⟩
  have hn := hvT.1
  have hk := hvT.2.1
  refine ⟨rfl, ⟨_, _, _, _, am_gn (by omega) (am_gn (by omega) (am_gn (by omega) (am_gn (by omega) (am_gs h0)))), am_gn (by omega) (am_gn (by omega) (am_gn (by omega) (am_gs (am_gn (by omega) h1)))), am_gn (by omega) (am_gn (by omega) (am_gs (am_gn (by omega) (am_gn (by omega) h2)))), am_gn (by omega) (am_gs (am_gn (by omega) (am_gn (by omega) (am_gn (by omega) h3)))), am_gs (am_gn (by omega) (am_gn (by omega) (am_gn (by omega) (am_gn (by omega) h4)))), fun h hh => ?_, fun i hi => ?_⟩, ?_⟩
  · rw [pk_cpy_in (by omega) (by omega), pk_cpy_in (by omega) (by omega), pk_cpy_in (by omega) (by omega)]; simpa using q1 h hh
  · rw [pk_cpy_in (by omega) (by omega)]; simpa using q2 i hi
  · exact am_same.set (am_same.set (am_same.set (am_same.set (am_same.set am_same.rf (by unfold rg; omega)) (by unfold rg; omega)) (by unfold rg; omega)) (by unfold rg; omega)) (by unfold rg; omega)
def m_ba (T : p_D) (h : Nat) (x : Int32) : p_D := (T.1, T.2.1, T.2.2.1, T.2.2.2.1, T.2.2.2.2.1, T.2.2.2.2.2.1, upd T.2.2.2.2.2.2.1 h x, T.2.2.2.2.2.2.2)
def m_sb (S : s_S) (h : Nat) (x : Int32) : s_S := (S.1, S.2.1, upd S.2.2.1 h x, S.2.2.2)
theorem c_T_ba0 {w : am_W} {d : Nat} {T : p_D} (hT : c_T w d T) (h : Nat) : c_T w d (m_ba T h (T.2.2.2.2.2.2.1 h)) := by
  obtain ⟨wa, ki, ba, he, h0, h1, h2, h3, h4, q1, q2⟩ := hT
  refine ⟨wa, ki, ba, he, h0, h1, h2, h3, h4, fun k hk => ?_, q2⟩
  obtain ⟨a1, a2, a3⟩ := q1 k hk
  refine ⟨a1, a2, a3.trans ?_⟩
  show _ = upd T.2.2.2.2.2.2.1 h (T.2.2.2.2.2.2.1 h) k
  by_cases e : k = h
  · rw [e, pk_us]
  · rw [pk_un e]
theorem c_T_ba {w : am_W} {d : Nat} {T : p_D} {h : Nat} {x : Int32} (hT : c_T w d (m_ba T h x)) : ∃ b0, w[d + 3]? = some (.inl (0, 6, .inl b0)) ∧ ∀ y, c_T (w.set (d + 3) (.inl (0, 6, .inl (upd b0 h y)))) d (m_ba T h y) := by
  obtain ⟨wa, ki, ba, he, h0, h1, h2, h3, h4, q1, q2⟩ := hT
  refine ⟨ba, h3, fun y => ⟨wa, ki, upd ba h y, he, am_gn (by omega) h0, am_gn (by omega) h1, am_gn (by omega) h2, am_gs h3, am_gn (by omega) h4, fun k hk => ?_, q2⟩⟩
  obtain ⟨a1, a2, a3⟩ := q1 k hk
  refine ⟨a1, a2, ?_⟩
  show upd ba h y k = upd T.2.2.2.2.2.2.1 h y k
  by_cases e : k = h
  · rw [e, pk_us, pk_us]
  · rw [pk_un e, pk_un e]
    have a4 : ba k = upd T.2.2.2.2.2.2.1 h x k := a3
    rw [pk_un e] at a4
    exact a4
theorem c_S_sb {w : am_W} {a n : Nat} {S : s_S} (h : Nat) (hS : c_S w a n S) : ∃ s0, w[a + 2]? = some (.inl (0, 6, .inl s0)) ∧ ∀ y, c_S (w.set (a + 2) (.inl (0, 6, .inl (upd s0 h y)))) a n (m_sb S h y) := by
  obtain ⟨so, ss, sl, h0, h1, h2, h3, q1, q2, q3⟩ := hS
  refine ⟨ss, h2, fun y => ⟨so, upd ss h y, sl, am_gn (by omega) h0, am_gn (by omega) h1, am_gs h2, am_gn (by omega) h3, q1, fun k hk => ?_, q3⟩⟩
  show upd ss h y k = upd S.2.2.1 h y k
  by_cases e : k = h
  · rw [e, pk_us, pk_us]
  · rw [pk_un e, pk_un e]; exact q2 k hk
theorem c_S_lb {w : am_W} {a n : Nat} {S : s_S} (hS : c_S w a n S) : ∃ s0, w[a + 3]? = some (.inl (0, 6, .inl s0)) ∧ ∀ k, k < n → s0 k = S.2.2.2.1 k := by
  obtain ⟨so, ss, sl, h0, h1, h2, h3, q1, q2, q3⟩ := hS
  exact ⟨sl, h3, q3⟩
/-- nothing more is lacked in ten days with a barrel of b -/
def m_ck (T : p_D) (S : s_S) (h b : Nat) : Prop := (m_it (m_ba T h (nI b)) (m_sb S h 0) 10).2.2.2.1 h = S.2.2.2.1 h
def m_cask (T : p_D) (S : s_S) (h : Nat) (r : Option Value) : Prop := (∃ b, b < 10 ∧ m_ck T S h b ∧ (∀ i, i < b → ¬ m_ck T S h i) ∧ r = some (.int (nI b))) ∨ ((∀ i, i < 10 → ¬ m_ck T S h i) ∧ r = some (.int (-9)))
theorem c_T.o {w : am_W} {d : Nat} {T : p_D} (h : c_T w d T) : w[d]? = some (.inr (9, [.int T.1, .int T.2.1, .int (nI T.2.2.1), .int (nI T.2.2.2.1), .ref (d + 1), .ref (d + 2), .ref (d + 3), .ref (d + 4)])) := by obtain ⟨wa, ki, ba, he, h0, -⟩ := h; exact h0
theorem c_R.o {w : am_W} {a : Nat} (h : c_R w a) : ∃ x y z, w[a]? = some (.inr (6, [.ref (a + 1), .ref (a + 2), .ref (a + 3), .int x, .int y, .int z])) := by obtain ⟨_, _, _, x, y, z, h0, -⟩ := h; exact ⟨x, y, z, h0⟩
set_option maxRecDepth 100000 in
set_option maxHeartbeats 4000000 in
theorem k_leastBarrel (w : am_W) (T : p_D) (S : s_S) (bl bo : Int32) (hvT : v_T T) (hvS : v_S T.2.2.1 S) (hT : c_T w 11 T) (hN : c_S w 16 T.2.2.1 S) (hQ : c_Q w 101) (hR : c_R w 106) (hD : c_D w 110) (ho0 : w[100]? = some (.inr (2, [.ref 101, .ref 106, .ref 110, .int bl, .int bo]))) (hdy : S.2.2.2.2.2.2 + 10 < 2 ^ 30) (h : Nat) (hh : h < T.2.2.1) : am_Go 19 (0, [.ref 100, .ref 11, .ref 16, .int (nI h), .float 0, .float 0], [], w, 0, 0) (fun res w' => m_cask T S h res ∧ am_same (rg 101 17) w w' ∧ c_Q w' 101 ∧ c_R w' 106 ∧ c_D w' 110) := by
  have hM : am_P[19]? = some zm_X2_leastBarrel := rfl
  have hn6 : T.2.2.1 ≤ 6 := hvT.1
  obtain ⟨tq, rq, nq, kq, _, _, _, _, hq0, -⟩ := id hQ
  refine ar_aload_n (pc' := 1) hM rfl rfl rfl ?_
  refine ar_getfield (pc' := 4) hM rfl ho0 rfl rfl ?_
  refine ar_aload_n (pc' := 5) hM rfl rfl rfl ?_
  refine ar_virtual (pc' := 8) (k3 := 0) (k4 := 0) hM rfl rfl hq0 ⟨rfl, (by decide)⟩ rfl rfl (k_tcopy _ 101 11 T hvT hQ hT (by decide) (by decide) (by omega)) (fun r5 w5 q5 => ?_)
  obtain ⟨rfl, hT1, q5s⟩ := q5
  have hsm0 : am_same (rg 101 17) w w5 := q5s.mono (fun b hb => by unfold rg at *; omega)
  have hR1 := hR.same q5s (fun b h1 h2 => by unfold rg; omega)
  have hD1 := hD.same q5s (fun b h1 h2 => by unfold rg; omega)
  show am_Go 19 (8, [.ref 100, .ref 11, .ref 16, .int (nI h), .float 0, .float 0], [], w5, 0, 0) _
  refine ar_iconst (x := 0) (pc' := 9) hM rfl (by decide) rfl ?_
  refine ar_istore (pc' := 11) hM rfl rfl rfl rfl ?_
  have loop : ∀ (dj j : Nat) (x : Int32) (wj : am_W) (z5 : Value), dj + j = 10 → (∀ i, i < j → ¬ m_ck T S h i) → (c_T wj 101 (m_ba T h x)) → (c_R wj 106) → (c_D wj 110) → (am_same (rg 101 17) w wj) → am_Go 19 (11, [.ref 100, .ref 11, .ref 16, .int (nI h), .int (nI j), z5], [], wj, 0, 0) (fun res w' => m_cask T S h res ∧ am_same (rg 101 17) w w' ∧ c_Q w' 101 ∧ c_R w' 106 ∧ c_D w' 110) := by
    intro dj
    induction dj with
    | zero =>
      intro j x wj z5 hj hnb hTj hRj hDj hsm
      refine ar_iload (pc' := 13) hM rfl rfl rfl ?_
      refine ar_bipush (x := 9) (pc' := 15) hM rfl (by decide) rfl ?_
      refine ar_icmp_gt (pc' := 18) hM rfl rfl (fun _ => ?_) (fun q => absurd (nI_lt (a := 9) (b := j) (by omega) (by omega)) q)
      refine ar_bipush (x := (-9)) (pc' := 107) hM rfl (by decide) rfl ?_
      refine ar_ireturn hM rfl (Or.inl rfl) ?_
      exact ⟨Or.inr ⟨fun i hi => hnb i (by omega), rfl⟩, hsm, hTj.q, hRj, hDj⟩
    | succ dj ih =>
      intro j x wj z5 hj hnb hTj hRj hDj hsm
      refine ar_iload (pc' := 13) hM rfl rfl rfl ?_
      refine ar_bipush (x := 9) (pc' := 15) hM rfl (by decide) rfl ?_
      refine ar_icmp_gt (pc' := 18) hM rfl rfl (fun q => absurd q (nI_nlt (a := 9) (b := j) (by omega) (by omega))) (fun _ => ?_)
      obtain ⟨b0, hb0, hT2⟩ := c_T_ba hTj
      obtain ⟨x6, y6, z6, hr6⟩ := hRj.o
      refine ar_aload_n (pc' := 19) hM rfl rfl rfl ?_
      refine ar_getfield (pc' := 22) hM rfl (hsm.at (by unfold rg; omega) ho0) rfl rfl ?_
      refine ar_getfield (pc' := 25) hM rfl (hTj.o) rfl rfl ?_
      refine ar_iload_n (pc' := 26) hM rfl rfl rfl ?_
      refine ar_iload (pc' := 28) hM rfl rfl rfl ?_
      refine ar_iastoreN (j := h) (pc' := 29) hM rfl hb0 rfl (by omega) (Nat.le_of_ble_eq_true rfl) (by decide) rfl ?_
      refine ar_aload_n (pc' := 30) hM rfl rfl rfl ?_
      refine ar_getfield (pc' := 33) hM rfl (am_gn (by decide) (hsm.at (by unfold rg; omega) ho0)) rfl rfl ?_
      refine ar_aload_n (pc' := 34) hM rfl rfl rfl ?_
      refine ar_virtual (pc' := 37) (k3 := 0) (k4 := 0) hM rfl rfl (am_gn (by decide) hr6) ⟨rfl, (by decide)⟩ rfl rfl (k_copyR _ 106 16 _ S (hRj.same (am_same.set (X := rg 104 1) am_same.rf (by unfold rg; omega)) (fun b h1 h2 => by unfold rg; omega)) (hN.same (am_same.set hsm (by unfold rg; omega)) (fun b h1 h2 => by unfold rg; omega)) hn6 (by decide) (by decide) (by omega)) (fun r34 w34 q34 => ?_)
      obtain ⟨rfl, hS3, q34s⟩ := q34
      have hsm3 : am_same (rg 101 17) w w34 := (am_same.set hsm (by unfold rg; omega)).tr (q34s.mono (fun b hb => by unfold rg at *; omega))
      have hT3 := (hT2 (nI j)).same q34s (fun b h1 h2 => by unfold rg; omega)
      have hD3 := (hDj.same (am_same.set (X := rg 104 1) am_same.rf (by unfold rg; omega)) (fun b h1 h2 => by unfold rg; omega)).same q34s (fun b h1 h2 => by unfold rg; omega)
      obtain ⟨s0, hs0, hS4⟩ := c_S_sb h hS3
      show am_Go 19 (37, [.ref 100, .ref 11, .ref 16, .int (nI h), .int (nI j), z5], [], w34, 0, 0) _
      refine ar_aload_n (pc' := 38) hM rfl rfl rfl ?_
      refine ar_getfield (pc' := 41) hM rfl (hsm3.at (by unfold rg; omega) ho0) rfl rfl ?_
      refine ar_getfield (pc' := 44) hM rfl (hS3.o) rfl rfl ?_
      refine ar_iload_n (pc' := 45) hM rfl rfl rfl ?_
      refine ar_iconst (x := 0) (pc' := 46) hM rfl (by decide) rfl ?_
      refine ar_iastoreN (j := h) (pc' := 47) hM rfl hs0 rfl (by omega) (Nat.le_of_ble_eq_true rfl) (by decide) rfl ?_
      refine ar_iconst (x := 0) (pc' := 48) hM rfl (by decide) rfl ?_
      refine ar_istore (pc' := 50) hM rfl rfl rfl rfl ?_
      have loopi : ∀ (dj i : Nat) (wi : am_W), dj + i = 10 → (c_S wi 106 T.2.2.1 (m_it (m_ba T h (nI j)) (m_sb S h 0) i)) → (c_T wi 101 (m_ba T h (nI j))) → (c_D wi 110) → (am_same (rg 101 17) w wi) → am_Go 19 (50, [.ref 100, .ref 11, .ref 16, .int (nI h), .int (nI j), .int (nI i)], [], wi, 0, 0) (fun res w' => m_cask T S h res ∧ am_same (rg 101 17) w w' ∧ c_Q w' 101 ∧ c_R w' 106 ∧ c_D w' 110) := by
        intro dj
        induction dj with
        | zero =>
          intro i wi hj hS5 hT5 hD5 hsm5
          refine ar_iload (pc' := 52) hM rfl rfl rfl ?_
          refine ar_bipush (x := 10) (pc' := 54) hM rfl (by decide) rfl ?_
          refine ar_icmp_ge (pc' := 57) hM rfl rfl (fun _ => ?_) (fun q => absurd (nI_le (a := 10) (b := i) (by omega) (by omega)) q)
          obtain ⟨l1, hl1, hl2⟩ := c_S_lb hS5
          obtain ⟨l3, hl3, hl4⟩ := c_S_lb hN
          have hi10 : i = 10 := by omega
          refine ar_aload_n (pc' := 79) hM rfl rfl rfl ?_
          refine ar_getfield (pc' := 82) hM rfl (hsm5.at (by unfold rg; omega) ho0) rfl rfl ?_
          refine ar_getfield (pc' := 85) hM rfl (hS5.o) rfl rfl ?_
          refine ar_iload_n (pc' := 86) hM rfl rfl rfl ?_
          refine ar_ialoadN (j := h) (pc' := 87) hM rfl hl1 rfl (by omega) (Nat.le_of_ble_eq_true rfl) rfl ?_
          refine ar_aload_n (pc' := 88) hM rfl rfl rfl ?_
          refine ar_getfield (pc' := 91) hM rfl (hsm5.at (by unfold rg; omega) hN.o) rfl rfl ?_
          refine ar_iload_n (pc' := 92) hM rfl rfl rfl ?_
          refine ar_ialoadN (j := h) (pc' := 93) hM rfl (hsm5.at (by unfold rg; omega) hl3) rfl (by omega) (Nat.le_of_ble_eq_true rfl) rfl ?_
          refine ar_icmp_ne (pc' := 96) hM rfl rfl (fun c93 => ?_) (fun c93 => ?_)
          · refine ar_iinc (z := nI (j + 1)) (pc' := 102) hM rfl rfl (nI_1 _) rfl rfl rfl ?_
            refine ar_goto hM rfl ?_
            exact ih (j + 1) (nI j) wi (.int (nI i)) (by omega) (fun k hk => by rcases Nat.lt_or_ge k j with q | q; exact hnb k q; rw [show k = j by omega]; intro e; apply c93; show l1 h = l3 h; rw [hl2 h hh, hl4 h hh, hi10]; exact e) hT5 hS5.r hD5 hsm5
          · refine ar_iload (pc' := 98) hM rfl rfl rfl ?_
            refine ar_ireturn hM rfl (Or.inl rfl) ?_
            exact ⟨Or.inl ⟨j, by omega, (by show (m_it _ _ 10).2.2.2.1 h = _; rw [← hi10, ← hl2 h hh, ← hl4 h hh]; exact c93), hnb, rfl⟩, hsm5, hT5.q, hS5.r, hD5⟩
        | succ dj ih =>
          intro i wi hj hS5 hT5 hD5 hsm5
          refine ar_iload (pc' := 52) hM rfl rfl rfl ?_
          refine ar_bipush (x := 10) (pc' := 54) hM rfl (by decide) rfl ?_
          refine ar_icmp_ge (pc' := 57) hM rfl rfl (fun q => absurd q (nI_ge (a := i) (b := 10) (by omega) (by omega))) (fun _ => ?_)
          refine ar_aload_n (pc' := 58) hM rfl rfl rfl ?_
          refine ar_getfield (pc' := 61) hM rfl (hsm5.at (by unfold rg; omega) ho0) rfl rfl ?_
          refine ar_aload_n (pc' := 62) hM rfl rfl rfl ?_
          refine ar_getfield (pc' := 65) hM rfl (hsm5.at (by unfold rg; omega) ho0) rfl rfl ?_
          refine ar_aload_n (pc' := 66) hM rfl rfl rfl ?_
          refine ar_getfield (pc' := 69) hM rfl (hsm5.at (by unfold rg; omega) ho0) rfl rfl ?_
          refine ar_virtual (pc' := 72) (k3 := 0) (k4 := 0) hM rfl rfl (hD5.o) ⟨rfl, (by decide)⟩ rfl rfl (k_pass _ 110 101 106 (m_ba T h (nI j)) (m_it (m_ba T h (nI j)) (m_sb S h 0) i) hvT (m_it_v (S := (m_sb S h 0)) hvS i (by show S.2.2.2.2.2.2 + i < _; omega)) hT5 hS5 hD5 (by decide) (by decide) (by decide) (by omega) (by omega) (by omega)) (fun r69 w69 q69 => ?_)
          obtain ⟨rfl, hS6, hL6, q69s⟩ := q69
          have hsm6 : am_same (rg 101 17) w w69 := hsm5.tr (q69s.mono (fun b hb => by rcases hb with hb | hb <;> unfold rg at * <;> omega))
          have hT6 := hT5.same q69s (fun b h1 h2 => by unfold rg; omega)
          show am_Go 19 (72, [.ref 100, .ref 11, .ref 16, .int (nI h), .int (nI j), .int (nI i)], [], w69, 0, 0) _
          refine ar_iinc (z := nI (i + 1)) (pc' := 75) hM rfl rfl (nI_1 _) rfl rfl rfl ?_
          refine ar_goto hM rfl ?_
          exact ih (i + 1) w69 (by omega) hS6 hT6 hL6.d hsm6
      exact loopi (10) 0 (w34.set 108 (.inl (0, 6, .inl (upd s0 h 0)))) (by omega) (hS4 0) (hT3.same (am_same.set (X := rg 108 1) am_same.rf (by unfold rg; omega)) (fun b h1 h2 => by unfold rg; omega)) (hD3.same (am_same.set (X := rg 108 1) am_same.rf (by unfold rg; omega)) (fun b h1 h2 => by unfold rg; omega)) (am_same.set hsm3 (by unfold rg; omega))
  exact loop (10) 0 (T.2.2.2.2.2.2.1 h) w5 (.float 0) (by omega) (fun i hi => by omega) (c_T_ba0 hT1 h) hR1 hD1 hsm0
