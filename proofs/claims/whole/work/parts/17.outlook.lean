/-! Outlook: days to come -/
/-- a standing's cells, whatever they hold -/
def c_R (w : am_W) (a : Nat) : Prop := ∃ (so ss sl : Nat → Int32) (x y z : Int32), w[a]? = some (.inr (6, [.ref (a + 1), .ref (a + 2), .ref (a + 3), .int x, .int y, .int z])) ∧ w[a + 1]? = some (.inl (0, 6, .inl so)) ∧ w[a + 2]? = some (.inl (0, 6, .inl ss)) ∧ w[a + 3]? = some (.inl (0, 6, .inl sl))
theorem c_S.r {w : am_W} {a n : Nat} {S : s_S} (h : c_S w a n S) : c_R w a := by
  obtain ⟨so, ss, sl, h0, h1, h2, h3, -⟩ := h
  exact ⟨so, ss, sl, _, _, _, h0, h1, h2, h3⟩
theorem c_S.o {w : am_W} {a n : Nat} {S : s_S} (h : c_S w a n S) : w[a]? = some (.inr (6, [.ref (a + 1), .ref (a + 2), .ref (a + 3), .int S.2.2.2.2.1, .int S.2.2.2.2.2.1, .int (nI S.2.2.2.2.2.2)])) := by obtain ⟨so, ss, sl, h0, -⟩ := h; exact h0
theorem c_D.o {w : am_W} {t : Nat} (h : c_D w t) : w[t]? = some (.inr (8, [.ref (t + 1), .ref (t + 2), .ref (t + 3), .ref (t + 4), .ref (t + 5), .ref (t + 6), .ref (t + 7)])) := by obtain ⟨dw, ds, dg, dd, dl, df, dv, h0, -⟩ := h; exact h0
theorem c_R.same {w w' : am_W} {a : Nat} {X : Nat → Prop} (h : c_R w a) (hs : am_same X w w') (hx : ∀ b, a ≤ b → b < a + 4 → ¬ X b) : c_R w' a := by
  obtain ⟨so, ss, sl, x, y, z, h0, h1, h2, h3⟩ := h
  exact ⟨so, ss, sl, x, y, z, hs.at (hx _ (by omega) (by omega)) h0, hs.at (hx _ (by omega) (by omega)) h1, hs.at (hx _ (by omega) (by omega)) h2, hs.at (hx _ (by omega) (by omega)) h3⟩
theorem k_copyR (w : am_W) (s o n : Nat) (S2 : s_S) (hS : c_R w s) (hO : c_S w o n S2) (h6 : n ≤ 6) (h2s : 2 ≤ s) (h2o : 2 ≤ o) (hdj : s + 4 ≤ o ∨ o + 4 ≤ s) : am_Go 42 (0, [.ref s, .ref o], [], w, 0, 0) (fun res w' => res = none ∧ c_S w' s n S2 ∧ am_same (rg s 4) w w') := by
  obtain ⟨so, ss, sl, x, y, z, hs0, hs1, hs2, hs3⟩ := hS
  obtain ⟨oo, os, ol, ho0, ho1, ho2, ho3, q1, q2, q3⟩ := hO
  refine (c_copyFrom w s h2s so ss sl _ _ _ hs0 hs1 hs2 hs3 o h2o hdj oo os ol _ _ _ ho0 ho1 ho2 ho3).mono ?_
  rintro res w' ⟨rfl, rfl⟩
  refine ⟨rfl, ⟨_, _, _, am_gs (am_gn (by omega) (am_gn (by omega) (am_gn (by omega) hs0))), am_gn (by omega) (am_gn (by omega) (am_gn (by omega) (am_gs hs1))), am_gn (by omega) (am_gn (by omega) (am_gs (am_gn (by omega) hs2))), am_gn (by omega) (am_gs (am_gn (by omega) (am_gn (by omega) hs3))), fun p hp => ?_, fun h hh => ?_, fun h hh => ?_⟩, ?_⟩
  · rw [pk_cpy_in (by omega) (by omega)]; simpa using q1 p hp
  · rw [pk_cpy_in (by omega) (by omega)]; simpa using q2 h hh
  · rw [pk_cpy_in (by omega) (by omega)]; simpa using q3 h hh
  · exact am_same.set (am_same.set (am_same.set (am_same.set am_same.rf (by unfold rg; omega)) (by unfold rg; omega)) (by unfold rg; omega)) (by unfold rg; omega)
theorem i_sum_congr {f g : Nat → Int32} : ∀ {n : Nat}, (∀ h, h < n → f h = g h) → i_sum f n = i_sum g n
  | 0, _ => rfl
  | n + 1, h => by show i_sum f n + f n = i_sum g n + g n; rw [i_sum_congr (fun k hk => h k (by omega)), h n (by omega)]
theorem i_grt_congr {f g : Nat → Int32} : ∀ {n : Nat}, (∀ h, h < n → f h = g h) → i_grt f n = i_grt g n
  | 0, _ => rfl
  | n + 1, h => by show i_max (i_grt f n) (f n) = i_max (i_grt g n) (g n); rw [i_grt_congr (fun k hk => h k (by omega)), h n (by omega)]
def m_it (T : p_D) (S : s_S) : Nat → s_S
  | 0 => S
  | k + 1 => m_pass T (m_it T S k)
theorem m_it_day (T : p_D) (S : s_S) : ∀ k, (m_it T S k).2.2.2.2.2.2 = S.2.2.2.2.2.2 + k
  | 0 => rfl
  | k + 1 => by show (m_it T S k).2.2.2.2.2.2 + 1 = _; rw [m_it_day T S k]; omega
theorem m_it_v {T : p_D} {S : s_S} {n : Nat} (h : v_S n S) : ∀ k, S.2.2.2.2.2.2 + k < 2 ^ 30 → v_S n (m_it T S k)
  | 0, _ => h
  | k + 1, hd => m_pass_v (m_it_v h k (by omega)) (by rw [m_it_day]; omega)
/-- what is lacked (or runs over) in k days -/
def m_tot (T : p_D) (S : s_S) (over : Int32) : Nat → Int32
  | 0 => 0
  | k + 1 => m_tot T S over k + i_sum (if over = 0 then m_lk T (m_it T S k) 0 else m_sp T (m_it T S k) 0) T.2.2.1
set_option maxRecDepth 100000 in
set_option maxHeartbeats 4000000 in
theorem k_inDays (w : am_W) (T : p_D) (S : s_S) (bl bo : Int32) (hvT : v_T T) (hvS : v_S T.2.2.1 S) (hT : c_T w 11 T) (hN : c_S w 16 T.2.2.1 S) (hR : c_R w 106) (hD : c_D w 110) (ho0 : w[100]? = some (.inr (2, [.ref 101, .ref 106, .ref 110, .int bl, .int bo]))) (k : Nat) (hk : k ≤ 30) (hdy : S.2.2.2.2.2.2 + k < 2 ^ 30) (ov : Int32) : am_Go 13 (0, [.ref 100, .ref 11, .ref 16, .int (nI k), .int ov, .float 0, .float 0], [], w, 0, 0) (fun res w' => res = some (.int (m_tot T S ov k)) ∧ am_same (rg 106 12) w w' ∧ c_R w' 106 ∧ c_D w' 110) := by
  have hM : am_P[13]? = some zm_X2_inDays := rfl
  have ht0 : w[11]? = some (.inr (9, [.int T.1, .int T.2.1, .int (nI T.2.2.1), .int (nI T.2.2.2.1), .ref 12, .ref 13, .ref 14, .ref 15])) := by obtain ⟨_, _, _, _, h, -⟩ := hT; exact h
  have hn6 : T.2.2.1 ≤ 6 := hvT.1
  obtain ⟨_, _, _, x6, y6, z6, hr6, -⟩ := id hR
  refine ar_aload_n (pc' := 1) hM rfl rfl rfl ?_
  refine ar_getfield (pc' := 4) hM rfl ho0 rfl rfl ?_
  refine ar_aload_n (pc' := 5) hM rfl rfl rfl ?_
  refine ar_virtual (pc' := 8) (k3 := 0) (k4 := 0) hM rfl rfl hr6 ⟨rfl, (by decide)⟩ rfl rfl (k_copyR _ 106 16 _ S hR hN hn6 (by decide) (by decide) (by omega)) (fun r5 w5 q5 => ?_)
  obtain ⟨rfl, hS1, q5s⟩ := q5
  have hsm0 : am_same (rg 106 12) w w5 := q5s.mono (fun b hb => by unfold rg at *; omega)
  show am_Go 13 (8, [.ref 100, .ref 11, .ref 16, .int (nI k), .int ov, .float 0, .float 0], [], w5, 0, 0) _
  refine ar_iconst (x := 0) (pc' := 9) hM rfl (by decide) rfl ?_
  refine ar_istore (pc' := 11) hM rfl rfl rfl rfl ?_
  refine ar_iconst (x := 0) (pc' := 12) hM rfl (by decide) rfl ?_
  refine ar_istore (pc' := 14) hM rfl rfl rfl rfl ?_
  have loop : ∀ (dj j : Nat) (x : Int32) (wj : am_W), dj + j = k → (x = m_tot T S ov j) → (c_S wj 106 T.2.2.1 (m_it T S j)) → (c_D wj 110) → (am_same (rg 106 12) w wj) → am_Go 13 (14, [.ref 100, .ref 11, .ref 16, .int (nI k), .int ov, .int x, .int (nI j)], [], wj, 0, 0) (fun res w' => res = some (.int (m_tot T S ov k)) ∧ am_same (rg 106 12) w w' ∧ c_R w' 106 ∧ c_D w' 110) := by
    intro dj
    induction dj with
    | zero =>
      intro j x wj hj hx hS hD hsm
      refine ar_iload (pc' := 16) hM rfl rfl rfl ?_
      refine ar_iload_n (pc' := 17) hM rfl rfl rfl ?_
      refine ar_icmp_ge (pc' := 20) hM rfl rfl (fun _ => ?_) (fun q => absurd (nI_le (a := k) (b := j) (by omega) (by omega)) q)
      refine ar_iload (pc' := 74) hM rfl rfl rfl ?_
      refine ar_ireturn hM rfl (Or.inl rfl) ?_
      exact ⟨by rw [hx, show j = k by omega], hsm, hS.r, hD⟩
    | succ dj ih =>
      intro j x wj hj hx hS hD hsm
      refine ar_iload (pc' := 16) hM rfl rfl rfl ?_
      refine ar_iload_n (pc' := 17) hM rfl rfl rfl ?_
      refine ar_icmp_ge (pc' := 20) hM rfl rfl (fun q => absurd q (nI_ge (a := j) (b := k) (by omega) (by omega))) (fun _ => ?_)
      refine ar_aload_n (pc' := 21) hM rfl rfl rfl ?_
      refine ar_getfield (pc' := 24) hM rfl (hsm.at (by unfold rg; omega) ho0) rfl rfl ?_
      refine ar_aload_n (pc' := 25) hM rfl rfl rfl ?_
      refine ar_aload_n (pc' := 26) hM rfl rfl rfl ?_
      refine ar_getfield (pc' := 29) hM rfl (hsm.at (by unfold rg; omega) ho0) rfl rfl ?_
      refine ar_virtual (pc' := 32) (k3 := 0) (k4 := 0) hM rfl rfl (hD.o) ⟨rfl, (by decide)⟩ rfl rfl (k_pass _ 110 11 106 T (m_it T S j) hvT (m_it_v hvS j (by omega)) (hT.same hsm (fun b h1 h2 => by unfold rg; omega)) hS hD (by decide) (by decide) (by decide) (by omega) (by omega) (by omega)) (fun r29 w29 q29 => ?_)
      obtain ⟨rfl, hS2, hL2, q29s⟩ := q29
      have hsm2 : am_same (rg 106 12) w w29 := hsm.tr (q29s.mono (fun b hb => by rcases hb with hb | hb <;> unfold rg at * <;> omega))
      obtain ⟨dw, ds, dg, dd, dl, df, dv, ⟨hd0, hd1, hd2, hd3, hd4, hd5, hd6, hd7⟩, hdl⟩ := id hL2
      show am_Go 13 (32, [.ref 100, .ref 11, .ref 16, .int (nI k), .int ov, .int x, .int (nI j)], [], w29, 0, 0) _
      refine ar_iload (pc' := 34) hM rfl rfl rfl ?_
      refine ar_iload (pc' := 36) hM rfl rfl rfl ?_
      refine ar_if_eq (pc' := 39) hM rfl rfl (fun c36 => ?_) (fun c36 => ?_)
      · refine ar_aload_n (pc' := 50) hM rfl rfl rfl ?_
        refine ar_getfield (pc' := 53) hM rfl (hsm2.at (by unfold rg; omega) ho0) rfl rfl ?_
        refine ar_getfield (pc' := 56) hM rfl hd0 rfl rfl ?_
        refine ar_aload_n (pc' := 57) hM rfl rfl rfl ?_
        refine ar_getfield (pc' := 60) hM rfl (hsm2.at (by unfold rg; omega) ht0) rfl rfl ?_
        refine ar_static (pc' := 63) (k3 := 0) (k4 := 0) hM rfl (by decide) rfl rfl (c_sum _ _ _ hd5 _ (by omega)) (fun r60 w60 q60 => ?_)
        obtain ⟨rfl, q60w⟩ := q60
        rw [q60w]
        show am_Go 13 (63, [.ref 100, .ref 11, .ref 16, .int (nI k), .int ov, .int x, .int (nI j)], [.int (i_sum dl T.2.2.1), .int x], w29, 0, 0) _
        refine ar_iadd (pc' := 64) hM rfl rfl ?_
        refine ar_istore (pc' := 66) hM rfl rfl rfl rfl ?_
        refine ar_iinc (z := nI (j + 1)) (pc' := 69) hM rfl rfl (nI_1 _) rfl rfl rfl ?_
        refine ar_goto hM rfl ?_
        exact ih (j + 1) (x + (i_sum dl T.2.2.1)) w29 (by omega) (by show _ = m_tot T S ov j + i_sum _ _; rw [hx, if_pos c36]; congr 1; exact i_sum_congr (fun h hh => (hdl h hh).2.2.2.2.1)) hS2 (by obtain ⟨a1, a2, a3, a4, a5, a6, a7, a8, -⟩ := hL2; exact ⟨a1, a2, a3, a4, a5, a6, a7, a8⟩) hsm2
      · refine ar_aload_n (pc' := 40) hM rfl rfl rfl ?_
        refine ar_getfield (pc' := 43) hM rfl (hsm2.at (by unfold rg; omega) ho0) rfl rfl ?_
        refine ar_getfield (pc' := 46) hM rfl hd0 rfl rfl ?_
        refine ar_goto hM rfl ?_
        refine ar_aload_n (pc' := 57) hM rfl rfl rfl ?_
        refine ar_getfield (pc' := 60) hM rfl (hsm2.at (by unfold rg; omega) ht0) rfl rfl ?_
        refine ar_static (pc' := 63) (k3 := 0) (k4 := 0) hM rfl (by decide) rfl rfl (c_sum _ _ _ hd7 _ (by omega)) (fun r60 w60 q60 => ?_)
        obtain ⟨rfl, q60w⟩ := q60
        rw [q60w]
        show am_Go 13 (63, [.ref 100, .ref 11, .ref 16, .int (nI k), .int ov, .int x, .int (nI j)], [.int (i_sum dv T.2.2.1), .int x], w29, 0, 0) _
        refine ar_iadd (pc' := 64) hM rfl rfl ?_
        refine ar_istore (pc' := 66) hM rfl rfl rfl rfl ?_
        refine ar_iinc (z := nI (j + 1)) (pc' := 69) hM rfl rfl (nI_1 _) rfl rfl rfl ?_
        refine ar_goto hM rfl ?_
        exact ih (j + 1) (x + (i_sum dv T.2.2.1)) w29 (by omega) (by show _ = m_tot T S ov j + i_sum _ _; rw [hx, if_neg c36]; congr 1; exact i_sum_congr (fun h hh => (hdl h hh).2.2.2.2.2.2)) hS2 (by obtain ⟨a1, a2, a3, a4, a5, a6, a7, a8, -⟩ := hL2; exact ⟨a1, a2, a3, a4, a5, a6, a7, a8⟩) hsm2
  exact loop (k) 0 0 w5 (by omega) rfl hS1 (hD.same q5s (fun b h1 h2 => by unfold rg; omega)) hsm0
