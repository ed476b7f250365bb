/-! the class whole: acts, days to come, seen, slots -/
set_option maxRecDepth 100000 in
set_option maxHeartbeats 4000000 in
theorem f_day (w : am_W) (t : Nat × (Nat → Int32)) (T : p_D) (S : s_S) (A : List s_S) (K : Nat → Option s_S) (N : x_N) (sd : Int64) (d : Nat) (hd : d ≤ 1000) (hv : v_W d T S A K) (hW : c_W w t T S A K N sd)  : am_Go 71 (0, [.ref 2], [], w, 0, 0) (fun res w' => res = some (.int (i_sum (m_lk T S 0) T.2.2.1)) ∧ c_W w' t T (m_pass T S) ((S :: A).take 14) K N sd ∧ am_same (rg 2 131) w w') := by
  have hM : am_P[71]? = some zm_X10_day := rfl
  have hn6 : T.2.2.1 ≤ 6 := hv.1.1.1
  have hvT := hv.1.1
  have hvS := hv.2.1.1
  have hdy := hv.2.1.2.1
  obtain ⟨f1, kb1, bl1, bo1, rc1, fr1, se1, oo1_2, oo1_3, oo1_5, oo1_11, oo1_16, oo1_20, oo1_78, oo1_88, oo1_92, oo1_100, oo1_118⟩ := hW.obs
  refine ar_aload_n (pc' := 1) hM rfl rfl rfl ?_
  refine ar_getfield (pc' := 4) hM rfl oo1_2 rfl rfl ?_
  refine ar_aload_n (pc' := 5) hM rfl rfl rfl ?_
  refine ar_getfield (pc' := 8) hM rfl oo1_2 rfl rfl ?_
  refine ar_virtual (pc' := 11) (k3 := 0) (k4 := 0) hM rfl rfl oo1_20 ⟨rfl, (by decide)⟩ rfl rfl (k_remember _ _ A S hW.A hW.S hn6) (fun r8 w8 q8 => ?_)
  obtain ⟨rfl, hAq8, q8s⟩ := q8
  have hW2 : c_W w8 t T S ((S :: A).take 14) K N sd := hW.sA q8s hAq8
  have hsm2 : am_same (rg 2 131) w w8 := (am_same.rf).tr (q8s.mono (fun b hb => by unfold rg at *; omega))
  obtain ⟨f3, kb3, bl3, bo3, rc3, fr3, se3, oo3_2, oo3_3, oo3_5, oo3_11, oo3_16, oo3_20, oo3_78, oo3_88, oo3_92, oo3_100, oo3_118⟩ := hW2.obs
  show am_Go 71 (11, [.ref 2], [], w8, 0, 0) _
  refine ar_aload_n (pc' := 12) hM rfl rfl rfl ?_
  refine ar_getfield (pc' := 15) hM rfl oo3_2 rfl rfl ?_
  refine ar_aload_n (pc' := 16) hM rfl rfl rfl ?_
  refine ar_getfield (pc' := 19) hM rfl oo3_2 rfl rfl ?_
  refine ar_aload_n (pc' := 20) hM rfl rfl rfl ?_
  refine ar_getfield (pc' := 23) hM rfl oo3_2 rfl rfl ?_
  refine ar_virtual (pc' := 26) (k3 := 0) (k4 := 0) hM rfl rfl oo3_92 ⟨rfl, (by decide)⟩ rfl rfl (k_pass _ 92 11 16 T S hvT hvS hW2.T hW2.S hW2.D (by decide) (by decide) (by decide) (by omega) (by omega) (by omega)) (fun r23 w23 q23 => ?_)
  obtain ⟨rfl, hS4, hL4, q23s⟩ := q23
  have hW5 : c_W w23 t T (m_pass T S) ((S :: A).take 14) K N sd := hW2.sSD q23s hS4 hL4.d
  have hsm5 : am_same (rg 2 131) w w23 := (hsm2).tr (q23s.mono (fun b hb => by rcases hb with hb | hb <;> unfold rg at * <;> omega))
  obtain ⟨f6, kb6, bl6, bo6, rc6, fr6, se6, oo6_2, oo6_3, oo6_5, oo6_11, oo6_16, oo6_20, oo6_78, oo6_88, oo6_92, oo6_100, oo6_118⟩ := hW5.obs
  show am_Go 71 (26, [.ref 2], [], w23, 0, 0) _
  obtain ⟨dw7, ds7, dg7, dd7, dl7, df7, dv7, ⟨hd7_0, hd7_1, hd7_2, hd7_3, hd7_4, hd7_5, hd7_6, hd7_7⟩, hdl7⟩ := id hL4
  refine ar_aload_n (pc' := 27) hM rfl rfl rfl ?_
  refine ar_getfield (pc' := 30) hM rfl oo6_2 rfl rfl ?_
  refine ar_getfield (pc' := 33) hM rfl oo6_92 rfl rfl ?_
  refine ar_aload_n (pc' := 34) hM rfl rfl rfl ?_
  refine ar_getfield (pc' := 37) hM rfl oo6_2 rfl rfl ?_
  refine ar_getfield (pc' := 40) hM rfl oo6_11 rfl rfl ?_
  refine ar_static (pc' := 43) (k3 := 0) (k4 := 0) hM rfl (by decide) rfl rfl (by have h0 := c_sum _ 97 _ hd7_5 _ hn6; rw [i_sum_congr (fun h hh => (hdl7 h hh).2.2.2.2.1)] at h0; exact h0) (fun r40 w40 q40 => ?_)
  obtain ⟨rfl, q40w⟩ := q40
  rw [q40w]
  show am_Go 71 (43, [.ref 2], [.int (i_sum (m_lk T S 0) T.2.2.1)], w23, 0, 0) _
  refine ar_ireturn hM rfl (Or.inl rfl) ?_
  exact ⟨rfl, hW5, hsm5⟩
set_option maxRecDepth 100000 in
set_option maxHeartbeats 4000000 in
theorem f_swapN (w : am_W) (t : Nat × (Nat → Int32)) (T : p_D) (S : s_S) (A : List s_S) (K : Nat → Option s_S) (N : x_N) (sd : Int64) (d : Nat) (hd : d ≤ 1000) (hv : v_W d T S A K) (hW : c_W w t T S A K N sd) (h : Int32) (hh : ¬ i_H T.2.2.1 h) (b : Int32) : am_Go 72 (0, [.ref 2, .int h, .int b], [], w, 0, 0) (fun res w' => res = some (.int (-1)) ∧ c_W w' t T S A K N sd ∧ am_same (rg 2 131) w w') := by
  have hM : am_P[72]? = some zm_X10_swap := rfl
  have hn6 : T.2.2.1 ≤ 6 := hv.1.1.1
  have hvT := hv.1.1
  have hvS := hv.2.1.1
  have hdy := hv.2.1.2.1
  obtain ⟨f1, kb1, bl1, bo1, rc1, fr1, se1, oo1_2, oo1_3, oo1_5, oo1_11, oo1_16, oo1_20, oo1_78, oo1_88, oo1_92, oo1_100, oo1_118⟩ := hW.obs
  refine ar_aload_n (pc' := 1) hM rfl rfl rfl ?_
  refine ar_iload_n (pc' := 2) hM rfl rfl rfl ?_
  refine ar_virtual (pc' := 5) (k3 := 0) (k4 := 0) hM rfl rfl oo1_2 ⟨rfl, (by decide)⟩ rfl rfl (by have h0 := c_isH _ _ _ _ _ _ _ _ hW h; rw [if_neg (fun q => hh ((i_H_iff hn6 _).mp q))] at h0; exact h0) (fun r2 w2 q2 => ?_)
  obtain ⟨rfl, q2w⟩ := q2
  rw [q2w]
  show am_Go 72 (5, [.ref 2, .int h, .int b], [.int 0], w, 0, 0) _
  refine ar_if_eq (pc' := 8) hM rfl rfl (fun _ => ?_) (fun q => absurd (by decide) q)
  refine ar_iconst (x := (-1)) (pc' := 17) hM rfl (by decide) rfl ?_
  refine ar_ireturn hM rfl (Or.inl rfl) ?_
  exact ⟨rfl, hW, am_same.rf⟩
set_option maxRecDepth 100000 in
set_option maxHeartbeats 4000000 in
theorem f_swapM (w : am_W) (t : Nat × (Nat → Int32)) (T : p_D) (S : s_S) (A : List s_S) (K : Nat → Option s_S) (N : x_N) (sd : Int64) (d : Nat) (hd : d ≤ 1000) (hv : v_W d T S A K) (hW : c_W w t T S A K N sd) (k : Nat) (hk : k < T.2.2.1) (h : Int32) (hh : ¬ i_H T.2.2.1 h) : am_Go 72 (0, [.ref 2, .int (nI k), .int h], [], w, 0, 0) (fun res w' => res = some (.int (-1)) ∧ c_W w' t T S A K N sd ∧ am_same (rg 2 131) w w') := by
  have hM : am_P[72]? = some zm_X10_swap := rfl
  have hn6 : T.2.2.1 ≤ 6 := hv.1.1.1
  have hvT := hv.1.1
  have hvS := hv.2.1.1
  have hdy := hv.2.1.2.1
  obtain ⟨f1, kb1, bl1, bo1, rc1, fr1, se1, oo1_2, oo1_3, oo1_5, oo1_11, oo1_16, oo1_20, oo1_78, oo1_88, oo1_92, oo1_100, oo1_118⟩ := hW.obs
  refine ar_aload_n (pc' := 1) hM rfl rfl rfl ?_
  refine ar_iload_n (pc' := 2) hM rfl rfl rfl ?_
  refine ar_virtual (pc' := 5) (k3 := 0) (k4 := 0) hM rfl rfl oo1_2 ⟨rfl, (by decide)⟩ rfl rfl (by have h0 := c_isH _ _ _ _ _ _ _ _ hW (nI k); rw [if_pos ((i_H_iff hn6 _).mpr ⟨k, hk, rfl⟩)] at h0; exact h0) (fun r2 w2 q2 => ?_)
  obtain ⟨rfl, q2w⟩ := q2
  rw [q2w]
  show am_Go 72 (5, [.ref 2, .int (nI k), .int h], [.int 1], w, 0, 0) _
  refine ar_if_eq (pc' := 8) hM rfl rfl (fun q => absurd q (by decide)) (fun _ => ?_)
  refine ar_aload_n (pc' := 9) hM rfl rfl rfl ?_
  refine ar_iload_n (pc' := 10) hM rfl rfl rfl ?_
  refine ar_virtual (pc' := 13) (k3 := 0) (k4 := 0) hM rfl rfl oo1_2 ⟨rfl, (by decide)⟩ rfl rfl (by have h0 := c_isH _ _ _ _ _ _ _ _ hW h; rw [if_neg (fun q => hh ((i_H_iff hn6 _).mp q))] at h0; exact h0) (fun r10 w10 q10 => ?_)
  obtain ⟨rfl, q10w⟩ := q10
  rw [q10w]
  show am_Go 72 (13, [.ref 2, .int (nI k), .int h], [.int 0], w, 0, 0) _
  refine ar_if_ne (pc' := 16) hM rfl rfl (fun q => absurd (by decide) q) (fun _ => ?_)
  refine ar_iconst (x := (-1)) (pc' := 17) hM rfl (by decide) rfl ?_
  refine ar_ireturn hM rfl (Or.inl rfl) ?_
  exact ⟨rfl, hW, am_same.rf⟩
set_option maxRecDepth 100000 in
set_option maxHeartbeats 4000000 in
theorem f_swapE (w : am_W) (t : Nat × (Nat → Int32)) (T : p_D) (S : s_S) (A : List s_S) (K : Nat → Option s_S) (N : x_N) (sd : Int64) (d : Nat) (hd : d ≤ 1000) (hv : v_W d T S A K) (hW : c_W w t T S A K N sd) (k : Nat) (hk : k < T.2.2.1) : am_Go 72 (0, [.ref 2, .int (nI k), .int (nI k)], [], w, 0, 0) (fun res w' => res = some (.int (-2)) ∧ c_W w' t T S A K N sd ∧ am_same (rg 2 131) w w') := by
  have hM : am_P[72]? = some zm_X10_swap := rfl
  have hn6 : T.2.2.1 ≤ 6 := hv.1.1.1
  have hvT := hv.1.1
  have hvS := hv.2.1.1
  have hdy := hv.2.1.2.1
  obtain ⟨f1, kb1, bl1, bo1, rc1, fr1, se1, oo1_2, oo1_3, oo1_5, oo1_11, oo1_16, oo1_20, oo1_78, oo1_88, oo1_92, oo1_100, oo1_118⟩ := hW.obs
  refine ar_aload_n (pc' := 1) hM rfl rfl rfl ?_
  refine ar_iload_n (pc' := 2) hM rfl rfl rfl ?_
  refine ar_virtual (pc' := 5) (k3 := 0) (k4 := 0) hM rfl rfl oo1_2 ⟨rfl, (by decide)⟩ rfl rfl (by have h0 := c_isH _ _ _ _ _ _ _ _ hW (nI k); rw [if_pos ((i_H_iff hn6 _).mpr ⟨k, hk, rfl⟩)] at h0; exact h0) (fun r2 w2 q2 => ?_)
  obtain ⟨rfl, q2w⟩ := q2
  rw [q2w]
  show am_Go 72 (5, [.ref 2, .int (nI k), .int (nI k)], [.int 1], w, 0, 0) _
  refine ar_if_eq (pc' := 8) hM rfl rfl (fun q => absurd q (by decide)) (fun _ => ?_)
  refine ar_aload_n (pc' := 9) hM rfl rfl rfl ?_
  refine ar_iload_n (pc' := 10) hM rfl rfl rfl ?_
  refine ar_virtual (pc' := 13) (k3 := 0) (k4 := 0) hM rfl rfl oo1_2 ⟨rfl, (by decide)⟩ rfl rfl (by have h0 := c_isH _ _ _ _ _ _ _ _ hW (nI k); rw [if_pos ((i_H_iff hn6 _).mpr ⟨k, hk, rfl⟩)] at h0; exact h0) (fun r10 w10 q10 => ?_)
  obtain ⟨rfl, q10w⟩ := q10
  rw [q10w]
  show am_Go 72 (13, [.ref 2, .int (nI k), .int (nI k)], [.int 1], w, 0, 0) _
  refine ar_if_ne (pc' := 16) hM rfl rfl (fun _ => ?_) (fun q => absurd q (by decide))
  refine ar_iload_n (pc' := 19) hM rfl rfl rfl ?_
  refine ar_iload_n (pc' := 20) hM rfl rfl rfl ?_
  refine ar_icmp_ne (pc' := 23) hM rfl rfl (fun q => absurd rfl q) (fun _ => ?_)
  refine ar_bipush (x := (-2)) (pc' := 25) hM rfl (by decide) rfl ?_
  refine ar_ireturn hM rfl (Or.inl rfl) ?_
  exact ⟨rfl, hW, am_same.rf⟩
set_option maxRecDepth 100000 in
set_option maxHeartbeats 4000000 in
theorem f_swap (w : am_W) (t : Nat × (Nat → Int32)) (T : p_D) (S : s_S) (A : List s_S) (K : Nat → Option s_S) (N : x_N) (sd : Int64) (d : Nat) (hd : d ≤ 1000) (hv : v_W d T S A K) (hW : c_W w t T S A K N sd) (k : Nat) (hk : k < T.2.2.1) (j : Nat) (hj : j < T.2.2.1) (hkj : k ≠ j) : am_Go 72 (0, [.ref 2, .int (nI k), .int (nI j)], [], w, 0, 0) (fun res w' => res = some (.int (nI ((m_swap S k j).2.1 k))) ∧ c_W w' t T (m_swap S k j) ((S :: A).take 14) K N sd ∧ am_same (rg 2 131) w w') := by
  have hM : am_P[72]? = some zm_X10_swap := rfl
  have hn6 : T.2.2.1 ≤ 6 := hv.1.1.1
  have hvT := hv.1.1
  have hvS := hv.2.1.1
  have hdy := hv.2.1.2.1
  obtain ⟨f1, kb1, bl1, bo1, rc1, fr1, se1, oo1_2, oo1_3, oo1_5, oo1_11, oo1_16, oo1_20, oo1_78, oo1_88, oo1_92, oo1_100, oo1_118⟩ := hW.obs
  refine ar_aload_n (pc' := 1) hM rfl rfl rfl ?_
  refine ar_iload_n (pc' := 2) hM rfl rfl rfl ?_
  refine ar_virtual (pc' := 5) (k3 := 0) (k4 := 0) hM rfl rfl oo1_2 ⟨rfl, (by decide)⟩ rfl rfl (by have h0 := c_isH _ _ _ _ _ _ _ _ hW (nI k); rw [if_pos ((i_H_iff hn6 _).mpr ⟨k, hk, rfl⟩)] at h0; exact h0) (fun r2 w2 q2 => ?_)
  obtain ⟨rfl, q2w⟩ := q2
  rw [q2w]
  show am_Go 72 (5, [.ref 2, .int (nI k), .int (nI j)], [.int 1], w, 0, 0) _
  refine ar_if_eq (pc' := 8) hM rfl rfl (fun q => absurd q (by decide)) (fun _ => ?_)
  refine ar_aload_n (pc' := 9) hM rfl rfl rfl ?_
  refine ar_iload_n (pc' := 10) hM rfl rfl rfl ?_
  refine ar_virtual (pc' := 13) (k3 := 0) (k4 := 0) hM rfl rfl oo1_2 ⟨rfl, (by decide)⟩ rfl rfl (by have h0 := c_isH _ _ _ _ _ _ _ _ hW (nI j); rw [if_pos ((i_H_iff hn6 _).mpr ⟨j, hj, rfl⟩)] at h0; exact h0) (fun r10 w10 q10 => ?_)
  obtain ⟨rfl, q10w⟩ := q10
  rw [q10w]
  show am_Go 72 (13, [.ref 2, .int (nI k), .int (nI j)], [.int 1], w, 0, 0) _
  refine ar_if_ne (pc' := 16) hM rfl rfl (fun _ => ?_) (fun q => absurd q (by decide))
  refine ar_iload_n (pc' := 19) hM rfl rfl rfl ?_
  refine ar_iload_n (pc' := 20) hM rfl rfl rfl ?_
  refine ar_icmp_ne (pc' := 23) hM rfl rfl (fun _ => ?_) (fun q => absurd q (fun q => hkj ((nI_eq (by omega) (by omega)).mp q)))
  refine ar_aload_n (pc' := 27) hM rfl rfl rfl ?_
  refine ar_getfield (pc' := 30) hM rfl oo1_2 rfl rfl ?_
  refine ar_aload_n (pc' := 31) hM rfl rfl rfl ?_
  refine ar_getfield (pc' := 34) hM rfl oo1_2 rfl rfl ?_
  refine ar_virtual (pc' := 37) (k3 := 0) (k4 := 0) hM rfl rfl oo1_20 ⟨rfl, (by decide)⟩ rfl rfl (k_remember _ _ A S hW.A hW.S hn6) (fun r34 w34 q34 => ?_)
  obtain ⟨rfl, hAq34, q34s⟩ := q34
  have hW2 : c_W w34 t T S ((S :: A).take 14) K N sd := hW.sA q34s hAq34
  have hsm2 : am_same (rg 2 131) w w34 := (am_same.rf).tr (q34s.mono (fun b hb => by unfold rg at *; omega))
  obtain ⟨f3, kb3, bl3, bo3, rc3, fr3, se3, oo3_2, oo3_3, oo3_5, oo3_11, oo3_16, oo3_20, oo3_78, oo3_88, oo3_92, oo3_100, oo3_118⟩ := hW2.obs
  show am_Go 72 (37, [.ref 2, .int (nI k), .int (nI j)], [], w34, 0, 0) _
  refine ar_aload_n (pc' := 38) hM rfl rfl rfl ?_
  refine ar_getfield (pc' := 41) hM rfl oo3_2 rfl rfl ?_
  refine ar_iload_n (pc' := 42) hM rfl rfl rfl ?_
  refine ar_iload_n (pc' := 43) hM rfl rfl rfl ?_
  refine ar_virtual (pc' := 46) (k3 := 0) (k4 := 0) hM rfl rfl oo3_16 ⟨rfl, (by decide)⟩ rfl rfl (k_exchange _ 16 _ S hvS hW2.S hn6 (by decide) k j hk hj) (fun r43 w43 q43 => ?_)
  obtain ⟨rfl, hx, q43s⟩ := q43
  have hvS2 := m_swap_v hn6 hvS hk hj
  have hW4 : c_W w43 t T (m_swap S k j) ((S :: A).take 14) K N sd := hW2.sS q43s hx
  have hsm4 : am_same (rg 2 131) w w43 := (hsm2).tr (q43s.mono (fun b hb => by unfold rg at *; omega))
  obtain ⟨f5, kb5, bl5, bo5, rc5, fr5, se5, oo5_2, oo5_3, oo5_5, oo5_11, oo5_16, oo5_20, oo5_78, oo5_88, oo5_92, oo5_100, oo5_118⟩ := hW4.obs
  show am_Go 72 (46, [.ref 2, .int (nI k), .int (nI j)], [], w43, 0, 0) _
  refine ar_aload_n (pc' := 47) hM rfl rfl rfl ?_
  refine ar_getfield (pc' := 50) hM rfl oo5_2 rfl rfl ?_
  refine ar_iload_n (pc' := 51) hM rfl rfl rfl ?_
  refine ar_virtual (pc' := 54) (k3 := 0) (k4 := 0) hM rfl rfl oo5_16 ⟨rfl, (by decide)⟩ rfl rfl (k_placeOf _ 16 _ (m_swap S k j) hvS2 hW4.S hn6 (by decide) k hk) (fun r51 w51 q51 => ?_)
  obtain ⟨rfl, q51w⟩ := q51
  rw [q51w]
  show am_Go 72 (54, [.ref 2, .int (nI k), .int (nI j)], [.int (nI ((m_swap S k j).2.1 k))], w43, 0, 0) _
  refine ar_ireturn hM rfl (Or.inl rfl) ?_
  exact ⟨rfl, hW4, hsm4⟩
set_option maxRecDepth 100000 in
set_option maxHeartbeats 4000000 in
theorem f_saltN (w : am_W) (t : Nat × (Nat → Int32)) (T : p_D) (S : s_S) (A : List s_S) (K : Nat → Option s_S) (N : x_N) (sd : Int64) (d : Nat) (hd : d ≤ 1000) (hv : v_W d T S A K) (hW : c_W w t T S A K N sd) (h : Int32) (hh : ¬ i_H T.2.2.1 h) : am_Go 73 (0, [.ref 2, .int h], [], w, 0, 0) (fun res w' => res = some (.int (-1)) ∧ c_W w' t T S A K N sd ∧ am_same (rg 2 131) w w') := by
  have hM : am_P[73]? = some zm_X10_salt := rfl
  have hn6 : T.2.2.1 ≤ 6 := hv.1.1.1
  have hvT := hv.1.1
  have hvS := hv.2.1.1
  have hdy := hv.2.1.2.1
  obtain ⟨f1, kb1, bl1, bo1, rc1, fr1, se1, oo1_2, oo1_3, oo1_5, oo1_11, oo1_16, oo1_20, oo1_78, oo1_88, oo1_92, oo1_100, oo1_118⟩ := hW.obs
  refine ar_aload_n (pc' := 1) hM rfl rfl rfl ?_
  refine ar_iload_n (pc' := 2) hM rfl rfl rfl ?_
  refine ar_virtual (pc' := 5) (k3 := 0) (k4 := 0) hM rfl rfl oo1_2 ⟨rfl, (by decide)⟩ rfl rfl (by have h0 := c_isH _ _ _ _ _ _ _ _ hW h; rw [if_neg (fun q => hh ((i_H_iff hn6 _).mp q))] at h0; exact h0) (fun r2 w2 q2 => ?_)
  obtain ⟨rfl, q2w⟩ := q2
  rw [q2w]
  show am_Go 73 (5, [.ref 2, .int h], [.int 0], w, 0, 0) _
  refine ar_if_ne (pc' := 8) hM rfl rfl (fun q => absurd (by decide) q) (fun _ => ?_)
  refine ar_iconst (x := (-1)) (pc' := 9) hM rfl (by decide) rfl ?_
  refine ar_ireturn hM rfl (Or.inl rfl) ?_
  exact ⟨rfl, hW, am_same.rf⟩
set_option maxRecDepth 100000 in
set_option maxHeartbeats 4000000 in
theorem f_saltS (w : am_W) (t : Nat × (Nat → Int32)) (T : p_D) (S : s_S) (A : List s_S) (K : Nat → Option s_S) (N : x_N) (sd : Int64) (d : Nat) (hd : d ≤ 1000) (hv : v_W d T S A K) (hW : c_W w t T S A K N sd) (k : Nat) (hk : k < T.2.2.1) (hb : (S.2.2.2.2.1 >>> (nI k &&& 31)) &&& 1 = 1) : am_Go 73 (0, [.ref 2, .int (nI k)], [], w, 0, 0) (fun res w' => res = some (.int (-3)) ∧ c_W w' t T S A K N sd ∧ am_same (rg 2 131) w w') := by
  have hM : am_P[73]? = some zm_X10_salt := rfl
  have hn6 : T.2.2.1 ≤ 6 := hv.1.1.1
  have hvT := hv.1.1
  have hvS := hv.2.1.1
  have hdy := hv.2.1.2.1
  obtain ⟨f1, kb1, bl1, bo1, rc1, fr1, se1, oo1_2, oo1_3, oo1_5, oo1_11, oo1_16, oo1_20, oo1_78, oo1_88, oo1_92, oo1_100, oo1_118⟩ := hW.obs
  refine ar_aload_n (pc' := 1) hM rfl rfl rfl ?_
  refine ar_iload_n (pc' := 2) hM rfl rfl rfl ?_
  refine ar_virtual (pc' := 5) (k3 := 0) (k4 := 0) hM rfl rfl oo1_2 ⟨rfl, (by decide)⟩ rfl rfl (by have h0 := c_isH _ _ _ _ _ _ _ _ hW (nI k); rw [if_pos ((i_H_iff hn6 _).mpr ⟨k, hk, rfl⟩)] at h0; exact h0) (fun r2 w2 q2 => ?_)
  obtain ⟨rfl, q2w⟩ := q2
  rw [q2w]
  show am_Go 73 (5, [.ref 2, .int (nI k)], [.int 1], w, 0, 0) _
  refine ar_if_ne (pc' := 8) hM rfl rfl (fun _ => ?_) (fun q => absurd q (by decide))
  refine ar_aload_n (pc' := 11) hM rfl rfl rfl ?_
  refine ar_getfield (pc' := 14) hM rfl oo1_2 rfl rfl ?_
  refine ar_iload_n (pc' := 15) hM rfl rfl rfl ?_
  refine ar_virtual (pc' := 18) (k3 := 0) (k4 := 0) hM rfl rfl oo1_16 ⟨rfl, (by decide)⟩ rfl rfl (by obtain ⟨so, ss, sl, g0, g1, g2, g3, -⟩ := hW.S; have h0 := c_isSalted _ 16 (by decide) so ss sl _ _ _ g0 g1 g2 g3 (nI k); rw [if_pos hb] at h0; exact h0) (fun r15 w15 q15 => ?_)
  obtain ⟨rfl, q15w⟩ := q15
  rw [q15w]
  show am_Go 73 (18, [.ref 2, .int (nI k)], [.int 1], w, 0, 0) _
  refine ar_if_eq (pc' := 21) hM rfl rfl (fun q => absurd q (by decide)) (fun _ => ?_)
  refine ar_bipush (x := (-3)) (pc' := 23) hM rfl (by decide) rfl ?_
  refine ar_ireturn hM rfl (Or.inl rfl) ?_
  exact ⟨rfl, hW, am_same.rf⟩
set_option maxRecDepth 100000 in
set_option maxHeartbeats 4000000 in
theorem f_salt (w : am_W) (t : Nat × (Nat → Int32)) (T : p_D) (S : s_S) (A : List s_S) (K : Nat → Option s_S) (N : x_N) (sd : Int64) (d : Nat) (hd : d ≤ 1000) (hv : v_W d T S A K) (hW : c_W w t T S A K N sd) (k : Nat) (hk : k < T.2.2.1) (hb : ¬ (S.2.2.2.2.1 >>> (nI k &&& 31)) &&& 1 = 1) : am_Go 73 (0, [.ref 2, .int (nI k)], [], w, 0, 0) (fun res w' => res = some (.int (m_wt T (m_salt S (nI k)) 0 k)) ∧ c_W w' t T (m_salt S (nI k)) ((S :: A).take 14) K N sd ∧ am_same (rg 2 131) w w') := by
  have hM : am_P[73]? = some zm_X10_salt := rfl
  have hn6 : T.2.2.1 ≤ 6 := hv.1.1.1
  have hvT := hv.1.1
  have hvS := hv.2.1.1
  have hdy := hv.2.1.2.1
  obtain ⟨f1, kb1, bl1, bo1, rc1, fr1, se1, oo1_2, oo1_3, oo1_5, oo1_11, oo1_16, oo1_20, oo1_78, oo1_88, oo1_92, oo1_100, oo1_118⟩ := hW.obs
  refine ar_aload_n (pc' := 1) hM rfl rfl rfl ?_
  refine ar_iload_n (pc' := 2) hM rfl rfl rfl ?_
  refine ar_virtual (pc' := 5) (k3 := 0) (k4 := 0) hM rfl rfl oo1_2 ⟨rfl, (by decide)⟩ rfl rfl (by have h0 := c_isH _ _ _ _ _ _ _ _ hW (nI k); rw [if_pos ((i_H_iff hn6 _).mpr ⟨k, hk, rfl⟩)] at h0; exact h0) (fun r2 w2 q2 => ?_)
  obtain ⟨rfl, q2w⟩ := q2
  rw [q2w]
  show am_Go 73 (5, [.ref 2, .int (nI k)], [.int 1], w, 0, 0) _
  refine ar_if_ne (pc' := 8) hM rfl rfl (fun _ => ?_) (fun q => absurd q (by decide))
  refine ar_aload_n (pc' := 11) hM rfl rfl rfl ?_
  refine ar_getfield (pc' := 14) hM rfl oo1_2 rfl rfl ?_
  refine ar_iload_n (pc' := 15) hM rfl rfl rfl ?_
  refine ar_virtual (pc' := 18) (k3 := 0) (k4 := 0) hM rfl rfl oo1_16 ⟨rfl, (by decide)⟩ rfl rfl (by obtain ⟨so, ss, sl, g0, g1, g2, g3, -⟩ := hW.S; have h0 := c_isSalted _ 16 (by decide) so ss sl _ _ _ g0 g1 g2 g3 (nI k); rw [if_neg hb] at h0; exact h0) (fun r15 w15 q15 => ?_)
  obtain ⟨rfl, q15w⟩ := q15
  rw [q15w]
  show am_Go 73 (18, [.ref 2, .int (nI k)], [.int 0], w, 0, 0) _
  refine ar_if_eq (pc' := 21) hM rfl rfl (fun _ => ?_) (fun q => absurd (by decide) q)
  refine ar_aload_n (pc' := 25) hM rfl rfl rfl ?_
  refine ar_getfield (pc' := 28) hM rfl oo1_2 rfl rfl ?_
  refine ar_aload_n (pc' := 29) hM rfl rfl rfl ?_
  refine ar_getfield (pc' := 32) hM rfl oo1_2 rfl rfl ?_
  refine ar_virtual (pc' := 35) (k3 := 0) (k4 := 0) hM rfl rfl oo1_20 ⟨rfl, (by decide)⟩ rfl rfl (k_remember _ _ A S hW.A hW.S hn6) (fun r32 w32 q32 => ?_)
  obtain ⟨rfl, hAq32, q32s⟩ := q32
  have hW2 : c_W w32 t T S ((S :: A).take 14) K N sd := hW.sA q32s hAq32
  have hsm2 : am_same (rg 2 131) w w32 := (am_same.rf).tr (q32s.mono (fun b hb => by unfold rg at *; omega))
  obtain ⟨f3, kb3, bl3, bo3, rc3, fr3, se3, oo3_2, oo3_3, oo3_5, oo3_11, oo3_16, oo3_20, oo3_78, oo3_88, oo3_92, oo3_100, oo3_118⟩ := hW2.obs
  show am_Go 73 (35, [.ref 2, .int (nI k)], [], w32, 0, 0) _
  refine ar_aload_n (pc' := 36) hM rfl rfl rfl ?_
  refine ar_getfield (pc' := 39) hM rfl oo3_2 rfl rfl ?_
  refine ar_iload_n (pc' := 40) hM rfl rfl rfl ?_
  refine ar_virtual (pc' := 43) (k3 := 0) (k4 := 0) hM rfl rfl oo3_16 ⟨rfl, (by decide)⟩ rfl rfl (k_giveSalt _ 16 _ S hW2.S (by decide) (nI k)) (fun r40 w40 q40 => ?_)
  obtain ⟨rfl, hx, q40s⟩ := q40
  have hvS2 : v_S T.2.2.1 (m_salt S (nI k)) := hvS
  have hW4 : c_W w40 t T (m_salt S (nI k)) ((S :: A).take 14) K N sd := hW2.sS q40s hx
  have hsm4 : am_same (rg 2 131) w w40 := (hsm2).tr (q40s.mono (fun b hb => by unfold rg at *; omega))
  obtain ⟨f5, kb5, bl5, bo5, rc5, fr5, se5, oo5_2, oo5_3, oo5_5, oo5_11, oo5_16, oo5_20, oo5_78, oo5_88, oo5_92, oo5_100, oo5_118⟩ := hW4.obs
  show am_Go 73 (43, [.ref 2, .int (nI k)], [], w40, 0, 0) _
  refine ar_aload_n (pc' := 44) hM rfl rfl rfl ?_
  refine ar_getfield (pc' := 47) hM rfl oo5_2 rfl rfl ?_
  refine ar_aload_n (pc' := 48) hM rfl rfl rfl ?_
  refine ar_getfield (pc' := 51) hM rfl oo5_2 rfl rfl ?_
  refine ar_aload_n (pc' := 52) hM rfl rfl rfl ?_
  refine ar_getfield (pc' := 55) hM rfl oo5_2 rfl rfl ?_
  refine ar_virtual (pc' := 58) (k3 := 0) (k4 := 0) hM rfl rfl oo5_92 ⟨rfl, (by decide)⟩ rfl rfl (k_lookAt _ 92 11 16 T (m_salt S (nI k)) hvT hvS2 hW4.T hW4.S hW4.D (by decide) (by decide) (by decide) (by omega) (by omega) (by omega)) (fun r55 w55 q55 => ?_)
  obtain ⟨rfl, hL6, q55s⟩ := q55
  have hW7 : c_W w55 t T (m_salt S (nI k)) ((S :: A).take 14) K N sd := hW4.sD q55s hL6.d
  have hsm7 : am_same (rg 2 131) w w55 := (hsm4).tr (q55s.mono (fun b hb => by unfold rg at *; omega))
  obtain ⟨f8, kb8, bl8, bo8, rc8, fr8, se8, oo8_2, oo8_3, oo8_5, oo8_11, oo8_16, oo8_20, oo8_78, oo8_88, oo8_92, oo8_100, oo8_118⟩ := hW7.obs
  show am_Go 73 (58, [.ref 2, .int (nI k)], [], w55, 0, 0) _
  obtain ⟨dw9, ds9, dg9, dd9, dl9, df9, dv9, ⟨hd9_0, hd9_1, hd9_2, hd9_3, hd9_4, hd9_5, hd9_6, hd9_7⟩, hdl9⟩ := id hL6
  refine ar_aload_n (pc' := 59) hM rfl rfl rfl ?_
  refine ar_getfield (pc' := 62) hM rfl oo8_2 rfl rfl ?_
  refine ar_getfield (pc' := 65) hM rfl oo8_92 rfl rfl ?_
  refine ar_iload_n (pc' := 66) hM rfl rfl rfl ?_
  refine ar_ialoadN (j := k) (pc' := 67) hM rfl hd9_1 rfl (by omega) (Nat.le_of_ble_eq_true rfl) rfl ?_
  refine ar_ireturn hM rfl (Or.inl rfl) ?_
  exact ⟨by rw [(hdl9 k hk).1], hW7, hsm7⟩
set_option maxRecDepth 100000 in
set_option maxHeartbeats 4000000 in
theorem f_awayN (w : am_W) (t : Nat × (Nat → Int32)) (T : p_D) (S : s_S) (A : List s_S) (K : Nat → Option s_S) (N : x_N) (sd : Int64) (d : Nat) (hd : d ≤ 1000) (hv : v_W d T S A K) (hW : c_W w t T S A K N sd) (h : Int32) (hh : ¬ i_H T.2.2.1 h) : am_Go 74 (0, [.ref 2, .int h], [], w, 0, 0) (fun res w' => res = some (.int (-1)) ∧ c_W w' t T S A K N sd ∧ am_same (rg 2 131) w w') := by
  have hM : am_P[74]? = some zm_X10_away := rfl
  have hn6 : T.2.2.1 ≤ 6 := hv.1.1.1
  have hvT := hv.1.1
  have hvS := hv.2.1.1
  have hdy := hv.2.1.2.1
  obtain ⟨f1, kb1, bl1, bo1, rc1, fr1, se1, oo1_2, oo1_3, oo1_5, oo1_11, oo1_16, oo1_20, oo1_78, oo1_88, oo1_92, oo1_100, oo1_118⟩ := hW.obs
  refine ar_aload_n (pc' := 1) hM rfl rfl rfl ?_
  refine ar_iload_n (pc' := 2) hM rfl rfl rfl ?_
  refine ar_virtual (pc' := 5) (k3 := 0) (k4 := 0) hM rfl rfl oo1_2 ⟨rfl, (by decide)⟩ rfl rfl (by have h0 := c_isH _ _ _ _ _ _ _ _ hW h; rw [if_neg (fun q => hh ((i_H_iff hn6 _).mp q))] at h0; exact h0) (fun r2 w2 q2 => ?_)
  obtain ⟨rfl, q2w⟩ := q2
  rw [q2w]
  show am_Go 74 (5, [.ref 2, .int h], [.int 0], w, 0, 0) _
  refine ar_if_ne (pc' := 8) hM rfl rfl (fun q => absurd (by decide) q) (fun _ => ?_)
  refine ar_iconst (x := (-1)) (pc' := 9) hM rfl (by decide) rfl ?_
  refine ar_ireturn hM rfl (Or.inl rfl) ?_
  exact ⟨rfl, hW, am_same.rf⟩
set_option maxRecDepth 100000 in
set_option maxHeartbeats 4000000 in
theorem f_away (w : am_W) (t : Nat × (Nat → Int32)) (T : p_D) (S : s_S) (A : List s_S) (K : Nat → Option s_S) (N : x_N) (sd : Int64) (d : Nat) (hd : d ≤ 1000) (hv : v_W d T S A K) (hW : c_W w t T S A K N sd) (k : Nat) (hk : k < T.2.2.1) : am_Go 74 (0, [.ref 2, .int (nI k)], [], w, 0, 0) (fun res w' => res = some (.int (if ((m_away S (nI k)).2.2.2.2.2.1 >>> (nI k &&& 31)) &&& 1 = 1 then 1 else 0)) ∧ c_W w' t T (m_away S (nI k)) ((S :: A).take 14) K N sd ∧ am_same (rg 2 131) w w') := by
  have hM : am_P[74]? = some zm_X10_away := rfl
  have hn6 : T.2.2.1 ≤ 6 := hv.1.1.1
  have hvT := hv.1.1
  have hvS := hv.2.1.1
  have hdy := hv.2.1.2.1
  obtain ⟨f1, kb1, bl1, bo1, rc1, fr1, se1, oo1_2, oo1_3, oo1_5, oo1_11, oo1_16, oo1_20, oo1_78, oo1_88, oo1_92, oo1_100, oo1_118⟩ := hW.obs
  refine ar_aload_n (pc' := 1) hM rfl rfl rfl ?_
  refine ar_iload_n (pc' := 2) hM rfl rfl rfl ?_
  refine ar_virtual (pc' := 5) (k3 := 0) (k4 := 0) hM rfl rfl oo1_2 ⟨rfl, (by decide)⟩ rfl rfl (by have h0 := c_isH _ _ _ _ _ _ _ _ hW (nI k); rw [if_pos ((i_H_iff hn6 _).mpr ⟨k, hk, rfl⟩)] at h0; exact h0) (fun r2 w2 q2 => ?_)
  obtain ⟨rfl, q2w⟩ := q2
  rw [q2w]
  show am_Go 74 (5, [.ref 2, .int (nI k)], [.int 1], w, 0, 0) _
  refine ar_if_ne (pc' := 8) hM rfl rfl (fun _ => ?_) (fun q => absurd q (by decide))
  refine ar_aload_n (pc' := 11) hM rfl rfl rfl ?_
  refine ar_getfield (pc' := 14) hM rfl oo1_2 rfl rfl ?_
  refine ar_aload_n (pc' := 15) hM rfl rfl rfl ?_
  refine ar_getfield (pc' := 18) hM rfl oo1_2 rfl rfl ?_
  refine ar_virtual (pc' := 21) (k3 := 0) (k4 := 0) hM rfl rfl oo1_20 ⟨rfl, (by decide)⟩ rfl rfl (k_remember _ _ A S hW.A hW.S hn6) (fun r18 w18 q18 => ?_)
  obtain ⟨rfl, hAq18, q18s⟩ := q18
  have hW2 : c_W w18 t T S ((S :: A).take 14) K N sd := hW.sA q18s hAq18
  have hsm2 : am_same (rg 2 131) w w18 := (am_same.rf).tr (q18s.mono (fun b hb => by unfold rg at *; omega))
  obtain ⟨f3, kb3, bl3, bo3, rc3, fr3, se3, oo3_2, oo3_3, oo3_5, oo3_11, oo3_16, oo3_20, oo3_78, oo3_88, oo3_92, oo3_100, oo3_118⟩ := hW2.obs
  show am_Go 74 (21, [.ref 2, .int (nI k)], [], w18, 0, 0) _
  refine ar_aload_n (pc' := 22) hM rfl rfl rfl ?_
  refine ar_getfield (pc' := 25) hM rfl oo3_2 rfl rfl ?_
  refine ar_iload_n (pc' := 26) hM rfl rfl rfl ?_
  refine ar_virtual (pc' := 29) (k3 := 0) (k4 := 0) hM rfl rfl oo3_16 ⟨rfl, (by decide)⟩ rfl rfl (k_turnAway _ 16 _ S hW2.S (by decide) (nI k)) (fun r26 w26 q26 => ?_)
  obtain ⟨rfl, hx, q26s⟩ := q26
  have hvS2 : v_S T.2.2.1 (m_away S (nI k)) := hvS
  have hW4 : c_W w26 t T (m_away S (nI k)) ((S :: A).take 14) K N sd := hW2.sS q26s hx
  have hsm4 : am_same (rg 2 131) w w26 := (hsm2).tr (q26s.mono (fun b hb => by unfold rg at *; omega))
  obtain ⟨f5, kb5, bl5, bo5, rc5, fr5, se5, oo5_2, oo5_3, oo5_5, oo5_11, oo5_16, oo5_20, oo5_78, oo5_88, oo5_92, oo5_100, oo5_118⟩ := hW4.obs
  show am_Go 74 (29, [.ref 2, .int (nI k)], [], w26, 0, 0) _
  refine ar_aload_n (pc' := 30) hM rfl rfl rfl ?_
  refine ar_getfield (pc' := 33) hM rfl oo5_2 rfl rfl ?_
  refine ar_iload_n (pc' := 34) hM rfl rfl rfl ?_
  refine ar_virtual (pc' := 37) (k3 := 0) (k4 := 0) hM rfl rfl oo5_16 ⟨rfl, (by decide)⟩ rfl rfl (by obtain ⟨so, ss, sl, g0, g1, g2, g3, -⟩ := hW4.S; exact c_isAway _ 16 (by decide) so ss sl _ _ _ g0 g1 g2 g3 (nI k)) (fun r34 w34 q34 => ?_)
  obtain ⟨rfl, q34w⟩ := q34
  rw [q34w]
  show am_Go 74 (37, [.ref 2, .int (nI k)], [.int (if ((m_away S (nI k)).2.2.2.2.2.1 >>> (nI k &&& 31)) &&& 1 = 1 then 1 else 0)], w26, 0, 0) _
  refine ar_if_eq (pc' := 40) hM rfl rfl (fun c37 => ?_) (fun c37 => ?_)
  · refine ar_iconst (x := 0) (pc' := 45) hM rfl (by decide) rfl ?_
    refine ar_ireturn hM rfl (Or.inl rfl) ?_
    exact ⟨by show some (Value.int 0) = some (.int (if _ then 1 else 0)); rw [if_neg (am_eq0 c37)], hW4, hsm4⟩
  · refine ar_iconst (x := 1) (pc' := 41) hM rfl (by decide) rfl ?_
    refine ar_goto hM rfl ?_
    refine ar_ireturn hM rfl (Or.inl rfl) ?_
    exact ⟨by show some (Value.int 1) = some (.int (if _ then 1 else 0)); rw [if_pos (am_ne0 c37)], hW4, hsm4⟩
set_option maxRecDepth 100000 in
set_option maxHeartbeats 4000000 in
theorem f_undo0 (w : am_W) (t : Nat × (Nat → Int32)) (T : p_D) (S : s_S) (A : List s_S) (K : Nat → Option s_S) (N : x_N) (sd : Int64) (d : Nat) (hd : d ≤ 1000) (hv : v_W d T S A K) (hW : c_W w t T S A K N sd) (hA : A = []) : am_Go 75 (0, [.ref 2], [], w, 0, 0) (fun res w' => res = some (.int (-3)) ∧ c_W w' t T S A K N sd ∧ am_same (rg 2 131) w w') := by
  have hM : am_P[75]? = some zm_X10_undo := rfl
  have hn6 : T.2.2.1 ≤ 6 := hv.1.1.1
  have hvT := hv.1.1
  have hvS := hv.2.1.1
  have hdy := hv.2.1.2.1
  obtain ⟨f1, kb1, bl1, bo1, rc1, fr1, se1, oo1_2, oo1_3, oo1_5, oo1_11, oo1_16, oo1_20, oo1_78, oo1_88, oo1_92, oo1_100, oo1_118⟩ := hW.obs
  refine ar_aload_n (pc' := 1) hM rfl rfl rfl ?_
  refine ar_getfield (pc' := 4) hM rfl oo1_2 rfl rfl ?_
  refine ar_aload_n (pc' := 5) hM rfl rfl rfl ?_
  refine ar_getfield (pc' := 8) hM rfl oo1_2 rfl rfl ?_
  refine ar_virtual (pc' := 11) (k3 := 0) (k4 := 0) hM rfl rfl oo1_20 ⟨rfl, (by decide)⟩ rfl rfl (k_takeBack0 _ _ (hA ▸ hW.A)) (fun r8 w8 q8 => ?_)
  obtain ⟨rfl, q8w⟩ := q8
  rw [q8w]
  show am_Go 75 (11, [.ref 2], [.int 0], w, 0, 0) _
  refine ar_if_eq (pc' := 14) hM rfl rfl (fun _ => ?_) (fun q => absurd (by decide) q)
  refine ar_bipush (x := (-3)) (pc' := 26) hM rfl (by decide) rfl ?_
  refine ar_ireturn hM rfl (Or.inl rfl) ?_
  exact ⟨rfl, hW, am_same.rf⟩
set_option maxRecDepth 100000 in
set_option maxHeartbeats 4000000 in
theorem f_undo (w : am_W) (t : Nat × (Nat → Int32)) (T : p_D) (S : s_S) (A : List s_S) (K : Nat → Option s_S) (N : x_N) (sd : Int64) (d : Nat) (hd : d ≤ 1000) (hv : v_W d T S A K) (hW : c_W w t T S A K N sd) (S0 : s_S) (B : List s_S) (hA : A = S0 :: B) : am_Go 75 (0, [.ref 2], [], w, 0, 0) (fun res w' => res = some (.int (nI B.length)) ∧ c_W w' t T S0 B K N sd ∧ am_same (rg 2 131) w w') := by
  have hM : am_P[75]? = some zm_X10_undo := rfl
  have hn6 : T.2.2.1 ≤ 6 := hv.1.1.1
  have hvT := hv.1.1
  have hvS := hv.2.1.1
  have hdy := hv.2.1.2.1
  obtain ⟨f1, kb1, bl1, bo1, rc1, fr1, se1, oo1_2, oo1_3, oo1_5, oo1_11, oo1_16, oo1_20, oo1_78, oo1_88, oo1_92, oo1_100, oo1_118⟩ := hW.obs
  refine ar_aload_n (pc' := 1) hM rfl rfl rfl ?_
  refine ar_getfield (pc' := 4) hM rfl oo1_2 rfl rfl ?_
  refine ar_aload_n (pc' := 5) hM rfl rfl rfl ?_
  refine ar_getfield (pc' := 8) hM rfl oo1_2 rfl rfl ?_
  refine ar_virtual (pc' := 11) (k3 := 0) (k4 := 0) hM rfl rfl oo1_20 ⟨rfl, (by decide)⟩ rfl rfl (k_takeBack _ _ B S S0 (hA ▸ hW.A) hW.S hn6) (fun r8 w8 q8 => ?_)
  obtain ⟨rfl, hx, hy, q8s⟩ := q8
  have hW2 : c_W w8 t T S0 B K N sd := hW.sSA q8s hx hy
  have hsm2 : am_same (rg 2 131) w w8 := (am_same.rf).tr (q8s.mono (fun b hb => by unfold rg at *; omega))
  obtain ⟨f3, kb3, bl3, bo3, rc3, fr3, se3, oo3_2, oo3_3, oo3_5, oo3_11, oo3_16, oo3_20, oo3_78, oo3_88, oo3_92, oo3_100, oo3_118⟩ := hW2.obs
  show am_Go 75 (11, [.ref 2], [.int 1], w8, 0, 0) _
  refine ar_if_eq (pc' := 14) hM rfl rfl (fun q => absurd q (by decide)) (fun _ => ?_)
  refine ar_aload_n (pc' := 15) hM rfl rfl rfl ?_
  refine ar_getfield (pc' := 18) hM rfl oo3_2 rfl rfl ?_
  refine ar_getfield (pc' := 21) hM rfl oo3_20 rfl rfl ?_
  refine ar_goto hM rfl ?_
  refine ar_ireturn hM rfl (Or.inl rfl) ?_
  exact ⟨rfl, hW2, hsm2⟩
set_option maxRecDepth 100000 in
set_option maxHeartbeats 4000000 in
theorem f_aheadO (w : am_W) (t : Nat × (Nat → Int32)) (T : p_D) (S : s_S) (A : List s_S) (K : Nat → Option s_S) (N : x_N) (sd : Int64) (d : Nat) (hd : d ≤ 1000) (hv : v_W d T S A K) (hW : c_W w t T S A K N sd) (a b : Int32) (hno : ¬ ((0 ≤ a ∧ a ≤ 20) ∧ 0 ≤ b ∧ b ≤ 1)) : am_Go 76 (0, [.ref 2, .int a, .int b], [], w, 0, 0) (fun res w' => res = some (.int (-2)) ∧ c_W w' t T S A K N sd ∧ am_same (rg 2 131) w w') := by
  have hM : am_P[76]? = some zm_X10_ahead := rfl
  have hn6 : T.2.2.1 ≤ 6 := hv.1.1.1
  have hvT := hv.1.1
  have hvS := hv.2.1.1
  have hdy := hv.2.1.2.1
  obtain ⟨f1, kb1, bl1, bo1, rc1, fr1, se1, oo1_2, oo1_3, oo1_5, oo1_11, oo1_16, oo1_20, oo1_78, oo1_88, oo1_92, oo1_100, oo1_118⟩ := hW.obs
  refine ar_iload_n (pc' := 1) hM rfl rfl rfl ?_
  refine ar_iconst (x := 0) (pc' := 2) hM rfl (by decide) rfl ?_
  refine ar_bipush (x := 20) (pc' := 4) hM rfl (by decide) rfl ?_
  refine ar_static (pc' := 7) (k3 := 0) (k4 := 0) hM rfl (by decide) rfl rfl (c_within _ _ _ _) (fun r4 w4 q4 => ?_)
  obtain ⟨rfl, q4w⟩ := q4
  rw [q4w]
  show am_Go 76 (7, [.ref 2, .int a, .int b], [.int (if 0 ≤ a ∧ a ≤ 20 then 1 else 0)], w, 0, 0) _
  refine ar_if_eq (pc' := 10) hM rfl rfl (fun c7 => ?_) (fun c7 => ?_)
  · refine ar_bipush (x := (-2)) (pc' := 21) hM rfl (by decide) rfl ?_
    refine ar_ireturn hM rfl (Or.inl rfl) ?_
    exact ⟨rfl, hW, am_same.rf⟩
  · refine ar_iload_n (pc' := 11) hM rfl rfl rfl ?_
    refine ar_iconst (x := 0) (pc' := 12) hM rfl (by decide) rfl ?_
    refine ar_iconst (x := 1) (pc' := 13) hM rfl (by decide) rfl ?_
    refine ar_static (pc' := 16) (k3 := 0) (k4 := 0) hM rfl (by decide) rfl rfl (c_within _ _ _ _) (fun r13 w13 q13 => ?_)
    obtain ⟨rfl, q13w⟩ := q13
    rw [q13w]
    show am_Go 76 (16, [.ref 2, .int a, .int b], [.int (if 0 ≤ b ∧ b ≤ 1 then 1 else 0)], w, 0, 0) _
    refine ar_if_ne (pc' := 19) hM rfl rfl (fun c16 => ?_) (fun c16 => ?_)
    · exact absurd ⟨am_ne0 c7, am_ne0 c16⟩ hno
    · refine ar_bipush (x := (-2)) (pc' := 21) hM rfl (by decide) rfl ?_
      refine ar_ireturn hM rfl (Or.inl rfl) ?_
      exact ⟨rfl, hW, am_same.rf⟩
set_option maxRecDepth 100000 in
set_option maxHeartbeats 4000000 in
theorem f_ahead0 (w : am_W) (t : Nat × (Nat → Int32)) (T : p_D) (S : s_S) (A : List s_S) (K : Nat → Option s_S) (N : x_N) (sd : Int64) (d : Nat) (hd : d ≤ 1000) (hv : v_W d T S A K) (hW : c_W w t T S A K N sd) (k : Nat) (hk : k ≤ 20) : am_Go 76 (0, [.ref 2, .int (nI k), .int 0], [], w, 0, 0) (fun res w' => res = some (.int (m_tot T S 0 k)) ∧ c_W w' t T S A K N sd ∧ am_same (rg 2 131) w w') := by
  have hM : am_P[76]? = some zm_X10_ahead := rfl
  have hn6 : T.2.2.1 ≤ 6 := hv.1.1.1
  have hvT := hv.1.1
  have hvS := hv.2.1.1
  have hdy := hv.2.1.2.1
  obtain ⟨f1, kb1, bl1, bo1, rc1, fr1, se1, oo1_2, oo1_3, oo1_5, oo1_11, oo1_16, oo1_20, oo1_78, oo1_88, oo1_92, oo1_100, oo1_118⟩ := hW.obs
  refine ar_iload_n (pc' := 1) hM rfl rfl rfl ?_
  refine ar_iconst (x := 0) (pc' := 2) hM rfl (by decide) rfl ?_
  refine ar_bipush (x := 20) (pc' := 4) hM rfl (by decide) rfl ?_
  refine ar_static (pc' := 7) (k3 := 0) (k4 := 0) hM rfl (by decide) rfl rfl (by have h0 := c_within w (nI k) 0 20; rw [if_pos ⟨nI_le (a := 0) (by omega) (by omega), nI_le (b := 20) (by omega) (by omega)⟩] at h0; exact h0) (fun r4 w4 q4 => ?_)
  obtain ⟨rfl, q4w⟩ := q4
  rw [q4w]
  show am_Go 76 (7, [.ref 2, .int (nI k), .int 0], [.int 1], w, 0, 0) _
  refine ar_if_eq (pc' := 10) hM rfl rfl (fun q => absurd q (by decide)) (fun _ => ?_)
  refine ar_iload_n (pc' := 11) hM rfl rfl rfl ?_
  refine ar_iconst (x := 0) (pc' := 12) hM rfl (by decide) rfl ?_
  refine ar_iconst (x := 1) (pc' := 13) hM rfl (by decide) rfl ?_
  refine ar_static (pc' := 16) (k3 := 0) (k4 := 0) hM rfl (by decide) rfl rfl (by have h0 := c_within w 0 0 1; rw [if_pos (by decide)] at h0; exact h0) (fun r13 w13 q13 => ?_)
  obtain ⟨rfl, q13w⟩ := q13
  rw [q13w]
  show am_Go 76 (16, [.ref 2, .int (nI k), .int 0], [.int 1], w, 0, 0) _
  refine ar_if_ne (pc' := 19) hM rfl rfl (fun _ => ?_) (fun q => absurd q (by decide))
  refine ar_aload_n (pc' := 23) hM rfl rfl rfl ?_
  refine ar_getfield (pc' := 26) hM rfl oo1_2 rfl rfl ?_
  refine ar_aload_n (pc' := 27) hM rfl rfl rfl ?_
  refine ar_getfield (pc' := 30) hM rfl oo1_2 rfl rfl ?_
  refine ar_aload_n (pc' := 31) hM rfl rfl rfl ?_
  refine ar_getfield (pc' := 34) hM rfl oo1_2 rfl rfl ?_
  refine ar_iload_n (pc' := 35) hM rfl rfl rfl ?_
  refine ar_iload_n (pc' := 36) hM rfl rfl rfl ?_
  refine ar_iconst (x := 1) (pc' := 37) hM rfl (by decide) rfl ?_
  refine ar_icmp_ne (pc' := 40) hM rfl rfl (fun _ => ?_) (fun q => absurd q (by decide))
  refine ar_iconst (x := 0) (pc' := 45) hM rfl (by decide) rfl ?_
  refine ar_virtual (pc' := 48) (k3 := 0) (k4 := 0) hM rfl rfl oo1_100 ⟨rfl, (by decide)⟩ rfl rfl (k_inDays _ T S _ _ hvT hvS hW.T hW.S hW.O.2.2.1 hW.O.2.2.2 oo1_100 k (by omega) (by omega) 0) (fun r45 w45 q45 => ?_)
  obtain ⟨rfl, q45s, hr6, hd6⟩ := q45
  have q45t : am_same (rg 100 18) _ _ := q45s.mono (fun b hb => by unfold rg at *; omega)
  have hO2 : c_O w45 := ⟨⟨_, _, q45s.at (by unfold rg; omega) oo1_100⟩, hW.O.2.1.same q45s (fun b h1 h2 => by unfold rg; omega), hr6, hd6⟩
  have hW2 : c_W w45 t T S A K N sd := hW.sO q45t hO2
  have hsm2 : am_same (rg 2 131) w w45 := (am_same.rf).tr (q45t.mono (fun b hb => by unfold rg at *; omega))
  obtain ⟨f3, kb3, bl3, bo3, rc3, fr3, se3, oo3_2, oo3_3, oo3_5, oo3_11, oo3_16, oo3_20, oo3_78, oo3_88, oo3_92, oo3_100, oo3_118⟩ := hW2.obs
  show am_Go 76 (48, [.ref 2, .int (nI k), .int 0], [.int (m_tot T S 0 k)], w45, 0, 0) _
  refine ar_ireturn hM rfl (Or.inl rfl) ?_
  exact ⟨rfl, hW2, hsm2⟩
set_option maxRecDepth 100000 in
set_option maxHeartbeats 4000000 in
theorem f_ahead1 (w : am_W) (t : Nat × (Nat → Int32)) (T : p_D) (S : s_S) (A : List s_S) (K : Nat → Option s_S) (N : x_N) (sd : Int64) (d : Nat) (hd : d ≤ 1000) (hv : v_W d T S A K) (hW : c_W w t T S A K N sd) (k : Nat) (hk : k ≤ 20) : am_Go 76 (0, [.ref 2, .int (nI k), .int 1], [], w, 0, 0) (fun res w' => res = some (.int (m_tot T S 1 k)) ∧ c_W w' t T S A K N sd ∧ am_same (rg 2 131) w w') := by
  have hM : am_P[76]? = some zm_X10_ahead := rfl
  have hn6 : T.2.2.1 ≤ 6 := hv.1.1.1
  have hvT := hv.1.1
  have hvS := hv.2.1.1
  have hdy := hv.2.1.2.1
  obtain ⟨f1, kb1, bl1, bo1, rc1, fr1, se1, oo1_2, oo1_3, oo1_5, oo1_11, oo1_16, oo1_20, oo1_78, oo1_88, oo1_92, oo1_100, oo1_118⟩ := hW.obs
  refine ar_iload_n (pc' := 1) hM rfl rfl rfl ?_
  refine ar_iconst (x := 0) (pc' := 2) hM rfl (by decide) rfl ?_
  refine ar_bipush (x := 20) (pc' := 4) hM rfl (by decide) rfl ?_
  refine ar_static (pc' := 7) (k3 := 0) (k4 := 0) hM rfl (by decide) rfl rfl (by have h0 := c_within w (nI k) 0 20; rw [if_pos ⟨nI_le (a := 0) (by omega) (by omega), nI_le (b := 20) (by omega) (by omega)⟩] at h0; exact h0) (fun r4 w4 q4 => ?_)
  obtain ⟨rfl, q4w⟩ := q4
  rw [q4w]
  show am_Go 76 (7, [.ref 2, .int (nI k), .int 1], [.int 1], w, 0, 0) _
  refine ar_if_eq (pc' := 10) hM rfl rfl (fun q => absurd q (by decide)) (fun _ => ?_)
  refine ar_iload_n (pc' := 11) hM rfl rfl rfl ?_
  refine ar_iconst (x := 0) (pc' := 12) hM rfl (by decide) rfl ?_
  refine ar_iconst (x := 1) (pc' := 13) hM rfl (by decide) rfl ?_
  refine ar_static (pc' := 16) (k3 := 0) (k4 := 0) hM rfl (by decide) rfl rfl (by have h0 := c_within w 1 0 1; rw [if_pos (by decide)] at h0; exact h0) (fun r13 w13 q13 => ?_)
  obtain ⟨rfl, q13w⟩ := q13
  rw [q13w]
  show am_Go 76 (16, [.ref 2, .int (nI k), .int 1], [.int 1], w, 0, 0) _
  refine ar_if_ne (pc' := 19) hM rfl rfl (fun _ => ?_) (fun q => absurd q (by decide))
  refine ar_aload_n (pc' := 23) hM rfl rfl rfl ?_
  refine ar_getfield (pc' := 26) hM rfl oo1_2 rfl rfl ?_
  refine ar_aload_n (pc' := 27) hM rfl rfl rfl ?_
  refine ar_getfield (pc' := 30) hM rfl oo1_2 rfl rfl ?_
  refine ar_aload_n (pc' := 31) hM rfl rfl rfl ?_
  refine ar_getfield (pc' := 34) hM rfl oo1_2 rfl rfl ?_
  refine ar_iload_n (pc' := 35) hM rfl rfl rfl ?_
  refine ar_iload_n (pc' := 36) hM rfl rfl rfl ?_
  refine ar_iconst (x := 1) (pc' := 37) hM rfl (by decide) rfl ?_
  refine ar_icmp_ne (pc' := 40) hM rfl rfl (fun q => absurd rfl q) (fun _ => ?_)
  refine ar_iconst (x := 1) (pc' := 41) hM rfl (by decide) rfl ?_
  refine ar_goto hM rfl ?_
  refine ar_virtual (pc' := 48) (k3 := 0) (k4 := 0) hM rfl rfl oo1_100 ⟨rfl, (by decide)⟩ rfl rfl (k_inDays _ T S _ _ hvT hvS hW.T hW.S hW.O.2.2.1 hW.O.2.2.2 oo1_100 k (by omega) (by omega) 1) (fun r45 w45 q45 => ?_)
  obtain ⟨rfl, q45s, hr6, hd6⟩ := q45
  have q45t : am_same (rg 100 18) _ _ := q45s.mono (fun b hb => by unfold rg at *; omega)
  have hO2 : c_O w45 := ⟨⟨_, _, q45s.at (by unfold rg; omega) oo1_100⟩, hW.O.2.1.same q45s (fun b h1 h2 => by unfold rg; omega), hr6, hd6⟩
  have hW2 : c_W w45 t T S A K N sd := hW.sO q45t hO2
  have hsm2 : am_same (rg 2 131) w w45 := (am_same.rf).tr (q45t.mono (fun b hb => by unfold rg at *; omega))
  obtain ⟨f3, kb3, bl3, bo3, rc3, fr3, se3, oo3_2, oo3_3, oo3_5, oo3_11, oo3_16, oo3_20, oo3_78, oo3_88, oo3_92, oo3_100, oo3_118⟩ := hW2.obs
  show am_Go 76 (48, [.ref 2, .int (nI k), .int 1], [.int (m_tot T S 1 k)], w45, 0, 0) _
  refine ar_ireturn hM rfl (Or.inl rfl) ?_
  exact ⟨rfl, hW2, hsm2⟩
set_option maxRecDepth 100000 in
set_option maxHeartbeats 4000000 in
theorem f_order0 (w : am_W) (t : Nat × (Nat → Int32)) (T : p_D) (S : s_S) (A : List s_S) (K : Nat → Option s_S) (N : x_N) (sd : Int64) (d : Nat) (hd : d ≤ 1000) (hv : v_W d T S A K) (hW : c_W w t T S A K N sd)  : am_Go 77 (0, [.ref 2, .int 0], [], w, 0, 0) (fun res w' => res = some (.int ((m_bst T S 0 (n_fac T.2.2.1)).1)) ∧ c_W w' t T S A K N sd ∧ am_same (rg 2 131) w w') := by
  have hM : am_P[77]? = some zm_X10_order := rfl
  have hn6 : T.2.2.1 ≤ 6 := hv.1.1.1
  have hvT := hv.1.1
  have hvS := hv.2.1.1
  have hdy := hv.2.1.2.1
  obtain ⟨f1, kb1, bl1, bo1, rc1, fr1, se1, oo1_2, oo1_3, oo1_5, oo1_11, oo1_16, oo1_20, oo1_78, oo1_88, oo1_92, oo1_100, oo1_118⟩ := hW.obs
  refine ar_aload_n (pc' := 1) hM rfl rfl rfl ?_
  refine ar_getfield (pc' := 4) hM rfl oo1_2 rfl rfl ?_
  refine ar_aload_n (pc' := 5) hM rfl rfl rfl ?_
  refine ar_getfield (pc' := 8) hM rfl oo1_2 rfl rfl ?_
  refine ar_aload_n (pc' := 9) hM rfl rfl rfl ?_
  refine ar_getfield (pc' := 12) hM rfl oo1_2 rfl rfl ?_
  refine ar_iconst (x := 0) (pc' := 13) hM rfl (by decide) rfl ?_
  refine ar_virtual (pc' := 16) (k3 := 0) (k4 := 0) hM rfl rfl oo1_100 ⟨rfl, (by decide)⟩ rfl rfl (k_seekOrder _ T S _ _ hvT hvS hW.T hW.S hW.O.2.2.1 hW.O.2.2.2 oo1_100 hW.O.2.1 0) (fun r13 w13 q13 => ?_)
  obtain ⟨rfl, h100, q13s, hq1, hr6, hd6⟩ := q13
  have hO2 : c_O w13 := ⟨⟨_, _, h100⟩, hq1, hr6, hd6⟩
  have hW2 : c_W w13 t T S A K N sd := hW.sO q13s hO2
  have hsm2 : am_same (rg 2 131) w w13 := (am_same.rf).tr (q13s.mono (fun b hb => by unfold rg at *; omega))
  obtain ⟨f3, kb3, bl3, bo3, rc3, fr3, se3, oo3_2, oo3_3, oo3_5, oo3_11, oo3_16, oo3_20, oo3_78, oo3_88, oo3_92, oo3_100, oo3_118⟩ := hW2.obs
  show am_Go 77 (16, [.ref 2, .int 0], [], w13, 0, 0) _
  refine ar_iload_n (pc' := 17) hM rfl rfl rfl ?_
  refine ar_if_eq (pc' := 20) hM rfl rfl (fun _ => ?_) (fun q => absurd (by decide) q)
  refine ar_aload_n (pc' := 31) hM rfl rfl rfl ?_
  refine ar_getfield (pc' := 34) hM rfl oo3_2 rfl rfl ?_
  refine ar_getfield (pc' := 37) hM rfl h100 rfl rfl ?_
  refine ar_ireturn hM rfl (Or.inl rfl) ?_
  exact ⟨rfl, hW2, hsm2⟩
set_option maxRecDepth 100000 in
set_option maxHeartbeats 4000000 in
theorem f_order1 (w : am_W) (t : Nat × (Nat → Int32)) (T : p_D) (S : s_S) (A : List s_S) (K : Nat → Option s_S) (N : x_N) (sd : Int64) (d : Nat) (hd : d ≤ 1000) (hv : v_W d T S A K) (hW : c_W w t T S A K N sd)  : am_Go 77 (0, [.ref 2, .int 1], [], w, 0, 0) (fun res w' => res = some (.int ((m_bst T S 0 (n_fac T.2.2.1)).2)) ∧ c_W w' t T S A K N sd ∧ am_same (rg 2 131) w w') := by
  have hM : am_P[77]? = some zm_X10_order := rfl
  have hn6 : T.2.2.1 ≤ 6 := hv.1.1.1
  have hvT := hv.1.1
  have hvS := hv.2.1.1
  have hdy := hv.2.1.2.1
  obtain ⟨f1, kb1, bl1, bo1, rc1, fr1, se1, oo1_2, oo1_3, oo1_5, oo1_11, oo1_16, oo1_20, oo1_78, oo1_88, oo1_92, oo1_100, oo1_118⟩ := hW.obs
  refine ar_aload_n (pc' := 1) hM rfl rfl rfl ?_
  refine ar_getfield (pc' := 4) hM rfl oo1_2 rfl rfl ?_
  refine ar_aload_n (pc' := 5) hM rfl rfl rfl ?_
  refine ar_getfield (pc' := 8) hM rfl oo1_2 rfl rfl ?_
  refine ar_aload_n (pc' := 9) hM rfl rfl rfl ?_
  refine ar_getfield (pc' := 12) hM rfl oo1_2 rfl rfl ?_
  refine ar_iconst (x := 0) (pc' := 13) hM rfl (by decide) rfl ?_
  refine ar_virtual (pc' := 16) (k3 := 0) (k4 := 0) hM rfl rfl oo1_100 ⟨rfl, (by decide)⟩ rfl rfl (k_seekOrder _ T S _ _ hvT hvS hW.T hW.S hW.O.2.2.1 hW.O.2.2.2 oo1_100 hW.O.2.1 0) (fun r13 w13 q13 => ?_)
  obtain ⟨rfl, h100, q13s, hq1, hr6, hd6⟩ := q13
  have hO2 : c_O w13 := ⟨⟨_, _, h100⟩, hq1, hr6, hd6⟩
  have hW2 : c_W w13 t T S A K N sd := hW.sO q13s hO2
  have hsm2 : am_same (rg 2 131) w w13 := (am_same.rf).tr (q13s.mono (fun b hb => by unfold rg at *; omega))
  obtain ⟨f3, kb3, bl3, bo3, rc3, fr3, se3, oo3_2, oo3_3, oo3_5, oo3_11, oo3_16, oo3_20, oo3_78, oo3_88, oo3_92, oo3_100, oo3_118⟩ := hW2.obs
  show am_Go 77 (16, [.ref 2, .int 1], [], w13, 0, 0) _
  refine ar_iload_n (pc' := 17) hM rfl rfl rfl ?_
  refine ar_if_eq (pc' := 20) hM rfl rfl (fun q => absurd q (by decide)) (fun _ => ?_)
  refine ar_aload_n (pc' := 21) hM rfl rfl rfl ?_
  refine ar_getfield (pc' := 24) hM rfl oo3_2 rfl rfl ?_
  refine ar_getfield (pc' := 27) hM rfl h100 rfl rfl ?_
  refine ar_goto hM rfl ?_
  refine ar_ireturn hM rfl (Or.inl rfl) ?_
  exact ⟨rfl, hW2, hsm2⟩
set_option maxRecDepth 100000 in
set_option maxHeartbeats 4000000 in
theorem f_worst0 (w : am_W) (t : Nat × (Nat → Int32)) (T : p_D) (S : s_S) (A : List s_S) (K : Nat → Option s_S) (N : x_N) (sd : Int64) (d : Nat) (hd : d ≤ 1000) (hv : v_W d T S A K) (hW : c_W w t T S A K N sd)  : am_Go 78 (0, [.ref 2, .int 0], [], w, 0, 0) (fun res w' => res = some (.int ((m_bst T S 1 (n_fac T.2.2.1)).1)) ∧ c_W w' t T S A K N sd ∧ am_same (rg 2 131) w w') := by
  have hM : am_P[78]? = some zm_X10_worst := rfl
  have hn6 : T.2.2.1 ≤ 6 := hv.1.1.1
  have hvT := hv.1.1
  have hvS := hv.2.1.1
  have hdy := hv.2.1.2.1
  obtain ⟨f1, kb1, bl1, bo1, rc1, fr1, se1, oo1_2, oo1_3, oo1_5, oo1_11, oo1_16, oo1_20, oo1_78, oo1_88, oo1_92, oo1_100, oo1_118⟩ := hW.obs
  refine ar_aload_n (pc' := 1) hM rfl rfl rfl ?_
  refine ar_getfield (pc' := 4) hM rfl oo1_2 rfl rfl ?_
  refine ar_aload_n (pc' := 5) hM rfl rfl rfl ?_
  refine ar_getfield (pc' := 8) hM rfl oo1_2 rfl rfl ?_
  refine ar_aload_n (pc' := 9) hM rfl rfl rfl ?_
  refine ar_getfield (pc' := 12) hM rfl oo1_2 rfl rfl ?_
  refine ar_iconst (x := 1) (pc' := 13) hM rfl (by decide) rfl ?_
  refine ar_virtual (pc' := 16) (k3 := 0) (k4 := 0) hM rfl rfl oo1_100 ⟨rfl, (by decide)⟩ rfl rfl (k_seekOrder _ T S _ _ hvT hvS hW.T hW.S hW.O.2.2.1 hW.O.2.2.2 oo1_100 hW.O.2.1 1) (fun r13 w13 q13 => ?_)
  obtain ⟨rfl, h100, q13s, hq1, hr6, hd6⟩ := q13
  have hO2 : c_O w13 := ⟨⟨_, _, h100⟩, hq1, hr6, hd6⟩
  have hW2 : c_W w13 t T S A K N sd := hW.sO q13s hO2
  have hsm2 : am_same (rg 2 131) w w13 := (am_same.rf).tr (q13s.mono (fun b hb => by unfold rg at *; omega))
  obtain ⟨f3, kb3, bl3, bo3, rc3, fr3, se3, oo3_2, oo3_3, oo3_5, oo3_11, oo3_16, oo3_20, oo3_78, oo3_88, oo3_92, oo3_100, oo3_118⟩ := hW2.obs
  show am_Go 78 (16, [.ref 2, .int 0], [], w13, 0, 0) _
  refine ar_iload_n (pc' := 17) hM rfl rfl rfl ?_
  refine ar_if_eq (pc' := 20) hM rfl rfl (fun _ => ?_) (fun q => absurd (by decide) q)
  refine ar_aload_n (pc' := 31) hM rfl rfl rfl ?_
  refine ar_getfield (pc' := 34) hM rfl oo3_2 rfl rfl ?_
  refine ar_getfield (pc' := 37) hM rfl h100 rfl rfl ?_
  refine ar_ireturn hM rfl (Or.inl rfl) ?_
  exact ⟨rfl, hW2, hsm2⟩
set_option maxRecDepth 100000 in
set_option maxHeartbeats 4000000 in
theorem f_worst1 (w : am_W) (t : Nat × (Nat → Int32)) (T : p_D) (S : s_S) (A : List s_S) (K : Nat → Option s_S) (N : x_N) (sd : Int64) (d : Nat) (hd : d ≤ 1000) (hv : v_W d T S A K) (hW : c_W w t T S A K N sd)  : am_Go 78 (0, [.ref 2, .int 1], [], w, 0, 0) (fun res w' => res = some (.int ((m_bst T S 1 (n_fac T.2.2.1)).2)) ∧ c_W w' t T S A K N sd ∧ am_same (rg 2 131) w w') := by
  have hM : am_P[78]? = some zm_X10_worst := rfl
  have hn6 : T.2.2.1 ≤ 6 := hv.1.1.1
  have hvT := hv.1.1
  have hvS := hv.2.1.1
  have hdy := hv.2.1.2.1
  obtain ⟨f1, kb1, bl1, bo1, rc1, fr1, se1, oo1_2, oo1_3, oo1_5, oo1_11, oo1_16, oo1_20, oo1_78, oo1_88, oo1_92, oo1_100, oo1_118⟩ := hW.obs
  refine ar_aload_n (pc' := 1) hM rfl rfl rfl ?_
  refine ar_getfield (pc' := 4) hM rfl oo1_2 rfl rfl ?_
  refine ar_aload_n (pc' := 5) hM rfl rfl rfl ?_
  refine ar_getfield (pc' := 8) hM rfl oo1_2 rfl rfl ?_
  refine ar_aload_n (pc' := 9) hM rfl rfl rfl ?_
  refine ar_getfield (pc' := 12) hM rfl oo1_2 rfl rfl ?_
  refine ar_iconst (x := 1) (pc' := 13) hM rfl (by decide) rfl ?_
  refine ar_virtual (pc' := 16) (k3 := 0) (k4 := 0) hM rfl rfl oo1_100 ⟨rfl, (by decide)⟩ rfl rfl (k_seekOrder _ T S _ _ hvT hvS hW.T hW.S hW.O.2.2.1 hW.O.2.2.2 oo1_100 hW.O.2.1 1) (fun r13 w13 q13 => ?_)
  obtain ⟨rfl, h100, q13s, hq1, hr6, hd6⟩ := q13
  have hO2 : c_O w13 := ⟨⟨_, _, h100⟩, hq1, hr6, hd6⟩
  have hW2 : c_W w13 t T S A K N sd := hW.sO q13s hO2
  have hsm2 : am_same (rg 2 131) w w13 := (am_same.rf).tr (q13s.mono (fun b hb => by unfold rg at *; omega))
  obtain ⟨f3, kb3, bl3, bo3, rc3, fr3, se3, oo3_2, oo3_3, oo3_5, oo3_11, oo3_16, oo3_20, oo3_78, oo3_88, oo3_92, oo3_100, oo3_118⟩ := hW2.obs
  show am_Go 78 (16, [.ref 2, .int 1], [], w13, 0, 0) _
  refine ar_iload_n (pc' := 17) hM rfl rfl rfl ?_
  refine ar_if_eq (pc' := 20) hM rfl rfl (fun q => absurd q (by decide)) (fun _ => ?_)
  refine ar_aload_n (pc' := 21) hM rfl rfl rfl ?_
  refine ar_getfield (pc' := 24) hM rfl oo3_2 rfl rfl ?_
  refine ar_getfield (pc' := 27) hM rfl h100 rfl rfl ?_
  refine ar_goto hM rfl ?_
  refine ar_ireturn hM rfl (Or.inl rfl) ?_
  exact ⟨rfl, hW2, hsm2⟩
set_option maxRecDepth 100000 in
set_option maxHeartbeats 4000000 in
theorem f_saltsN (w : am_W) (t : Nat × (Nat → Int32)) (T : p_D) (S : s_S) (A : List s_S) (K : Nat → Option s_S) (N : x_N) (sd : Int64) (d : Nat) (hd : d ≤ 1000) (hv : v_W d T S A K) (hW : c_W w t T S A K N sd) (h : Int32) (hh : ¬ i_H T.2.2.1 h) : am_Go 79 (0, [.ref 2, .int h], [], w, 0, 0) (fun res w' => res = some (.int (-1)) ∧ c_W w' t T S A K N sd ∧ am_same (rg 2 131) w w') := by
  have hM : am_P[79]? = some zm_X10_salts := rfl
  have hn6 : T.2.2.1 ≤ 6 := hv.1.1.1
  have hvT := hv.1.1
  have hvS := hv.2.1.1
  have hdy := hv.2.1.2.1
  obtain ⟨f1, kb1, bl1, bo1, rc1, fr1, se1, oo1_2, oo1_3, oo1_5, oo1_11, oo1_16, oo1_20, oo1_78, oo1_88, oo1_92, oo1_100, oo1_118⟩ := hW.obs
  refine ar_aload_n (pc' := 1) hM rfl rfl rfl ?_
  refine ar_iload_n (pc' := 2) hM rfl rfl rfl ?_
  refine ar_virtual (pc' := 5) (k3 := 0) (k4 := 0) hM rfl rfl oo1_2 ⟨rfl, (by decide)⟩ rfl rfl (by have h0 := c_isH _ _ _ _ _ _ _ _ hW h; rw [if_neg (fun q => hh ((i_H_iff hn6 _).mp q))] at h0; exact h0) (fun r2 w2 q2 => ?_)
  obtain ⟨rfl, q2w⟩ := q2
  rw [q2w]
  show am_Go 79 (5, [.ref 2, .int h], [.int 0], w, 0, 0) _
  refine ar_if_eq (pc' := 8) hM rfl rfl (fun _ => ?_) (fun q => absurd (by decide) q)
  refine ar_iconst (x := (-1)) (pc' := 28) hM rfl (by decide) rfl ?_
  refine ar_ireturn hM rfl (Or.inl rfl) ?_
  exact ⟨rfl, hW, am_same.rf⟩
set_option maxRecDepth 100000 in
set_option maxHeartbeats 4000000 in
theorem f_salts (w : am_W) (t : Nat × (Nat → Int32)) (T : p_D) (S : s_S) (A : List s_S) (K : Nat → Option s_S) (N : x_N) (sd : Int64) (d : Nat) (hd : d ≤ 1000) (hv : v_W d T S A K) (hW : c_W w t T S A K N sd) (k : Nat) (hk : k < T.2.2.1) : am_Go 79 (0, [.ref 2, .int (nI k)], [], w, 0, 0) (fun res w' => res = some (.int ((m_few T S k (2 ^ T.2.2.1)).1)) ∧ c_W w' t T S A K N sd ∧ am_same (rg 2 131) w w') := by
  have hM : am_P[79]? = some zm_X10_salts := rfl
  have hn6 : T.2.2.1 ≤ 6 := hv.1.1.1
  have hvT := hv.1.1
  have hvS := hv.2.1.1
  have hdy := hv.2.1.2.1
  obtain ⟨f1, kb1, bl1, bo1, rc1, fr1, se1, oo1_2, oo1_3, oo1_5, oo1_11, oo1_16, oo1_20, oo1_78, oo1_88, oo1_92, oo1_100, oo1_118⟩ := hW.obs
  refine ar_aload_n (pc' := 1) hM rfl rfl rfl ?_
  refine ar_iload_n (pc' := 2) hM rfl rfl rfl ?_
  refine ar_virtual (pc' := 5) (k3 := 0) (k4 := 0) hM rfl rfl oo1_2 ⟨rfl, (by decide)⟩ rfl rfl (by have h0 := c_isH _ _ _ _ _ _ _ _ hW (nI k); rw [if_pos ((i_H_iff hn6 _).mpr ⟨k, hk, rfl⟩)] at h0; exact h0) (fun r2 w2 q2 => ?_)
  obtain ⟨rfl, q2w⟩ := q2
  rw [q2w]
  show am_Go 79 (5, [.ref 2, .int (nI k)], [.int 1], w, 0, 0) _
  refine ar_if_eq (pc' := 8) hM rfl rfl (fun q => absurd q (by decide)) (fun _ => ?_)
  refine ar_aload_n (pc' := 9) hM rfl rfl rfl ?_
  refine ar_getfield (pc' := 12) hM rfl oo1_2 rfl rfl ?_
  refine ar_aload_n (pc' := 13) hM rfl rfl rfl ?_
  refine ar_getfield (pc' := 16) hM rfl oo1_2 rfl rfl ?_
  refine ar_aload_n (pc' := 17) hM rfl rfl rfl ?_
  refine ar_getfield (pc' := 20) hM rfl oo1_2 rfl rfl ?_
  refine ar_iload_n (pc' := 21) hM rfl rfl rfl ?_
  refine ar_virtual (pc' := 24) (k3 := 0) (k4 := 0) hM rfl rfl oo1_100 ⟨rfl, (by decide)⟩ rfl rfl (k_fewestSalts _ T S _ _ hvT hvS hW.T hW.S hW.O.2.2.1 hW.O.2.2.2 oo1_100 k hk) (fun r21 w21 q21 => ?_)
  obtain ⟨rfl, q21s, hr6, hd6⟩ := q21
  have q21t : am_same (rg 100 18) _ _ := q21s.mono (fun b hb => by unfold rg at *; omega)
  have hO2 : c_O w21 := ⟨⟨_, _, q21s.at (by unfold rg; omega) oo1_100⟩, hW.O.2.1.same q21s (fun b h1 h2 => by unfold rg; omega), hr6, hd6⟩
  have hW2 : c_W w21 t T S A K N sd := hW.sO q21t hO2
  have hsm2 : am_same (rg 2 131) w w21 := (am_same.rf).tr (q21t.mono (fun b hb => by unfold rg at *; omega))
  obtain ⟨f3, kb3, bl3, bo3, rc3, fr3, se3, oo3_2, oo3_3, oo3_5, oo3_11, oo3_16, oo3_20, oo3_78, oo3_88, oo3_92, oo3_100, oo3_118⟩ := hW2.obs
  show am_Go 79 (24, [.ref 2, .int (nI k)], [.int ((m_few T S k (2 ^ T.2.2.1)).1)], w21, 0, 0) _
  refine ar_goto hM rfl ?_
  refine ar_ireturn hM rfl (Or.inl rfl) ?_
  exact ⟨rfl, hW2, hsm2⟩
set_option maxRecDepth 100000 in
set_option maxHeartbeats 4000000 in
theorem f_caskN (w : am_W) (t : Nat × (Nat → Int32)) (T : p_D) (S : s_S) (A : List s_S) (K : Nat → Option s_S) (N : x_N) (sd : Int64) (d : Nat) (hd : d ≤ 1000) (hv : v_W d T S A K) (hW : c_W w t T S A K N sd) (h : Int32) (hh : ¬ i_H T.2.2.1 h) : am_Go 80 (0, [.ref 2, .int h], [], w, 0, 0) (fun res w' => res = some (.int (-1)) ∧ c_W w' t T S A K N sd ∧ am_same (rg 2 131) w w') := by
  have hM : am_P[80]? = some zm_X10_cask := rfl
  have hn6 : T.2.2.1 ≤ 6 := hv.1.1.1
  have hvT := hv.1.1
  have hvS := hv.2.1.1
  have hdy := hv.2.1.2.1
  obtain ⟨f1, kb1, bl1, bo1, rc1, fr1, se1, oo1_2, oo1_3, oo1_5, oo1_11, oo1_16, oo1_20, oo1_78, oo1_88, oo1_92, oo1_100, oo1_118⟩ := hW.obs
  refine ar_aload_n (pc' := 1) hM rfl rfl rfl ?_
  refine ar_iload_n (pc' := 2) hM rfl rfl rfl ?_
  refine ar_virtual (pc' := 5) (k3 := 0) (k4 := 0) hM rfl rfl oo1_2 ⟨rfl, (by decide)⟩ rfl rfl (by have h0 := c_isH _ _ _ _ _ _ _ _ hW h; rw [if_neg (fun q => hh ((i_H_iff hn6 _).mp q))] at h0; exact h0) (fun r2 w2 q2 => ?_)
  obtain ⟨rfl, q2w⟩ := q2
  rw [q2w]
  show am_Go 80 (5, [.ref 2, .int h], [.int 0], w, 0, 0) _
  refine ar_if_eq (pc' := 8) hM rfl rfl (fun _ => ?_) (fun q => absurd (by decide) q)
  refine ar_iconst (x := (-1)) (pc' := 28) hM rfl (by decide) rfl ?_
  refine ar_ireturn hM rfl (Or.inl rfl) ?_
  exact ⟨rfl, hW, am_same.rf⟩
set_option maxRecDepth 100000 in
set_option maxHeartbeats 4000000 in
theorem f_cask (w : am_W) (t : Nat × (Nat → Int32)) (T : p_D) (S : s_S) (A : List s_S) (K : Nat → Option s_S) (N : x_N) (sd : Int64) (d : Nat) (hd : d ≤ 1000) (hv : v_W d T S A K) (hW : c_W w t T S A K N sd) (k : Nat) (hk : k < T.2.2.1) : am_Go 80 (0, [.ref 2, .int (nI k)], [], w, 0, 0) (fun res w' => ∃ rr, res = some (.int rr) ∧ m_cask T S k (some (.int rr)) ∧ c_W w' t T S A K N sd ∧ am_same (rg 2 131) w w') := by
  have hM : am_P[80]? = some zm_X10_cask := rfl
  have hn6 : T.2.2.1 ≤ 6 := hv.1.1.1
  have hvT := hv.1.1
  have hvS := hv.2.1.1
  have hdy := hv.2.1.2.1
  obtain ⟨f1, kb1, bl1, bo1, rc1, fr1, se1, oo1_2, oo1_3, oo1_5, oo1_11, oo1_16, oo1_20, oo1_78, oo1_88, oo1_92, oo1_100, oo1_118⟩ := hW.obs
  refine ar_aload_n (pc' := 1) hM rfl rfl rfl ?_
  refine ar_iload_n (pc' := 2) hM rfl rfl rfl ?_
  refine ar_virtual (pc' := 5) (k3 := 0) (k4 := 0) hM rfl rfl oo1_2 ⟨rfl, (by decide)⟩ rfl rfl (by have h0 := c_isH _ _ _ _ _ _ _ _ hW (nI k); rw [if_pos ((i_H_iff hn6 _).mpr ⟨k, hk, rfl⟩)] at h0; exact h0) (fun r2 w2 q2 => ?_)
  obtain ⟨rfl, q2w⟩ := q2
  rw [q2w]
  show am_Go 80 (5, [.ref 2, .int (nI k)], [.int 1], w, 0, 0) _
  refine ar_if_eq (pc' := 8) hM rfl rfl (fun q => absurd q (by decide)) (fun _ => ?_)
  refine ar_aload_n (pc' := 9) hM rfl rfl rfl ?_
  refine ar_getfield (pc' := 12) hM rfl oo1_2 rfl rfl ?_
  refine ar_aload_n (pc' := 13) hM rfl rfl rfl ?_
  refine ar_getfield (pc' := 16) hM rfl oo1_2 rfl rfl ?_
  refine ar_aload_n (pc' := 17) hM rfl rfl rfl ?_
  refine ar_getfield (pc' := 20) hM rfl oo1_2 rfl rfl ?_
  refine ar_iload_n (pc' := 21) hM rfl rfl rfl ?_
  refine ar_virtual (pc' := 24) (k3 := 0) (k4 := 0) hM rfl rfl oo1_100 ⟨rfl, (by decide)⟩ rfl rfl (k_leastBarrel _ T S _ _ hvT hvS hW.T hW.S hW.O.2.1 hW.O.2.2.1 hW.O.2.2.2 oo1_100 (by omega) k hk) (fun r21 w21 q21 => ?_)
  obtain ⟨hans, q21s, hq1, hr6, hd6⟩ := q21
  have q21t : am_same (rg 100 18) _ _ := q21s.mono (fun b hb => by unfold rg at *; omega)
  have hO2 : c_O w21 := ⟨⟨_, _, q21s.at (by unfold rg; omega) oo1_100⟩, hq1, hr6, hd6⟩
  have hW2 : c_W w21 t T S A K N sd := hW.sO q21t hO2
  have hsm2 : am_same (rg 2 131) w w21 := (am_same.rf).tr (q21t.mono (fun b hb => by unfold rg at *; omega))
  obtain ⟨f3, kb3, bl3, bo3, rc3, fr3, se3, oo3_2, oo3_3, oo3_5, oo3_11, oo3_16, oo3_20, oo3_78, oo3_88, oo3_92, oo3_100, oo3_118⟩ := hW2.obs
  obtain ⟨rr, rfl⟩ : ∃ rr : Int32, r21 = some (.int rr) := by rcases hans with ⟨_, _, _, _, e⟩ | ⟨_, e⟩ <;> exact ⟨_, e⟩
  show am_Go 80 (24, [.ref 2, .int (nI k)], [.int rr], w21, 0, 0) _
  refine ar_goto hM rfl ?_
  refine ar_ireturn hM rfl (Or.inl rfl) ?_
  exact ⟨rr, rfl, hans, hW2, hsm2⟩
set_option maxRecDepth 100000 in
set_option maxHeartbeats 4000000 in
theorem f_judgeO (w : am_W) (t : Nat × (Nat → Int32)) (T : p_D) (S : s_S) (A : List s_S) (K : Nat → Option s_S) (N : x_N) (sd : Int64) (d : Nat) (hd : d ≤ 1000) (hv : v_W d T S A K) (hW : c_W w t T S A K N sd) (a : Int32) (r : Int64) (hno : ¬ (1 ≤ a ∧ a ≤ 4)) : am_Go 81 (0, [.ref 2, .int a, .long r, .float 0], [], w, 0, 0) (fun res w' => res = some (.int (-2)) ∧ c_W w' t T S A K N sd ∧ am_same (rg 2 131) w w') := by
  have hM : am_P[81]? = some zm_X10_judge := rfl
  have hn6 : T.2.2.1 ≤ 6 := hv.1.1.1
  have hvT := hv.1.1
  have hvS := hv.2.1.1
  have hdy := hv.2.1.2.1
  obtain ⟨f1, kb1, bl1, bo1, rc1, fr1, se1, oo1_2, oo1_3, oo1_5, oo1_11, oo1_16, oo1_20, oo1_78, oo1_88, oo1_92, oo1_100, oo1_118⟩ := hW.obs
  refine ar_iload_n (pc' := 1) hM rfl rfl rfl ?_
  refine ar_iconst (x := 1) (pc' := 2) hM rfl (by decide) rfl ?_
  refine ar_iconst (x := 4) (pc' := 3) hM rfl (by decide) rfl ?_
  refine ar_static (pc' := 6) (k3 := 0) (k4 := 0) hM rfl (by decide) rfl rfl (by have h0 := c_within w a 1 4; rw [if_neg hno] at h0; exact h0) (fun r3 w3 q3 => ?_)
  obtain ⟨rfl, q3w⟩ := q3
  rw [q3w]
  show am_Go 81 (6, [.ref 2, .int a, .long r, .float 0], [.int 0], w, 0, 0) _
  refine ar_if_eq (pc' := 9) hM rfl rfl (fun _ => ?_) (fun q => absurd (by decide) q)
  refine ar_bipush (x := (-2)) (pc' := 27) hM rfl (by decide) rfl ?_
  refine ar_ireturn hM rfl (Or.inl rfl) ?_
  exact ⟨rfl, hW, am_same.rf⟩
set_option maxRecDepth 100000 in
set_option maxHeartbeats 4000000 in
theorem f_judgeM (w : am_W) (t : Nat × (Nat → Int32)) (T : p_D) (S : s_S) (A : List s_S) (K : Nat → Option s_S) (N : x_N) (sd : Int64) (d : Nat) (hd : d ≤ 1000) (hv : v_W d T S A K) (hW : c_W w t T S A K N sd) (k : Nat) (h1k : 1 ≤ k) (hk : k ≤ 4) (r : Int64) (hr : r < 0) : am_Go 81 (0, [.ref 2, .int (nI k), .long r, .float 0], [], w, 0, 0) (fun res w' => res = some (.int (-2)) ∧ c_W w' t T S A K N sd ∧ am_same (rg 2 131) w w') := by
  have hM : am_P[81]? = some zm_X10_judge := rfl
  have hn6 : T.2.2.1 ≤ 6 := hv.1.1.1
  have hvT := hv.1.1
  have hvS := hv.2.1.1
  have hdy := hv.2.1.2.1
  obtain ⟨f1, kb1, bl1, bo1, rc1, fr1, se1, oo1_2, oo1_3, oo1_5, oo1_11, oo1_16, oo1_20, oo1_78, oo1_88, oo1_92, oo1_100, oo1_118⟩ := hW.obs
  refine ar_iload_n (pc' := 1) hM rfl rfl rfl ?_
  refine ar_iconst (x := 1) (pc' := 2) hM rfl (by decide) rfl ?_
  refine ar_iconst (x := 4) (pc' := 3) hM rfl (by decide) rfl ?_
  refine ar_static (pc' := 6) (k3 := 0) (k4 := 0) hM rfl (by decide) rfl rfl (by have h0 := c_within w (nI k) 1 4; rw [if_pos ⟨nI_le (a := 1) (by omega) (by omega), nI_le (b := 4) (by omega) (by omega)⟩] at h0; exact h0) (fun r3 w3 q3 => ?_)
  obtain ⟨rfl, q3w⟩ := q3
  rw [q3w]
  show am_Go 81 (6, [.ref 2, .int (nI k), .long r, .float 0], [.int 1], w, 0, 0) _
  refine ar_if_eq (pc' := 9) hM rfl rfl (fun q => absurd q (by decide)) (fun _ => ?_)
  refine ar_lload_n (pc' := 10) hM rfl rfl rfl ?_
  refine ar_lconst (x := 0) (pc' := 11) hM rfl (by decide) rfl ?_
  refine ar_lcmp (pc' := 12) hM rfl rfl ?_
  refine ar_if_lt (pc' := 15) hM rfl rfl (fun _ => ?_) (fun q => absurd ((lg_cmp_lt _ _).mpr hr) q)
  refine ar_bipush (x := (-2)) (pc' := 27) hM rfl (by decide) rfl ?_
  refine ar_ireturn hM rfl (Or.inl rfl) ?_
  exact ⟨rfl, hW, am_same.rf⟩
set_option maxRecDepth 100000 in
set_option maxHeartbeats 4000000 in
theorem f_judgeL (w : am_W) (t : Nat × (Nat → Int32)) (T : p_D) (S : s_S) (A : List s_S) (K : Nat → Option s_S) (N : x_N) (sd : Int64) (d : Nat) (hd : d ≤ 1000) (hv : v_W d T S A K) (hW : c_W w t T S A K N sd) (k : Nat) (h1k : 1 ≤ k) (hk : k ≤ 4) (R : Nat) (hR : R < 2 ^ 63) (hL : R / 1000 ^ k ≠ 0) : am_Go 81 (0, [.ref 2, .int (nI k), .long (lN R), .float 0], [], w, 0, 0) (fun res w' => res = some (.int (-2)) ∧ c_W w' t T S A K N sd ∧ am_same (rg 2 131) w w') := by
  have hM : am_P[81]? = some zm_X10_judge := rfl
  have hn6 : T.2.2.1 ≤ 6 := hv.1.1.1
  have hvT := hv.1.1
  have hvS := hv.2.1.1
  have hdy := hv.2.1.2.1
  have hJ1 : ¬ lg_cmp (lN R) 0 < 0 := by
    have e1 : ¬ lN R < 0 := fun q => absurd ((pk_lLT (b := 0) hR (by decide)).mp q) (by omega)
    exact fun q => e1 ((lg_cmp_lt _ _).mp q)
  obtain ⟨f1, kb1, bl1, bo1, rc1, fr1, se1, oo1_2, oo1_3, oo1_5, oo1_11, oo1_16, oo1_20, oo1_78, oo1_88, oo1_92, oo1_100, oo1_118⟩ := hW.obs
  refine ar_iload_n (pc' := 1) hM rfl rfl rfl ?_
  refine ar_iconst (x := 1) (pc' := 2) hM rfl (by decide) rfl ?_
  refine ar_iconst (x := 4) (pc' := 3) hM rfl (by decide) rfl ?_
  refine ar_static (pc' := 6) (k3 := 0) (k4 := 0) hM rfl (by decide) rfl rfl (by have h0 := c_within w (nI k) 1 4; rw [if_pos ⟨nI_le (a := 1) (by omega) (by omega), nI_le (b := 4) (by omega) (by omega)⟩] at h0; exact h0) (fun r3 w3 q3 => ?_)
  obtain ⟨rfl, q3w⟩ := q3
  rw [q3w]
  show am_Go 81 (6, [.ref 2, .int (nI k), .long (lN R), .float 0], [.int 1], w, 0, 0) _
  refine ar_if_eq (pc' := 9) hM rfl rfl (fun q => absurd q (by decide)) (fun _ => ?_)
  refine ar_lload_n (pc' := 10) hM rfl rfl rfl ?_
  refine ar_lconst (x := 0) (pc' := 11) hM rfl (by decide) rfl ?_
  refine ar_lcmp (pc' := 12) hM rfl rfl ?_
  refine ar_if_lt (pc' := 15) hM rfl rfl (fun q => absurd q hJ1) (fun _ => ?_)
  refine ar_lload_n (pc' := 16) hM rfl rfl rfl ?_
  refine ar_iload_n (pc' := 17) hM rfl rfl rfl ?_
  refine ar_static (pc' := 20) (k3 := 0) (k4 := 0) hM rfl (by decide) rfl rfl (by have h0 := c_withoutDoings w (lN R) k (by omega); rw [l_wd_N k R hR] at h0; exact h0) (fun r17 w17 q17 => ?_)
  obtain ⟨rfl, q17w⟩ := q17
  rw [q17w]
  show am_Go 81 (20, [.ref 2, .int (nI k), .long (lN R), .float 0], [.long (lN (R / 1000 ^ k))], w, 0, 0) _
  refine ar_lconst (x := 0) (pc' := 21) hM rfl (by decide) rfl ?_
  refine ar_lcmp (pc' := 22) hM rfl rfl ?_
  refine ar_if_eq (pc' := 25) hM rfl rfl (fun q => absurd q (by have e1 : ¬ lN (R / 1000 ^ k) = 0 := fun q => hL ((pk_lEQ (b := 0) (Nat.lt_of_le_of_lt (Nat.div_le_self _ _) hR) (by decide)).mp q); exact fun q => e1 ((lg_cmp_eq _ _).mp q))) (fun _ => ?_)
  refine ar_bipush (x := (-2)) (pc' := 27) hM rfl (by decide) rfl ?_
  refine ar_ireturn hM rfl (Or.inl rfl) ?_
  exact ⟨rfl, hW, am_same.rf⟩
set_option maxRecDepth 100000 in
set_option maxHeartbeats 4000000 in
theorem f_judge (w : am_W) (t : Nat × (Nat → Int32)) (T : p_D) (S : s_S) (A : List s_S) (K : Nat → Option s_S) (N : x_N) (sd : Int64) (d : Nat) (hd : d ≤ 1000) (hv : v_W d T S A K) (hW : c_W w t T S A K N sd) (k : Nat) (h1k : 1 ≤ k) (hk : k ≤ 4) (R : Nat) (hR : R < 2 ^ 63) (hL : R / 1000 ^ k = 0) : am_Go 81 (0, [.ref 2, .int (nI k), .long (lN R), .float 0], [], w, 0, 0) (fun res w' => ∃ rr, res = some (.int rr) ∧ m_jr T S k R (some (.int rr)) ∧ c_W w' t T S A K N sd ∧ am_same (rg 2 131) w w') := by
  have hM : am_P[81]? = some zm_X10_judge := rfl
  have hn6 : T.2.2.1 ≤ 6 := hv.1.1.1
  have hvT := hv.1.1
  have hvS := hv.2.1.1
  have hdy := hv.2.1.2.1
  have hJ1 : ¬ lg_cmp (lN R) 0 < 0 := by
    have e1 : ¬ lN R < 0 := fun q => absurd ((pk_lLT (b := 0) hR (by decide)).mp q) (by omega)
    exact fun q => e1 ((lg_cmp_lt _ _).mp q)
  obtain ⟨f1, kb1, bl1, bo1, rc1, fr1, se1, oo1_2, oo1_3, oo1_5, oo1_11, oo1_16, oo1_20, oo1_78, oo1_88, oo1_92, oo1_100, oo1_118⟩ := hW.obs
  refine ar_iload_n (pc' := 1) hM rfl rfl rfl ?_
  refine ar_iconst (x := 1) (pc' := 2) hM rfl (by decide) rfl ?_
  refine ar_iconst (x := 4) (pc' := 3) hM rfl (by decide) rfl ?_
  refine ar_static (pc' := 6) (k3 := 0) (k4 := 0) hM rfl (by decide) rfl rfl (by have h0 := c_within w (nI k) 1 4; rw [if_pos ⟨nI_le (a := 1) (by omega) (by omega), nI_le (b := 4) (by omega) (by omega)⟩] at h0; exact h0) (fun r3 w3 q3 => ?_)
  obtain ⟨rfl, q3w⟩ := q3
  rw [q3w]
  show am_Go 81 (6, [.ref 2, .int (nI k), .long (lN R), .float 0], [.int 1], w, 0, 0) _
  refine ar_if_eq (pc' := 9) hM rfl rfl (fun q => absurd q (by decide)) (fun _ => ?_)
  refine ar_lload_n (pc' := 10) hM rfl rfl rfl ?_
  refine ar_lconst (x := 0) (pc' := 11) hM rfl (by decide) rfl ?_
  refine ar_lcmp (pc' := 12) hM rfl rfl ?_
  refine ar_if_lt (pc' := 15) hM rfl rfl (fun q => absurd q hJ1) (fun _ => ?_)
  refine ar_lload_n (pc' := 16) hM rfl rfl rfl ?_
  refine ar_iload_n (pc' := 17) hM rfl rfl rfl ?_
  refine ar_static (pc' := 20) (k3 := 0) (k4 := 0) hM rfl (by decide) rfl rfl (by have h0 := c_withoutDoings w (lN R) k (by omega); rw [l_wd_N k R hR] at h0; exact h0) (fun r17 w17 q17 => ?_)
  obtain ⟨rfl, q17w⟩ := q17
  rw [q17w]
  show am_Go 81 (20, [.ref 2, .int (nI k), .long (lN R), .float 0], [.long (lN (R / 1000 ^ k))], w, 0, 0) _
  refine ar_lconst (x := 0) (pc' := 21) hM rfl (by decide) rfl ?_
  refine ar_lcmp (pc' := 22) hM rfl rfl ?_
  refine ar_if_eq (pc' := 25) hM rfl rfl (fun _ => ?_) (fun q => absurd (by rw [hL]; decide) q)
  refine ar_aload_n (pc' := 29) hM rfl rfl rfl ?_
  refine ar_getfield (pc' := 32) hM rfl oo1_2 rfl rfl ?_
  refine ar_aload_n (pc' := 33) hM rfl rfl rfl ?_
  refine ar_getfield (pc' := 36) hM rfl oo1_2 rfl rfl ?_
  refine ar_aload_n (pc' := 37) hM rfl rfl rfl ?_
  refine ar_getfield (pc' := 40) hM rfl oo1_2 rfl rfl ?_
  refine ar_iload_n (pc' := 41) hM rfl rfl rfl ?_
  refine ar_lload_n (pc' := 42) hM rfl rfl rfl ?_
  refine ar_virtual (pc' := 45) (k3 := 0) (k4 := 0) hM rfl rfl oo1_100 ⟨rfl, (by decide)⟩ rfl rfl (k_firstNotSo _ T S _ _ hvT hvS hW.T hW.S hW.O.2.2.1 hW.O.2.2.2 oo1_100 (by omega) k R hk hR) (fun r42 w42 q42 => ?_)
  obtain ⟨hans, q42s, hr6, hd6⟩ := q42
  have q42t : am_same (rg 100 18) _ _ := q42s.mono (fun b hb => by unfold rg at *; omega)
  have hO2 : c_O w42 := ⟨⟨_, _, q42s.at (by unfold rg; omega) oo1_100⟩, hW.O.2.1.same q42s (fun b h1 h2 => by unfold rg; omega), hr6, hd6⟩
  have hW2 : c_W w42 t T S A K N sd := hW.sO q42t hO2
  have hsm2 : am_same (rg 2 131) w w42 := (am_same.rf).tr (q42t.mono (fun b hb => by unfold rg at *; omega))
  obtain ⟨f3, kb3, bl3, bo3, rc3, fr3, se3, oo3_2, oo3_3, oo3_5, oo3_11, oo3_16, oo3_20, oo3_78, oo3_88, oo3_92, oo3_100, oo3_118⟩ := hW2.obs
  obtain ⟨rr, rfl⟩ : ∃ rr : Int32, r42 = some (.int rr) := by rcases hans with ⟨_, _, _, _, e⟩ | ⟨_, e⟩ <;> exact ⟨_, e⟩
  show am_Go 81 (45, [.ref 2, .int (nI k), .long (lN R), .float 0], [.int rr], w42, 0, 0) _
  refine ar_ireturn hM rfl (Or.inl rfl) ?_
  exact ⟨rr, rfl, hans, hW2, hsm2⟩
set_option maxRecDepth 100000 in
set_option maxHeartbeats 4000000 in
theorem f_seeN (w : am_W) (t : Nat × (Nat → Int32)) (T : p_D) (S : s_S) (A : List s_S) (K : Nat → Option s_S) (N : x_N) (sd : Int64) (d : Nat) (hd : d ≤ 1000) (hv : v_W d T S A K) (hW : c_W w t T S A K N sd) (h : Int32) (hh : ¬ i_H T.2.2.1 h) (a b : Int32) : am_Go 82 (0, [.ref 2, .int h, .int a, .int b], [], w, 0, 0) (fun res w' => res = some (.int (-1)) ∧ c_W w' t T S A K N sd ∧ am_same (rg 2 131) w w') := by
  have hM : am_P[82]? = some zm_X10_see := rfl
  have hn6 : T.2.2.1 ≤ 6 := hv.1.1.1
  have hvT := hv.1.1
  have hvS := hv.2.1.1
  have hdy := hv.2.1.2.1
  obtain ⟨f1, kb1, bl1, bo1, rc1, fr1, se1, oo1_2, oo1_3, oo1_5, oo1_11, oo1_16, oo1_20, oo1_78, oo1_88, oo1_92, oo1_100, oo1_118⟩ := hW.obs
  refine ar_aload_n (pc' := 1) hM rfl rfl rfl ?_
  refine ar_iload_n (pc' := 2) hM rfl rfl rfl ?_
  refine ar_virtual (pc' := 5) (k3 := 0) (k4 := 0) hM rfl rfl oo1_2 ⟨rfl, (by decide)⟩ rfl rfl (by have h0 := c_isH _ _ _ _ _ _ _ _ hW h; rw [if_neg (fun q => hh ((i_H_iff hn6 _).mp q))] at h0; exact h0) (fun r2 w2 q2 => ?_)
  obtain ⟨rfl, q2w⟩ := q2
  rw [q2w]
  show am_Go 82 (5, [.ref 2, .int h, .int a, .int b], [.int 0], w, 0, 0) _
  refine ar_if_ne (pc' := 8) hM rfl rfl (fun q => absurd (by decide) q) (fun _ => ?_)
  refine ar_iconst (x := (-1)) (pc' := 9) hM rfl (by decide) rfl ?_
  refine ar_ireturn hM rfl (Or.inl rfl) ?_
  exact ⟨rfl, hW, am_same.rf⟩
set_option maxRecDepth 100000 in
set_option maxHeartbeats 4000000 in
theorem f_seeO (w : am_W) (t : Nat × (Nat → Int32)) (T : p_D) (S : s_S) (A : List s_S) (K : Nat → Option s_S) (N : x_N) (sd : Int64) (d : Nat) (hd : d ≤ 1000) (hv : v_W d T S A K) (hW : c_W w t T S A K N sd) (k : Nat) (hk : k < T.2.2.1) (a b : Int32) (hno : ¬ ((0 ≤ a ∧ a ≤ 3) ∧ 0 ≤ b ∧ b ≤ 30)) : am_Go 82 (0, [.ref 2, .int (nI k), .int a, .int b], [], w, 0, 0) (fun res w' => res = some (.int (-2)) ∧ c_W w' t T S A K N sd ∧ am_same (rg 2 131) w w') := by
  have hM : am_P[82]? = some zm_X10_see := rfl
  have hn6 : T.2.2.1 ≤ 6 := hv.1.1.1
  have hvT := hv.1.1
  have hvS := hv.2.1.1
  have hdy := hv.2.1.2.1
  obtain ⟨f1, kb1, bl1, bo1, rc1, fr1, se1, oo1_2, oo1_3, oo1_5, oo1_11, oo1_16, oo1_20, oo1_78, oo1_88, oo1_92, oo1_100, oo1_118⟩ := hW.obs
  refine ar_aload_n (pc' := 1) hM rfl rfl rfl ?_
  refine ar_iload_n (pc' := 2) hM rfl rfl rfl ?_
  refine ar_virtual (pc' := 5) (k3 := 0) (k4 := 0) hM rfl rfl oo1_2 ⟨rfl, (by decide)⟩ rfl rfl (by have h0 := c_isH _ _ _ _ _ _ _ _ hW (nI k); rw [if_pos ((i_H_iff hn6 _).mpr ⟨k, hk, rfl⟩)] at h0; exact h0) (fun r2 w2 q2 => ?_)
  obtain ⟨rfl, q2w⟩ := q2
  rw [q2w]
  show am_Go 82 (5, [.ref 2, .int (nI k), .int a, .int b], [.int 1], w, 0, 0) _
  refine ar_if_ne (pc' := 8) hM rfl rfl (fun _ => ?_) (fun q => absurd q (by decide))
  refine ar_iload_n (pc' := 11) hM rfl rfl rfl ?_
  refine ar_iconst (x := 0) (pc' := 12) hM rfl (by decide) rfl ?_
  refine ar_iconst (x := 3) (pc' := 13) hM rfl (by decide) rfl ?_
  refine ar_static (pc' := 16) (k3 := 0) (k4 := 0) hM rfl (by decide) rfl rfl (c_within _ _ _ _) (fun r13 w13 q13 => ?_)
  obtain ⟨rfl, q13w⟩ := q13
  rw [q13w]
  show am_Go 82 (16, [.ref 2, .int (nI k), .int a, .int b], [.int (if 0 ≤ a ∧ a ≤ 3 then 1 else 0)], w, 0, 0) _
  refine ar_if_eq (pc' := 19) hM rfl rfl (fun c16 => ?_) (fun c16 => ?_)
  · refine ar_bipush (x := (-2)) (pc' := 31) hM rfl (by decide) rfl ?_
    refine ar_ireturn hM rfl (Or.inl rfl) ?_
    exact ⟨rfl, hW, am_same.rf⟩
  · refine ar_iload_n (pc' := 20) hM rfl rfl rfl ?_
    refine ar_iconst (x := 0) (pc' := 21) hM rfl (by decide) rfl ?_
    refine ar_bipush (x := 30) (pc' := 23) hM rfl (by decide) rfl ?_
    refine ar_static (pc' := 26) (k3 := 0) (k4 := 0) hM rfl (by decide) rfl rfl (c_within _ _ _ _) (fun r23 w23 q23 => ?_)
    obtain ⟨rfl, q23w⟩ := q23
    rw [q23w]
    show am_Go 82 (26, [.ref 2, .int (nI k), .int a, .int b], [.int (if 0 ≤ b ∧ b ≤ 30 then 1 else 0)], w, 0, 0) _
    refine ar_if_ne (pc' := 29) hM rfl rfl (fun c26 => ?_) (fun c26 => ?_)
    · exact absurd ⟨am_ne0 c16, am_ne0 c26⟩ hno
    · refine ar_bipush (x := (-2)) (pc' := 31) hM rfl (by decide) rfl ?_
      refine ar_ireturn hM rfl (Or.inl rfl) ?_
      exact ⟨rfl, hW, am_same.rf⟩
def x_see (N : x_N) (h a b : Int32) : Int32 × x_N := if N.1 < 6 then (nI (N.1 + 1), (N.1 + 1, upd N.2.1 N.1 h, upd N.2.2.1 N.1 a, upd N.2.2.2 N.1 b)) else (-4, N)
theorem am_fu {f g : Nat → Int32} {n : Nat} {x : Int32} (h : ∀ i, i < n → f i = g i) : ∀ i, i < n + 1 → upd f n x i = upd g n x i := by
  intro i hi
  by_cases e : i = n
  · rw [e, pk_us, pk_us]
  · rw [pk_un e, pk_un e]; exact h i (by omega)
theorem k_add (w : am_W) (N : x_N) (hN : c_N w N.1 N.2.1 N.2.2.1 N.2.2.2) (h a b : Int32) : am_Go 31 (0, [.ref 88, .int h, .int a, .int b], [], w, 0, 0) (fun res w' => res = some (.int (x_see N h a b).1) ∧ c_N w' (x_see N h a b).2.1 (x_see N h a b).2.2.1 (x_see N h a b).2.2.2.1 (x_see N h a b).2.2.2.2 ∧ am_same (rg 88 4) w w') := by
  obtain ⟨h6, h0, f, g, l, h1, h2, h3, hf⟩ := hN
  by_cases q : N.1 < 6
  · refine (c_add w N.1 h6 f g l h0 h1 h2 h3 h a b q).mono ?_
    rintro res w' ⟨rfl, rfl⟩
    have e : x_see N h a b = (nI (N.1 + 1), (N.1 + 1, upd N.2.1 N.1 h, upd N.2.2.1 N.1 a, upd N.2.2.2 N.1 b)) := if_pos q
    rw [e]
    exact ⟨rfl, ⟨by show N.1 + 1 ≤ 6; omega, am_gs (am_gn (by decide) (am_gn (by decide) (am_gn (by decide) h0))), upd f N.1 h, upd g N.1 a, upd l N.1 b, am_gn (by decide) (am_gn (by decide) (am_gn (by decide) (am_gs h1))), am_gn (by decide) (am_gn (by decide) (am_gs (am_gn (by decide) h2))), am_gn (by decide) (am_gs (am_gn (by decide) (am_gn (by decide) h3))), fun i hi => ⟨am_fu (fun k hk => (hf k hk).1) i hi, am_fu (fun k hk => (hf k hk).2.1) i hi, am_fu (fun k hk => (hf k hk).2.2) i hi⟩⟩, am_same.set (am_same.set (am_same.set (am_same.set am_same.rf (by unfold rg; omega)) (by unfold rg; omega)) (by unfold rg; omega)) (by unfold rg; omega)⟩
  · refine (c_addF w N.1 h6 f g l h0 h1 h2 h3 h a b (by omega)).mono ?_
    rintro res w' ⟨rfl, rfl⟩
    have e : x_see N h a b = (-4, N) := if_neg q
    rw [e]
    exact ⟨rfl, ⟨h6, h0, f, g, l, h1, h2, h3, hf⟩, am_same.rf⟩
theorem k_nclear (w : am_W) (N : x_N) (hN : c_N w N.1 N.2.1 N.2.2.1 N.2.2.2) : am_Go 32 (0, [.ref 88, .float 0], [], w, 0, 0) (fun res w' => res = some (.int (nI N.1)) ∧ c_N w' 0 N.2.1 N.2.2.1 N.2.2.2 ∧ am_same (rg 88 4) w w') := by
  obtain ⟨h6, h0, f, g, l, h1, h2, h3, hf⟩ := hN
  refine (c_nclear w N.1 h6 f g l h0 h1 h2 h3).mono ?_
  rintro res w' ⟨rfl, rfl⟩
  exact ⟨rfl, ⟨by decide, am_gs h0, f, g, l, am_gn (by decide) h1, am_gn (by decide) h2, am_gn (by decide) h3, fun i hi => absurd hi (by omega)⟩, am_same.set am_same.rf (by unfold rg; omega)⟩
theorem b_agr_congr {sh st sv sh' st' sv' : Nat → Int32} {h v : Int32} : ∀ {n : Nat}, (∀ i, i < n → sh i = sh' i ∧ st i = st' i ∧ sv i = sv' i) → b_agr sh st sv h v n = b_agr sh' st' sv' h v n
  | 0, _ => rfl
  | n + 1, q => by unfold b_agr; rw [b_agr_congr (fun i hi => q i (by omega)), (q n (by omega)).1, (q n (by omega)).2.1, (q n (by omega)).2.2]
theorem i_pw_congr {sh st sv sh' st' sv' : Nat → Int32} {n : Nat} {h k : Int32} (q : ∀ i, i < n → sh i = sh' i ∧ st i = st' i ∧ sv i = sv' i) : ∀ m, i_pw sh st sv n h k m = i_pw sh' st' sv' n h k m
  | 0 => rfl
  | m + 1 => by unfold i_pw; rw [i_pw_congr q m, b_agr_congr q]
theorem k_pw (w : am_W) (N : x_N) (hN : c_N w N.1 N.2.1 N.2.2.1 N.2.2.2) (h k : Int32) : am_Go 33 (0, [.ref 88, .int h, .int k, .float 0, .float 0], [], w, 0, 0) (fun res w' => res = some (.int (i_pw N.2.1 N.2.2.1 N.2.2.2 N.1 h k 10)) ∧ w' = w) := by
  obtain ⟨h6, h0, f, g, l, h1, h2, h3, hf⟩ := hN
  rw [← i_pw_congr hf 10]
  exact c_possibleWants w N.1 h6 f g l h0 h1 h2 h3 h k
set_option maxRecDepth 100000 in
set_option maxHeartbeats 4000000 in
theorem f_see (w : am_W) (t : Nat × (Nat → Int32)) (T : p_D) (S : s_S) (A : List s_S) (K : Nat → Option s_S) (N : x_N) (sd : Int64) (d : Nat) (hd : d ≤ 1000) (hv : v_W d T S A K) (hW : c_W w t T S A K N sd) (k : Nat) (hk : k < T.2.2.1) (a b : Int32) (hyes : (0 ≤ a ∧ a ≤ 3) ∧ 0 ≤ b ∧ b ≤ 30) : am_Go 82 (0, [.ref 2, .int (nI k), .int a, .int b], [], w, 0, 0) (fun res w' => res = some (.int ((x_see N (nI k) a b).1)) ∧ c_W w' t T S A K ((x_see N (nI k) a b).2) sd ∧ am_same (rg 2 131) w w') := by
  have hM : am_P[82]? = some zm_X10_see := rfl
  have hn6 : T.2.2.1 ≤ 6 := hv.1.1.1
  have hvT := hv.1.1
  have hvS := hv.2.1.1
  have hdy := hv.2.1.2.1
  obtain ⟨f1, kb1, bl1, bo1, rc1, fr1, se1, oo1_2, oo1_3, oo1_5, oo1_11, oo1_16, oo1_20, oo1_78, oo1_88, oo1_92, oo1_100, oo1_118⟩ := hW.obs
  refine ar_aload_n (pc' := 1) hM rfl rfl rfl ?_
  refine ar_iload_n (pc' := 2) hM rfl rfl rfl ?_
  refine ar_virtual (pc' := 5) (k3 := 0) (k4 := 0) hM rfl rfl oo1_2 ⟨rfl, (by decide)⟩ rfl rfl (by have h0 := c_isH _ _ _ _ _ _ _ _ hW (nI k); rw [if_pos ((i_H_iff hn6 _).mpr ⟨k, hk, rfl⟩)] at h0; exact h0) (fun r2 w2 q2 => ?_)
  obtain ⟨rfl, q2w⟩ := q2
  rw [q2w]
  show am_Go 82 (5, [.ref 2, .int (nI k), .int a, .int b], [.int 1], w, 0, 0) _
  refine ar_if_ne (pc' := 8) hM rfl rfl (fun _ => ?_) (fun q => absurd q (by decide))
  refine ar_iload_n (pc' := 11) hM rfl rfl rfl ?_
  refine ar_iconst (x := 0) (pc' := 12) hM rfl (by decide) rfl ?_
  refine ar_iconst (x := 3) (pc' := 13) hM rfl (by decide) rfl ?_
  refine ar_static (pc' := 16) (k3 := 0) (k4 := 0) hM rfl (by decide) rfl rfl (by have h0 := c_within w a 0 3; rw [if_pos hyes.1] at h0; exact h0) (fun r13 w13 q13 => ?_)
  obtain ⟨rfl, q13w⟩ := q13
  rw [q13w]
  show am_Go 82 (16, [.ref 2, .int (nI k), .int a, .int b], [.int 1], w, 0, 0) _
  refine ar_if_eq (pc' := 19) hM rfl rfl (fun q => absurd q (by decide)) (fun _ => ?_)
  refine ar_iload_n (pc' := 20) hM rfl rfl rfl ?_
  refine ar_iconst (x := 0) (pc' := 21) hM rfl (by decide) rfl ?_
  refine ar_bipush (x := 30) (pc' := 23) hM rfl (by decide) rfl ?_
  refine ar_static (pc' := 26) (k3 := 0) (k4 := 0) hM rfl (by decide) rfl rfl (by have h0 := c_within w b 0 30; rw [if_pos hyes.2] at h0; exact h0) (fun r23 w23 q23 => ?_)
  obtain ⟨rfl, q23w⟩ := q23
  rw [q23w]
  show am_Go 82 (26, [.ref 2, .int (nI k), .int a, .int b], [.int 1], w, 0, 0) _
  refine ar_if_ne (pc' := 29) hM rfl rfl (fun _ => ?_) (fun q => absurd q (by decide))
  refine ar_aload_n (pc' := 33) hM rfl rfl rfl ?_
  refine ar_getfield (pc' := 36) hM rfl oo1_2 rfl rfl ?_
  refine ar_iload_n (pc' := 37) hM rfl rfl rfl ?_
  refine ar_iload_n (pc' := 38) hM rfl rfl rfl ?_
  refine ar_iload_n (pc' := 39) hM rfl rfl rfl ?_
  refine ar_virtual (pc' := 42) (k3 := 0) (k4 := 0) hM rfl rfl oo1_88 ⟨rfl, (by decide)⟩ rfl rfl (k_add _ N hW.N (nI k) a b) (fun r39 w39 q39 => ?_)
  obtain ⟨rfl, hx, q39s⟩ := q39
  have hW2 : c_W w39 t T S A K ((x_see N (nI k) a b).2) sd := hW.sN (N' := (x_see N (nI k) a b).2) q39s hx
  have hsm2 : am_same (rg 2 131) w w39 := (am_same.rf).tr (q39s.mono (fun b hb => by unfold rg at *; omega))
  obtain ⟨f3, kb3, bl3, bo3, rc3, fr3, se3, oo3_2, oo3_3, oo3_5, oo3_11, oo3_16, oo3_20, oo3_78, oo3_88, oo3_92, oo3_100, oo3_118⟩ := hW2.obs
  show am_Go 82 (42, [.ref 2, .int (nI k), .int a, .int b], [.int ((x_see N (nI k) a b).1)], w39, 0, 0) _
  refine ar_ireturn hM rfl (Or.inl rfl) ?_
  exact ⟨rfl, hW2, hsm2⟩
set_option maxRecDepth 100000 in
set_option maxHeartbeats 4000000 in
theorem f_unsee (w : am_W) (t : Nat × (Nat → Int32)) (T : p_D) (S : s_S) (A : List s_S) (K : Nat → Option s_S) (N : x_N) (sd : Int64) (d : Nat) (hd : d ≤ 1000) (hv : v_W d T S A K) (hW : c_W w t T S A K N sd)  : am_Go 83 (0, [.ref 2], [], w, 0, 0) (fun res w' => res = some (.int (nI N.1)) ∧ c_W w' t T S A K (0, N.2) sd ∧ am_same (rg 2 131) w w') := by
  have hM : am_P[83]? = some zm_X10_unsee := rfl
  have hn6 : T.2.2.1 ≤ 6 := hv.1.1.1
  have hvT := hv.1.1
  have hvS := hv.2.1.1
  have hdy := hv.2.1.2.1
  obtain ⟨f1, kb1, bl1, bo1, rc1, fr1, se1, oo1_2, oo1_3, oo1_5, oo1_11, oo1_16, oo1_20, oo1_78, oo1_88, oo1_92, oo1_100, oo1_118⟩ := hW.obs
  refine ar_aload_n (pc' := 1) hM rfl rfl rfl ?_
  refine ar_getfield (pc' := 4) hM rfl oo1_2 rfl rfl ?_
  refine ar_virtual (pc' := 7) (k3 := 0) (k4 := 0) hM rfl rfl oo1_88 ⟨rfl, (by decide)⟩ rfl rfl (k_nclear _ N hW.N) (fun r4 w4 q4 => ?_)
  obtain ⟨rfl, hx, q4s⟩ := q4
  have hW2 : c_W w4 t T S A K (0, N.2) sd := hW.sN (N' := (0, N.2)) q4s hx
  have hsm2 : am_same (rg 2 131) w w4 := (am_same.rf).tr (q4s.mono (fun b hb => by unfold rg at *; omega))
  obtain ⟨f3, kb3, bl3, bo3, rc3, fr3, se3, oo3_2, oo3_3, oo3_5, oo3_11, oo3_16, oo3_20, oo3_78, oo3_88, oo3_92, oo3_100, oo3_118⟩ := hW2.obs
  show am_Go 83 (7, [.ref 2], [.int (nI N.1)], w4, 0, 0) _
  refine ar_ireturn hM rfl (Or.inl rfl) ?_
  exact ⟨rfl, hW2, hsm2⟩
set_option maxRecDepth 100000 in
set_option maxHeartbeats 4000000 in
theorem f_wantsN (w : am_W) (t : Nat × (Nat → Int32)) (T : p_D) (S : s_S) (A : List s_S) (K : Nat → Option s_S) (N : x_N) (sd : Int64) (d : Nat) (hd : d ≤ 1000) (hv : v_W d T S A K) (hW : c_W w t T S A K N sd) (h : Int32) (hh : ¬ i_H T.2.2.1 h) : am_Go 84 (0, [.ref 2, .int h], [], w, 0, 0) (fun res w' => res = some (.int (-1)) ∧ c_W w' t T S A K N sd ∧ am_same (rg 2 131) w w') := by
  have hM : am_P[84]? = some zm_X10_wants := rfl
  have hn6 : T.2.2.1 ≤ 6 := hv.1.1.1
  have hvT := hv.1.1
  have hvS := hv.2.1.1
  have hdy := hv.2.1.2.1
  obtain ⟨f1, kb1, bl1, bo1, rc1, fr1, se1, oo1_2, oo1_3, oo1_5, oo1_11, oo1_16, oo1_20, oo1_78, oo1_88, oo1_92, oo1_100, oo1_118⟩ := hW.obs
  refine ar_aload_n (pc' := 1) hM rfl rfl rfl ?_
  refine ar_iload_n (pc' := 2) hM rfl rfl rfl ?_
  refine ar_virtual (pc' := 5) (k3 := 0) (k4 := 0) hM rfl rfl oo1_2 ⟨rfl, (by decide)⟩ rfl rfl (by have h0 := c_isH _ _ _ _ _ _ _ _ hW h; rw [if_neg (fun q => hh ((i_H_iff hn6 _).mp q))] at h0; exact h0) (fun r2 w2 q2 => ?_)
  obtain ⟨rfl, q2w⟩ := q2
  rw [q2w]
  show am_Go 84 (5, [.ref 2, .int h], [.int 0], w, 0, 0) _
  refine ar_if_eq (pc' := 8) hM rfl rfl (fun _ => ?_) (fun q => absurd (by decide) q)
  refine ar_iconst (x := (-1)) (pc' := 29) hM rfl (by decide) rfl ?_
  refine ar_ireturn hM rfl (Or.inl rfl) ?_
  exact ⟨rfl, hW, am_same.rf⟩
set_option maxRecDepth 100000 in
set_option maxHeartbeats 4000000 in
theorem f_wants (w : am_W) (t : Nat × (Nat → Int32)) (T : p_D) (S : s_S) (A : List s_S) (K : Nat → Option s_S) (N : x_N) (sd : Int64) (d : Nat) (hd : d ≤ 1000) (hv : v_W d T S A K) (hW : c_W w t T S A K N sd) (k : Nat) (hk : k < T.2.2.1) : am_Go 84 (0, [.ref 2, .int (nI k)], [], w, 0, 0) (fun res w' => res = some (.int (i_pw N.2.1 N.2.2.1 N.2.2.2 N.1 (nI k) (T.2.2.2.2.2.1 k) 10)) ∧ c_W w' t T S A K N sd ∧ am_same (rg 2 131) w w') := by
  have hM : am_P[84]? = some zm_X10_wants := rfl
  have hn6 : T.2.2.1 ≤ 6 := hv.1.1.1
  have hvT := hv.1.1
  have hvS := hv.2.1.1
  have hdy := hv.2.1.2.1
  obtain ⟨f1, kb1, bl1, bo1, rc1, fr1, se1, oo1_2, oo1_3, oo1_5, oo1_11, oo1_16, oo1_20, oo1_78, oo1_88, oo1_92, oo1_100, oo1_118⟩ := hW.obs
  refine ar_aload_n (pc' := 1) hM rfl rfl rfl ?_
  refine ar_iload_n (pc' := 2) hM rfl rfl rfl ?_
  refine ar_virtual (pc' := 5) (k3 := 0) (k4 := 0) hM rfl rfl oo1_2 ⟨rfl, (by decide)⟩ rfl rfl (by have h0 := c_isH _ _ _ _ _ _ _ _ hW (nI k); rw [if_pos ((i_H_iff hn6 _).mpr ⟨k, hk, rfl⟩)] at h0; exact h0) (fun r2 w2 q2 => ?_)
  obtain ⟨rfl, q2w⟩ := q2
  rw [q2w]
  show am_Go 84 (5, [.ref 2, .int (nI k)], [.int 1], w, 0, 0) _
  refine ar_if_eq (pc' := 8) hM rfl rfl (fun q => absurd q (by decide)) (fun _ => ?_)
  obtain ⟨wa, ki, ba, he, ht0, ht1, ht2, ht3, ht4, hwa, -⟩ := id hW.T
  obtain ⟨so, ss, sl, hs0, hs1, hs2, hs3, hso, hss, hsl⟩ := id hW.S
  refine ar_aload_n (pc' := 9) hM rfl rfl rfl ?_
  refine ar_getfield (pc' := 12) hM rfl oo1_2 rfl rfl ?_
  refine ar_iload_n (pc' := 13) hM rfl rfl rfl ?_
  refine ar_aload_n (pc' := 14) hM rfl rfl rfl ?_
  refine ar_getfield (pc' := 17) hM rfl oo1_2 rfl rfl ?_
  refine ar_getfield (pc' := 20) hM rfl oo1_11 rfl rfl ?_
  refine ar_iload_n (pc' := 21) hM rfl rfl rfl ?_
  refine ar_ialoadN (j := k) (pc' := 22) hM rfl ht2 rfl (by omega) (Nat.le_of_ble_eq_true rfl) rfl ?_
  refine ar_virtual (pc' := 25) (k3 := 0) (k4 := 0) hM rfl rfl oo1_88 ⟨rfl, (by decide)⟩ rfl rfl (k_pw _ N hW.N (nI k) (ki k)) (fun r22 w22 q22 => ?_)
  obtain ⟨rfl, q22w⟩ := q22
  rw [q22w]
  show am_Go 84 (25, [.ref 2, .int (nI k)], [.int (i_pw N.2.1 N.2.2.1 N.2.2.2 N.1 (nI k) (ki k) 10)], w, 0, 0) _
  refine ar_goto hM rfl ?_
  refine ar_ireturn hM rfl (Or.inl rfl) ?_
  exact ⟨by rw [(hwa k hk).2.1], hW, am_same.rf⟩
