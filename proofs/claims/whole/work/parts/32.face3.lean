/-! the class whole: shares, rests, chances, slots, counts -/
theorem i_com_ne (x y : Int32) : ¬ i_com x y = 0 := by
  unfold i_com i_max
  split
  · rename_i h; intro q; rw [q] at h; exact absurd h (by decide)
  · decide
set_option maxRecDepth 100000 in
set_option maxHeartbeats 4000000 in
theorem f_shareN (w : am_W) (t : Nat × (Nat → Int32)) (T : p_D) (S : s_S) (A : List s_S) (K : Nat → Option s_S) (N : x_N) (sd : Int64) (d : Nat) (hd : d ≤ 1000) (hv : v_W d T S A K) (hW : c_W w t T S A K N sd) (h : Int32) (hh : ¬ i_H T.2.2.1 h) (u : Int32) : am_Go 85 (0, [.ref 2, .int h, .int u, .float 0], [], w, 0, 0) (fun res w' => res = some (.int (-1)) ∧ c_W w' t T S A K N sd ∧ am_same (rg 2 131) w w') := by
  have hM : am_P[85]? = some zm_X10_share := rfl
  have hn6 : T.2.2.1 ≤ 6 := hv.1.1.1
  have hvT := hv.1.1
  have hvS := hv.2.1.1
  have hdy := hv.2.1.2.1
  obtain ⟨f1, kb1, bl1, bo1, rc1, fr1, se1, oo1_2, oo1_3, oo1_5, oo1_11, oo1_16, oo1_20, oo1_78, oo1_88, oo1_92, oo1_100, oo1_118⟩ := hW.obs
  refine ar_aload_n (pc' := 1) hM rfl rfl rfl ?_
  refine ar_iload_n (pc' := 2) hM rfl rfl rfl ?_
  refine ar_virtual (pc' := 5) (k3 := 0) (k4 := 0) hM rfl rfl oo1_2 ⟨rfl, (by decide)⟩ rfl rfl (by have h0 := c_isH _ _ _ _ _ _ _ _ hW h; rw [if_neg (fun q => hh ((i_H_iff hn6 _).mp q))] at h0; exact h0) (fun r2 w2 q2 => ?_)
  obtain ⟨rfl, q2w⟩ := q2
  rw [q2w]
  show am_Go 85 (5, [.ref 2, .int h, .int u, .float 0], [.int 0], w, 0, 0) _
  refine ar_if_ne (pc' := 8) hM rfl rfl (fun q => absurd (by decide) q) (fun _ => ?_)
  refine ar_iconst (x := (-1)) (pc' := 9) hM rfl (by decide) rfl ?_
  refine ar_ireturn hM rfl (Or.inl rfl) ?_
  exact ⟨rfl, hW, am_same.rf⟩
set_option maxRecDepth 100000 in
set_option maxHeartbeats 4000000 in
theorem f_share (w : am_W) (t : Nat × (Nat → Int32)) (T : p_D) (S : s_S) (A : List s_S) (K : Nat → Option s_S) (N : x_N) (sd : Int64) (d : Nat) (hd : d ≤ 1000) (hv : v_W d T S A K) (hW : c_W w t T S A K N sd) (k : Nat) (hk : k < T.2.2.1) (u : Int32) : am_Go 85 (0, [.ref 2, .int (nI k), .int u, .float 0], [], w, 0, 0) (fun res w' => res = some (.int ((if u = 0 then am_fac T.2.2.1 else m_add T S k (2 ^ T.2.2.1)) / i_com (m_add T S k (2 ^ T.2.2.1)) (am_fac T.2.2.1))) ∧ c_W w' t T S A K N sd ∧ am_same (rg 2 131) w w') := by
  have hM : am_P[85]? = some zm_X10_share := rfl
  have hn6 : T.2.2.1 ≤ 6 := hv.1.1.1
  have hvT := hv.1.1
  have hvS := hv.2.1.1
  have hdy := hv.2.1.2.1
  obtain ⟨f1, kb1, bl1, bo1, rc1, fr1, se1, oo1_2, oo1_3, oo1_5, oo1_11, oo1_16, oo1_20, oo1_78, oo1_88, oo1_92, oo1_100, oo1_118⟩ := hW.obs
  refine ar_aload_n (pc' := 1) hM rfl rfl rfl ?_
  refine ar_iload_n (pc' := 2) hM rfl rfl rfl ?_
  refine ar_virtual (pc' := 5) (k3 := 0) (k4 := 0) hM rfl rfl oo1_2 ⟨rfl, (by decide)⟩ rfl rfl (by have h0 := c_isH _ _ _ _ _ _ _ _ hW (nI k); rw [if_pos ((i_H_iff hn6 _).mpr ⟨k, hk, rfl⟩)] at h0; exact h0) (fun r2 w2 q2 => ?_)
  obtain ⟨rfl, q2w⟩ := q2
  rw [q2w]
  show am_Go 85 (5, [.ref 2, .int (nI k), .int u, .float 0], [.int 1], w, 0, 0) _
  refine ar_if_ne (pc' := 8) hM rfl rfl (fun _ => ?_) (fun q => absurd q (by decide))
  refine ar_aload_n (pc' := 11) hM rfl rfl rfl ?_
  refine ar_getfield (pc' := 14) hM rfl oo1_2 rfl rfl ?_
  refine ar_aload_n (pc' := 15) hM rfl rfl rfl ?_
  refine ar_getfield (pc' := 18) hM rfl oo1_2 rfl rfl ?_
  refine ar_aload_n (pc' := 19) hM rfl rfl rfl ?_
  refine ar_getfield (pc' := 22) hM rfl oo1_2 rfl rfl ?_
  refine ar_iload_n (pc' := 23) hM rfl rfl rfl ?_
  refine ar_virtual (pc' := 26) (k3 := 0) (k4 := 0) hM rfl rfl oo1_118 ⟨rfl, (by decide)⟩ rfl rfl (k_added _ T S _ _ _ hvT hvS hW.T hW.S oo1_118 hW.f hW.C.2.1 hW.C.2.2.1 k hk) (fun r23 w23 q23 => ?_)
  obtain ⟨rfl, q23s, hr6, hd6⟩ := q23
  have q23t : am_same (rg 118 15) _ _ := q23s.mono (fun b hb => by unfold rg at *; omega)
  have hC2 : c_C w23 := ⟨⟨_, _, _, q23s.at (by unfold rg; omega) oo1_118⟩, hr6, hd6, hW.C.2.2.2.1.same q23s (by unfold rg; omega), hW.C.2.2.2.2.same q23s (by unfold rg; omega)⟩
  have hW2 : c_W w23 t T S A K N sd := hW.sC q23t hC2
  have hsm2 : am_same (rg 2 131) w w23 := (am_same.rf).tr (q23t.mono (fun b hb => by unfold rg at *; omega))
  obtain ⟨f3, kb3, bl3, bo3, rc3, fr3, se3, oo3_2, oo3_3, oo3_5, oo3_11, oo3_16, oo3_20, oo3_78, oo3_88, oo3_92, oo3_100, oo3_118⟩ := hW2.obs
  show am_Go 85 (26, [.ref 2, .int (nI k), .int u, .float 0], [.int (m_add T S k (2 ^ T.2.2.1))], w23, 0, 0) _
  refine ar_istore_n (pc' := 27) hM rfl rfl rfl rfl ?_
  refine ar_iload_n (pc' := 28) hM rfl rfl rfl ?_
  refine ar_aload_n (pc' := 29) hM rfl rfl rfl ?_
  refine ar_getfield (pc' := 32) hM rfl oo3_2 rfl rfl ?_
  refine ar_getfield (pc' := 35) hM rfl oo3_11 rfl rfl ?_
  refine ar_static (pc' := 38) (k3 := 0) (k4 := 0) hM rfl (by decide) rfl rfl (c_ordersOf _ hW2.f _ hn6) (fun r35 w35 q35 => ?_)
  obtain ⟨rfl, q35w⟩ := q35
  rw [q35w]
  show am_Go 85 (38, [.ref 2, .int (nI k), .int u, .int (m_add T S k (2 ^ T.2.2.1))], [.int (am_fac T.2.2.1), .int (m_add T S k (2 ^ T.2.2.1))], w23, 0, 0) _
  refine ar_iload_n (pc' := 39) hM rfl rfl rfl ?_
  refine ar_static (pc' := 42) (k3 := 0) (k4 := 0) hM rfl (by decide) rfl rfl (c_inLeastTerms _ (m_add T S k (2 ^ T.2.2.1)) (am_fac T.2.2.1) u (i_com_ne _ _)) (fun r39 w39 q39 => ?_)
  obtain ⟨rfl, q39w⟩ := q39
  rw [q39w]
  show am_Go 85 (42, [.ref 2, .int (nI k), .int u, .int (m_add T S k (2 ^ T.2.2.1))], [.int ((if u = 0 then am_fac T.2.2.1 else m_add T S k (2 ^ T.2.2.1)) / i_com (m_add T S k (2 ^ T.2.2.1)) (am_fac T.2.2.1))], w23, 0, 0) _
  refine ar_ireturn hM rfl (Or.inl rfl) ?_
  exact ⟨rfl, hW2, hsm2⟩
set_option maxRecDepth 100000 in
set_option maxHeartbeats 4000000 in
theorem f_restsN (w : am_W) (t : Nat × (Nat → Int32)) (T : p_D) (S : s_S) (A : List s_S) (K : Nat → Option s_S) (N : x_N) (sd : Int64) (d : Nat) (hd : d ≤ 1000) (hv : v_W d T S A K) (hW : c_W w t T S A K N sd) (h : Int32) (hh : ¬ i_H T.2.2.1 h) (b c : Int32) : am_Go 86 (0, [.ref 2, .int h, .int b, .int c], [], w, 0, 0) (fun res w' => res = some (.int (-1)) ∧ c_W w' t T S A K N sd ∧ am_same (rg 2 131) w w') := by
  have hM : am_P[86]? = some zm_X10_rests := rfl
  have hn6 : T.2.2.1 ≤ 6 := hv.1.1.1
  have hvT := hv.1.1
  have hvS := hv.2.1.1
  have hdy := hv.2.1.2.1
  obtain ⟨f1, kb1, bl1, bo1, rc1, fr1, se1, oo1_2, oo1_3, oo1_5, oo1_11, oo1_16, oo1_20, oo1_78, oo1_88, oo1_92, oo1_100, oo1_118⟩ := hW.obs
  refine ar_aload_n (pc' := 1) hM rfl rfl rfl ?_
  refine ar_iload_n (pc' := 2) hM rfl rfl rfl ?_
  refine ar_virtual (pc' := 5) (k3 := 0) (k4 := 0) hM rfl rfl oo1_2 ⟨rfl, (by decide)⟩ rfl rfl (by have h0 := c_isH _ _ _ _ _ _ _ _ hW h; rw [if_neg (fun q => hh ((i_H_iff hn6 _).mp q))] at h0; exact h0) (fun r2 w2 q2 => ?_)
  obtain ⟨rfl, q2w⟩ := q2
  rw [q2w]
  show am_Go 86 (5, [.ref 2, .int h, .int b, .int c], [.int 0], w, 0, 0) _
  refine ar_if_eq (pc' := 8) hM rfl rfl (fun _ => ?_) (fun q => absurd (by decide) q)
  refine ar_iconst (x := (-1)) (pc' := 17) hM rfl (by decide) rfl ?_
  refine ar_ireturn hM rfl (Or.inl rfl) ?_
  exact ⟨rfl, hW, am_same.rf⟩
set_option maxRecDepth 100000 in
set_option maxHeartbeats 4000000 in
theorem f_restsM (w : am_W) (t : Nat × (Nat → Int32)) (T : p_D) (S : s_S) (A : List s_S) (K : Nat → Option s_S) (N : x_N) (sd : Int64) (d : Nat) (hd : d ≤ 1000) (hv : v_W d T S A K) (hW : c_W w t T S A K N sd) (k : Nat) (hk : k < T.2.2.1) (h : Int32) (hh : ¬ i_H T.2.2.1 h) (c : Int32) : am_Go 86 (0, [.ref 2, .int (nI k), .int h, .int c], [], w, 0, 0) (fun res w' => res = some (.int (-1)) ∧ c_W w' t T S A K N sd ∧ am_same (rg 2 131) w w') := by
  have hM : am_P[86]? = some zm_X10_rests := rfl
  have hn6 : T.2.2.1 ≤ 6 := hv.1.1.1
  have hvT := hv.1.1
  have hvS := hv.2.1.1
  have hdy := hv.2.1.2.1
  obtain ⟨f1, kb1, bl1, bo1, rc1, fr1, se1, oo1_2, oo1_3, oo1_5, oo1_11, oo1_16, oo1_20, oo1_78, oo1_88, oo1_92, oo1_100, oo1_118⟩ := hW.obs
  refine ar_aload_n (pc' := 1) hM rfl rfl rfl ?_
  refine ar_iload_n (pc' := 2) hM rfl rfl rfl ?_
  refine ar_virtual (pc' := 5) (k3 := 0) (k4 := 0) hM rfl rfl oo1_2 ⟨rfl, (by decide)⟩ rfl rfl (by have h0 := c_isH _ _ _ _ _ _ _ _ hW (nI k); rw [if_pos ((i_H_iff hn6 _).mpr ⟨k, hk, rfl⟩)] at h0; exact h0) (fun r2 w2 q2 => ?_)
  obtain ⟨rfl, q2w⟩ := q2
  rw [q2w]
  show am_Go 86 (5, [.ref 2, .int (nI k), .int h, .int c], [.int 1], w, 0, 0) _
  refine ar_if_eq (pc' := 8) hM rfl rfl (fun q => absurd q (by decide)) (fun _ => ?_)
  refine ar_aload_n (pc' := 9) hM rfl rfl rfl ?_
  refine ar_iload_n (pc' := 10) hM rfl rfl rfl ?_
  refine ar_virtual (pc' := 13) (k3 := 0) (k4 := 0) hM rfl rfl oo1_2 ⟨rfl, (by decide)⟩ rfl rfl (by have h0 := c_isH _ _ _ _ _ _ _ _ hW h; rw [if_neg (fun q => hh ((i_H_iff hn6 _).mp q))] at h0; exact h0) (fun r10 w10 q10 => ?_)
  obtain ⟨rfl, q10w⟩ := q10
  rw [q10w]
  show am_Go 86 (13, [.ref 2, .int (nI k), .int h, .int c], [.int 0], w, 0, 0) _
  refine ar_if_ne (pc' := 16) hM rfl rfl (fun q => absurd (by decide) q) (fun _ => ?_)
  refine ar_iconst (x := (-1)) (pc' := 17) hM rfl (by decide) rfl ?_
  refine ar_ireturn hM rfl (Or.inl rfl) ?_
  exact ⟨rfl, hW, am_same.rf⟩
set_option maxRecDepth 100000 in
set_option maxHeartbeats 4000000 in
theorem f_restsE (w : am_W) (t : Nat × (Nat → Int32)) (T : p_D) (S : s_S) (A : List s_S) (K : Nat → Option s_S) (N : x_N) (sd : Int64) (d : Nat) (hd : d ≤ 1000) (hv : v_W d T S A K) (hW : c_W w t T S A K N sd) (k : Nat) (hk : k < T.2.2.1) (c : Int32) : am_Go 86 (0, [.ref 2, .int (nI k), .int (nI k), .int c], [], w, 0, 0) (fun res w' => res = some (.int (-2)) ∧ c_W w' t T S A K N sd ∧ am_same (rg 2 131) w w') := by
  have hM : am_P[86]? = some zm_X10_rests := rfl
  have hn6 : T.2.2.1 ≤ 6 := hv.1.1.1
  have hvT := hv.1.1
  have hvS := hv.2.1.1
  have hdy := hv.2.1.2.1
  obtain ⟨f1, kb1, bl1, bo1, rc1, fr1, se1, oo1_2, oo1_3, oo1_5, oo1_11, oo1_16, oo1_20, oo1_78, oo1_88, oo1_92, oo1_100, oo1_118⟩ := hW.obs
  refine ar_aload_n (pc' := 1) hM rfl rfl rfl ?_
  refine ar_iload_n (pc' := 2) hM rfl rfl rfl ?_
  refine ar_virtual (pc' := 5) (k3 := 0) (k4 := 0) hM rfl rfl oo1_2 ⟨rfl, (by decide)⟩ rfl rfl (by have h0 := c_isH _ _ _ _ _ _ _ _ hW (nI k); rw [if_pos ((i_H_iff hn6 _).mpr ⟨k, hk, rfl⟩)] at h0; exact h0) (fun r2 w2 q2 => ?_)
  obtain ⟨rfl, q2w⟩ := q2
  rw [q2w]
  show am_Go 86 (5, [.ref 2, .int (nI k), .int (nI k), .int c], [.int 1], w, 0, 0) _
  refine ar_if_eq (pc' := 8) hM rfl rfl (fun q => absurd q (by decide)) (fun _ => ?_)
  refine ar_aload_n (pc' := 9) hM rfl rfl rfl ?_
  refine ar_iload_n (pc' := 10) hM rfl rfl rfl ?_
  refine ar_virtual (pc' := 13) (k3 := 0) (k4 := 0) hM rfl rfl oo1_2 ⟨rfl, (by decide)⟩ rfl rfl (by have h0 := c_isH _ _ _ _ _ _ _ _ hW (nI k); rw [if_pos ((i_H_iff hn6 _).mpr ⟨k, hk, rfl⟩)] at h0; exact h0) (fun r10 w10 q10 => ?_)
  obtain ⟨rfl, q10w⟩ := q10
  rw [q10w]
  show am_Go 86 (13, [.ref 2, .int (nI k), .int (nI k), .int c], [.int 1], w, 0, 0) _
  refine ar_if_ne (pc' := 16) hM rfl rfl (fun _ => ?_) (fun q => absurd q (by decide))
  refine ar_iload_n (pc' := 19) hM rfl rfl rfl ?_
  refine ar_iload_n (pc' := 20) hM rfl rfl rfl ?_
  refine ar_icmp_eq (pc' := 23) hM rfl rfl (fun _ => ?_) (fun q => absurd rfl q)
  refine ar_bipush (x := (-2)) (pc' := 34) hM rfl (by decide) rfl ?_
  refine ar_ireturn hM rfl (Or.inl rfl) ?_
  exact ⟨rfl, hW, am_same.rf⟩
set_option maxRecDepth 100000 in
set_option maxHeartbeats 4000000 in
theorem f_restsO (w : am_W) (t : Nat × (Nat → Int32)) (T : p_D) (S : s_S) (A : List s_S) (K : Nat → Option s_S) (N : x_N) (sd : Int64) (d : Nat) (hd : d ≤ 1000) (hv : v_W d T S A K) (hW : c_W w t T S A K N sd) (k : Nat) (hk : k < T.2.2.1) (j : Nat) (hj : j < T.2.2.1) (hkj : k ≠ j) (c : Int32) (hno : ¬ (0 ≤ c ∧ c ≤ 1)) : am_Go 86 (0, [.ref 2, .int (nI k), .int (nI j), .int c], [], w, 0, 0) (fun res w' => res = some (.int (-2)) ∧ c_W w' t T S A K N sd ∧ am_same (rg 2 131) w w') := by
  have hM : am_P[86]? = some zm_X10_rests := rfl
  have hn6 : T.2.2.1 ≤ 6 := hv.1.1.1
  have hvT := hv.1.1
  have hvS := hv.2.1.1
  have hdy := hv.2.1.2.1
  obtain ⟨f1, kb1, bl1, bo1, rc1, fr1, se1, oo1_2, oo1_3, oo1_5, oo1_11, oo1_16, oo1_20, oo1_78, oo1_88, oo1_92, oo1_100, oo1_118⟩ := hW.obs
  refine ar_aload_n (pc' := 1) hM rfl rfl rfl ?_
  refine ar_iload_n (pc' := 2) hM rfl rfl rfl ?_
  refine ar_virtual (pc' := 5) (k3 := 0) (k4 := 0) hM rfl rfl oo1_2 ⟨rfl, (by decide)⟩ rfl rfl (by have h0 := c_isH _ _ _ _ _ _ _ _ hW (nI k); rw [if_pos ((i_H_iff hn6 _).mpr ⟨k, hk, rfl⟩)] at h0; exact h0) (fun r2 w2 q2 => ?_)
  obtain ⟨rfl, q2w⟩ := q2
  rw [q2w]
  show am_Go 86 (5, [.ref 2, .int (nI k), .int (nI j), .int c], [.int 1], w, 0, 0) _
  refine ar_if_eq (pc' := 8) hM rfl rfl (fun q => absurd q (by decide)) (fun _ => ?_)
  refine ar_aload_n (pc' := 9) hM rfl rfl rfl ?_
  refine ar_iload_n (pc' := 10) hM rfl rfl rfl ?_
  refine ar_virtual (pc' := 13) (k3 := 0) (k4 := 0) hM rfl rfl oo1_2 ⟨rfl, (by decide)⟩ rfl rfl (by have h0 := c_isH _ _ _ _ _ _ _ _ hW (nI j); rw [if_pos ((i_H_iff hn6 _).mpr ⟨j, hj, rfl⟩)] at h0; exact h0) (fun r10 w10 q10 => ?_)
  obtain ⟨rfl, q10w⟩ := q10
  rw [q10w]
  show am_Go 86 (13, [.ref 2, .int (nI k), .int (nI j), .int c], [.int 1], w, 0, 0) _
  refine ar_if_ne (pc' := 16) hM rfl rfl (fun _ => ?_) (fun q => absurd q (by decide))
  refine ar_iload_n (pc' := 19) hM rfl rfl rfl ?_
  refine ar_iload_n (pc' := 20) hM rfl rfl rfl ?_
  refine ar_icmp_eq (pc' := 23) hM rfl rfl (fun q => absurd q (fun q => hkj ((nI_eq (by omega) (by omega)).mp q))) (fun _ => ?_)
  refine ar_iload_n (pc' := 24) hM rfl rfl rfl ?_
  refine ar_iconst (x := 0) (pc' := 25) hM rfl (by decide) rfl ?_
  refine ar_iconst (x := 1) (pc' := 26) hM rfl (by decide) rfl ?_
  refine ar_static (pc' := 29) (k3 := 0) (k4 := 0) hM rfl (by decide) rfl rfl (by have h0 := c_within w c 0 1; rw [if_neg hno] at h0; exact h0) (fun r26 w26 q26 => ?_)
  obtain ⟨rfl, q26w⟩ := q26
  rw [q26w]
  show am_Go 86 (29, [.ref 2, .int (nI k), .int (nI j), .int c], [.int 0], w, 0, 0) _
  refine ar_if_ne (pc' := 32) hM rfl rfl (fun q => absurd (by decide) q) (fun _ => ?_)
  refine ar_bipush (x := (-2)) (pc' := 34) hM rfl (by decide) rfl ?_
  refine ar_ireturn hM rfl (Or.inl rfl) ?_
  exact ⟨rfl, hW, am_same.rf⟩
set_option maxRecDepth 100000 in
set_option maxHeartbeats 4000000 in
theorem f_rests0 (w : am_W) (t : Nat × (Nat → Int32)) (T : p_D) (S : s_S) (A : List s_S) (K : Nat → Option s_S) (N : x_N) (sd : Int64) (d : Nat) (hd : d ≤ 1000) (hv : v_W d T S A K) (hW : c_W w t T S A K N sd) (k : Nat) (hk : k < T.2.2.1) (j : Nat) (hj : j < T.2.2.1) (hkj : k ≠ j) : am_Go 86 (0, [.ref 2, .int (nI k), .int (nI j), .int 0], [], w, 0, 0) (fun res w' => res = some (.int ((m_rests T S k j).1)) ∧ c_W w' t T S A K N sd ∧ am_same (rg 2 131) w w') := by
  have hM : am_P[86]? = some zm_X10_rests := rfl
  have hn6 : T.2.2.1 ≤ 6 := hv.1.1.1
  have hvT := hv.1.1
  have hvS := hv.2.1.1
  have hdy := hv.2.1.2.1
  obtain ⟨f1, kb1, bl1, bo1, rc1, fr1, se1, oo1_2, oo1_3, oo1_5, oo1_11, oo1_16, oo1_20, oo1_78, oo1_88, oo1_92, oo1_100, oo1_118⟩ := hW.obs
  refine ar_aload_n (pc' := 1) hM rfl rfl rfl ?_
  refine ar_iload_n (pc' := 2) hM rfl rfl rfl ?_
  refine ar_virtual (pc' := 5) (k3 := 0) (k4 := 0) hM rfl rfl oo1_2 ⟨rfl, (by decide)⟩ rfl rfl (by have h0 := c_isH _ _ _ _ _ _ _ _ hW (nI k); rw [if_pos ((i_H_iff hn6 _).mpr ⟨k, hk, rfl⟩)] at h0; exact h0) (fun r2 w2 q2 => ?_)
  obtain ⟨rfl, q2w⟩ := q2
  rw [q2w]
  show am_Go 86 (5, [.ref 2, .int (nI k), .int (nI j), .int 0], [.int 1], w, 0, 0) _
  refine ar_if_eq (pc' := 8) hM rfl rfl (fun q => absurd q (by decide)) (fun _ => ?_)
  refine ar_aload_n (pc' := 9) hM rfl rfl rfl ?_
  refine ar_iload_n (pc' := 10) hM rfl rfl rfl ?_
  refine ar_virtual (pc' := 13) (k3 := 0) (k4 := 0) hM rfl rfl oo1_2 ⟨rfl, (by decide)⟩ rfl rfl (by have h0 := c_isH _ _ _ _ _ _ _ _ hW (nI j); rw [if_pos ((i_H_iff hn6 _).mpr ⟨j, hj, rfl⟩)] at h0; exact h0) (fun r10 w10 q10 => ?_)
  obtain ⟨rfl, q10w⟩ := q10
  rw [q10w]
  show am_Go 86 (13, [.ref 2, .int (nI k), .int (nI j), .int 0], [.int 1], w, 0, 0) _
  refine ar_if_ne (pc' := 16) hM rfl rfl (fun _ => ?_) (fun q => absurd q (by decide))
  refine ar_iload_n (pc' := 19) hM rfl rfl rfl ?_
  refine ar_iload_n (pc' := 20) hM rfl rfl rfl ?_
  refine ar_icmp_eq (pc' := 23) hM rfl rfl (fun q => absurd q (fun q => hkj ((nI_eq (by omega) (by omega)).mp q))) (fun _ => ?_)
  refine ar_iload_n (pc' := 24) hM rfl rfl rfl ?_
  refine ar_iconst (x := 0) (pc' := 25) hM rfl (by decide) rfl ?_
  refine ar_iconst (x := 1) (pc' := 26) hM rfl (by decide) rfl ?_
  refine ar_static (pc' := 29) (k3 := 0) (k4 := 0) hM rfl (by decide) rfl rfl (by have h0 := c_within w 0 0 1; rw [if_pos (by decide)] at h0; exact h0) (fun r26 w26 q26 => ?_)
  obtain ⟨rfl, q26w⟩ := q26
  rw [q26w]
  show am_Go 86 (29, [.ref 2, .int (nI k), .int (nI j), .int 0], [.int 1], w, 0, 0) _
  refine ar_if_ne (pc' := 32) hM rfl rfl (fun _ => ?_) (fun q => absurd q (by decide))
  refine ar_aload_n (pc' := 36) hM rfl rfl rfl ?_
  refine ar_getfield (pc' := 39) hM rfl oo1_2 rfl rfl ?_
  refine ar_aload_n (pc' := 40) hM rfl rfl rfl ?_
  refine ar_getfield (pc' := 43) hM rfl oo1_2 rfl rfl ?_
  refine ar_aload_n (pc' := 44) hM rfl rfl rfl ?_
  refine ar_getfield (pc' := 47) hM rfl oo1_2 rfl rfl ?_
  refine ar_iload_n (pc' := 48) hM rfl rfl rfl ?_
  refine ar_iload_n (pc' := 49) hM rfl rfl rfl ?_
  obtain ⟨se0, hse0⟩ : ∃ z : Int64, z = se1 := ⟨_, rfl⟩
  refine ar_virtual (pc' := 52) (k3 := 0) (k4 := 0) hM rfl rfl oo1_118 ⟨rfl, (by decide)⟩ rfl rfl (k_seekRests _ T S _ _ se0 hvT hvS hW.T hW.S (by rw [hse0]; exact oo1_118) hW.C.2.1 hW.C.2.2.1 hW.C.2.2.2.1 hW.C.2.2.2.2 k j hk hj) (fun r49 w49 q49 => ?_)
  obtain ⟨rfl, h118, q49s, hr6, hd6, h131, h132⟩ := q49
  have hC2 : c_C w49 := ⟨⟨_, _, _, h118⟩, hr6, hd6, h131, h132⟩
  have hW2 : c_W w49 t T S A K N sd := hW.sC q49s hC2
  have hsm2 : am_same (rg 2 131) w w49 := (am_same.rf).tr (q49s.mono (fun b hb => by unfold rg at *; omega))
  obtain ⟨f3, kb3, bl3, bo3, rc3, fr3, se3, oo3_2, oo3_3, oo3_5, oo3_11, oo3_16, oo3_20, oo3_78, oo3_88, oo3_92, oo3_100, oo3_118⟩ := hW2.obs
  show am_Go 86 (52, [.ref 2, .int (nI k), .int (nI j), .int 0], [], w49, 0, 0) _
  refine ar_iload_n (pc' := 53) hM rfl rfl rfl ?_
  refine ar_if_ne (pc' := 56) hM rfl rfl (fun q => absurd rfl q) (fun _ => ?_)
  refine ar_aload_n (pc' := 57) hM rfl rfl rfl ?_
  refine ar_getfield (pc' := 60) hM rfl oo3_2 rfl rfl ?_
  refine ar_getfield (pc' := 63) hM rfl h118 rfl rfl ?_
  refine ar_goto hM rfl ?_
  refine ar_ireturn hM rfl (Or.inl rfl) ?_
  exact ⟨rfl, hW2, hsm2⟩
set_option maxRecDepth 100000 in
set_option maxHeartbeats 4000000 in
theorem f_rests1 (w : am_W) (t : Nat × (Nat → Int32)) (T : p_D) (S : s_S) (A : List s_S) (K : Nat → Option s_S) (N : x_N) (sd : Int64) (d : Nat) (hd : d ≤ 1000) (hv : v_W d T S A K) (hW : c_W w t T S A K N sd) (k : Nat) (hk : k < T.2.2.1) (j : Nat) (hj : j < T.2.2.1) (hkj : k ≠ j) : am_Go 86 (0, [.ref 2, .int (nI k), .int (nI j), .int 1], [], w, 0, 0) (fun res w' => res = some (.int ((m_rests T S k j).2)) ∧ c_W w' t T S A K N sd ∧ am_same (rg 2 131) w w') := by
  have hM : am_P[86]? = some zm_X10_rests := rfl
  have hn6 : T.2.2.1 ≤ 6 := hv.1.1.1
  have hvT := hv.1.1
  have hvS := hv.2.1.1
  have hdy := hv.2.1.2.1
  obtain ⟨f1, kb1, bl1, bo1, rc1, fr1, se1, oo1_2, oo1_3, oo1_5, oo1_11, oo1_16, oo1_20, oo1_78, oo1_88, oo1_92, oo1_100, oo1_118⟩ := hW.obs
  refine ar_aload_n (pc' := 1) hM rfl rfl rfl ?_
  refine ar_iload_n (pc' := 2) hM rfl rfl rfl ?_
  refine ar_virtual (pc' := 5) (k3 := 0) (k4 := 0) hM rfl rfl oo1_2 ⟨rfl, (by decide)⟩ rfl rfl (by have h0 := c_isH _ _ _ _ _ _ _ _ hW (nI k); rw [if_pos ((i_H_iff hn6 _).mpr ⟨k, hk, rfl⟩)] at h0; exact h0) (fun r2 w2 q2 => ?_)
  obtain ⟨rfl, q2w⟩ := q2
  rw [q2w]
  show am_Go 86 (5, [.ref 2, .int (nI k), .int (nI j), .int 1], [.int 1], w, 0, 0) _
  refine ar_if_eq (pc' := 8) hM rfl rfl (fun q => absurd q (by decide)) (fun _ => ?_)
  refine ar_aload_n (pc' := 9) hM rfl rfl rfl ?_
  refine ar_iload_n (pc' := 10) hM rfl rfl rfl ?_
  refine ar_virtual (pc' := 13) (k3 := 0) (k4 := 0) hM rfl rfl oo1_2 ⟨rfl, (by decide)⟩ rfl rfl (by have h0 := c_isH _ _ _ _ _ _ _ _ hW (nI j); rw [if_pos ((i_H_iff hn6 _).mpr ⟨j, hj, rfl⟩)] at h0; exact h0) (fun r10 w10 q10 => ?_)
  obtain ⟨rfl, q10w⟩ := q10
  rw [q10w]
  show am_Go 86 (13, [.ref 2, .int (nI k), .int (nI j), .int 1], [.int 1], w, 0, 0) _
  refine ar_if_ne (pc' := 16) hM rfl rfl (fun _ => ?_) (fun q => absurd q (by decide))
  refine ar_iload_n (pc' := 19) hM rfl rfl rfl ?_
  refine ar_iload_n (pc' := 20) hM rfl rfl rfl ?_
  refine ar_icmp_eq (pc' := 23) hM rfl rfl (fun q => absurd q (fun q => hkj ((nI_eq (by omega) (by omega)).mp q))) (fun _ => ?_)
  refine ar_iload_n (pc' := 24) hM rfl rfl rfl ?_
  refine ar_iconst (x := 0) (pc' := 25) hM rfl (by decide) rfl ?_
  refine ar_iconst (x := 1) (pc' := 26) hM rfl (by decide) rfl ?_
  refine ar_static (pc' := 29) (k3 := 0) (k4 := 0) hM rfl (by decide) rfl rfl (by have h0 := c_within w 1 0 1; rw [if_pos (by decide)] at h0; exact h0) (fun r26 w26 q26 => ?_)
  obtain ⟨rfl, q26w⟩ := q26
  rw [q26w]
  show am_Go 86 (29, [.ref 2, .int (nI k), .int (nI j), .int 1], [.int 1], w, 0, 0) _
  refine ar_if_ne (pc' := 32) hM rfl rfl (fun _ => ?_) (fun q => absurd q (by decide))
  refine ar_aload_n (pc' := 36) hM rfl rfl rfl ?_
  refine ar_getfield (pc' := 39) hM rfl oo1_2 rfl rfl ?_
  refine ar_aload_n (pc' := 40) hM rfl rfl rfl ?_
  refine ar_getfield (pc' := 43) hM rfl oo1_2 rfl rfl ?_
  refine ar_aload_n (pc' := 44) hM rfl rfl rfl ?_
  refine ar_getfield (pc' := 47) hM rfl oo1_2 rfl rfl ?_
  refine ar_iload_n (pc' := 48) hM rfl rfl rfl ?_
  refine ar_iload_n (pc' := 49) hM rfl rfl rfl ?_
  obtain ⟨se0, hse0⟩ : ∃ z : Int64, z = se1 := ⟨_, rfl⟩
  refine ar_virtual (pc' := 52) (k3 := 0) (k4 := 0) hM rfl rfl oo1_118 ⟨rfl, (by decide)⟩ rfl rfl (k_seekRests _ T S _ _ se0 hvT hvS hW.T hW.S (by rw [hse0]; exact oo1_118) hW.C.2.1 hW.C.2.2.1 hW.C.2.2.2.1 hW.C.2.2.2.2 k j hk hj) (fun r49 w49 q49 => ?_)
  obtain ⟨rfl, h118, q49s, hr6, hd6, h131, h132⟩ := q49
  have hC2 : c_C w49 := ⟨⟨_, _, _, h118⟩, hr6, hd6, h131, h132⟩
  have hW2 : c_W w49 t T S A K N sd := hW.sC q49s hC2
  have hsm2 : am_same (rg 2 131) w w49 := (am_same.rf).tr (q49s.mono (fun b hb => by unfold rg at *; omega))
  obtain ⟨f3, kb3, bl3, bo3, rc3, fr3, se3, oo3_2, oo3_3, oo3_5, oo3_11, oo3_16, oo3_20, oo3_78, oo3_88, oo3_92, oo3_100, oo3_118⟩ := hW2.obs
  show am_Go 86 (52, [.ref 2, .int (nI k), .int (nI j), .int 1], [], w49, 0, 0) _
  refine ar_iload_n (pc' := 53) hM rfl rfl rfl ?_
  refine ar_if_ne (pc' := 56) hM rfl rfl (fun _ => ?_) (fun q => absurd q (by decide))
  refine ar_aload_n (pc' := 67) hM rfl rfl rfl ?_
  refine ar_getfield (pc' := 70) hM rfl oo3_2 rfl rfl ?_
  refine ar_getfield (pc' := 73) hM rfl h118 rfl rfl ?_
  refine ar_ireturn hM rfl (Or.inl rfl) ?_
  exact ⟨rfl, hW2, hsm2⟩
set_option maxRecDepth 100000 in
set_option maxHeartbeats 4000000 in
theorem f_guestsO (w : am_W) (t : Nat × (Nat → Int32)) (T : p_D) (S : s_S) (A : List s_S) (K : Nat → Option s_S) (N : x_N) (sd : Int64) (d : Nat) (hd : d ≤ 1000) (hv : v_W d T S A K) (hW : c_W w t T S A K N sd) (a b u : Int32) (hno : ¬ ((0 ≤ a ∧ a ≤ 60) ∧ 0 ≤ b ∧ b ≤ 10)) : am_Go 87 (0, [.ref 2, .int a, .int b, .int u, .float 0], [], w, 0, 0) (fun res w' => res = some (.int (-2)) ∧ c_W w' t T S A K N sd ∧ am_same (rg 2 131) w w') := by
  have hM : am_P[87]? = some zm_X10_guests := rfl
  have hn6 : T.2.2.1 ≤ 6 := hv.1.1.1
  have hvT := hv.1.1
  have hvS := hv.2.1.1
  have hdy := hv.2.1.2.1
  obtain ⟨f1, kb1, bl1, bo1, rc1, fr1, se1, oo1_2, oo1_3, oo1_5, oo1_11, oo1_16, oo1_20, oo1_78, oo1_88, oo1_92, oo1_100, oo1_118⟩ := hW.obs
  refine ar_iload_n (pc' := 1) hM rfl rfl rfl ?_
  refine ar_iconst (x := 0) (pc' := 2) hM rfl (by decide) rfl ?_
  refine ar_bipush (x := 60) (pc' := 4) hM rfl (by decide) rfl ?_
  refine ar_static (pc' := 7) (k3 := 0) (k4 := 0) hM rfl (by decide) rfl rfl (c_within _ _ _ _) (fun r4 w4 q4 => ?_)
  obtain ⟨rfl, q4w⟩ := q4
  rw [q4w]
  show am_Go 87 (7, [.ref 2, .int a, .int b, .int u, .float 0], [.int (if 0 ≤ a ∧ a ≤ 60 then 1 else 0)], w, 0, 0) _
  refine ar_if_eq (pc' := 10) hM rfl rfl (fun c7 => ?_) (fun c7 => ?_)
  · refine ar_bipush (x := (-2)) (pc' := 22) hM rfl (by decide) rfl ?_
    refine ar_ireturn hM rfl (Or.inl rfl) ?_
    exact ⟨rfl, hW, am_same.rf⟩
  · refine ar_iload_n (pc' := 11) hM rfl rfl rfl ?_
    refine ar_iconst (x := 0) (pc' := 12) hM rfl (by decide) rfl ?_
    refine ar_bipush (x := 10) (pc' := 14) hM rfl (by decide) rfl ?_
    refine ar_static (pc' := 17) (k3 := 0) (k4 := 0) hM rfl (by decide) rfl rfl (c_within _ _ _ _) (fun r14 w14 q14 => ?_)
    obtain ⟨rfl, q14w⟩ := q14
    rw [q14w]
    show am_Go 87 (17, [.ref 2, .int a, .int b, .int u, .float 0], [.int (if 0 ≤ b ∧ b ≤ 10 then 1 else 0)], w, 0, 0) _
    refine ar_if_ne (pc' := 20) hM rfl rfl (fun c17 => ?_) (fun c17 => ?_)
    · exact absurd ⟨am_ne0 c7, am_ne0 c17⟩ hno
    · refine ar_bipush (x := (-2)) (pc' := 22) hM rfl (by decide) rfl ?_
      refine ar_ireturn hM rfl (Or.inl rfl) ?_
      exact ⟨rfl, hW, am_same.rf⟩
set_option maxRecDepth 100000 in
set_option maxHeartbeats 4000000 in
theorem f_guests (w : am_W) (t : Nat × (Nat → Int32)) (T : p_D) (S : s_S) (A : List s_S) (K : Nat → Option s_S) (N : x_N) (sd : Int64) (d : Nat) (hd : d ≤ 1000) (hv : v_W d T S A K) (hW : c_W w t T S A K N sd) (m : Nat) (hm : m ≤ 60) (x : Nat) (hx : x ≤ 10) (u : Int32) (B : Nat) (hB : S.2.2.2.2.2.1 = nI B) (hB2 : B < 2 ^ T.2.2.1) : am_Go 87 (0, [.ref 2, .int (nI m), .int (nI x), .int u, .float 0], [], w, 0, 0) (fun res w' => res = some (.int ((if u = 0 then i_pow 10 (T.2.2.1 - n_pop B) else m_ways T S B (nI m) x (2 ^ T.2.2.1)) / i_com (m_ways T S B (nI m) x (2 ^ T.2.2.1)) (i_pow 10 (T.2.2.1 - n_pop B)))) ∧ c_W w' t T S A K N sd ∧ am_same (rg 2 131) w w') := by
  have hM : am_P[87]? = some zm_X10_guests := rfl
  have hn6 : T.2.2.1 ≤ 6 := hv.1.1.1
  have hvT := hv.1.1
  have hvS := hv.2.1.1
  have hdy := hv.2.1.2.1
  have h64 : 2 ^ T.2.2.1 ≤ 64 := by have := Nat.pow_le_pow_right (show 0 < 2 by decide) hn6; omega
  have hpA : n_pop B ≤ T.2.2.1 := by have := i_popd (show T.2.2.1 < 7 by omega) hB2 (g := 0) (by omega) (by rw [i_and, Nat.zero_and]; rfl); omega
  obtain ⟨f1, kb1, bl1, bo1, rc1, fr1, se1, oo1_2, oo1_3, oo1_5, oo1_11, oo1_16, oo1_20, oo1_78, oo1_88, oo1_92, oo1_100, oo1_118⟩ := hW.obs
  refine ar_iload_n (pc' := 1) hM rfl rfl rfl ?_
  refine ar_iconst (x := 0) (pc' := 2) hM rfl (by decide) rfl ?_
  refine ar_bipush (x := 60) (pc' := 4) hM rfl (by decide) rfl ?_
  refine ar_static (pc' := 7) (k3 := 0) (k4 := 0) hM rfl (by decide) rfl rfl (by have h0 := c_within w (nI m) 0 60; rw [if_pos ⟨nI_le (a := 0) (by omega) (by omega), nI_le (b := 60) (by omega) (by omega)⟩] at h0; exact h0) (fun r4 w4 q4 => ?_)
  obtain ⟨rfl, q4w⟩ := q4
  rw [q4w]
  show am_Go 87 (7, [.ref 2, .int (nI m), .int (nI x), .int u, .float 0], [.int 1], w, 0, 0) _
  refine ar_if_eq (pc' := 10) hM rfl rfl (fun q => absurd q (by decide)) (fun _ => ?_)
  refine ar_iload_n (pc' := 11) hM rfl rfl rfl ?_
  refine ar_iconst (x := 0) (pc' := 12) hM rfl (by decide) rfl ?_
  refine ar_bipush (x := 10) (pc' := 14) hM rfl (by decide) rfl ?_
  refine ar_static (pc' := 17) (k3 := 0) (k4 := 0) hM rfl (by decide) rfl rfl (by have h0 := c_within w (nI x) 0 10; rw [if_pos ⟨nI_le (a := 0) (by omega) (by omega), nI_le (b := 10) (by omega) (by omega)⟩] at h0; exact h0) (fun r14 w14 q14 => ?_)
  obtain ⟨rfl, q14w⟩ := q14
  rw [q14w]
  show am_Go 87 (17, [.ref 2, .int (nI m), .int (nI x), .int u, .float 0], [.int 1], w, 0, 0) _
  refine ar_if_ne (pc' := 20) hM rfl rfl (fun _ => ?_) (fun q => absurd q (by decide))
  refine ar_aload_n (pc' := 24) hM rfl rfl rfl ?_
  refine ar_getfield (pc' := 27) hM rfl oo1_2 rfl rfl ?_
  refine ar_aload_n (pc' := 28) hM rfl rfl rfl ?_
  refine ar_getfield (pc' := 31) hM rfl oo1_2 rfl rfl ?_
  refine ar_aload_n (pc' := 32) hM rfl rfl rfl ?_
  refine ar_getfield (pc' := 35) hM rfl oo1_2 rfl rfl ?_
  refine ar_iload_n (pc' := 36) hM rfl rfl rfl ?_
  refine ar_iload_n (pc' := 37) hM rfl rfl rfl ?_
  refine ar_virtual (pc' := 40) (k3 := 0) (k4 := 0) hM rfl rfl oo1_118 ⟨rfl, (by decide)⟩ rfl rfl (k_ways _ T S _ _ _ hvT hvS hW.T hW.S oo1_118 hW.C.2.2.1 B hB hB2 (nI m) x hx) (fun r37 w37 q37 => ?_)
  obtain ⟨rfl, q37s, hd6⟩ := q37
  have hr6 := hW.C.2.1.same q37s (fun b h1 h2 => by unfold rg; omega)
  have q37t : am_same (rg 118 15) _ _ := q37s.mono (fun b hb => by unfold rg at *; omega)
  have hC2 : c_C w37 := ⟨⟨_, _, _, q37s.at (by unfold rg; omega) oo1_118⟩, hr6, hd6, hW.C.2.2.2.1.same q37s (by unfold rg; omega), hW.C.2.2.2.2.same q37s (by unfold rg; omega)⟩
  have hW2 : c_W w37 t T S A K N sd := hW.sC q37t hC2
  have hsm2 : am_same (rg 2 131) w w37 := (am_same.rf).tr (q37t.mono (fun b hb => by unfold rg at *; omega))
  obtain ⟨f3, kb3, bl3, bo3, rc3, fr3, se3, oo3_2, oo3_3, oo3_5, oo3_11, oo3_16, oo3_20, oo3_78, oo3_88, oo3_92, oo3_100, oo3_118⟩ := hW2.obs
  show am_Go 87 (40, [.ref 2, .int (nI m), .int (nI x), .int u, .float 0], [.int (m_ways T S B (nI m) x (2 ^ T.2.2.1))], w37, 0, 0) _
  refine ar_istore (pc' := 42) hM rfl rfl rfl rfl ?_
  refine ar_iload (pc' := 44) hM rfl rfl rfl ?_
  refine ar_bipush (x := 10) (pc' := 46) hM rfl (by decide) rfl ?_
  refine ar_aload_n (pc' := 47) hM rfl rfl rfl ?_
  refine ar_getfield (pc' := 50) hM rfl oo3_2 rfl rfl ?_
  refine ar_aload_n (pc' := 51) hM rfl rfl rfl ?_
  refine ar_getfield (pc' := 54) hM rfl oo3_2 rfl rfl ?_
  refine ar_getfield (pc' := 57) hM rfl oo3_11 rfl rfl ?_
  refine ar_virtual (pc' := 60) (k3 := 0) (k4 := 0) hM rfl rfl oo3_16 ⟨rfl, (by decide)⟩ rfl rfl (by obtain ⟨so, ss, sl, g0, g1, g2, g3, -⟩ := hW2.S; exact c_countPresent _ 16 (by decide) so ss sl _ _ _ g0 g1 g2 g3 (nI T.2.2.1)) (fun r57 w57 q57 => ?_)
  obtain ⟨rfl, q57w⟩ := q57
  rw [q57w]
  rw [show nI T.2.2.1 - i_bc S.2.2.2.2.2.1 = nI (T.2.2.1 - n_pop B) from by rw [hB, i_bc_tab B (by omega), pk_sub hpA]]
  show am_Go 87 (60, [.ref 2, .int (nI m), .int (nI x), .int u, .int (m_ways T S B (nI m) x (2 ^ T.2.2.1))], [.int (nI (T.2.2.1 - n_pop B)), .int 10, .int (m_ways T S B (nI m) x (2 ^ T.2.2.1))], w37, 0, 0) _
  refine ar_static (pc' := 63) (k3 := 0) (k4 := 0) hM rfl (by decide) rfl rfl (c_power _ 10 (T.2.2.1 - n_pop B) (by omega)) (fun r60 w60 q60 => ?_)
  obtain ⟨rfl, q60w⟩ := q60
  rw [q60w]
  show am_Go 87 (63, [.ref 2, .int (nI m), .int (nI x), .int u, .int (m_ways T S B (nI m) x (2 ^ T.2.2.1))], [.int (i_pow 10 (T.2.2.1 - n_pop B)), .int (m_ways T S B (nI m) x (2 ^ T.2.2.1))], w37, 0, 0) _
  refine ar_iload_n (pc' := 64) hM rfl rfl rfl ?_
  refine ar_static (pc' := 67) (k3 := 0) (k4 := 0) hM rfl (by decide) rfl rfl (c_inLeastTerms _ (m_ways T S B (nI m) x (2 ^ T.2.2.1)) (i_pow 10 (T.2.2.1 - n_pop B)) u (i_com_ne _ _)) (fun r64 w64 q64 => ?_)
  obtain ⟨rfl, q64w⟩ := q64
  rw [q64w]
  show am_Go 87 (67, [.ref 2, .int (nI m), .int (nI x), .int u, .int (m_ways T S B (nI m) x (2 ^ T.2.2.1))], [.int ((if u = 0 then i_pow 10 (T.2.2.1 - n_pop B) else m_ways T S B (nI m) x (2 ^ T.2.2.1)) / i_com (m_ways T S B (nI m) x (2 ^ T.2.2.1)) (i_pow 10 (T.2.2.1 - n_pop B)))], w37, 0, 0) _
  refine ar_ireturn hM rfl (Or.inl rfl) ?_
  exact ⟨rfl, hW2, hsm2⟩
set_option maxRecDepth 100000 in
set_option maxHeartbeats 4000000 in
theorem f_seed (w : am_W) (t : Nat × (Nat → Int32)) (T : p_D) (S : s_S) (A : List s_S) (K : Nat → Option s_S) (N : x_N) (sd : Int64) (d : Nat) (hd : d ≤ 1000) (hv : v_W d T S A K) (hW : c_W w t T S A K N sd) (v : Int64) : am_Go 88 (0, [.ref 2, .long v, .float 0, .float 0, .float 0], [], w, 0, 0) (fun res w' => res = some (.long sd) ∧ c_W w' t T S A K N v ∧ am_same (rg 2 131) w w') := by
  have hM : am_P[88]? = some zm_X10_seed := rfl
  have hn6 : T.2.2.1 ≤ 6 := hv.1.1.1
  have hvT := hv.1.1
  have hvS := hv.2.1.1
  have hdy := hv.2.1.2.1
  obtain ⟨f1, kb1, bl1, bo1, rc1, fr1, se1, oo1_2, oo1_3, oo1_5, oo1_11, oo1_16, oo1_20, oo1_78, oo1_88, oo1_92, oo1_100, oo1_118⟩ := hW.obs
  refine ar_aload_n (pc' := 1) hM rfl rfl rfl ?_
  refine ar_getfield (pc' := 4) hM rfl oo1_2 rfl rfl ?_
  refine ar_lstore_n (pc' := 5) hM rfl rfl rfl rfl ?_
  refine ar_aload_n (pc' := 6) hM rfl rfl rfl ?_
  refine ar_lload_n (pc' := 7) hM rfl rfl rfl ?_
  refine ar_putfield (pc' := 10) hM rfl oo1_2 (Nat.le_of_ble_eq_true rfl) rfl (by decide) rfl ?_
  show am_Go 88 (10, [.ref 2, .long v, .float 0, .long sd, .float 0], [], (w.set 2 (.inr (10, [.ref 3, .ref 5, .ref 11, .ref 16, .ref 20, .ref 78, .ref 88, .ref 92, .ref 100, .ref 118, .long v]))), 0, 0) _
  refine ar_lload_n (pc' := 11) hM rfl rfl rfl ?_
  refine ar_lreturn hM rfl ?_
  exact ⟨rfl, hW.sSd v, am_same.set am_same.rf (by unfold rg; omega)⟩
set_option maxRecDepth 100000 in
set_option maxHeartbeats 4000000 in
theorem f_weeksO (w : am_W) (t : Nat × (Nat → Int32)) (T : p_D) (S : s_S) (A : List s_S) (K : Nat → Option s_S) (N : x_N) (sd : Int64) (d : Nat) (hd : d ≤ 1000) (hv : v_W d T S A K) (hW : c_W w t T S A K N sd) (a : Int32) (hno : ¬ (1 ≤ a ∧ a ≤ 30)) : am_Go 89 (0, [.ref 2, .int a, .float 0], [], w, 0, 0) (fun res w' => res = some (.int (-2)) ∧ c_W w' t T S A K N sd ∧ am_same (rg 2 131) w w') := by
  have hM : am_P[89]? = some zm_X10_weeks := rfl
  have hn6 : T.2.2.1 ≤ 6 := hv.1.1.1
  have hvT := hv.1.1
  have hvS := hv.2.1.1
  have hdy := hv.2.1.2.1
  obtain ⟨f1, kb1, bl1, bo1, rc1, fr1, se1, oo1_2, oo1_3, oo1_5, oo1_11, oo1_16, oo1_20, oo1_78, oo1_88, oo1_92, oo1_100, oo1_118⟩ := hW.obs
  refine ar_iload_n (pc' := 1) hM rfl rfl rfl ?_
  refine ar_iconst (x := 1) (pc' := 2) hM rfl (by decide) rfl ?_
  refine ar_bipush (x := 30) (pc' := 4) hM rfl (by decide) rfl ?_
  refine ar_static (pc' := 7) (k3 := 0) (k4 := 0) hM rfl (by decide) rfl rfl (by have h0 := c_within w a 1 30; rw [if_neg hno] at h0; exact h0) (fun r4 w4 q4 => ?_)
  obtain ⟨rfl, q4w⟩ := q4
  rw [q4w]
  show am_Go 89 (7, [.ref 2, .int a, .float 0], [.int 0], w, 0, 0) _
  refine ar_if_ne (pc' := 10) hM rfl rfl (fun q => absurd (by decide) q) (fun _ => ?_)
  refine ar_bipush (x := (-2)) (pc' := 12) hM rfl (by decide) rfl ?_
  refine ar_ireturn hM rfl (Or.inl rfl) ?_
  exact ⟨rfl, hW, am_same.rf⟩
theorem l_v_lt (x : Int64) : l_v x < 18 := Nat.mod_lt _ (by decide)
theorem l_v_eq (x : Int64) : Int64.toInt32 ((Int64.toUInt64 x >>> (Int64.toUInt64 (Int32.toInt64 33) &&& Int64.toUInt64 63)).toInt64 - (Int64.toUInt64 x >>> (Int64.toUInt64 (Int32.toInt64 33) &&& Int64.toUInt64 63)).toInt64 / 18 * 18) = nI (l_v x) := by
  rw [l_ushr]
  exact l_v18 x
set_option maxRecDepth 100000 in
set_option maxHeartbeats 4000000 in
theorem f_weeks (w : am_W) (t : Nat × (Nat → Int32)) (T : p_D) (S : s_S) (A : List s_S) (K : Nat → Option s_S) (N : x_N) (sd : Int64) (d : Nat) (hd : d ≤ 1000) (hv : v_W d T S A K) (hW : c_W w t T S A K N sd) (k : Nat) (h1k : 1 ≤ k) (hk : k ≤ 30) : am_Go 89 (0, [.ref 2, .int (nI k), .float 0], [], w, 0, 0) (fun res w' => res = some (.int ((m_wk l_v l_sd T S sd k).2.1)) ∧ c_W w' t T S A K N ((m_wk l_v l_sd T S sd k).2.2) ∧ am_same (rg 2 131) w w') := by
  have hM : am_P[89]? = some zm_X10_weeks := rfl
  have hn6 : T.2.2.1 ≤ 6 := hv.1.1.1
  have hvT := hv.1.1
  have hvS := hv.2.1.1
  have hdy := hv.2.1.2.1
  obtain ⟨f1, kb1, bl1, bo1, rc1, fr1, se1, oo1_2, oo1_3, oo1_5, oo1_11, oo1_16, oo1_20, oo1_78, oo1_88, oo1_92, oo1_100, oo1_118⟩ := hW.obs
  refine ar_iload_n (pc' := 1) hM rfl rfl rfl ?_
  refine ar_iconst (x := 1) (pc' := 2) hM rfl (by decide) rfl ?_
  refine ar_bipush (x := 30) (pc' := 4) hM rfl (by decide) rfl ?_
  refine ar_static (pc' := 7) (k3 := 0) (k4 := 0) hM rfl (by decide) rfl rfl (by have h0 := c_within w (nI k) 1 30; rw [if_pos ⟨nI_le (a := 1) (by omega) (by omega), nI_le (b := 30) (by omega) (by omega)⟩] at h0; exact h0) (fun r4 w4 q4 => ?_)
  obtain ⟨rfl, q4w⟩ := q4
  rw [q4w]
  show am_Go 89 (7, [.ref 2, .int (nI k), .float 0], [.int 1], w, 0, 0) _
  refine ar_if_ne (pc' := 10) hM rfl rfl (fun _ => ?_) (fun q => absurd q (by decide))
  refine ar_aload_n (pc' := 14) hM rfl rfl rfl ?_
  refine ar_getfield (pc' := 17) hM rfl oo1_2 rfl rfl ?_
  refine ar_aload_n (pc' := 18) hM rfl rfl rfl ?_
  refine ar_getfield (pc' := 21) hM rfl oo1_2 rfl rfl ?_
  refine ar_aload_n (pc' := 22) hM rfl rfl rfl ?_
  refine ar_getfield (pc' := 25) hM rfl oo1_2 rfl rfl ?_
  refine ar_iload_n (pc' := 26) hM rfl rfl rfl ?_
  refine ar_aload_n (pc' := 27) hM rfl rfl rfl ?_
  refine ar_getfield (pc' := 30) hM rfl oo1_2 rfl rfl ?_
  obtain ⟨rc0, fr0, hrf⟩ : ∃ z y : Int32, z = rc1 ∧ y = fr1 := ⟨_, _, rfl, rfl⟩
  refine ar_virtual (pc' := 33) (k3 := 0) (k4 := 0) hM rfl rfl oo1_118 ⟨rfl, (by decide)⟩ rfl rfl (k_chance _ T S rc0 fr0 _ hvT hvS hW.T hW.S (by rw [hrf.1, hrf.2]; exact oo1_118) hW.C.2.1 hW.C.2.2.1 k hk (by omega) sd l_v l_sd l_v_lt (fun _ => rfl) l_v_eq) (fun r30 w30 q30 => ?_)
  obtain ⟨rfl, h118, q30s, hr6, hd6⟩ := q30
  have hC2 : c_C w30 := ⟨⟨_, _, _, h118⟩, hr6, hd6, hW.C.2.2.2.1.same q30s (by unfold rg; omega), hW.C.2.2.2.2.same q30s (by unfold rg; omega)⟩
  have q30t : am_same (rg 118 15) _ _ := q30s.mono (fun b hb => by unfold rg at *; omega)
  have hW2 : c_W w30 t T S A K N sd := hW.sC q30t hC2
  have hsm2 : am_same (rg 2 131) w w30 := (am_same.rf).tr (q30t.mono (fun b hb => by unfold rg at *; omega))
  obtain ⟨f3, kb3, bl3, bo3, rc3, fr3, se3, oo3_2, oo3_3, oo3_5, oo3_11, oo3_16, oo3_20, oo3_78, oo3_88, oo3_92, oo3_100, oo3_118⟩ := hW2.obs
  show am_Go 89 (33, [.ref 2, .int (nI k), .float 0], [.int ((m_wk l_v l_sd T S sd k).2.1)], w30, 0, 0) _
  refine ar_istore_n (pc' := 34) hM rfl rfl rfl rfl ?_
  refine ar_aload_n (pc' := 35) hM rfl rfl rfl ?_
  refine ar_aload_n (pc' := 36) hM rfl rfl rfl ?_
  refine ar_getfield (pc' := 39) hM rfl oo3_2 rfl rfl ?_
  refine ar_getfield (pc' := 42) hM rfl h118 rfl rfl ?_
  refine ar_putfield (pc' := 45) hM rfl oo3_2 (Nat.le_of_ble_eq_true rfl) rfl (by decide) rfl ?_
  show am_Go 89 (45, [.ref 2, .int (nI k), .int ((m_wk l_v l_sd T S sd k).2.1)], [], (w30.set 2 (.inr (10, [.ref 3, .ref 5, .ref 11, .ref 16, .ref 20, .ref 78, .ref 88, .ref 92, .ref 100, .ref 118, .long ((m_wk l_v l_sd T S sd k).2.2)]))), 0, 0) _
  refine ar_iload_n (pc' := 46) hM rfl rfl rfl ?_
  refine ar_ireturn hM rfl (Or.inl rfl) ?_
  exact ⟨rfl, hW2.sSd _, hsm2.tr (am_same.set am_same.rf (by unfold rg; omega))⟩
set_option maxRecDepth 100000 in
set_option maxHeartbeats 4000000 in
theorem f_keepN (w : am_W) (t : Nat × (Nat → Int32)) (T : p_D) (S : s_S) (A : List s_S) (K : Nat → Option s_S) (N : x_N) (sd : Int64) (d : Nat) (hd : d ≤ 1000) (hv : v_W d T S A K) (hW : c_W w t T S A K N sd) (a : Int32) (hno : ¬ (0 ≤ a ∧ a ≤ 1)) : am_Go 90 (0, [.ref 2, .int a], [], w, 0, 0) (fun res w' => res = some (.int (-1)) ∧ c_W w' t T S A K N sd ∧ am_same (rg 2 131) w w') := by
  have hM : am_P[90]? = some zm_X10_keep := rfl
  have hn6 : T.2.2.1 ≤ 6 := hv.1.1.1
  have hvT := hv.1.1
  have hvS := hv.2.1.1
  have hdy := hv.2.1.2.1
  obtain ⟨f1, kb1, bl1, bo1, rc1, fr1, se1, oo1_2, oo1_3, oo1_5, oo1_11, oo1_16, oo1_20, oo1_78, oo1_88, oo1_92, oo1_100, oo1_118⟩ := hW.obs
  refine ar_iload_n (pc' := 1) hM rfl rfl rfl ?_
  refine ar_iconst (x := 0) (pc' := 2) hM rfl (by decide) rfl ?_
  refine ar_iconst (x := 1) (pc' := 3) hM rfl (by decide) rfl ?_
  refine ar_static (pc' := 6) (k3 := 0) (k4 := 0) hM rfl (by decide) rfl rfl (by have h0 := c_within w a 0 1; rw [if_neg hno] at h0; exact h0) (fun r3 w3 q3 => ?_)
  obtain ⟨rfl, q3w⟩ := q3
  rw [q3w]
  show am_Go 90 (6, [.ref 2, .int a], [.int 0], w, 0, 0) _
  refine ar_if_ne (pc' := 9) hM rfl rfl (fun q => absurd (by decide) q) (fun _ => ?_)
  refine ar_iconst (x := (-1)) (pc' := 10) hM rfl (by decide) rfl ?_
  refine ar_ireturn hM rfl (Or.inl rfl) ?_
  exact ⟨rfl, hW, am_same.rf⟩
set_option maxRecDepth 100000 in
set_option maxHeartbeats 4000000 in
theorem f_againN (w : am_W) (t : Nat × (Nat → Int32)) (T : p_D) (S : s_S) (A : List s_S) (K : Nat → Option s_S) (N : x_N) (sd : Int64) (d : Nat) (hd : d ≤ 1000) (hv : v_W d T S A K) (hW : c_W w t T S A K N sd) (a : Int32) (hno : ¬ (0 ≤ a ∧ a ≤ 1)) : am_Go 91 (0, [.ref 2, .int a], [], w, 0, 0) (fun res w' => res = some (.int (-1)) ∧ c_W w' t T S A K N sd ∧ am_same (rg 2 131) w w') := by
  have hM : am_P[91]? = some zm_X10_again := rfl
  have hn6 : T.2.2.1 ≤ 6 := hv.1.1.1
  have hvT := hv.1.1
  have hvS := hv.2.1.1
  have hdy := hv.2.1.2.1
  obtain ⟨f1, kb1, bl1, bo1, rc1, fr1, se1, oo1_2, oo1_3, oo1_5, oo1_11, oo1_16, oo1_20, oo1_78, oo1_88, oo1_92, oo1_100, oo1_118⟩ := hW.obs
  refine ar_iload_n (pc' := 1) hM rfl rfl rfl ?_
  refine ar_iconst (x := 0) (pc' := 2) hM rfl (by decide) rfl ?_
  refine ar_iconst (x := 1) (pc' := 3) hM rfl (by decide) rfl ?_
  refine ar_static (pc' := 6) (k3 := 0) (k4 := 0) hM rfl (by decide) rfl rfl (by have h0 := c_within w a 0 1; rw [if_neg hno] at h0; exact h0) (fun r3 w3 q3 => ?_)
  obtain ⟨rfl, q3w⟩ := q3
  rw [q3w]
  show am_Go 91 (6, [.ref 2, .int a], [.int 0], w, 0, 0) _
  refine ar_if_ne (pc' := 9) hM rfl rfl (fun q => absurd (by decide) q) (fun _ => ?_)
  refine ar_iconst (x := (-1)) (pc' := 10) hM rfl (by decide) rfl ?_
  refine ar_ireturn hM rfl (Or.inl rfl) ?_
  exact ⟨rfl, hW, am_same.rf⟩
set_option maxRecDepth 100000 in
set_option maxHeartbeats 4000000 in
theorem f_keep (w : am_W) (t : Nat × (Nat → Int32)) (T : p_D) (S : s_S) (A : List s_S) (K : Nat → Option s_S) (N : x_N) (sd : Int64) (d : Nat) (hd : d ≤ 1000) (hv : v_W d T S A K) (hW : c_W w t T S A K N sd) (k : Nat) (hk : k < 2)  : am_Go 90 (0, [.ref 2, .int (nI k)], [], w, 0, 0) (fun res w' => res = some (.int (nI S.2.2.2.2.2.2)) ∧ c_W w' t T S A (fun i => if i = k then some S else K i) N sd ∧ am_same (rg 2 131) w w') := by
  have hM : am_P[90]? = some zm_X10_keep := rfl
  have hn6 : T.2.2.1 ≤ 6 := hv.1.1.1
  have hvT := hv.1.1
  have hvS := hv.2.1.1
  have hdy := hv.2.1.2.1
  obtain ⟨f1, kb1, bl1, bo1, rc1, fr1, se1, oo1_2, oo1_3, oo1_5, oo1_11, oo1_16, oo1_20, oo1_78, oo1_88, oo1_92, oo1_100, oo1_118⟩ := hW.obs
  refine ar_iload_n (pc' := 1) hM rfl rfl rfl ?_
  refine ar_iconst (x := 0) (pc' := 2) hM rfl (by decide) rfl ?_
  refine ar_iconst (x := 1) (pc' := 3) hM rfl (by decide) rfl ?_
  refine ar_static (pc' := 6) (k3 := 0) (k4 := 0) hM rfl (by decide) rfl rfl (by have h0 := c_within w (nI k) 0 1; rw [if_pos ⟨nI_le (a := 0) (by omega) (by omega), nI_le (b := 1) (by omega) (by omega)⟩] at h0; exact h0) (fun r3 w3 q3 => ?_)
  obtain ⟨rfl, q3w⟩ := q3
  rw [q3w]
  show am_Go 90 (6, [.ref 2, .int (nI k)], [.int 1], w, 0, 0) _
  refine ar_if_ne (pc' := 9) hM rfl rfl (fun _ => ?_) (fun q => absurd q (by decide))
  refine ar_aload_n (pc' := 12) hM rfl rfl rfl ?_
  refine ar_getfield (pc' := 15) hM rfl oo1_2 rfl rfl ?_
  refine ar_iload_n (pc' := 16) hM rfl rfl rfl ?_
  refine ar_aload_n (pc' := 17) hM rfl rfl rfl ?_
  refine ar_getfield (pc' := 20) hM rfl oo1_2 rfl rfl ?_
  refine ar_virtual (pc' := 23) (k3 := 0) (k4 := 0) hM rfl rfl oo1_78 ⟨rfl, (by decide)⟩ rfl rfl (k_put _ _ K S hW.K hW.S hn6 k hk) (fun r20 w20 q20 => ?_)
  obtain ⟨rfl, hx, q20s⟩ := q20
  have hW2 : c_W w20 t T S A (fun i => if i = k then some S else K i) N sd := hW.sK q20s hx
  have hsm2 : am_same (rg 2 131) w w20 := (am_same.rf).tr (q20s.mono (fun b hb => by unfold rg at *; omega))
  obtain ⟨f3, kb3, bl3, bo3, rc3, fr3, se3, oo3_2, oo3_3, oo3_5, oo3_11, oo3_16, oo3_20, oo3_78, oo3_88, oo3_92, oo3_100, oo3_118⟩ := hW2.obs
  show am_Go 90 (23, [.ref 2, .int (nI k)], [], w20, 0, 0) _
  refine ar_aload_n (pc' := 24) hM rfl rfl rfl ?_
  refine ar_getfield (pc' := 27) hM rfl oo3_2 rfl rfl ?_
  refine ar_getfield (pc' := 30) hM rfl oo3_16 rfl rfl ?_
  refine ar_ireturn hM rfl (Or.inl rfl) ?_
  exact ⟨rfl, hW2, hsm2⟩
set_option maxRecDepth 100000 in
set_option maxHeartbeats 4000000 in
theorem f_again0 (w : am_W) (t : Nat × (Nat → Int32)) (T : p_D) (S : s_S) (A : List s_S) (K : Nat → Option s_S) (N : x_N) (sd : Int64) (d : Nat) (hd : d ≤ 1000) (hv : v_W d T S A K) (hW : c_W w t T S A K N sd) (k : Nat) (hk : k < 2) (hK : K k = none) : am_Go 91 (0, [.ref 2, .int (nI k)], [], w, 0, 0) (fun res w' => res = some (.int (-3)) ∧ c_W w' t T S A K N sd ∧ am_same (rg 2 131) w w') := by
  have hM : am_P[91]? = some zm_X10_again := rfl
  have hn6 : T.2.2.1 ≤ 6 := hv.1.1.1
  have hvT := hv.1.1
  have hvS := hv.2.1.1
  have hdy := hv.2.1.2.1
  obtain ⟨f1, kb1, bl1, bo1, rc1, fr1, se1, oo1_2, oo1_3, oo1_5, oo1_11, oo1_16, oo1_20, oo1_78, oo1_88, oo1_92, oo1_100, oo1_118⟩ := hW.obs
  refine ar_iload_n (pc' := 1) hM rfl rfl rfl ?_
  refine ar_iconst (x := 0) (pc' := 2) hM rfl (by decide) rfl ?_
  refine ar_iconst (x := 1) (pc' := 3) hM rfl (by decide) rfl ?_
  refine ar_static (pc' := 6) (k3 := 0) (k4 := 0) hM rfl (by decide) rfl rfl (by have h0 := c_within w (nI k) 0 1; rw [if_pos ⟨nI_le (a := 0) (by omega) (by omega), nI_le (b := 1) (by omega) (by omega)⟩] at h0; exact h0) (fun r3 w3 q3 => ?_)
  obtain ⟨rfl, q3w⟩ := q3
  rw [q3w]
  show am_Go 91 (6, [.ref 2, .int (nI k)], [.int 1], w, 0, 0) _
  refine ar_if_ne (pc' := 9) hM rfl rfl (fun _ => ?_) (fun q => absurd q (by decide))
  refine ar_aload_n (pc' := 12) hM rfl rfl rfl ?_
  refine ar_getfield (pc' := 15) hM rfl oo1_2 rfl rfl ?_
  refine ar_iload_n (pc' := 16) hM rfl rfl rfl ?_
  refine ar_aload_n (pc' := 17) hM rfl rfl rfl ?_
  refine ar_getfield (pc' := 20) hM rfl oo1_2 rfl rfl ?_
  refine ar_virtual (pc' := 23) (k3 := 0) (k4 := 0) hM rfl rfl oo1_78 ⟨rfl, (by decide)⟩ rfl rfl (k_fetch0 _ _ K hW.K k hk hK) (fun r20 w20 q20 => ?_)
  obtain ⟨rfl, q20w⟩ := q20
  rw [q20w]
  show am_Go 91 (23, [.ref 2, .int (nI k)], [.int 0], w, 0, 0) _
  refine ar_if_ne (pc' := 26) hM rfl rfl (fun q => absurd (by decide) q) (fun _ => ?_)
  refine ar_bipush (x := (-3)) (pc' := 28) hM rfl (by decide) rfl ?_
  refine ar_ireturn hM rfl (Or.inl rfl) ?_
  exact ⟨rfl, hW, am_same.rf⟩
set_option maxRecDepth 100000 in
set_option maxHeartbeats 4000000 in
theorem f_again (w : am_W) (t : Nat × (Nat → Int32)) (T : p_D) (S : s_S) (A : List s_S) (K : Nat → Option s_S) (N : x_N) (sd : Int64) (d : Nat) (hd : d ≤ 1000) (hv : v_W d T S A K) (hW : c_W w t T S A K N sd) (k : Nat) (hk : k < 2) (S0 : s_S) (hK : K k = some S0) : am_Go 91 (0, [.ref 2, .int (nI k)], [], w, 0, 0) (fun res w' => res = some (.int (nI S0.2.2.2.2.2.2)) ∧ c_W w' t T S0 ([]) K N sd ∧ am_same (rg 2 131) w w') := by
  have hM : am_P[91]? = some zm_X10_again := rfl
  have hn6 : T.2.2.1 ≤ 6 := hv.1.1.1
  have hvT := hv.1.1
  have hvS := hv.2.1.1
  have hdy := hv.2.1.2.1
  obtain ⟨f1, kb1, bl1, bo1, rc1, fr1, se1, oo1_2, oo1_3, oo1_5, oo1_11, oo1_16, oo1_20, oo1_78, oo1_88, oo1_92, oo1_100, oo1_118⟩ := hW.obs
  refine ar_iload_n (pc' := 1) hM rfl rfl rfl ?_
  refine ar_iconst (x := 0) (pc' := 2) hM rfl (by decide) rfl ?_
  refine ar_iconst (x := 1) (pc' := 3) hM rfl (by decide) rfl ?_
  refine ar_static (pc' := 6) (k3 := 0) (k4 := 0) hM rfl (by decide) rfl rfl (by have h0 := c_within w (nI k) 0 1; rw [if_pos ⟨nI_le (a := 0) (by omega) (by omega), nI_le (b := 1) (by omega) (by omega)⟩] at h0; exact h0) (fun r3 w3 q3 => ?_)
  obtain ⟨rfl, q3w⟩ := q3
  rw [q3w]
  show am_Go 91 (6, [.ref 2, .int (nI k)], [.int 1], w, 0, 0) _
  refine ar_if_ne (pc' := 9) hM rfl rfl (fun _ => ?_) (fun q => absurd q (by decide))
  refine ar_aload_n (pc' := 12) hM rfl rfl rfl ?_
  refine ar_getfield (pc' := 15) hM rfl oo1_2 rfl rfl ?_
  refine ar_iload_n (pc' := 16) hM rfl rfl rfl ?_
  refine ar_aload_n (pc' := 17) hM rfl rfl rfl ?_
  refine ar_getfield (pc' := 20) hM rfl oo1_2 rfl rfl ?_
  refine ar_virtual (pc' := 23) (k3 := 0) (k4 := 0) hM rfl rfl oo1_78 ⟨rfl, (by decide)⟩ rfl rfl (k_fetch _ _ K S S0 hW.K hW.S hn6 k hk hK) (fun r20 w20 q20 => ?_)
  obtain ⟨rfl, hx, q20s⟩ := q20
  have hW2 : c_W w20 t T S0 A K N sd := hW.sS q20s hx
  have hsm2 : am_same (rg 2 131) w w20 := (am_same.rf).tr (q20s.mono (fun b hb => by unfold rg at *; omega))
  obtain ⟨f3, kb3, bl3, bo3, rc3, fr3, se3, oo3_2, oo3_3, oo3_5, oo3_11, oo3_16, oo3_20, oo3_78, oo3_88, oo3_92, oo3_100, oo3_118⟩ := hW2.obs
  show am_Go 91 (23, [.ref 2, .int (nI k)], [.int 1], w20, 0, 0) _
  refine ar_if_ne (pc' := 26) hM rfl rfl (fun _ => ?_) (fun q => absurd q (by decide))
  refine ar_aload_n (pc' := 30) hM rfl rfl rfl ?_
  refine ar_getfield (pc' := 33) hM rfl oo3_2 rfl rfl ?_
  refine ar_virtual (pc' := 36) (k3 := 0) (k4 := 0) hM rfl rfl oo3_20 ⟨rfl, (by decide)⟩ rfl rfl (k_actsClear _ _ T.2.2.1 _ hW2.A) (fun r33 w33 q33 => ?_)
  obtain ⟨rfl, hx, q33s⟩ := q33
  have hW4 : c_W w33 t T S0 ([]) K N sd := hW2.sA q33s hx
  have hsm4 : am_same (rg 2 131) w w33 := (hsm2).tr (q33s.mono (fun b hb => by unfold rg at *; omega))
  obtain ⟨f5, kb5, bl5, bo5, rc5, fr5, se5, oo5_2, oo5_3, oo5_5, oo5_11, oo5_16, oo5_20, oo5_78, oo5_88, oo5_92, oo5_100, oo5_118⟩ := hW4.obs
  show am_Go 91 (36, [.ref 2, .int (nI k)], [], w33, 0, 0) _
  refine ar_aload_n (pc' := 37) hM rfl rfl rfl ?_
  refine ar_getfield (pc' := 40) hM rfl oo5_2 rfl rfl ?_
  refine ar_getfield (pc' := 43) hM rfl oo5_16 rfl rfl ?_
  refine ar_ireturn hM rfl (Or.inl rfl) ?_
  exact ⟨rfl, hW4, hsm4⟩
set_option maxRecDepth 100000 in
set_option maxHeartbeats 4000000 in
theorem k_lackT (w : am_W) (t : Nat × (Nat → Int32)) (T : p_D) (S : s_S) (A : List s_S) (K : Nat → Option s_S) (N : x_N) (sd : Int64) (d : Nat) (hd : d ≤ 1000) (hv : v_W d T S A K) (hW : c_W w t T S A K N sd)  : am_Go 94 (0, [.ref 2], [], w, 0, 0) (fun res w' => res = some (.int (i_sum (m_lk T S 0) T.2.2.1)) ∧ c_W w' t T S A K N sd ∧ am_same (rg 2 131) w w') := by
  have hM : am_P[94]? = some zm_X10_lackingToday := rfl
  have hn6 : T.2.2.1 ≤ 6 := hv.1.1.1
  have hvT := hv.1.1
  have hvS := hv.2.1.1
  have hdy := hv.2.1.2.1
  obtain ⟨f1, kb1, bl1, bo1, rc1, fr1, se1, oo1_2, oo1_3, oo1_5, oo1_11, oo1_16, oo1_20, oo1_78, oo1_88, oo1_92, oo1_100, oo1_118⟩ := hW.obs
  refine ar_aload_n (pc' := 1) hM rfl rfl rfl ?_
  refine ar_getfield (pc' := 4) hM rfl oo1_2 rfl rfl ?_
  refine ar_aload_n (pc' := 5) hM rfl rfl rfl ?_
  refine ar_getfield (pc' := 8) hM rfl oo1_2 rfl rfl ?_
  refine ar_aload_n (pc' := 9) hM rfl rfl rfl ?_
  refine ar_getfield (pc' := 12) hM rfl oo1_2 rfl rfl ?_
  refine ar_virtual (pc' := 15) (k3 := 0) (k4 := 0) hM rfl rfl oo1_92 ⟨rfl, (by decide)⟩ rfl rfl (k_lookAt _ 92 11 16 T S hvT hvS hW.T hW.S hW.D (by decide) (by decide) (by decide) (by omega) (by omega) (by omega)) (fun r12 w12 q12 => ?_)
  obtain ⟨rfl, hL2, q12s⟩ := q12
  have hW3 : c_W w12 t T S A K N sd := hW.sD q12s hL2.d
  have hsm3 : am_same (rg 2 131) w w12 := (am_same.rf).tr (q12s.mono (fun b hb => by unfold rg at *; omega))
  obtain ⟨f4, kb4, bl4, bo4, rc4, fr4, se4, oo4_2, oo4_3, oo4_5, oo4_11, oo4_16, oo4_20, oo4_78, oo4_88, oo4_92, oo4_100, oo4_118⟩ := hW3.obs
  show am_Go 94 (15, [.ref 2], [], w12, 0, 0) _
  obtain ⟨dw5, ds5, dg5, dd5, dl5, df5, dv5, ⟨hd5_0, hd5_1, hd5_2, hd5_3, hd5_4, hd5_5, hd5_6, hd5_7⟩, hdl5⟩ := id hL2
  refine ar_aload_n (pc' := 16) hM rfl rfl rfl ?_
  refine ar_getfield (pc' := 19) hM rfl oo4_2 rfl rfl ?_
  refine ar_getfield (pc' := 22) hM rfl oo4_92 rfl rfl ?_
  refine ar_aload_n (pc' := 23) hM rfl rfl rfl ?_
  refine ar_getfield (pc' := 26) hM rfl oo4_2 rfl rfl ?_
  refine ar_getfield (pc' := 29) hM rfl oo4_11 rfl rfl ?_
  refine ar_static (pc' := 32) (k3 := 0) (k4 := 0) hM rfl (by decide) rfl rfl (by have h0 := c_sum _ 97 _ hd5_5 _ hn6; rw [i_sum_congr (fun h hh => (hdl5 h hh).2.2.2.2.1)] at h0; exact h0) (fun r29 w29 q29 => ?_)
  obtain ⟨rfl, q29w⟩ := q29
  rw [q29w]
  show am_Go 94 (32, [.ref 2], [.int (i_sum (m_lk T S 0) T.2.2.1)], w12, 0, 0) _
  refine ar_ireturn hM rfl (Or.inl rfl) ?_
  exact ⟨rfl, hW3, hsm3⟩
def x_count (t : Nat × (Nat → Int32)) (T : p_D) (S : s_S) (A : List s_S) (N : x_N) : Nat → Int32
  | 0 => nI t.1
  | 1 => nI T.2.2.1
  | 2 => nI T.2.2.2.1
  | 3 => nI S.2.2.2.2.2.2
  | 4 => i_heat T.2.2.2.1 T.2.2.2.2.2.2.2 S.2.2.2.2.2.2
  | 5 => i_sum (m_lk T S 0) T.2.2.1
  | 6 => i_sum S.2.2.2.1 T.2.2.1
  | 7 => S.2.2.2.2.1
  | 8 => S.2.2.2.2.2.1
  | 9 => nI A.length
  | 10 => nI N.1
  | _ => -2
set_option maxRecDepth 100000 in
set_option maxHeartbeats 4000000 in
theorem f_count0 (w : am_W) (t : Nat × (Nat → Int32)) (T : p_D) (S : s_S) (A : List s_S) (K : Nat → Option s_S) (N : x_N) (sd : Int64) (d : Nat) (hd : d ≤ 1000) (hv : v_W d T S A K) (hW : c_W w t T S A K N sd)  : am_Go 92 (0, [.ref 2, .int 0], [], w, 0, 0) (fun res w' => res = some (.int (x_count t T S A N 0)) ∧ c_W w' t T S A K N sd ∧ am_same (rg 2 131) w w') := by
  have hM : am_P[92]? = some zm_X10_count := rfl
  have hn6 : T.2.2.1 ≤ 6 := hv.1.1.1
  have hvT := hv.1.1
  have hvS := hv.2.1.1
  have hdy := hv.2.1.2.1
  obtain ⟨f1, kb1, bl1, bo1, rc1, fr1, se1, oo1_2, oo1_3, oo1_5, oo1_11, oo1_16, oo1_20, oo1_78, oo1_88, oo1_92, oo1_100, oo1_118⟩ := hW.obs
  refine ar_iload_n (pc' := 1) hM rfl rfl rfl ?_
  refine ar_tableIn (off := 59) (t := 60) hM rfl (by decide) (by decide) (by decide) ?_
  refine ar_aload_n (pc' := 61) hM rfl rfl rfl ?_
  refine ar_getfield (pc' := 64) hM rfl oo1_2 rfl rfl ?_
  refine ar_getfield (pc' := 67) hM rfl oo1_3 rfl rfl ?_
  refine ar_ireturn hM rfl (Or.inl rfl) ?_
  exact ⟨rfl, hW, am_same.rf⟩
set_option maxRecDepth 100000 in
set_option maxHeartbeats 4000000 in
theorem f_count1 (w : am_W) (t : Nat × (Nat → Int32)) (T : p_D) (S : s_S) (A : List s_S) (K : Nat → Option s_S) (N : x_N) (sd : Int64) (d : Nat) (hd : d ≤ 1000) (hv : v_W d T S A K) (hW : c_W w t T S A K N sd)  : am_Go 92 (0, [.ref 2, .int 1], [], w, 0, 0) (fun res w' => res = some (.int (x_count t T S A N 1)) ∧ c_W w' t T S A K N sd ∧ am_same (rg 2 131) w w') := by
  have hM : am_P[92]? = some zm_X10_count := rfl
  have hn6 : T.2.2.1 ≤ 6 := hv.1.1.1
  have hvT := hv.1.1
  have hvS := hv.2.1.1
  have hdy := hv.2.1.2.1
  obtain ⟨f1, kb1, bl1, bo1, rc1, fr1, se1, oo1_2, oo1_3, oo1_5, oo1_11, oo1_16, oo1_20, oo1_78, oo1_88, oo1_92, oo1_100, oo1_118⟩ := hW.obs
  refine ar_iload_n (pc' := 1) hM rfl rfl rfl ?_
  refine ar_tableIn (off := 67) (t := 68) hM rfl (by decide) (by decide) (by decide) ?_
  refine ar_aload_n (pc' := 69) hM rfl rfl rfl ?_
  refine ar_getfield (pc' := 72) hM rfl oo1_2 rfl rfl ?_
  refine ar_getfield (pc' := 75) hM rfl oo1_11 rfl rfl ?_
  refine ar_ireturn hM rfl (Or.inl rfl) ?_
  exact ⟨rfl, hW, am_same.rf⟩
set_option maxRecDepth 100000 in
set_option maxHeartbeats 4000000 in
theorem f_count2 (w : am_W) (t : Nat × (Nat → Int32)) (T : p_D) (S : s_S) (A : List s_S) (K : Nat → Option s_S) (N : x_N) (sd : Int64) (d : Nat) (hd : d ≤ 1000) (hv : v_W d T S A K) (hW : c_W w t T S A K N sd)  : am_Go 92 (0, [.ref 2, .int 2], [], w, 0, 0) (fun res w' => res = some (.int (x_count t T S A N 2)) ∧ c_W w' t T S A K N sd ∧ am_same (rg 2 131) w w') := by
  have hM : am_P[92]? = some zm_X10_count := rfl
  have hn6 : T.2.2.1 ≤ 6 := hv.1.1.1
  have hvT := hv.1.1
  have hvS := hv.2.1.1
  have hdy := hv.2.1.2.1
  obtain ⟨f1, kb1, bl1, bo1, rc1, fr1, se1, oo1_2, oo1_3, oo1_5, oo1_11, oo1_16, oo1_20, oo1_78, oo1_88, oo1_92, oo1_100, oo1_118⟩ := hW.obs
  refine ar_iload_n (pc' := 1) hM rfl rfl rfl ?_
  refine ar_tableIn (off := 75) (t := 76) hM rfl (by decide) (by decide) (by decide) ?_
  refine ar_aload_n (pc' := 77) hM rfl rfl rfl ?_
  refine ar_getfield (pc' := 80) hM rfl oo1_2 rfl rfl ?_
  refine ar_getfield (pc' := 83) hM rfl oo1_11 rfl rfl ?_
  refine ar_ireturn hM rfl (Or.inl rfl) ?_
  exact ⟨rfl, hW, am_same.rf⟩
set_option maxRecDepth 100000 in
set_option maxHeartbeats 4000000 in
theorem f_count3 (w : am_W) (t : Nat × (Nat → Int32)) (T : p_D) (S : s_S) (A : List s_S) (K : Nat → Option s_S) (N : x_N) (sd : Int64) (d : Nat) (hd : d ≤ 1000) (hv : v_W d T S A K) (hW : c_W w t T S A K N sd)  : am_Go 92 (0, [.ref 2, .int 3], [], w, 0, 0) (fun res w' => res = some (.int (x_count t T S A N 3)) ∧ c_W w' t T S A K N sd ∧ am_same (rg 2 131) w w') := by
  have hM : am_P[92]? = some zm_X10_count := rfl
  have hn6 : T.2.2.1 ≤ 6 := hv.1.1.1
  have hvT := hv.1.1
  have hvS := hv.2.1.1
  have hdy := hv.2.1.2.1
  obtain ⟨f1, kb1, bl1, bo1, rc1, fr1, se1, oo1_2, oo1_3, oo1_5, oo1_11, oo1_16, oo1_20, oo1_78, oo1_88, oo1_92, oo1_100, oo1_118⟩ := hW.obs
  refine ar_iload_n (pc' := 1) hM rfl rfl rfl ?_
  refine ar_tableIn (off := 83) (t := 84) hM rfl (by decide) (by decide) (by decide) ?_
  refine ar_aload_n (pc' := 85) hM rfl rfl rfl ?_
  refine ar_getfield (pc' := 88) hM rfl oo1_2 rfl rfl ?_
  refine ar_getfield (pc' := 91) hM rfl oo1_16 rfl rfl ?_
  refine ar_ireturn hM rfl (Or.inl rfl) ?_
  exact ⟨rfl, hW, am_same.rf⟩
set_option maxRecDepth 100000 in
set_option maxHeartbeats 4000000 in
theorem f_count4 (w : am_W) (t : Nat × (Nat → Int32)) (T : p_D) (S : s_S) (A : List s_S) (K : Nat → Option s_S) (N : x_N) (sd : Int64) (d : Nat) (hd : d ≤ 1000) (hv : v_W d T S A K) (hW : c_W w t T S A K N sd)  : am_Go 92 (0, [.ref 2, .int 4], [], w, 0, 0) (fun res w' => res = some (.int (x_count t T S A N 4)) ∧ c_W w' t T S A K N sd ∧ am_same (rg 2 131) w w') := by
  have hM : am_P[92]? = some zm_X10_count := rfl
  have hn6 : T.2.2.1 ≤ 6 := hv.1.1.1
  have hvT := hv.1.1
  have hvS := hv.2.1.1
  have hdy := hv.2.1.2.1
  obtain ⟨f1, kb1, bl1, bo1, rc1, fr1, se1, oo1_2, oo1_3, oo1_5, oo1_11, oo1_16, oo1_20, oo1_78, oo1_88, oo1_92, oo1_100, oo1_118⟩ := hW.obs
  refine ar_iload_n (pc' := 1) hM rfl rfl rfl ?_
  refine ar_tableIn (off := 91) (t := 92) hM rfl (by decide) (by decide) (by decide) ?_
  refine ar_aload_n (pc' := 93) hM rfl rfl rfl ?_
  refine ar_getfield (pc' := 96) hM rfl oo1_2 rfl rfl ?_
  refine ar_aload_n (pc' := 97) hM rfl rfl rfl ?_
  refine ar_getfield (pc' := 100) hM rfl oo1_2 rfl rfl ?_
  refine ar_getfield (pc' := 103) hM rfl oo1_16 rfl rfl ?_
  refine ar_virtual (pc' := 106) (k3 := 0) (k4 := 0) hM rfl rfl oo1_11 ⟨rfl, (by decide)⟩ rfl rfl (by obtain ⟨wa, ki, ba, he, ht0, ht1, ht2, ht3, ht4, hwa, hhe⟩ := hW.T; have h0 := c_heatOn _ 11 (by decide) _ _ _ _ wa ki ba he ht0 ht1 ht2 ht3 ht4 S.2.2.2.2.2.2 (by have := hvS.2.2.2; omega) hvT.2.1; rw [i_heat_congr hhe] at h0; exact h0) (fun r103 w103 q103 => ?_)
  obtain ⟨rfl, q103w⟩ := q103
  rw [q103w]
  show am_Go 92 (106, [.ref 2, .int 4], [.int (i_heat T.2.2.2.1 T.2.2.2.2.2.2.2 S.2.2.2.2.2.2)], w, 0, 0) _
  refine ar_ireturn hM rfl (Or.inl rfl) ?_
  exact ⟨rfl, hW, am_same.rf⟩
set_option maxRecDepth 100000 in
set_option maxHeartbeats 4000000 in
theorem f_count5 (w : am_W) (t : Nat × (Nat → Int32)) (T : p_D) (S : s_S) (A : List s_S) (K : Nat → Option s_S) (N : x_N) (sd : Int64) (d : Nat) (hd : d ≤ 1000) (hv : v_W d T S A K) (hW : c_W w t T S A K N sd)  : am_Go 92 (0, [.ref 2, .int 5], [], w, 0, 0) (fun res w' => res = some (.int (x_count t T S A N 5)) ∧ c_W w' t T S A K N sd ∧ am_same (rg 2 131) w w') := by
  have hM : am_P[92]? = some zm_X10_count := rfl
  have hn6 : T.2.2.1 ≤ 6 := hv.1.1.1
  have hvT := hv.1.1
  have hvS := hv.2.1.1
  have hdy := hv.2.1.2.1
  obtain ⟨f1, kb1, bl1, bo1, rc1, fr1, se1, oo1_2, oo1_3, oo1_5, oo1_11, oo1_16, oo1_20, oo1_78, oo1_88, oo1_92, oo1_100, oo1_118⟩ := hW.obs
  refine ar_iload_n (pc' := 1) hM rfl rfl rfl ?_
  refine ar_tableIn (off := 106) (t := 107) hM rfl (by decide) (by decide) (by decide) ?_
  refine ar_aload_n (pc' := 108) hM rfl rfl rfl ?_
  refine ar_virtual (pc' := 111) (k3 := 0) (k4 := 0) hM rfl rfl oo1_2 ⟨rfl, (by decide)⟩ rfl rfl (k_lackT _ t T S A K N sd d hd hv hW) (fun r108 w108 q108 => ?_)
  obtain ⟨rfl, hW9, q108s⟩ := q108
  have hsm9 := am_same.rf.tr q108s
  obtain ⟨f2, kb2, bl2, bo2, rc2, fr2, se2, oo2_2, oo2_3, oo2_5, oo2_11, oo2_16, oo2_20, oo2_78, oo2_88, oo2_92, oo2_100, oo2_118⟩ := hW9.obs
  show am_Go 92 (111, [.ref 2, .int 5], [.int (i_sum (m_lk T S 0) T.2.2.1)], w108, 0, 0) _
  refine ar_ireturn hM rfl (Or.inl rfl) ?_
  exact ⟨rfl, hW9, hsm9⟩
set_option maxRecDepth 100000 in
set_option maxHeartbeats 4000000 in
theorem f_count6 (w : am_W) (t : Nat × (Nat → Int32)) (T : p_D) (S : s_S) (A : List s_S) (K : Nat → Option s_S) (N : x_N) (sd : Int64) (d : Nat) (hd : d ≤ 1000) (hv : v_W d T S A K) (hW : c_W w t T S A K N sd)  : am_Go 92 (0, [.ref 2, .int 6], [], w, 0, 0) (fun res w' => res = some (.int (x_count t T S A N 6)) ∧ c_W w' t T S A K N sd ∧ am_same (rg 2 131) w w') := by
  have hM : am_P[92]? = some zm_X10_count := rfl
  have hn6 : T.2.2.1 ≤ 6 := hv.1.1.1
  have hvT := hv.1.1
  have hvS := hv.2.1.1
  have hdy := hv.2.1.2.1
  obtain ⟨f1, kb1, bl1, bo1, rc1, fr1, se1, oo1_2, oo1_3, oo1_5, oo1_11, oo1_16, oo1_20, oo1_78, oo1_88, oo1_92, oo1_100, oo1_118⟩ := hW.obs
  refine ar_iload_n (pc' := 1) hM rfl rfl rfl ?_
  refine ar_tableIn (off := 111) (t := 112) hM rfl (by decide) (by decide) (by decide) ?_
  obtain ⟨wa, ki, ba, he, ht0, ht1, ht2, ht3, ht4, hwa, -⟩ := id hW.T
  obtain ⟨so, ss, sl, hs0, hs1, hs2, hs3, hso, hss, hsl⟩ := id hW.S
  refine ar_aload_n (pc' := 113) hM rfl rfl rfl ?_
  refine ar_getfield (pc' := 116) hM rfl oo1_2 rfl rfl ?_
  refine ar_getfield (pc' := 119) hM rfl oo1_16 rfl rfl ?_
  refine ar_aload_n (pc' := 120) hM rfl rfl rfl ?_
  refine ar_getfield (pc' := 123) hM rfl oo1_2 rfl rfl ?_
  refine ar_getfield (pc' := 126) hM rfl oo1_11 rfl rfl ?_
  refine ar_static (pc' := 129) (k3 := 0) (k4 := 0) hM rfl (by decide) rfl rfl (by have h0 := c_sum _ 19 _ hs3 _ hn6; rw [i_sum_congr hsl] at h0; exact h0) (fun r126 w126 q126 => ?_)
  obtain ⟨rfl, q126w⟩ := q126
  rw [q126w]
  show am_Go 92 (129, [.ref 2, .int 6], [.int (i_sum S.2.2.2.1 T.2.2.1)], w, 0, 0) _
  refine ar_ireturn hM rfl (Or.inl rfl) ?_
  exact ⟨rfl, hW, am_same.rf⟩
set_option maxRecDepth 100000 in
set_option maxHeartbeats 4000000 in
theorem f_count7 (w : am_W) (t : Nat × (Nat → Int32)) (T : p_D) (S : s_S) (A : List s_S) (K : Nat → Option s_S) (N : x_N) (sd : Int64) (d : Nat) (hd : d ≤ 1000) (hv : v_W d T S A K) (hW : c_W w t T S A K N sd)  : am_Go 92 (0, [.ref 2, .int 7], [], w, 0, 0) (fun res w' => res = some (.int (x_count t T S A N 7)) ∧ c_W w' t T S A K N sd ∧ am_same (rg 2 131) w w') := by
  have hM : am_P[92]? = some zm_X10_count := rfl
  have hn6 : T.2.2.1 ≤ 6 := hv.1.1.1
  have hvT := hv.1.1
  have hvS := hv.2.1.1
  have hdy := hv.2.1.2.1
  obtain ⟨f1, kb1, bl1, bo1, rc1, fr1, se1, oo1_2, oo1_3, oo1_5, oo1_11, oo1_16, oo1_20, oo1_78, oo1_88, oo1_92, oo1_100, oo1_118⟩ := hW.obs
  refine ar_iload_n (pc' := 1) hM rfl rfl rfl ?_
  refine ar_tableIn (off := 129) (t := 130) hM rfl (by decide) (by decide) (by decide) ?_
  refine ar_aload_n (pc' := 131) hM rfl rfl rfl ?_
  refine ar_getfield (pc' := 134) hM rfl oo1_2 rfl rfl ?_
  refine ar_getfield (pc' := 137) hM rfl oo1_16 rfl rfl ?_
  refine ar_ireturn hM rfl (Or.inl rfl) ?_
  exact ⟨rfl, hW, am_same.rf⟩
set_option maxRecDepth 100000 in
set_option maxHeartbeats 4000000 in
theorem f_count8 (w : am_W) (t : Nat × (Nat → Int32)) (T : p_D) (S : s_S) (A : List s_S) (K : Nat → Option s_S) (N : x_N) (sd : Int64) (d : Nat) (hd : d ≤ 1000) (hv : v_W d T S A K) (hW : c_W w t T S A K N sd)  : am_Go 92 (0, [.ref 2, .int 8], [], w, 0, 0) (fun res w' => res = some (.int (x_count t T S A N 8)) ∧ c_W w' t T S A K N sd ∧ am_same (rg 2 131) w w') := by
  have hM : am_P[92]? = some zm_X10_count := rfl
  have hn6 : T.2.2.1 ≤ 6 := hv.1.1.1
  have hvT := hv.1.1
  have hvS := hv.2.1.1
  have hdy := hv.2.1.2.1
  obtain ⟨f1, kb1, bl1, bo1, rc1, fr1, se1, oo1_2, oo1_3, oo1_5, oo1_11, oo1_16, oo1_20, oo1_78, oo1_88, oo1_92, oo1_100, oo1_118⟩ := hW.obs
  refine ar_iload_n (pc' := 1) hM rfl rfl rfl ?_
  refine ar_tableIn (off := 137) (t := 138) hM rfl (by decide) (by decide) (by decide) ?_
  refine ar_aload_n (pc' := 139) hM rfl rfl rfl ?_
  refine ar_getfield (pc' := 142) hM rfl oo1_2 rfl rfl ?_
  refine ar_getfield (pc' := 145) hM rfl oo1_16 rfl rfl ?_
  refine ar_ireturn hM rfl (Or.inl rfl) ?_
  exact ⟨rfl, hW, am_same.rf⟩
set_option maxRecDepth 100000 in
set_option maxHeartbeats 4000000 in
theorem f_count9 (w : am_W) (t : Nat × (Nat → Int32)) (T : p_D) (S : s_S) (A : List s_S) (K : Nat → Option s_S) (N : x_N) (sd : Int64) (d : Nat) (hd : d ≤ 1000) (hv : v_W d T S A K) (hW : c_W w t T S A K N sd)  : am_Go 92 (0, [.ref 2, .int 9], [], w, 0, 0) (fun res w' => res = some (.int (x_count t T S A N 9)) ∧ c_W w' t T S A K N sd ∧ am_same (rg 2 131) w w') := by
  have hM : am_P[92]? = some zm_X10_count := rfl
  have hn6 : T.2.2.1 ≤ 6 := hv.1.1.1
  have hvT := hv.1.1
  have hvS := hv.2.1.1
  have hdy := hv.2.1.2.1
  obtain ⟨f1, kb1, bl1, bo1, rc1, fr1, se1, oo1_2, oo1_3, oo1_5, oo1_11, oo1_16, oo1_20, oo1_78, oo1_88, oo1_92, oo1_100, oo1_118⟩ := hW.obs
  refine ar_iload_n (pc' := 1) hM rfl rfl rfl ?_
  refine ar_tableIn (off := 145) (t := 146) hM rfl (by decide) (by decide) (by decide) ?_
  refine ar_aload_n (pc' := 147) hM rfl rfl rfl ?_
  refine ar_getfield (pc' := 150) hM rfl oo1_2 rfl rfl ?_
  refine ar_getfield (pc' := 153) hM rfl oo1_20 rfl rfl ?_
  refine ar_ireturn hM rfl (Or.inl rfl) ?_
  exact ⟨rfl, hW, am_same.rf⟩
set_option maxRecDepth 100000 in
set_option maxHeartbeats 4000000 in
theorem f_count10 (w : am_W) (t : Nat × (Nat → Int32)) (T : p_D) (S : s_S) (A : List s_S) (K : Nat → Option s_S) (N : x_N) (sd : Int64) (d : Nat) (hd : d ≤ 1000) (hv : v_W d T S A K) (hW : c_W w t T S A K N sd)  : am_Go 92 (0, [.ref 2, .int 10], [], w, 0, 0) (fun res w' => res = some (.int (x_count t T S A N 10)) ∧ c_W w' t T S A K N sd ∧ am_same (rg 2 131) w w') := by
  have hM : am_P[92]? = some zm_X10_count := rfl
  have hn6 : T.2.2.1 ≤ 6 := hv.1.1.1
  have hvT := hv.1.1
  have hvS := hv.2.1.1
  have hdy := hv.2.1.2.1
  obtain ⟨f1, kb1, bl1, bo1, rc1, fr1, se1, oo1_2, oo1_3, oo1_5, oo1_11, oo1_16, oo1_20, oo1_78, oo1_88, oo1_92, oo1_100, oo1_118⟩ := hW.obs
  refine ar_iload_n (pc' := 1) hM rfl rfl rfl ?_
  refine ar_tableIn (off := 153) (t := 154) hM rfl (by decide) (by decide) (by decide) ?_
  refine ar_aload_n (pc' := 155) hM rfl rfl rfl ?_
  refine ar_getfield (pc' := 158) hM rfl oo1_2 rfl rfl ?_
  refine ar_getfield (pc' := 161) hM rfl oo1_88 rfl rfl ?_
  refine ar_ireturn hM rfl (Or.inl rfl) ?_
  exact ⟨rfl, hW, am_same.rf⟩
theorem f_count (w : am_W) (t : Nat × (Nat → Int32)) (T : p_D) (S : s_S) (A : List s_S) (K : Nat → Option s_S) (N : x_N) (sd : Int64) (d : Nat) (hd : d ≤ 1000) (hv : v_W d T S A K) (hW : c_W w t T S A K N sd)  (j : Nat) (hj : j ≤ 10) : am_Go 92 (0, [.ref 2, .int (nI j)], [], w, 0, 0) (fun res w' => res = some (.int (x_count t T S A N j)) ∧ c_W w' t T S A K N sd ∧ am_same (rg 2 131) w w') := by
  match j, hj with
  | 0, _ => exact f_count0 w t T S A K N sd d hd hv hW 
  | 1, _ => exact f_count1 w t T S A K N sd d hd hv hW 
  | 2, _ => exact f_count2 w t T S A K N sd d hd hv hW 
  | 3, _ => exact f_count3 w t T S A K N sd d hd hv hW 
  | 4, _ => exact f_count4 w t T S A K N sd d hd hv hW 
  | 5, _ => exact f_count5 w t T S A K N sd d hd hv hW 
  | 6, _ => exact f_count6 w t T S A K N sd d hd hv hW 
  | 7, _ => exact f_count7 w t T S A K N sd d hd hv hW 
  | 8, _ => exact f_count8 w t T S A K N sd d hd hv hW 
  | 9, _ => exact f_count9 w t T S A K N sd d hd hv hW 
  | 10, _ => exact f_count10 w t T S A K N sd d hd hv hW 
  | j + 11, h => omega
set_option maxRecDepth 100000 in
set_option maxHeartbeats 4000000 in
theorem f_countO (w : am_W) (t : Nat × (Nat → Int32)) (T : p_D) (S : s_S) (A : List s_S) (K : Nat → Option s_S) (N : x_N) (sd : Int64) (d : Nat) (hd : d ≤ 1000) (hv : v_W d T S A K) (hW : c_W w t T S A K N sd)  (wh : Int32) (hq : wh.toInt < 0 ∨ 10 < wh.toInt) : am_Go 92 (0, [.ref 2, .int wh], [], w, 0, 0) (fun res w' => res = some (.int (-2)) ∧ c_W w' t T S A K N sd ∧ am_same (rg 2 131) w w') := by
  have hM : am_P[92]? = some zm_X10_count := rfl
  have hn6 : T.2.2.1 ≤ 6 := hv.1.1.1
  have hvT := hv.1.1
  have hvS := hv.2.1.1
  have hdy := hv.2.1.2.1
  obtain ⟨f1, kb1, bl1, bo1, rc1, fr1, se1, oo1_2, oo1_3, oo1_5, oo1_11, oo1_16, oo1_20, oo1_78, oo1_88, oo1_92, oo1_100, oo1_118⟩ := hW.obs
  refine ar_iload_n (pc' := 1) hM rfl rfl rfl ?_
  refine ar_tableOut (t := 162) hM rfl hq rfl ?_
  refine ar_bipush (x := (-2)) (pc' := 164) hM rfl (by decide) rfl ?_
  refine ar_ireturn hM rfl (Or.inl rfl) ?_
  exact ⟨rfl, hW, am_same.rf⟩
