/-! the reference whole: counts, seen -/
set_option maxRecDepth 100000 in
set_option maxHeartbeats 4000000 in
theorem e_count0 (w : am_W) (t : Nat × (Nat → Int32)) (T : p_D) (S : s_S) (A : List s_S) (K : Nat → Option s_S) (N : x_N) (sd : Int64) (d : Nat) (hd : d ≤ 1000) (hv : v_W d T S A K) (hW : d_W w t T S A K N sd)  : am_Go 162 (0, [.ref 133, .int 0], [], w, 0, 0) (fun res w' => res = some (.int (x_count t T S A N 0)) ∧ d_W w' t T S A K N sd ∧ am_same (rg 133 17) w w') := by
  have hM : am_P[162]? = some zm_X11_count := rfl
  have hn6 : T.2.2.1 ≤ 6 := hv.1.1.1
  have hvT := hv.1.1
  have hvS := hv.2.1.1
  have hdy := hv.2.1.2.1
  obtain ⟨rh, rk, wh, fa, nx, ne, ki, ba, he, nw, rH, rT, tx, td, rw_, oo, s1, s2, s3, ik, kp, hm, h134, h135, h136, h137, h138, h139, h140, h141, h142, h143, h144, h145, h146, h147, h148, h149, ⟨ht40, hN6⟩, hT, hS, htx, hA, hK, hN⟩ := hW
  have hnx := hA.1
  have hal := hA.2.1
  refine ar_aload_n (pc' := 1) hM rfl rfl rfl ?_
  refine ar_iconst (x := 0) (pc' := 2) hM rfl (by decide) rfl ?_
  refine ar_virtual (pc' := 5) (k3 := 0) (k4 := 0) hM rfl rfl hm ⟨rfl, (by decide)⟩ rfl rfl (d_lay T hm h134 h135 h136 h137 h138 h142 hT 0 (by omega) S hvT hvS (by simpa using hS)) (fun r2 w2 q2 => ?_)
  obtain ⟨td4, rfl, q2w, hY4⟩ := q2
  rw [q2w]
  show am_Go 162 (5, [.ref 133, .int 0], [], (w.set 142 (.inl (0, 36, .inl td4))), 0, 0) _
  refine ar_iload_n (pc' := 6) hM rfl rfl rfl ?_
  refine ar_tableIn (off := 58) (t := 64) hM rfl (by decide) (by decide) (by decide) ?_
  refine ar_aload_n (pc' := 65) hM rfl rfl rfl ?_
  refine ar_getfield (pc' := 68) hM rfl (am_gn (by decide) hm) rfl rfl ?_
  refine ar_ireturn hM rfl (Or.inl rfl) ?_
  exact ⟨rfl, ⟨_, _, _, _, _, _, _, _, _, _, _, _, _, _, _, _, _, _, _, _, _, (am_gn (by decide) hm), (am_gn (by decide) h134), (am_gn (by decide) h135), (am_gn (by decide) h136), (am_gn (by decide) h137), (am_gn (by decide) h138), (am_gn (by decide) h139), (am_gn (by decide) h140), (am_gn (by decide) h141), (am_gs h142), (am_gn (by decide) h143), (am_gn (by decide) h144), (am_gn (by decide) h145), (am_gn (by decide) h146), (am_gn (by decide) h147), (am_gn (by decide) h148), (am_gn (by decide) h149), ⟨ht40, hN6⟩, hT, hS, htx, hA, hK, hN⟩, (am_same.set am_same.rf (by unfold rg; omega))⟩
set_option maxRecDepth 100000 in
set_option maxHeartbeats 4000000 in
theorem e_count1 (w : am_W) (t : Nat × (Nat → Int32)) (T : p_D) (S : s_S) (A : List s_S) (K : Nat → Option s_S) (N : x_N) (sd : Int64) (d : Nat) (hd : d ≤ 1000) (hv : v_W d T S A K) (hW : d_W w t T S A K N sd)  : am_Go 162 (0, [.ref 133, .int 1], [], w, 0, 0) (fun res w' => res = some (.int (x_count t T S A N 1)) ∧ d_W w' t T S A K N sd ∧ am_same (rg 133 17) w w') := by
  have hM : am_P[162]? = some zm_X11_count := rfl
  have hn6 : T.2.2.1 ≤ 6 := hv.1.1.1
  have hvT := hv.1.1
  have hvS := hv.2.1.1
  have hdy := hv.2.1.2.1
  obtain ⟨rh, rk, wh, fa, nx, ne, ki, ba, he, nw, rH, rT, tx, td, rw_, oo, s1, s2, s3, ik, kp, hm, h134, h135, h136, h137, h138, h139, h140, h141, h142, h143, h144, h145, h146, h147, h148, h149, ⟨ht40, hN6⟩, hT, hS, htx, hA, hK, hN⟩ := hW
  have hnx := hA.1
  have hal := hA.2.1
  refine ar_aload_n (pc' := 1) hM rfl rfl rfl ?_
  refine ar_iconst (x := 0) (pc' := 2) hM rfl (by decide) rfl ?_
  refine ar_virtual (pc' := 5) (k3 := 0) (k4 := 0) hM rfl rfl hm ⟨rfl, (by decide)⟩ rfl rfl (d_lay T hm h134 h135 h136 h137 h138 h142 hT 0 (by omega) S hvT hvS (by simpa using hS)) (fun r2 w2 q2 => ?_)
  obtain ⟨td5, rfl, q2w, hY5⟩ := q2
  rw [q2w]
  show am_Go 162 (5, [.ref 133, .int 1], [], (w.set 142 (.inl (0, 36, .inl td5))), 0, 0) _
  refine ar_iload_n (pc' := 6) hM rfl rfl rfl ?_
  refine ar_tableIn (off := 63) (t := 69) hM rfl (by decide) (by decide) (by decide) ?_
  refine ar_aload_n (pc' := 70) hM rfl rfl rfl ?_
  refine ar_getfield (pc' := 73) hM rfl (am_gn (by decide) hm) rfl rfl ?_
  refine ar_ireturn hM rfl (Or.inl rfl) ?_
  exact ⟨rfl, ⟨_, _, _, _, _, _, _, _, _, _, _, _, _, _, _, _, _, _, _, _, _, (am_gn (by decide) hm), (am_gn (by decide) h134), (am_gn (by decide) h135), (am_gn (by decide) h136), (am_gn (by decide) h137), (am_gn (by decide) h138), (am_gn (by decide) h139), (am_gn (by decide) h140), (am_gn (by decide) h141), (am_gs h142), (am_gn (by decide) h143), (am_gn (by decide) h144), (am_gn (by decide) h145), (am_gn (by decide) h146), (am_gn (by decide) h147), (am_gn (by decide) h148), (am_gn (by decide) h149), ⟨ht40, hN6⟩, hT, hS, htx, hA, hK, hN⟩, (am_same.set am_same.rf (by unfold rg; omega))⟩
set_option maxRecDepth 100000 in
set_option maxHeartbeats 4000000 in
theorem e_count2 (w : am_W) (t : Nat × (Nat → Int32)) (T : p_D) (S : s_S) (A : List s_S) (K : Nat → Option s_S) (N : x_N) (sd : Int64) (d : Nat) (hd : d ≤ 1000) (hv : v_W d T S A K) (hW : d_W w t T S A K N sd)  : am_Go 162 (0, [.ref 133, .int 2], [], w, 0, 0) (fun res w' => res = some (.int (x_count t T S A N 2)) ∧ d_W w' t T S A K N sd ∧ am_same (rg 133 17) w w') := by
  have hM : am_P[162]? = some zm_X11_count := rfl
  have hn6 : T.2.2.1 ≤ 6 := hv.1.1.1
  have hvT := hv.1.1
  have hvS := hv.2.1.1
  have hdy := hv.2.1.2.1
  obtain ⟨rh, rk, wh, fa, nx, ne, ki, ba, he, nw, rH, rT, tx, td, rw_, oo, s1, s2, s3, ik, kp, hm, h134, h135, h136, h137, h138, h139, h140, h141, h142, h143, h144, h145, h146, h147, h148, h149, ⟨ht40, hN6⟩, hT, hS, htx, hA, hK, hN⟩ := hW
  have hnx := hA.1
  have hal := hA.2.1
  refine ar_aload_n (pc' := 1) hM rfl rfl rfl ?_
  refine ar_iconst (x := 0) (pc' := 2) hM rfl (by decide) rfl ?_
  refine ar_virtual (pc' := 5) (k3 := 0) (k4 := 0) hM rfl rfl hm ⟨rfl, (by decide)⟩ rfl rfl (d_lay T hm h134 h135 h136 h137 h138 h142 hT 0 (by omega) S hvT hvS (by simpa using hS)) (fun r2 w2 q2 => ?_)
  obtain ⟨td6, rfl, q2w, hY6⟩ := q2
  rw [q2w]
  show am_Go 162 (5, [.ref 133, .int 2], [], (w.set 142 (.inl (0, 36, .inl td6))), 0, 0) _
  refine ar_iload_n (pc' := 6) hM rfl rfl rfl ?_
  refine ar_tableIn (off := 68) (t := 74) hM rfl (by decide) (by decide) (by decide) ?_
  refine ar_aload_n (pc' := 75) hM rfl rfl rfl ?_
  refine ar_getfield (pc' := 78) hM rfl (am_gn (by decide) hm) rfl rfl ?_
  refine ar_ireturn hM rfl (Or.inl rfl) ?_
  exact ⟨rfl, ⟨_, _, _, _, _, _, _, _, _, _, _, _, _, _, _, _, _, _, _, _, _, (am_gn (by decide) hm), (am_gn (by decide) h134), (am_gn (by decide) h135), (am_gn (by decide) h136), (am_gn (by decide) h137), (am_gn (by decide) h138), (am_gn (by decide) h139), (am_gn (by decide) h140), (am_gn (by decide) h141), (am_gs h142), (am_gn (by decide) h143), (am_gn (by decide) h144), (am_gn (by decide) h145), (am_gn (by decide) h146), (am_gn (by decide) h147), (am_gn (by decide) h148), (am_gn (by decide) h149), ⟨ht40, hN6⟩, hT, hS, htx, hA, hK, hN⟩, (am_same.set am_same.rf (by unfold rg; omega))⟩
set_option maxRecDepth 100000 in
set_option maxHeartbeats 4000000 in
theorem e_count3 (w : am_W) (t : Nat × (Nat → Int32)) (T : p_D) (S : s_S) (A : List s_S) (K : Nat → Option s_S) (N : x_N) (sd : Int64) (d : Nat) (hd : d ≤ 1000) (hv : v_W d T S A K) (hW : d_W w t T S A K N sd)  : am_Go 162 (0, [.ref 133, .int 3], [], w, 0, 0) (fun res w' => res = some (.int (x_count t T S A N 3)) ∧ d_W w' t T S A K N sd ∧ am_same (rg 133 17) w w') := by
  have hM : am_P[162]? = some zm_X11_count := rfl
  have hn6 : T.2.2.1 ≤ 6 := hv.1.1.1
  have hvT := hv.1.1
  have hvS := hv.2.1.1
  have hdy := hv.2.1.2.1
  obtain ⟨rh, rk, wh, fa, nx, ne, ki, ba, he, nw, rH, rT, tx, td, rw_, oo, s1, s2, s3, ik, kp, hm, h134, h135, h136, h137, h138, h139, h140, h141, h142, h143, h144, h145, h146, h147, h148, h149, ⟨ht40, hN6⟩, hT, hS, htx, hA, hK, hN⟩ := hW
  have hnx := hA.1
  have hal := hA.2.1
  refine ar_aload_n (pc' := 1) hM rfl rfl rfl ?_
  refine ar_iconst (x := 0) (pc' := 2) hM rfl (by decide) rfl ?_
  refine ar_virtual (pc' := 5) (k3 := 0) (k4 := 0) hM rfl rfl hm ⟨rfl, (by decide)⟩ rfl rfl (d_lay T hm h134 h135 h136 h137 h138 h142 hT 0 (by omega) S hvT hvS (by simpa using hS)) (fun r2 w2 q2 => ?_)
  obtain ⟨td7, rfl, q2w, hY7⟩ := q2
  rw [q2w]
  show am_Go 162 (5, [.ref 133, .int 3], [], (w.set 142 (.inl (0, 36, .inl td7))), 0, 0) _
  refine ar_iload_n (pc' := 6) hM rfl rfl rfl ?_
  refine ar_tableIn (off := 73) (t := 79) hM rfl (by decide) (by decide) (by decide) ?_
  refine ar_aload_n (pc' := 80) hM rfl rfl rfl ?_
  refine ar_getfield (pc' := 83) hM rfl (am_gn (by decide) hm) rfl rfl ?_
  refine ar_bipush (x := 20) (pc' := 85) hM rfl (by decide) rfl ?_
  refine ar_ialoadN (j := 20) (pc' := 86) hM rfl (am_gn (by decide) h138) (by decide) (by omega) (Nat.le_of_ble_eq_true rfl) rfl ?_
  rw [show (nw 20 : Int32) = nI S.2.2.2.2.2.2 from (by have h0 := hS.2.2.2; rw [Nat.zero_add] at h0; exact h0)]
  refine ar_ireturn hM rfl (Or.inl rfl) ?_
  exact ⟨rfl, ⟨_, _, _, _, _, _, _, _, _, _, _, _, _, _, _, _, _, _, _, _, _, (am_gn (by decide) hm), (am_gn (by decide) h134), (am_gn (by decide) h135), (am_gn (by decide) h136), (am_gn (by decide) h137), (am_gn (by decide) h138), (am_gn (by decide) h139), (am_gn (by decide) h140), (am_gn (by decide) h141), (am_gs h142), (am_gn (by decide) h143), (am_gn (by decide) h144), (am_gn (by decide) h145), (am_gn (by decide) h146), (am_gn (by decide) h147), (am_gn (by decide) h148), (am_gn (by decide) h149), ⟨ht40, hN6⟩, hT, hS, htx, hA, hK, hN⟩, (am_same.set am_same.rf (by unfold rg; omega))⟩
set_option maxRecDepth 100000 in
set_option maxHeartbeats 4000000 in
theorem e_count4 (w : am_W) (t : Nat × (Nat → Int32)) (T : p_D) (S : s_S) (A : List s_S) (K : Nat → Option s_S) (N : x_N) (sd : Int64) (d : Nat) (hd : d ≤ 1000) (hv : v_W d T S A K) (hW : d_W w t T S A K N sd)  : am_Go 162 (0, [.ref 133, .int 4], [], w, 0, 0) (fun res w' => res = some (.int (x_count t T S A N 4)) ∧ d_W w' t T S A K N sd ∧ am_same (rg 133 17) w w') := by
  have hM : am_P[162]? = some zm_X11_count := rfl
  have hn6 : T.2.2.1 ≤ 6 := hv.1.1.1
  have hvT := hv.1.1
  have hvS := hv.2.1.1
  have hdy := hv.2.1.2.1
  obtain ⟨rh, rk, wh, fa, nx, ne, ki, ba, he, nw, rH, rT, tx, td, rw_, oo, s1, s2, s3, ik, kp, hm, h134, h135, h136, h137, h138, h139, h140, h141, h142, h143, h144, h145, h146, h147, h148, h149, ⟨ht40, hN6⟩, hT, hS, htx, hA, hK, hN⟩ := hW
  have hnx := hA.1
  have hal := hA.2.1
  refine ar_aload_n (pc' := 1) hM rfl rfl rfl ?_
  refine ar_iconst (x := 0) (pc' := 2) hM rfl (by decide) rfl ?_
  refine ar_virtual (pc' := 5) (k3 := 0) (k4 := 0) hM rfl rfl hm ⟨rfl, (by decide)⟩ rfl rfl (d_lay T hm h134 h135 h136 h137 h138 h142 hT 0 (by omega) S hvT hvS (by simpa using hS)) (fun r2 w2 q2 => ?_)
  obtain ⟨td8, rfl, q2w, hY8⟩ := q2
  rw [q2w]
  show am_Go 162 (5, [.ref 133, .int 4], [], (w.set 142 (.inl (0, 36, .inl td8))), 0, 0) _
  refine ar_iload_n (pc' := 6) hM rfl rfl rfl ?_
  refine ar_tableIn (off := 81) (t := 87) hM rfl (by decide) (by decide) (by decide) ?_
  refine ar_aload_n (pc' := 88) hM rfl rfl rfl ?_
  refine ar_iconst (x := 0) (pc' := 89) hM rfl (by decide) rfl ?_
  refine ar_virtual (pc' := 92) (k3 := 0) (k4 := 0) hM rfl rfl (am_gn (by decide) hm) ⟨rfl, (by decide)⟩ rfl rfl (by have h0 := d_heatOn (w := (w.set 142 (.inl (0, 36, .inl td8)))) T (am_gn (by decide) hm) (am_gn (by decide) h137) (am_gn (by decide) h138) 0 S.2.2.2.2.2.2 (by omega) hvT.2.1 (by have := hvS.2.2.2; omega) (by simpa using hS.2.2.2); rw [i_heat_congr hT.2] at h0; exact h0) (fun r89 w89 q89 => ?_)
  obtain ⟨rfl, q89w⟩ := q89
  rw [q89w]
  show am_Go 162 (92, [.ref 133, .int 4], [.int (i_heat T.2.2.2.1 T.2.2.2.2.2.2.2 S.2.2.2.2.2.2)], (w.set 142 (.inl (0, 36, .inl td8))), 0, 0) _
  refine ar_ireturn hM rfl (Or.inl rfl) ?_
  exact ⟨rfl, ⟨_, _, _, _, _, _, _, _, _, _, _, _, _, _, _, _, _, _, _, _, _, (am_gn (by decide) hm), (am_gn (by decide) h134), (am_gn (by decide) h135), (am_gn (by decide) h136), (am_gn (by decide) h137), (am_gn (by decide) h138), (am_gn (by decide) h139), (am_gn (by decide) h140), (am_gn (by decide) h141), (am_gs h142), (am_gn (by decide) h143), (am_gn (by decide) h144), (am_gn (by decide) h145), (am_gn (by decide) h146), (am_gn (by decide) h147), (am_gn (by decide) h148), (am_gn (by decide) h149), ⟨ht40, hN6⟩, hT, hS, htx, hA, hK, hN⟩, (am_same.set am_same.rf (by unfold rg; omega))⟩
set_option maxRecDepth 100000 in
set_option maxHeartbeats 4000000 in
theorem e_count5 (w : am_W) (t : Nat × (Nat → Int32)) (T : p_D) (S : s_S) (A : List s_S) (K : Nat → Option s_S) (N : x_N) (sd : Int64) (d : Nat) (hd : d ≤ 1000) (hv : v_W d T S A K) (hW : d_W w t T S A K N sd)  : am_Go 162 (0, [.ref 133, .int 5], [], w, 0, 0) (fun res w' => res = some (.int (x_count t T S A N 5)) ∧ d_W w' t T S A K N sd ∧ am_same (rg 133 17) w w') := by
  have hM : am_P[162]? = some zm_X11_count := rfl
  have hn6 : T.2.2.1 ≤ 6 := hv.1.1.1
  have hvT := hv.1.1
  have hvS := hv.2.1.1
  have hdy := hv.2.1.2.1
  obtain ⟨rh, rk, wh, fa, nx, ne, ki, ba, he, nw, rH, rT, tx, td, rw_, oo, s1, s2, s3, ik, kp, hm, h134, h135, h136, h137, h138, h139, h140, h141, h142, h143, h144, h145, h146, h147, h148, h149, ⟨ht40, hN6⟩, hT, hS, htx, hA, hK, hN⟩ := hW
  have hnx := hA.1
  have hal := hA.2.1
  refine ar_aload_n (pc' := 1) hM rfl rfl rfl ?_
  refine ar_iconst (x := 0) (pc' := 2) hM rfl (by decide) rfl ?_
  refine ar_virtual (pc' := 5) (k3 := 0) (k4 := 0) hM rfl rfl hm ⟨rfl, (by decide)⟩ rfl rfl (d_lay T hm h134 h135 h136 h137 h138 h142 hT 0 (by omega) S hvT hvS (by simpa using hS)) (fun r2 w2 q2 => ?_)
  obtain ⟨td9, rfl, q2w, hY9⟩ := q2
  rw [q2w]
  show am_Go 162 (5, [.ref 133, .int 5], [], (w.set 142 (.inl (0, 36, .inl td9))), 0, 0) _
  refine ar_iload_n (pc' := 6) hM rfl rfl rfl ?_
  refine ar_tableIn (off := 87) (t := 93) hM rfl (by decide) (by decide) (by decide) ?_
  refine ar_aload_n (pc' := 94) hM rfl rfl rfl ?_
  refine ar_iconst (x := 4) (pc' := 95) hM rfl (by decide) rfl ?_
  refine ar_virtual (pc' := 98) (k3 := 0) (k4 := 0) hM rfl rfl (am_gn (by decide) hm) ⟨rfl, (by decide)⟩ rfl rfl (by have h0 := d_sumOf (w := (w.set 142 (.inl (0, 36, .inl td9)))) T (am_gn (by decide) hm) (am_gs h142) 4 (by omega) hn6; rw [i_sum_congr (fun h hh => (hY9 h hh).2.2.2.2.1)] at h0; exact h0) (fun r95 w95 q95 => ?_)
  obtain ⟨rfl, q95w⟩ := q95
  rw [q95w]
  show am_Go 162 (98, [.ref 133, .int 5], [.int (i_sum (m_lk T S 0) T.2.2.1)], (w.set 142 (.inl (0, 36, .inl td9))), 0, 0) _
  refine ar_ireturn hM rfl (Or.inl rfl) ?_
  exact ⟨rfl, ⟨_, _, _, _, _, _, _, _, _, _, _, _, _, _, _, _, _, _, _, _, _, (am_gn (by decide) hm), (am_gn (by decide) h134), (am_gn (by decide) h135), (am_gn (by decide) h136), (am_gn (by decide) h137), (am_gn (by decide) h138), (am_gn (by decide) h139), (am_gn (by decide) h140), (am_gn (by decide) h141), (am_gs h142), (am_gn (by decide) h143), (am_gn (by decide) h144), (am_gn (by decide) h145), (am_gn (by decide) h146), (am_gn (by decide) h147), (am_gn (by decide) h148), (am_gn (by decide) h149), ⟨ht40, hN6⟩, hT, hS, htx, hA, hK, hN⟩, (am_same.set am_same.rf (by unfold rg; omega))⟩
set_option maxRecDepth 100000 in
set_option maxHeartbeats 4000000 in
theorem e_count6 (w : am_W) (t : Nat × (Nat → Int32)) (T : p_D) (S : s_S) (A : List s_S) (K : Nat → Option s_S) (N : x_N) (sd : Int64) (d : Nat) (hd : d ≤ 1000) (hv : v_W d T S A K) (hW : d_W w t T S A K N sd)  : am_Go 162 (0, [.ref 133, .int 6], [], w, 0, 0) (fun res w' => res = some (.int (x_count t T S A N 6)) ∧ d_W w' t T S A K N sd ∧ am_same (rg 133 17) w w') := by
  have hM : am_P[162]? = some zm_X11_count := rfl
  have hn6 : T.2.2.1 ≤ 6 := hv.1.1.1
  have hvT := hv.1.1
  have hvS := hv.2.1.1
  have hdy := hv.2.1.2.1
  obtain ⟨rh, rk, wh, fa, nx, ne, ki, ba, he, nw, rH, rT, tx, td, rw_, oo, s1, s2, s3, ik, kp, hm, h134, h135, h136, h137, h138, h139, h140, h141, h142, h143, h144, h145, h146, h147, h148, h149, ⟨ht40, hN6⟩, hT, hS, htx, hA, hK, hN⟩ := hW
  have hnx := hA.1
  have hal := hA.2.1
  refine ar_aload_n (pc' := 1) hM rfl rfl rfl ?_
  refine ar_iconst (x := 0) (pc' := 2) hM rfl (by decide) rfl ?_
  refine ar_virtual (pc' := 5) (k3 := 0) (k4 := 0) hM rfl rfl hm ⟨rfl, (by decide)⟩ rfl rfl (d_lay T hm h134 h135 h136 h137 h138 h142 hT 0 (by omega) S hvT hvS (by simpa using hS)) (fun r2 w2 q2 => ?_)
  obtain ⟨td10, rfl, q2w, hY10⟩ := q2
  rw [q2w]
  show am_Go 162 (5, [.ref 133, .int 6], [], (w.set 142 (.inl (0, 36, .inl td10))), 0, 0) _
  refine ar_iload_n (pc' := 6) hM rfl rfl rfl ?_
  refine ar_tableIn (off := 93) (t := 99) hM rfl (by decide) (by decide) (by decide) ?_
  refine ar_aload_n (pc' := 100) hM rfl rfl rfl ?_
  refine ar_iconst (x := 0) (pc' := 101) hM rfl (by decide) rfl ?_
  refine ar_virtual (pc' := 104) (k3 := 0) (k4 := 0) hM rfl rfl (am_gn (by decide) hm) ⟨rfl, (by decide)⟩ rfl rfl (d_lackedOn T (am_gn (by decide) hm) (am_gn (by decide) h138) 0 (by omega) S hn6 hvS (by simpa using hS)) (fun r101 w101 q101 => ?_)
  obtain ⟨rfl, q101w⟩ := q101
  rw [q101w]
  show am_Go 162 (104, [.ref 133, .int 6], [.int (i_sum S.2.2.2.1 T.2.2.1)], (w.set 142 (.inl (0, 36, .inl td10))), 0, 0) _
  refine ar_ireturn hM rfl (Or.inl rfl) ?_
  exact ⟨rfl, ⟨_, _, _, _, _, _, _, _, _, _, _, _, _, _, _, _, _, _, _, _, _, (am_gn (by decide) hm), (am_gn (by decide) h134), (am_gn (by decide) h135), (am_gn (by decide) h136), (am_gn (by decide) h137), (am_gn (by decide) h138), (am_gn (by decide) h139), (am_gn (by decide) h140), (am_gn (by decide) h141), (am_gs h142), (am_gn (by decide) h143), (am_gn (by decide) h144), (am_gn (by decide) h145), (am_gn (by decide) h146), (am_gn (by decide) h147), (am_gn (by decide) h148), (am_gn (by decide) h149), ⟨ht40, hN6⟩, hT, hS, htx, hA, hK, hN⟩, (am_same.set am_same.rf (by unfold rg; omega))⟩
set_option maxRecDepth 100000 in
set_option maxHeartbeats 4000000 in
theorem e_count7 (w : am_W) (t : Nat × (Nat → Int32)) (T : p_D) (S : s_S) (A : List s_S) (K : Nat → Option s_S) (N : x_N) (sd : Int64) (d : Nat) (hd : d ≤ 1000) (hv : v_W d T S A K) (hW : d_W w t T S A K N sd)  : am_Go 162 (0, [.ref 133, .int 7], [], w, 0, 0) (fun res w' => res = some (.int (x_count t T S A N 7)) ∧ d_W w' t T S A K N sd ∧ am_same (rg 133 17) w w') := by
  have hM : am_P[162]? = some zm_X11_count := rfl
  have hn6 : T.2.2.1 ≤ 6 := hv.1.1.1
  have hvT := hv.1.1
  have hvS := hv.2.1.1
  have hdy := hv.2.1.2.1
  obtain ⟨rh, rk, wh, fa, nx, ne, ki, ba, he, nw, rH, rT, tx, td, rw_, oo, s1, s2, s3, ik, kp, hm, h134, h135, h136, h137, h138, h139, h140, h141, h142, h143, h144, h145, h146, h147, h148, h149, ⟨ht40, hN6⟩, hT, hS, htx, hA, hK, hN⟩ := hW
  have hnx := hA.1
  have hal := hA.2.1
  refine ar_aload_n (pc' := 1) hM rfl rfl rfl ?_
  refine ar_iconst (x := 0) (pc' := 2) hM rfl (by decide) rfl ?_
  refine ar_virtual (pc' := 5) (k3 := 0) (k4 := 0) hM rfl rfl hm ⟨rfl, (by decide)⟩ rfl rfl (d_lay T hm h134 h135 h136 h137 h138 h142 hT 0 (by omega) S hvT hvS (by simpa using hS)) (fun r2 w2 q2 => ?_)
  obtain ⟨td11, rfl, q2w, hY11⟩ := q2
  rw [q2w]
  show am_Go 162 (5, [.ref 133, .int 7], [], (w.set 142 (.inl (0, 36, .inl td11))), 0, 0) _
  refine ar_iload_n (pc' := 6) hM rfl rfl rfl ?_
  refine ar_tableIn (off := 99) (t := 105) hM rfl (by decide) (by decide) (by decide) ?_
  refine ar_aload_n (pc' := 106) hM rfl rfl rfl ?_
  refine ar_getfield (pc' := 109) hM rfl (am_gn (by decide) hm) rfl rfl ?_
  refine ar_bipush (x := 18) (pc' := 111) hM rfl (by decide) rfl ?_
  refine ar_ialoadN (j := 18) (pc' := 112) hM rfl (am_gn (by decide) h138) (by decide) (by omega) (Nat.le_of_ble_eq_true rfl) rfl ?_
  rw [show (nw 18 : Int32) = S.2.2.2.2.1 from (by have h0 := hS.2.1; rw [Nat.zero_add] at h0; exact h0)]
  refine ar_ireturn hM rfl (Or.inl rfl) ?_
  exact ⟨rfl, ⟨_, _, _, _, _, _, _, _, _, _, _, _, _, _, _, _, _, _, _, _, _, (am_gn (by decide) hm), (am_gn (by decide) h134), (am_gn (by decide) h135), (am_gn (by decide) h136), (am_gn (by decide) h137), (am_gn (by decide) h138), (am_gn (by decide) h139), (am_gn (by decide) h140), (am_gn (by decide) h141), (am_gs h142), (am_gn (by decide) h143), (am_gn (by decide) h144), (am_gn (by decide) h145), (am_gn (by decide) h146), (am_gn (by decide) h147), (am_gn (by decide) h148), (am_gn (by decide) h149), ⟨ht40, hN6⟩, hT, hS, htx, hA, hK, hN⟩, (am_same.set am_same.rf (by unfold rg; omega))⟩
set_option maxRecDepth 100000 in
set_option maxHeartbeats 4000000 in
theorem e_count8 (w : am_W) (t : Nat × (Nat → Int32)) (T : p_D) (S : s_S) (A : List s_S) (K : Nat → Option s_S) (N : x_N) (sd : Int64) (d : Nat) (hd : d ≤ 1000) (hv : v_W d T S A K) (hW : d_W w t T S A K N sd)  : am_Go 162 (0, [.ref 133, .int 8], [], w, 0, 0) (fun res w' => res = some (.int (x_count t T S A N 8)) ∧ d_W w' t T S A K N sd ∧ am_same (rg 133 17) w w') := by
  have hM : am_P[162]? = some zm_X11_count := rfl
  have hn6 : T.2.2.1 ≤ 6 := hv.1.1.1
  have hvT := hv.1.1
  have hvS := hv.2.1.1
  have hdy := hv.2.1.2.1
  obtain ⟨rh, rk, wh, fa, nx, ne, ki, ba, he, nw, rH, rT, tx, td, rw_, oo, s1, s2, s3, ik, kp, hm, h134, h135, h136, h137, h138, h139, h140, h141, h142, h143, h144, h145, h146, h147, h148, h149, ⟨ht40, hN6⟩, hT, hS, htx, hA, hK, hN⟩ := hW
  have hnx := hA.1
  have hal := hA.2.1
  refine ar_aload_n (pc' := 1) hM rfl rfl rfl ?_
  refine ar_iconst (x := 0) (pc' := 2) hM rfl (by decide) rfl ?_
  refine ar_virtual (pc' := 5) (k3 := 0) (k4 := 0) hM rfl rfl hm ⟨rfl, (by decide)⟩ rfl rfl (d_lay T hm h134 h135 h136 h137 h138 h142 hT 0 (by omega) S hvT hvS (by simpa using hS)) (fun r2 w2 q2 => ?_)
  obtain ⟨td12, rfl, q2w, hY12⟩ := q2
  rw [q2w]
  show am_Go 162 (5, [.ref 133, .int 8], [], (w.set 142 (.inl (0, 36, .inl td12))), 0, 0) _
  refine ar_iload_n (pc' := 6) hM rfl rfl rfl ?_
  refine ar_tableIn (off := 107) (t := 113) hM rfl (by decide) (by decide) (by decide) ?_
  refine ar_aload_n (pc' := 114) hM rfl rfl rfl ?_
  refine ar_getfield (pc' := 117) hM rfl (am_gn (by decide) hm) rfl rfl ?_
  refine ar_bipush (x := 19) (pc' := 119) hM rfl (by decide) rfl ?_
  refine ar_ialoadN (j := 19) (pc' := 120) hM rfl (am_gn (by decide) h138) (by decide) (by omega) (Nat.le_of_ble_eq_true rfl) rfl ?_
  rw [show (nw 19 : Int32) = S.2.2.2.2.2.1 from (by have h0 := hS.2.2.1; rw [Nat.zero_add] at h0; exact h0)]
  refine ar_ireturn hM rfl (Or.inl rfl) ?_
  exact ⟨rfl, ⟨_, _, _, _, _, _, _, _, _, _, _, _, _, _, _, _, _, _, _, _, _, (am_gn (by decide) hm), (am_gn (by decide) h134), (am_gn (by decide) h135), (am_gn (by decide) h136), (am_gn (by decide) h137), (am_gn (by decide) h138), (am_gn (by decide) h139), (am_gn (by decide) h140), (am_gn (by decide) h141), (am_gs h142), (am_gn (by decide) h143), (am_gn (by decide) h144), (am_gn (by decide) h145), (am_gn (by decide) h146), (am_gn (by decide) h147), (am_gn (by decide) h148), (am_gn (by decide) h149), ⟨ht40, hN6⟩, hT, hS, htx, hA, hK, hN⟩, (am_same.set am_same.rf (by unfold rg; omega))⟩
set_option maxRecDepth 100000 in
set_option maxHeartbeats 4000000 in
theorem e_count9 (w : am_W) (t : Nat × (Nat → Int32)) (T : p_D) (S : s_S) (A : List s_S) (K : Nat → Option s_S) (N : x_N) (sd : Int64) (d : Nat) (hd : d ≤ 1000) (hv : v_W d T S A K) (hW : d_W w t T S A K N sd)  : am_Go 162 (0, [.ref 133, .int 9], [], w, 0, 0) (fun res w' => res = some (.int (x_count t T S A N 9)) ∧ d_W w' t T S A K N sd ∧ am_same (rg 133 17) w w') := by
  have hM : am_P[162]? = some zm_X11_count := rfl
  have hn6 : T.2.2.1 ≤ 6 := hv.1.1.1
  have hvT := hv.1.1
  have hvS := hv.2.1.1
  have hdy := hv.2.1.2.1
  obtain ⟨rh, rk, wh, fa, nx, ne, ki, ba, he, nw, rH, rT, tx, td, rw_, oo, s1, s2, s3, ik, kp, hm, h134, h135, h136, h137, h138, h139, h140, h141, h142, h143, h144, h145, h146, h147, h148, h149, ⟨ht40, hN6⟩, hT, hS, htx, hA, hK, hN⟩ := hW
  have hnx := hA.1
  have hal := hA.2.1
  refine ar_aload_n (pc' := 1) hM rfl rfl rfl ?_
  refine ar_iconst (x := 0) (pc' := 2) hM rfl (by decide) rfl ?_
  refine ar_virtual (pc' := 5) (k3 := 0) (k4 := 0) hM rfl rfl hm ⟨rfl, (by decide)⟩ rfl rfl (d_lay T hm h134 h135 h136 h137 h138 h142 hT 0 (by omega) S hvT hvS (by simpa using hS)) (fun r2 w2 q2 => ?_)
  obtain ⟨td13, rfl, q2w, hY13⟩ := q2
  rw [q2w]
  show am_Go 162 (5, [.ref 133, .int 9], [], (w.set 142 (.inl (0, 36, .inl td13))), 0, 0) _
  refine ar_iload_n (pc' := 6) hM rfl rfl rfl ?_
  refine ar_tableIn (off := 115) (t := 121) hM rfl (by decide) (by decide) (by decide) ?_
  refine ar_aload_n (pc' := 122) hM rfl rfl rfl ?_
  refine ar_getfield (pc' := 125) hM rfl (am_gn (by decide) hm) rfl rfl ?_
  refine ar_ireturn hM rfl (Or.inl rfl) ?_
  exact ⟨rfl, ⟨_, _, _, _, _, _, _, _, _, _, _, _, _, _, _, _, _, _, _, _, _, (am_gn (by decide) hm), (am_gn (by decide) h134), (am_gn (by decide) h135), (am_gn (by decide) h136), (am_gn (by decide) h137), (am_gn (by decide) h138), (am_gn (by decide) h139), (am_gn (by decide) h140), (am_gn (by decide) h141), (am_gs h142), (am_gn (by decide) h143), (am_gn (by decide) h144), (am_gn (by decide) h145), (am_gn (by decide) h146), (am_gn (by decide) h147), (am_gn (by decide) h148), (am_gn (by decide) h149), ⟨ht40, hN6⟩, hT, hS, htx, hA, hK, hN⟩, (am_same.set am_same.rf (by unfold rg; omega))⟩
set_option maxRecDepth 100000 in
set_option maxHeartbeats 4000000 in
theorem e_count10 (w : am_W) (t : Nat × (Nat → Int32)) (T : p_D) (S : s_S) (A : List s_S) (K : Nat → Option s_S) (N : x_N) (sd : Int64) (d : Nat) (hd : d ≤ 1000) (hv : v_W d T S A K) (hW : d_W w t T S A K N sd)  : am_Go 162 (0, [.ref 133, .int 10], [], w, 0, 0) (fun res w' => res = some (.int (x_count t T S A N 10)) ∧ d_W w' t T S A K N sd ∧ am_same (rg 133 17) w w') := by
  have hM : am_P[162]? = some zm_X11_count := rfl
  have hn6 : T.2.2.1 ≤ 6 := hv.1.1.1
  have hvT := hv.1.1
  have hvS := hv.2.1.1
  have hdy := hv.2.1.2.1
  obtain ⟨rh, rk, wh, fa, nx, ne, ki, ba, he, nw, rH, rT, tx, td, rw_, oo, s1, s2, s3, ik, kp, hm, h134, h135, h136, h137, h138, h139, h140, h141, h142, h143, h144, h145, h146, h147, h148, h149, ⟨ht40, hN6⟩, hT, hS, htx, hA, hK, hN⟩ := hW
  have hnx := hA.1
  have hal := hA.2.1
  refine ar_aload_n (pc' := 1) hM rfl rfl rfl ?_
  refine ar_iconst (x := 0) (pc' := 2) hM rfl (by decide) rfl ?_
  refine ar_virtual (pc' := 5) (k3 := 0) (k4 := 0) hM rfl rfl hm ⟨rfl, (by decide)⟩ rfl rfl (d_lay T hm h134 h135 h136 h137 h138 h142 hT 0 (by omega) S hvT hvS (by simpa using hS)) (fun r2 w2 q2 => ?_)
  obtain ⟨td14, rfl, q2w, hY14⟩ := q2
  rw [q2w]
  show am_Go 162 (5, [.ref 133, .int 10], [], (w.set 142 (.inl (0, 36, .inl td14))), 0, 0) _
  refine ar_iload_n (pc' := 6) hM rfl rfl rfl ?_
  refine ar_tableIn (off := 120) (t := 126) hM rfl (by decide) (by decide) (by decide) ?_
  refine ar_aload_n (pc' := 127) hM rfl rfl rfl ?_
  refine ar_getfield (pc' := 130) hM rfl (am_gn (by decide) hm) rfl rfl ?_
  refine ar_ireturn hM rfl (Or.inl rfl) ?_
  exact ⟨rfl, ⟨_, _, _, _, _, _, _, _, _, _, _, _, _, _, _, _, _, _, _, _, _, (am_gn (by decide) hm), (am_gn (by decide) h134), (am_gn (by decide) h135), (am_gn (by decide) h136), (am_gn (by decide) h137), (am_gn (by decide) h138), (am_gn (by decide) h139), (am_gn (by decide) h140), (am_gn (by decide) h141), (am_gs h142), (am_gn (by decide) h143), (am_gn (by decide) h144), (am_gn (by decide) h145), (am_gn (by decide) h146), (am_gn (by decide) h147), (am_gn (by decide) h148), (am_gn (by decide) h149), ⟨ht40, hN6⟩, hT, hS, htx, hA, hK, hN⟩, (am_same.set am_same.rf (by unfold rg; omega))⟩
theorem e_count (w : am_W) (t : Nat × (Nat → Int32)) (T : p_D) (S : s_S) (A : List s_S) (K : Nat → Option s_S) (N : x_N) (sd : Int64) (d : Nat) (hd : d ≤ 1000) (hv : v_W d T S A K) (hW : d_W w t T S A K N sd)  (j : Nat) (hj : j ≤ 10) : am_Go 162 (0, [.ref 133, .int (nI j)], [], w, 0, 0) (fun res w' => res = some (.int (x_count t T S A N j)) ∧ d_W w' t T S A K N sd ∧ am_same (rg 133 17) w w') := by
  match j, hj with
  | 0, _ => exact e_count0 w t T S A K N sd d hd hv hW 
  | 1, _ => exact e_count1 w t T S A K N sd d hd hv hW 
  | 2, _ => exact e_count2 w t T S A K N sd d hd hv hW 
  | 3, _ => exact e_count3 w t T S A K N sd d hd hv hW 
  | 4, _ => exact e_count4 w t T S A K N sd d hd hv hW 
  | 5, _ => exact e_count5 w t T S A K N sd d hd hv hW 
  | 6, _ => exact e_count6 w t T S A K N sd d hd hv hW 
  | 7, _ => exact e_count7 w t T S A K N sd d hd hv hW 
  | 8, _ => exact e_count8 w t T S A K N sd d hd hv hW 
  | 9, _ => exact e_count9 w t T S A K N sd d hd hv hW 
  | 10, _ => exact e_count10 w t T S A K N sd d hd hv hW 
  | j + 11, h => omega
set_option maxRecDepth 100000 in
set_option maxHeartbeats 4000000 in
theorem e_countO (w : am_W) (t : Nat × (Nat → Int32)) (T : p_D) (S : s_S) (A : List s_S) (K : Nat → Option s_S) (N : x_N) (sd : Int64) (d : Nat) (hd : d ≤ 1000) (hv : v_W d T S A K) (hW : d_W w t T S A K N sd)  (wq : Int32) (hq : wq.toInt < 0 ∨ 10 < wq.toInt) : am_Go 162 (0, [.ref 133, .int wq], [], w, 0, 0) (fun res w' => res = some (.int (-2)) ∧ d_W w' t T S A K N sd ∧ am_same (rg 133 17) w w') := by
  have hM : am_P[162]? = some zm_X11_count := rfl
  have hn6 : T.2.2.1 ≤ 6 := hv.1.1.1
  have hvT := hv.1.1
  have hvS := hv.2.1.1
  have hdy := hv.2.1.2.1
  obtain ⟨rh, rk, wh, fa, nx, ne, ki, ba, he, nw, rH, rT, tx, td, rw_, oo, s1, s2, s3, ik, kp, hm, h134, h135, h136, h137, h138, h139, h140, h141, h142, h143, h144, h145, h146, h147, h148, h149, ⟨ht40, hN6⟩, hT, hS, htx, hA, hK, hN⟩ := hW
  have hnx := hA.1
  have hal := hA.2.1
  refine ar_aload_n (pc' := 1) hM rfl rfl rfl ?_
  refine ar_iconst (x := 0) (pc' := 2) hM rfl (by decide) rfl ?_
  refine ar_virtual (pc' := 5) (k3 := 0) (k4 := 0) hM rfl rfl hm ⟨rfl, (by decide)⟩ rfl rfl (d_lay T hm h134 h135 h136 h137 h138 h142 hT 0 (by omega) S hvT hvS (by simpa using hS)) (fun r2 w2 q2 => ?_)
  obtain ⟨td15, rfl, q2w, hY15⟩ := q2
  rw [q2w]
  show am_Go 162 (5, [.ref 133, .int wq], [], (w.set 142 (.inl (0, 36, .inl td15))), 0, 0) _
  refine ar_iload_n (pc' := 6) hM rfl rfl rfl ?_
  refine ar_tableOut (t := 131) hM rfl hq rfl ?_
  refine ar_bipush (x := (-2)) (pc' := 133) hM rfl (by decide) rfl ?_
  refine ar_ireturn hM rfl (Or.inl rfl) ?_
  exact ⟨rfl, ⟨_, _, _, _, _, _, _, _, _, _, _, _, _, _, _, _, _, _, _, _, _, (am_gn (by decide) hm), (am_gn (by decide) h134), (am_gn (by decide) h135), (am_gn (by decide) h136), (am_gn (by decide) h137), (am_gn (by decide) h138), (am_gn (by decide) h139), (am_gn (by decide) h140), (am_gn (by decide) h141), (am_gs h142), (am_gn (by decide) h143), (am_gn (by decide) h144), (am_gn (by decide) h145), (am_gn (by decide) h146), (am_gn (by decide) h147), (am_gn (by decide) h148), (am_gn (by decide) h149), ⟨ht40, hN6⟩, hT, hS, htx, hA, hK, hN⟩, (am_same.set am_same.rf (by unfold rg; omega))⟩
set_option maxRecDepth 100000 in
set_option maxHeartbeats 4000000 in
theorem e_seeN (w : am_W) (t : Nat × (Nat → Int32)) (T : p_D) (S : s_S) (A : List s_S) (K : Nat → Option s_S) (N : x_N) (sd : Int64) (d : Nat) (hd : d ≤ 1000) (hv : v_W d T S A K) (hW : d_W w t T S A K N sd) (h : Int32) (hh : ¬ i_H T.2.2.1 h) (a b : Int32) : am_Go 148 (0, [.ref 133, .int h, .int a, .int b], [], w, 0, 0) (fun res w' => res = some (.int (-1)) ∧ d_W w' t T S A K N sd ∧ am_same (rg 133 17) w w') := by
  have hM : am_P[148]? = some zm_X11_see := rfl
  have hn6 : T.2.2.1 ≤ 6 := hv.1.1.1
  have hvT := hv.1.1
  have hvS := hv.2.1.1
  have hdy := hv.2.1.2.1
  obtain ⟨rh, rk, wh, fa, nx, ne, ki, ba, he, nw, rH, rT, tx, td, rw_, oo, s1, s2, s3, ik, kp, hm, h134, h135, h136, h137, h138, h139, h140, h141, h142, h143, h144, h145, h146, h147, h148, h149, ⟨ht40, hN6⟩, hT, hS, htx, hA, hK, hN⟩ := hW
  have hnx := hA.1
  have hal := hA.2.1
  refine ar_aload_n (pc' := 1) hM rfl rfl rfl ?_
  refine ar_iload_n (pc' := 2) hM rfl rfl rfl ?_
  refine ar_virtual (pc' := 5) (k3 := 0) (k4 := 0) hM rfl rfl hm ⟨rfl, (by decide)⟩ rfl rfl (by have h0 := d_isH (w := w) T hm h; rw [if_neg (fun q => hh ((i_H_iff hn6 _).mp q))] at h0; exact h0) (fun r2 w2 q2 => ?_)
  obtain ⟨rfl, q2w⟩ := q2
  rw [q2w]
  show am_Go 148 (5, [.ref 133, .int h, .int a, .int b], [.int 0], w, 0, 0) _
  refine ar_if_ne (pc' := 8) hM rfl rfl (fun q => absurd (by decide) q) (fun _ => ?_)
  refine ar_iconst (x := (-1)) (pc' := 9) hM rfl (by decide) rfl ?_
  refine ar_ireturn hM rfl (Or.inl rfl) ?_
  exact ⟨rfl, ⟨_, _, _, _, _, _, _, _, _, _, _, _, _, _, _, _, _, _, _, _, _, hm, h134, h135, h136, h137, h138, h139, h140, h141, h142, h143, h144, h145, h146, h147, h148, h149, ⟨ht40, hN6⟩, hT, hS, htx, hA, hK, hN⟩, am_same.rf⟩
set_option maxRecDepth 100000 in
set_option maxHeartbeats 4000000 in
theorem e_seeO (w : am_W) (t : Nat × (Nat → Int32)) (T : p_D) (S : s_S) (A : List s_S) (K : Nat → Option s_S) (N : x_N) (sd : Int64) (d : Nat) (hd : d ≤ 1000) (hv : v_W d T S A K) (hW : d_W w t T S A K N sd) (k : Nat) (hk : k < T.2.2.1) (a b : Int32) (hno : ¬ ((0 ≤ a ∧ a ≤ 3) ∧ 0 ≤ b ∧ b ≤ 30)) : am_Go 148 (0, [.ref 133, .int (nI k), .int a, .int b], [], w, 0, 0) (fun res w' => res = some (.int (-2)) ∧ d_W w' t T S A K N sd ∧ am_same (rg 133 17) w w') := by
  have hM : am_P[148]? = some zm_X11_see := rfl
  have hn6 : T.2.2.1 ≤ 6 := hv.1.1.1
  have hvT := hv.1.1
  have hvS := hv.2.1.1
  have hdy := hv.2.1.2.1
  obtain ⟨rh, rk, wh, fa, nx, ne, ki, ba, he, nw, rH, rT, tx, td, rw_, oo, s1, s2, s3, ik, kp, hm, h134, h135, h136, h137, h138, h139, h140, h141, h142, h143, h144, h145, h146, h147, h148, h149, ⟨ht40, hN6⟩, hT, hS, htx, hA, hK, hN⟩ := hW
  have hnx := hA.1
  have hal := hA.2.1
  refine ar_aload_n (pc' := 1) hM rfl rfl rfl ?_
  refine ar_iload_n (pc' := 2) hM rfl rfl rfl ?_
  refine ar_virtual (pc' := 5) (k3 := 0) (k4 := 0) hM rfl rfl hm ⟨rfl, (by decide)⟩ rfl rfl (by have h0 := d_isH (w := w) T hm (nI k); rw [if_pos ((i_H_iff hn6 _).mpr ⟨k, hk, rfl⟩)] at h0; exact h0) (fun r2 w2 q2 => ?_)
  obtain ⟨rfl, q2w⟩ := q2
  rw [q2w]
  show am_Go 148 (5, [.ref 133, .int (nI k), .int a, .int b], [.int 1], w, 0, 0) _
  refine ar_if_ne (pc' := 8) hM rfl rfl (fun _ => ?_) (fun q => absurd q (by decide))
  refine ar_iload_n (pc' := 11) hM rfl rfl rfl ?_
  refine ar_i2l (pc' := 12) hM rfl rfl ?_
  refine ar_lconst (x := 0) (pc' := 13) hM rfl (by decide) rfl ?_
  refine ar_ldc2_w (x := 3) (pc' := 16) hM rfl (by decide) rfl ?_
  refine ar_static (pc' := 19) (k3 := 0) (k4 := 0) hM rfl (by decide) rfl rfl (d_in _ a 0 3 _ _ (by decide) (by decide)) (fun r16 w16 q16 => ?_)
  obtain ⟨rfl, q16w⟩ := q16
  rw [q16w]
  show am_Go 148 (19, [.ref 133, .int (nI k), .int a, .int b], [.int (if 0 ≤ a ∧ a ≤ 3 then 1 else 0)], w, 0, 0) _
  refine ar_if_eq (pc' := 22) hM rfl rfl (fun c19 => ?_) (fun c19 => ?_)
  · refine ar_bipush (x := (-2)) (pc' := 36) hM rfl (by decide) rfl ?_
    refine ar_ireturn hM rfl (Or.inl rfl) ?_
    exact ⟨rfl, ⟨_, _, _, _, _, _, _, _, _, _, _, _, _, _, _, _, _, _, _, _, _, hm, h134, h135, h136, h137, h138, h139, h140, h141, h142, h143, h144, h145, h146, h147, h148, h149, ⟨ht40, hN6⟩, hT, hS, htx, hA, hK, hN⟩, am_same.rf⟩
  · refine ar_iload_n (pc' := 23) hM rfl rfl rfl ?_
    refine ar_i2l (pc' := 24) hM rfl rfl ?_
    refine ar_lconst (x := 0) (pc' := 25) hM rfl (by decide) rfl ?_
    refine ar_ldc2_w (x := 30) (pc' := 28) hM rfl (by decide) rfl ?_
    refine ar_static (pc' := 31) (k3 := 0) (k4 := 0) hM rfl (by decide) rfl rfl (d_in _ b 0 30 _ _ (by decide) (by decide)) (fun r28 w28 q28 => ?_)
    obtain ⟨rfl, q28w⟩ := q28
    rw [q28w]
    show am_Go 148 (31, [.ref 133, .int (nI k), .int a, .int b], [.int (if 0 ≤ b ∧ b ≤ 30 then 1 else 0)], w, 0, 0) _
    refine ar_if_ne (pc' := 34) hM rfl rfl (fun c31 => ?_) (fun c31 => ?_)
    · exact absurd ⟨am_ne0 c19, am_ne0 c31⟩ hno
    · refine ar_bipush (x := (-2)) (pc' := 36) hM rfl (by decide) rfl ?_
      refine ar_ireturn hM rfl (Or.inl rfl) ?_
      exact ⟨rfl, ⟨_, _, _, _, _, _, _, _, _, _, _, _, _, _, _, _, _, _, _, _, _, hm, h134, h135, h136, h137, h138, h139, h140, h141, h142, h143, h144, h145, h146, h147, h148, h149, ⟨ht40, hN6⟩, hT, hS, htx, hA, hK, hN⟩, am_same.rf⟩
set_option maxRecDepth 100000 in
set_option maxHeartbeats 4000000 in
theorem e_see (w : am_W) (t : Nat × (Nat → Int32)) (T : p_D) (S : s_S) (A : List s_S) (K : Nat → Option s_S) (N : x_N) (sd : Int64) (d : Nat) (hd : d ≤ 1000) (hv : v_W d T S A K) (hW : d_W w t T S A K N sd) (k : Nat) (hk : k < T.2.2.1) (a b : Int32) (hyes : (0 ≤ a ∧ a ≤ 3) ∧ 0 ≤ b ∧ b ≤ 30) : am_Go 148 (0, [.ref 133, .int (nI k), .int a, .int b], [], w, 0, 0) (fun res w' => res = some (.int ((x_see N (nI k) a b).1)) ∧ d_W w' t T S A K ((x_see N (nI k) a b).2) sd ∧ am_same (rg 133 17) w w') := by
  have hM : am_P[148]? = some zm_X11_see := rfl
  have hn6 : T.2.2.1 ≤ 6 := hv.1.1.1
  have hvT := hv.1.1
  have hvS := hv.2.1.1
  have hdy := hv.2.1.2.1
  obtain ⟨rh, rk, wh, fa, nx, ne, ki, ba, he, nw, rH, rT, tx, td, rw_, oo, s1, s2, s3, ik, kp, hm, h134, h135, h136, h137, h138, h139, h140, h141, h142, h143, h144, h145, h146, h147, h148, h149, ⟨ht40, hN6⟩, hT, hS, htx, hA, hK, hN⟩ := hW
  have hnx := hA.1
  have hal := hA.2.1
  refine ar_aload_n (pc' := 1) hM rfl rfl rfl ?_
  refine ar_iload_n (pc' := 2) hM rfl rfl rfl ?_
  refine ar_virtual (pc' := 5) (k3 := 0) (k4 := 0) hM rfl rfl hm ⟨rfl, (by decide)⟩ rfl rfl (by have h0 := d_isH (w := w) T hm (nI k); rw [if_pos ((i_H_iff hn6 _).mpr ⟨k, hk, rfl⟩)] at h0; exact h0) (fun r2 w2 q2 => ?_)
  obtain ⟨rfl, q2w⟩ := q2
  rw [q2w]
  show am_Go 148 (5, [.ref 133, .int (nI k), .int a, .int b], [.int 1], w, 0, 0) _
  refine ar_if_ne (pc' := 8) hM rfl rfl (fun _ => ?_) (fun q => absurd q (by decide))
  refine ar_iload_n (pc' := 11) hM rfl rfl rfl ?_
  refine ar_i2l (pc' := 12) hM rfl rfl ?_
  refine ar_lconst (x := 0) (pc' := 13) hM rfl (by decide) rfl ?_
  refine ar_ldc2_w (x := 3) (pc' := 16) hM rfl (by decide) rfl ?_
  refine ar_static (pc' := 19) (k3 := 0) (k4 := 0) hM rfl (by decide) rfl rfl (by have h0 := d_in w a 0 3 0 3 (by decide) (by decide); rw [if_pos hyes.1] at h0; exact h0) (fun r16 w16 q16 => ?_)
  obtain ⟨rfl, q16w⟩ := q16
  rw [q16w]
  show am_Go 148 (19, [.ref 133, .int (nI k), .int a, .int b], [.int 1], w, 0, 0) _
  refine ar_if_eq (pc' := 22) hM rfl rfl (fun q => absurd q (by decide)) (fun _ => ?_)
  refine ar_iload_n (pc' := 23) hM rfl rfl rfl ?_
  refine ar_i2l (pc' := 24) hM rfl rfl ?_
  refine ar_lconst (x := 0) (pc' := 25) hM rfl (by decide) rfl ?_
  refine ar_ldc2_w (x := 30) (pc' := 28) hM rfl (by decide) rfl ?_
  refine ar_static (pc' := 31) (k3 := 0) (k4 := 0) hM rfl (by decide) rfl rfl (by have h0 := d_in w b 0 30 0 30 (by decide) (by decide); rw [if_pos hyes.2] at h0; exact h0) (fun r28 w28 q28 => ?_)
  obtain ⟨rfl, q28w⟩ := q28
  rw [q28w]
  show am_Go 148 (31, [.ref 133, .int (nI k), .int a, .int b], [.int 1], w, 0, 0) _
  refine ar_if_ne (pc' := 34) hM rfl rfl (fun _ => ?_) (fun q => absurd q (by decide))
  refine ar_aload_n (pc' := 38) hM rfl rfl rfl ?_
  refine ar_getfield (pc' := 41) hM rfl hm rfl rfl ?_
  refine ar_bipush (x := 6) (pc' := 43) hM rfl (by decide) rfl ?_
  refine ar_icmp_ne (pc' := 46) hM rfl rfl (fun c43 => ?_) (fun c43 => ?_)
  · refine ar_aload_n (pc' := 50) hM rfl rfl rfl ?_
    refine ar_getfield (pc' := 53) hM rfl hm rfl rfl ?_
    refine ar_aload_n (pc' := 54) hM rfl rfl rfl ?_
    refine ar_getfield (pc' := 57) hM rfl hm rfl rfl ?_
    refine ar_iload_n (pc' := 58) hM rfl rfl rfl ?_
    refine ar_iastoreN (j := N.1) (pc' := 59) hM rfl h145 rfl (by rcases Nat.lt_or_ge N.1 6 with q | q; exact q; exact absurd (congrArg nI (show N.1 = 6 by omega)) c43) (Nat.le_of_ble_eq_true rfl) (by decide) rfl ?_
    refine ar_aload_n (pc' := 60) hM rfl rfl rfl ?_
    refine ar_getfield (pc' := 63) hM rfl (am_gn (by decide) hm) rfl rfl ?_
    refine ar_aload_n (pc' := 64) hM rfl rfl rfl ?_
    refine ar_getfield (pc' := 67) hM rfl (am_gn (by decide) hm) rfl rfl ?_
    refine ar_iload_n (pc' := 68) hM rfl rfl rfl ?_
    refine ar_iastoreN (j := N.1) (pc' := 69) hM rfl (am_gn (by decide) h146) rfl (by rcases Nat.lt_or_ge N.1 6 with q | q; exact q; exact absurd (congrArg nI (show N.1 = 6 by omega)) c43) (Nat.le_of_ble_eq_true rfl) (by decide) rfl ?_
    refine ar_aload_n (pc' := 70) hM rfl rfl rfl ?_
    refine ar_getfield (pc' := 73) hM rfl (am_gn (by decide) (am_gn (by decide) hm)) rfl rfl ?_
    refine ar_aload_n (pc' := 74) hM rfl rfl rfl ?_
    refine ar_getfield (pc' := 77) hM rfl (am_gn (by decide) (am_gn (by decide) hm)) rfl rfl ?_
    refine ar_iload_n (pc' := 78) hM rfl rfl rfl ?_
    refine ar_iastoreN (j := N.1) (pc' := 79) hM rfl (am_gn (by decide) (am_gn (by decide) h147)) rfl (by rcases Nat.lt_or_ge N.1 6 with q | q; exact q; exact absurd (congrArg nI (show N.1 = 6 by omega)) c43) (Nat.le_of_ble_eq_true rfl) (by decide) rfl ?_
    refine ar_aload_n (pc' := 80) hM rfl rfl rfl ?_
    refine ar_dup (pc' := 81) hM rfl rfl rfl ?_
    refine ar_getfield (pc' := 84) hM rfl (am_gn (by decide) (am_gn (by decide) (am_gn (by decide) hm))) rfl rfl ?_
    refine ar_iconst (x := 1) (pc' := 85) hM rfl (by decide) rfl ?_
    refine ar_iadd (pc' := 86) hM rfl rfl ?_
    rw [show ((nI N.1) + 1 : Int32) = nI (N.1 + 1) from nI_add N.1 1]
    refine ar_putfield (pc' := 89) hM rfl (am_gn (by decide) (am_gn (by decide) (am_gn (by decide) hm))) (Nat.le_of_ble_eq_true rfl) rfl (by decide) rfl ?_
    show am_Go 148 (89, [.ref 133, .int (nI k), .int a, .int b], [], ((((w.set 145 (.inl (0, 6, .inl (upd s1 N.1 (nI k))))).set 146 (.inl (0, 6, .inl (upd s2 N.1 a)))).set 147 (.inl (0, 6, .inl (upd s3 N.1 b)))).set 133 (.inr (11, [.int (nI T.2.2.1), .int (nI T.2.2.2.1), .int T.1, .int T.2.1, .ref 134, .ref 135, .ref 136, .ref 137, .ref 138, .ref 139, .ref 140, .int rh, .int rk, .ref 141, .int (nI t.1), .int wh, .int fa, .ref 142, .int 0, .int (nI A.length), .int (nI nx), .ref 143, .ref 144, .int (nI (N.1 + 1)), .ref 145, .ref 146, .ref 147, .long sd, .ref 148, .ref 149]))), 0, 0) _
    refine ar_aload_n (pc' := 90) hM rfl rfl rfl ?_
    refine ar_getfield (pc' := 93) hM rfl (am_gs (am_gn (by decide) (am_gn (by decide) (am_gn (by decide) hm)))) rfl rfl ?_
    refine ar_ireturn hM rfl (Or.inl rfl) ?_
    have h6 : N.1 < 6 := (by rcases Nat.lt_or_ge N.1 6 with q | q; exact q; exact absurd (congrArg nI (show N.1 = 6 by omega)) c43)
    rw [show x_see N (nI k) a b = (nI (N.1 + 1), (N.1 + 1, upd N.2.1 N.1 (nI k), upd N.2.2.1 N.1 a, upd N.2.2.2 N.1 b)) from if_pos h6]
    exact ⟨rfl, ⟨_, _, _, _, _, _, _, _, _, _, _, _, _, _, _, _, _, _, _, _, _, (am_gs (am_gn (by decide) (am_gn (by decide) (am_gn (by decide) hm)))), (am_gn (by decide) (am_gn (by decide) (am_gn (by decide) (am_gn (by decide) h134)))), (am_gn (by decide) (am_gn (by decide) (am_gn (by decide) (am_gn (by decide) h135)))), (am_gn (by decide) (am_gn (by decide) (am_gn (by decide) (am_gn (by decide) h136)))), (am_gn (by decide) (am_gn (by decide) (am_gn (by decide) (am_gn (by decide) h137)))), (am_gn (by decide) (am_gn (by decide) (am_gn (by decide) (am_gn (by decide) h138)))), (am_gn (by decide) (am_gn (by decide) (am_gn (by decide) (am_gn (by decide) h139)))), (am_gn (by decide) (am_gn (by decide) (am_gn (by decide) (am_gn (by decide) h140)))), (am_gn (by decide) (am_gn (by decide) (am_gn (by decide) (am_gn (by decide) h141)))), (am_gn (by decide) (am_gn (by decide) (am_gn (by decide) (am_gn (by decide) h142)))), (am_gn (by decide) (am_gn (by decide) (am_gn (by decide) (am_gn (by decide) h143)))), (am_gn (by decide) (am_gn (by decide) (am_gn (by decide) (am_gn (by decide) h144)))), (am_gn (by decide) (am_gn (by decide) (am_gn (by decide) (am_gs h145)))), (am_gn (by decide) (am_gn (by decide) (am_gs (am_gn (by decide) h146)))), (am_gn (by decide) (am_gs (am_gn (by decide) (am_gn (by decide) h147)))), (am_gn (by decide) (am_gn (by decide) (am_gn (by decide) (am_gn (by decide) h148)))), (am_gn (by decide) (am_gn (by decide) (am_gn (by decide) (am_gn (by decide) h149)))), ⟨ht40, by show N.1 + 1 ≤ 6; omega⟩, hT, hS, htx, hA, hK, (fun i hi => ⟨am_fu (fun k hk => (hN k hk).1) i hi, am_fu (fun k hk => (hN k hk).2.1) i hi, am_fu (fun k hk => (hN k hk).2.2) i hi⟩)⟩, (am_same.set (am_same.set (am_same.set (am_same.set am_same.rf (by unfold rg; omega)) (by unfold rg; omega)) (by unfold rg; omega)) (by unfold rg; omega))⟩
  · refine ar_bipush (x := (-4)) (pc' := 48) hM rfl (by decide) rfl ?_
    refine ar_ireturn hM rfl (Or.inl rfl) ?_
    rw [show x_see N (nI k) a b = (-4, N) from if_neg (by have := (nI_eq (b := 6) (by omega) (by omega)).mp c43; omega)]
    exact ⟨rfl, ⟨_, _, _, _, _, _, _, _, _, _, _, _, _, _, _, _, _, _, _, _, _, hm, h134, h135, h136, h137, h138, h139, h140, h141, h142, h143, h144, h145, h146, h147, h148, h149, ⟨ht40, hN6⟩, hT, hS, htx, hA, hK, hN⟩, am_same.rf⟩
set_option maxRecDepth 100000 in
set_option maxHeartbeats 4000000 in
theorem e_unsee (w : am_W) (t : Nat × (Nat → Int32)) (T : p_D) (S : s_S) (A : List s_S) (K : Nat → Option s_S) (N : x_N) (sd : Int64) (d : Nat) (hd : d ≤ 1000) (hv : v_W d T S A K) (hW : d_W w t T S A K N sd)  : am_Go 149 (0, [.ref 133, .float 0], [], w, 0, 0) (fun res w' => res = some (.int (nI N.1)) ∧ d_W w' t T S A K (0, N.2) sd ∧ am_same (rg 133 17) w w') := by
  have hM : am_P[149]? = some zm_X11_unsee := rfl
  have hn6 : T.2.2.1 ≤ 6 := hv.1.1.1
  have hvT := hv.1.1
  have hvS := hv.2.1.1
  have hdy := hv.2.1.2.1
  obtain ⟨rh, rk, wh, fa, nx, ne, ki, ba, he, nw, rH, rT, tx, td, rw_, oo, s1, s2, s3, ik, kp, hm, h134, h135, h136, h137, h138, h139, h140, h141, h142, h143, h144, h145, h146, h147, h148, h149, ⟨ht40, hN6⟩, hT, hS, htx, hA, hK, hN⟩ := hW
  have hnx := hA.1
  have hal := hA.2.1
  refine ar_aload_n (pc' := 1) hM rfl rfl rfl ?_
  refine ar_getfield (pc' := 4) hM rfl hm rfl rfl ?_
  refine ar_istore_n (pc' := 5) hM rfl rfl rfl rfl ?_
  refine ar_aload_n (pc' := 6) hM rfl rfl rfl ?_
  refine ar_iconst (x := 0) (pc' := 7) hM rfl (by decide) rfl ?_
  refine ar_putfield (pc' := 10) hM rfl hm (Nat.le_of_ble_eq_true rfl) rfl (by decide) rfl ?_
  show am_Go 149 (10, [.ref 133, .int (nI N.1)], [], (w.set 133 (.inr (11, [.int (nI T.2.2.1), .int (nI T.2.2.2.1), .int T.1, .int T.2.1, .ref 134, .ref 135, .ref 136, .ref 137, .ref 138, .ref 139, .ref 140, .int rh, .int rk, .ref 141, .int (nI t.1), .int wh, .int fa, .ref 142, .int 0, .int (nI A.length), .int (nI nx), .ref 143, .ref 144, .int 0, .ref 145, .ref 146, .ref 147, .long sd, .ref 148, .ref 149]))), 0, 0) _
  refine ar_iload_n (pc' := 11) hM rfl rfl rfl ?_
  refine ar_ireturn hM rfl (Or.inl rfl) ?_
  exact ⟨rfl, ⟨_, _, _, _, _, _, _, _, _, _, _, _, _, _, _, _, _, _, _, _, _, (am_gs hm), (am_gn (by decide) h134), (am_gn (by decide) h135), (am_gn (by decide) h136), (am_gn (by decide) h137), (am_gn (by decide) h138), (am_gn (by decide) h139), (am_gn (by decide) h140), (am_gn (by decide) h141), (am_gn (by decide) h142), (am_gn (by decide) h143), (am_gn (by decide) h144), (am_gn (by decide) h145), (am_gn (by decide) h146), (am_gn (by decide) h147), (am_gn (by decide) h148), (am_gn (by decide) h149), ⟨ht40, Nat.zero_le _⟩, hT, hS, htx, hA, hK, (fun i hi => absurd hi (by omega))⟩, (am_same.set am_same.rf (by unfold rg; omega))⟩
set_option maxRecDepth 100000 in
set_option maxHeartbeats 4000000 in
theorem e_wantsN (w : am_W) (t : Nat × (Nat → Int32)) (T : p_D) (S : s_S) (A : List s_S) (K : Nat → Option s_S) (N : x_N) (sd : Int64) (d : Nat) (hd : d ≤ 1000) (hv : v_W d T S A K) (hW : d_W w t T S A K N sd) (h : Int32) (hh : ¬ i_H T.2.2.1 h) : am_Go 150 (0, [.ref 133, .int h, .float 0, .float 0, .float 0, .float 0, .float 0], [], w, 0, 0) (fun res w' => res = some (.int (-1)) ∧ d_W w' t T S A K N sd ∧ am_same (rg 133 17) w w') := by
  have hM : am_P[150]? = some zm_X11_wants := rfl
  have hn6 : T.2.2.1 ≤ 6 := hv.1.1.1
  have hvT := hv.1.1
  have hvS := hv.2.1.1
  have hdy := hv.2.1.2.1
  obtain ⟨rh, rk, wh, fa, nx, ne, ki, ba, he, nw, rH, rT, tx, td, rw_, oo, s1, s2, s3, ik, kp, hm, h134, h135, h136, h137, h138, h139, h140, h141, h142, h143, h144, h145, h146, h147, h148, h149, ⟨ht40, hN6⟩, hT, hS, htx, hA, hK, hN⟩ := hW
  have hnx := hA.1
  have hal := hA.2.1
  refine ar_aload_n (pc' := 1) hM rfl rfl rfl ?_
  refine ar_iload_n (pc' := 2) hM rfl rfl rfl ?_
  refine ar_virtual (pc' := 5) (k3 := 0) (k4 := 0) hM rfl rfl hm ⟨rfl, (by decide)⟩ rfl rfl (by have h0 := d_isH (w := w) T hm h; rw [if_neg (fun q => hh ((i_H_iff hn6 _).mp q))] at h0; exact h0) (fun r2 w2 q2 => ?_)
  obtain ⟨rfl, q2w⟩ := q2
  rw [q2w]
  show am_Go 150 (5, [.ref 133, .int h, .float 0, .float 0, .float 0, .float 0, .float 0], [.int 0], w, 0, 0) _
  refine ar_if_ne (pc' := 8) hM rfl rfl (fun q => absurd (by decide) q) (fun _ => ?_)
  refine ar_iconst (x := (-1)) (pc' := 9) hM rfl (by decide) rfl ?_
  refine ar_ireturn hM rfl (Or.inl rfl) ?_
  exact ⟨rfl, ⟨_, _, _, _, _, _, _, _, _, _, _, _, _, _, _, _, _, _, _, _, _, hm, h134, h135, h136, h137, h138, h139, h140, h141, h142, h143, h144, h145, h146, h147, h148, h149, ⟨ht40, hN6⟩, hT, hS, htx, hA, hK, hN⟩, am_same.rf⟩
theorem b_agr_s {sh st sv : Nat → Int32} {h v : Int32} {i : Nat} : b_agr sh st sv h v (i + 1) = (b_agr sh st sv h v i && (!decide (sh i = h) || decide (sv i = v + st i))) := rfl
set_option maxRecDepth 100000 in
set_option maxHeartbeats 4000000 in
theorem e_wants (w : am_W) (t : Nat × (Nat → Int32)) (T : p_D) (S : s_S) (A : List s_S) (K : Nat → Option s_S) (N : x_N) (sd : Int64) (d : Nat) (hd : d ≤ 1000) (hv : v_W d T S A K) (hW : d_W w t T S A K N sd) (k : Nat) (hk : k < T.2.2.1) : am_Go 150 (0, [.ref 133, .int (nI k), .float 0, .float 0, .float 0, .float 0, .float 0], [], w, 0, 0) (fun res w' => res = some (.int (i_pw N.2.1 N.2.2.1 N.2.2.2 N.1 (nI k) (T.2.2.2.2.2.1 k) 10)) ∧ d_W w' t T S A K N sd ∧ am_same (rg 133 17) w w') := by
  have hM : am_P[150]? = some zm_X11_wants := rfl
  have hn6 : T.2.2.1 ≤ 6 := hv.1.1.1
  have hvT := hv.1.1
  have hvS := hv.2.1.1
  have hdy := hv.2.1.2.1
  obtain ⟨rh, rk, wh, fa, nx, ne, ki, ba, he, nw, rH, rT, tx, td, rw_, oo, s1, s2, s3, ik, kp, hm, h134, h135, h136, h137, h138, h139, h140, h141, h142, h143, h144, h145, h146, h147, h148, h149, ⟨ht40, hN6⟩, hT, hS, htx, hA, hK, hN⟩ := hW
  have hnx := hA.1
  have hal := hA.2.1
  refine ar_aload_n (pc' := 1) hM rfl rfl rfl ?_
  refine ar_iload_n (pc' := 2) hM rfl rfl rfl ?_
  refine ar_virtual (pc' := 5) (k3 := 0) (k4 := 0) hM rfl rfl hm ⟨rfl, (by decide)⟩ rfl rfl (by have h0 := d_isH (w := w) T hm (nI k); rw [if_pos ((i_H_iff hn6 _).mpr ⟨k, hk, rfl⟩)] at h0; exact h0) (fun r2 w2 q2 => ?_)
  obtain ⟨rfl, q2w⟩ := q2
  rw [q2w]
  show am_Go 150 (5, [.ref 133, .int (nI k), .float 0, .float 0, .float 0, .float 0, .float 0], [.int 1], w, 0, 0) _
  refine ar_if_ne (pc' := 8) hM rfl rfl (fun _ => ?_) (fun q => absurd q (by decide))
  refine ar_iconst (x := 0) (pc' := 11) hM rfl (by decide) rfl ?_
  refine ar_istore_n (pc' := 12) hM rfl rfl rfl rfl ?_
  refine ar_iconst (x := 0) (pc' := 13) hM rfl (by decide) rfl ?_
  refine ar_istore_n (pc' := 14) hM rfl rfl rfl rfl ?_
  have loop : ∀ (dj j : Nat) (y : Int32) (z4 : Value) (z5 : Value) (z6 : Value), dj + j = 10 → (y = i_pw s1 s2 s3 N.1 (nI k) (T.2.2.2.2.2.1 k) j) → am_Go 150 (14, [.ref 133, .int (nI k), .int y, .int (nI j), z4, z5, z6], [], w, 0, 0) (fun res w' => res = some (.int (i_pw N.2.1 N.2.2.1 N.2.2.2 N.1 (nI k) (T.2.2.2.2.2.1 k) 10)) ∧ d_W w' t T S A K N sd ∧ am_same (rg 133 17) w w') := by
    intro dj
    induction dj with
    | zero =>
      intro j y z4 z5 z6 hj hy
      refine ar_iload_n (pc' := 15) hM rfl rfl rfl ?_
      refine ar_bipush (x := 10) (pc' := 17) hM rfl (by decide) rfl ?_
      refine ar_icmp_ge (pc' := 20) hM rfl rfl (fun _ => ?_) (fun q => absurd (nI_le (a := 10) (b := j) (by omega) (by omega)) q)
      refine ar_iload_n (pc' := 134) hM rfl rfl rfl ?_
      refine ar_ireturn hM rfl (Or.inl rfl) ?_
      exact ⟨by rw [hy, show j = 10 by omega, i_pw_congr hN], ⟨_, _, _, _, _, _, _, _, _, _, _, _, _, _, _, _, _, _, _, _, _, hm, h134, h135, h136, h137, h138, h139, h140, h141, h142, h143, h144, h145, h146, h147, h148, h149, ⟨ht40, hN6⟩, hT, hS, htx, hA, hK, hN⟩, am_same.rf⟩
    | succ dj ih =>
      intro j y z4 z5 z6 hj hy
      refine ar_iload_n (pc' := 15) hM rfl rfl rfl ?_
      refine ar_bipush (x := 10) (pc' := 17) hM rfl (by decide) rfl ?_
      refine ar_icmp_ge (pc' := 20) hM rfl rfl (fun q => absurd q (nI_ge (a := j) (b := 10) (by omega) (by omega))) (fun _ => ?_)
      refine ar_aload_n (pc' := 21) hM rfl rfl rfl ?_
      refine ar_getfield (pc' := 24) hM rfl hm rfl rfl ?_
      refine ar_iload_n (pc' := 25) hM rfl rfl rfl ?_
      refine ar_ialoadN (j := k) (pc' := 26) hM rfl h135 rfl (by omega) (Nat.le_of_ble_eq_true rfl) rfl ?_
      rw [show (ki k : Int32) = T.2.2.2.2.2.1 k from (hT.1 k hk).2.1]
      refine ar_iload_n (pc' := 27) hM rfl rfl rfl ?_
      refine ar_static (pc' := 30) (k3 := 0) (k4 := 0) hM rfl (by decide) rfl rfl (d_wantBy _ _ _) (fun r27 w27 q27 => ?_)
      obtain ⟨rfl, q27w⟩ := q27
      rw [q27w]
      show am_Go 150 (30, [.ref 133, .int (nI k), .int y, .int (nI j), z4, z5, z6], [.int (i_wbk (nI j) (T.2.2.2.2.2.1 k))], w, 0, 0) _
      refine ar_aload_n (pc' := 31) hM rfl rfl rfl ?_
      refine ar_getfield (pc' := 34) hM rfl hm rfl rfl ?_
      refine ar_iload_n (pc' := 35) hM rfl rfl rfl ?_
      refine ar_ialoadN (j := k) (pc' := 36) hM rfl h135 rfl (by omega) (Nat.le_of_ble_eq_true rfl) rfl ?_
      rw [show (ki k : Int32) = T.2.2.2.2.2.1 k from (hT.1 k hk).2.1]
      refine ar_iconst (x := 3) (pc' := 37) hM rfl (by decide) rfl ?_
      suffices hj37 : ∀ z_37 : Int32, z_37 = (if (T.2.2.2.2.2.1 k) = (3 : Int32) then 2 else 0) → am_Go 150 (45, [.ref 133, .int (nI k), .int y, .int (nI j), z4, z5, z6], [.int z_37, .int (i_wbk (nI j) (T.2.2.2.2.2.1 k))], w, 0, 0) _ by
        refine ar_icmp_ne (pc' := 40) hM rfl rfl (fun c => ?_) (fun c => ?_)
        · refine ar_iconst (x := 0) (pc' := 45) hM rfl (by decide) rfl ?_
          exact hj37 _ (if_neg c).symm
        · refine ar_iconst (x := 2) (pc' := 41) hM rfl (by decide) rfl ?_
          refine ar_goto hM rfl ?_
          exact hj37 _ (if_pos c).symm
      rintro _ rfl
      refine ar_iadd (pc' := 46) hM rfl rfl ?_
      refine ar_istore (pc' := 48) hM rfl rfl rfl rfl ?_
      obtain ⟨says, hsay⟩ : ∃ z : Int32, z = i_wbk (nI j) (T.2.2.2.2.2.1 k) + i_lie (T.2.2.2.2.2.1 k) := ⟨_, rfl⟩
      rw [show ((i_wbk (nI j) (T.2.2.2.2.2.1 k)) + (if (T.2.2.2.2.2.1 k) = (3 : Int32) then 2 else 0) : Int32) = says from hsay.symm]
      refine ar_iconst (x := 1) (pc' := 49) hM rfl (by decide) rfl ?_
      refine ar_istore (pc' := 51) hM rfl rfl rfl rfl ?_
      refine ar_iconst (x := 0) (pc' := 52) hM rfl (by decide) rfl ?_
      refine ar_istore (pc' := 54) hM rfl rfl rfl rfl ?_
      have loopi : ∀ (dj i : Nat) (fi : Int32), dj + i = N.1 → (fi = if b_agr s1 s2 s3 (nI k) says i = true then 1 else 0) → am_Go 150 (54, [.ref 133, .int (nI k), .int y, .int (nI j), .int says, .int fi, .int (nI i)], [], w, 0, 0) (fun res w' => res = some (.int (i_pw N.2.1 N.2.2.1 N.2.2.2 N.1 (nI k) (T.2.2.2.2.2.1 k) 10)) ∧ d_W w' t T S A K N sd ∧ am_same (rg 133 17) w w') := by
        intro dj
        induction dj with
        | zero =>
          intro i fi hj hfi
          refine ar_iload (pc' := 56) hM rfl rfl rfl ?_
          refine ar_aload_n (pc' := 57) hM rfl rfl rfl ?_
          refine ar_getfield (pc' := 60) hM rfl hm rfl rfl ?_
          refine ar_icmp_ge (pc' := 63) hM rfl rfl (fun _ => ?_) (fun q => absurd (nI_le (a := N.1) (b := i) (by omega) (by omega)) q)
          refine ar_iload_n (pc' := 113) hM rfl rfl rfl ?_
          refine ar_iload (pc' := 115) hM rfl rfl rfl ?_
          refine ar_if_eq (pc' := 118) hM rfl rfl (fun c115 => ?_) (fun c115 => ?_)
          · refine ar_iconst (x := 0) (pc' := 125) hM rfl (by decide) rfl ?_
            refine ar_ior (pc' := 126) hM rfl rfl ?_
            refine ar_istore_n (pc' := 127) hM rfl rfl rfl rfl ?_
            refine ar_iinc (z := nI (j + 1)) (pc' := 130) hM rfl rfl (nI_1 _) rfl rfl rfl ?_
            refine ar_goto hM rfl ?_
            exact ih (j + 1) (y ||| 0) (.int says) (.int fi) (.int (nI i)) (by omega) (by show _ = if _ then _ else _; rw [if_neg (by rw [← hsay, show N.1 = i by omega]; rw [hfi] at c115; exact am_eq0 c115), ← hy]; exact Int32.or_zero)
          · refine ar_iconst (x := 1) (pc' := 119) hM rfl (by decide) rfl ?_
            refine ar_iload_n (pc' := 120) hM rfl rfl rfl ?_
            refine ar_ishl (pc' := 121) hM rfl rfl ?_
            refine ar_goto hM rfl ?_
            refine ar_ior (pc' := 126) hM rfl rfl ?_
            refine ar_istore_n (pc' := 127) hM rfl rfl rfl rfl ?_
            refine ar_iinc (z := nI (j + 1)) (pc' := 130) hM rfl rfl (nI_1 _) rfl rfl rfl ?_
            refine ar_goto hM rfl ?_
            exact ih (j + 1) (y ||| (1 <<< ((nI j) &&& 31))) (.int says) (.int fi) (.int (nI i)) (by omega) (by show _ = if _ then _ else _; rw [if_pos (by rw [← hsay, show N.1 = i by omega]; rw [hfi] at c115; exact am_ne0 c115), hy])
        | succ dj ih =>
          intro i fi hj hfi
          refine ar_iload (pc' := 56) hM rfl rfl rfl ?_
          refine ar_aload_n (pc' := 57) hM rfl rfl rfl ?_
          refine ar_getfield (pc' := 60) hM rfl hm rfl rfl ?_
          refine ar_icmp_ge (pc' := 63) hM rfl rfl (fun q => absurd q (nI_ge (a := i) (b := N.1) (by omega) (by omega))) (fun _ => ?_)
          refine ar_iload (pc' := 65) hM rfl rfl rfl ?_
          refine ar_if_eq (pc' := 68) hM rfl rfl (fun c65 => ?_) (fun c65 => ?_)
          · refine ar_iconst (x := 0) (pc' := 104) hM rfl (by decide) rfl ?_
            refine ar_istore (pc' := 106) hM rfl rfl rfl rfl ?_
            refine ar_iinc (z := nI (i + 1)) (pc' := 109) hM rfl rfl (nI_1 _) rfl rfl rfl ?_
            refine ar_goto hM rfl ?_
            exact ih (i + 1) 0 (by omega) (by have e0 : ¬ b_agr s1 s2 s3 (nI k) says i = true := (by rw [hfi] at c65; exact am_eq0 c65); rw [b_agr_s, if_neg (by simp [e0])])
          · refine ar_aload_n (pc' := 69) hM rfl rfl rfl ?_
            refine ar_getfield (pc' := 72) hM rfl hm rfl rfl ?_
            refine ar_iload (pc' := 74) hM rfl rfl rfl ?_
            refine ar_ialoadN (j := i) (pc' := 75) hM rfl h145 rfl (by omega) (Nat.le_of_ble_eq_true rfl) rfl ?_
            refine ar_iload_n (pc' := 76) hM rfl rfl rfl ?_
            refine ar_icmp_ne (pc' := 79) hM rfl rfl (fun c76 => ?_) (fun c76 => ?_)
            · refine ar_iconst (x := 1) (pc' := 100) hM rfl (by decide) rfl ?_
              refine ar_goto hM rfl ?_
              refine ar_istore (pc' := 106) hM rfl rfl rfl rfl ?_
              refine ar_iinc (z := nI (i + 1)) (pc' := 109) hM rfl rfl (nI_1 _) rfl rfl rfl ?_
              refine ar_goto hM rfl ?_
              exact ih (i + 1) 1 (by omega) (by have e0 : b_agr s1 s2 s3 (nI k) says i = true := (by rw [hfi] at c65; exact am_ne0 c65); rw [b_agr_s, if_pos (by simp [e0, c76])])
            · refine ar_iload (pc' := 81) hM rfl rfl rfl ?_
              refine ar_aload_n (pc' := 82) hM rfl rfl rfl ?_
              refine ar_getfield (pc' := 85) hM rfl hm rfl rfl ?_
              refine ar_iload (pc' := 87) hM rfl rfl rfl ?_
              refine ar_ialoadN (j := i) (pc' := 88) hM rfl h146 rfl (by omega) (Nat.le_of_ble_eq_true rfl) rfl ?_
              refine ar_iadd (pc' := 89) hM rfl rfl ?_
              refine ar_aload_n (pc' := 90) hM rfl rfl rfl ?_
              refine ar_getfield (pc' := 93) hM rfl hm rfl rfl ?_
              refine ar_iload (pc' := 95) hM rfl rfl rfl ?_
              refine ar_ialoadN (j := i) (pc' := 96) hM rfl h147 rfl (by omega) (Nat.le_of_ble_eq_true rfl) rfl ?_
              refine ar_icmp_ne (pc' := 99) hM rfl rfl (fun c96 => ?_) (fun c96 => ?_)
              · refine ar_iconst (x := 0) (pc' := 104) hM rfl (by decide) rfl ?_
                refine ar_istore (pc' := 106) hM rfl rfl rfl rfl ?_
                refine ar_iinc (z := nI (i + 1)) (pc' := 109) hM rfl rfl (nI_1 _) rfl rfl rfl ?_
                refine ar_goto hM rfl ?_
                exact ih (i + 1) 0 (by omega) (by have e0 : b_agr s1 s2 s3 (nI k) says i = true := (by rw [hfi] at c65; exact am_ne0 c65); rw [b_agr_s, if_neg (by simp [e0, c76]; exact fun q => c96 q.symm)])
              · refine ar_iconst (x := 1) (pc' := 100) hM rfl (by decide) rfl ?_
                refine ar_goto hM rfl ?_
                refine ar_istore (pc' := 106) hM rfl rfl rfl rfl ?_
                refine ar_iinc (z := nI (i + 1)) (pc' := 109) hM rfl rfl (nI_1 _) rfl rfl rfl ?_
                refine ar_goto hM rfl ?_
                exact ih (i + 1) 1 (by omega) (by have e0 : b_agr s1 s2 s3 (nI k) says i = true := (by rw [hfi] at c65; exact am_ne0 c65); rw [b_agr_s, if_pos (by simp [e0, c96])])
      exact loopi (N.1) 0 1 (by omega) (if_pos (show b_agr s1 s2 s3 (nI k) says 0 = true from rfl)).symm
  exact loop (10) 0 0 (.float 0) (.float 0) (.float 0) (by omega) rfl
