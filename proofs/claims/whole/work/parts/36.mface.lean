/-! the reference whole -/
def d_W (w : am_W) (t : Nat × (Nat → Int32)) (T : p_D) (S : s_S) (A : List s_S) (K : Nat → Option s_S) (N : x_N) (sd : Int64) : Prop := ∃ (rh rk wh fa : Int32) (nx : Nat) (ne ki ba he nw rH rT tx td rw_ oo s1 s2 s3 ik kp : Nat → Int32), w[133]? = some (d_O T rh rk t.1 wh fa 0 A.length nx N.1 sd) ∧ w[134]? = some (.inl (0, 6, .inl ne)) ∧ w[135]? = some (.inl (0, 6, .inl ki)) ∧ w[136]? = some (.inl (0, 6, .inl ba)) ∧ w[137]? = some (.inl (0, 5, .inl he)) ∧ w[138]? = some (.inl (0, 42, .inl nw)) ∧ w[139]? = some (.inl (0, 18, .inl rH)) ∧ w[140]? = some (.inl (0, 5, .inl rT)) ∧ w[141]? = some (.inl (0, 40, .inl tx)) ∧ w[142]? = some (.inl (0, 36, .inl td)) ∧ w[143]? = some (.inl (0, 294, .inl rw_)) ∧ w[144]? = some (.inl (0, 6, .inl oo)) ∧ w[145]? = some (.inl (0, 6, .inl s1)) ∧ w[146]? = some (.inl (0, 6, .inl s2)) ∧ w[147]? = some (.inl (0, 6, .inl s3)) ∧ w[148]? = some (.inl (1, 2, .inl ik)) ∧ w[149]? = some (.inl (0, 42, .inl kp)) ∧ (t.1 ≤ 40 ∧ N.1 ≤ 6) ∧ (d_T ne ki ba he T) ∧ (d_S nw 0 T.2.2.1 S) ∧ (∀ i, i < t.1 → tx i = t.2 i) ∧ (d_A rw_ nx T.2.2.1 A) ∧ (d_K ik kp T.2.2.1 K) ∧ (∀ i, i < N.1 → s1 i = N.2.1 i ∧ s2 i = N.2.2.1 i ∧ s3 i = N.2.2.2 i)
theorem i_bit01 (y : Int32) : y &&& 1 = if y &&& 1 = 1 then 1 else 0 := by
  obtain ⟨j, hj, e⟩ := pk_andE y (m := 1) 1 (by decide)
  rw [e]
  rcases (show j = 0 ∨ j = 1 by omega) with rfl | rfl <;> decide
set_option maxRecDepth 100000 in
set_option maxHeartbeats 4000000 in
theorem e_write (w : am_W) (t : Nat × (Nat → Int32)) (T : p_D) (S : s_S) (A : List s_S) (K : Nat → Option s_S) (N : x_N) (sd : Int64) (d : Nat) (hd : d ≤ 1000) (hv : v_W d T S A K) (hW : d_W w t T S A K N sd) (c : Int32) : am_Go 109 (0, [.ref 133, .int c], [], w, 0, 0) (fun res w' => res = some (.int ((x_write t c).1)) ∧ d_W w' ((x_write t c).2) T S A K N sd ∧ am_same (rg 133 17) w w') := by
  have hM : am_P[109]? = some zm_X11_write := rfl
  have hn6 : T.2.2.1 ≤ 6 := hv.1.1.1
  have hvT := hv.1.1
  have hvS := hv.2.1.1
  have hdy := hv.2.1.2.1
  obtain ⟨rh, rk, wh, fa, nx, ne, ki, ba, he, nw, rH, rT, tx, td, rw_, oo, s1, s2, s3, ik, kp, hm, h134, h135, h136, h137, h138, h139, h140, h141, h142, h143, h144, h145, h146, h147, h148, h149, ⟨ht40, hN6⟩, hT, hS, htx, hA, hK, hN⟩ := hW
  have hnx := hA.1
  have hal := hA.2.1
  refine ar_iload_n (pc' := 1) hM rfl rfl rfl ?_
  refine ar_i2l (pc' := 2) hM rfl rfl ?_
  refine ar_lconst (x := 0) (pc' := 3) hM rfl (by decide) rfl ?_
  refine ar_ldc2_w (x := 255) (pc' := 6) hM rfl (by decide) rfl ?_
  refine ar_static (pc' := 9) (k3 := 0) (k4 := 0) hM rfl (by decide) rfl rfl (d_in _ c 0 255 _ _ (by decide) (by decide)) (fun r6 w6 q6 => ?_)
  obtain ⟨rfl, q6w⟩ := q6
  rw [q6w]
  show am_Go 109 (9, [.ref 133, .int c], [.int (if 0 ≤ c ∧ c ≤ 255 then 1 else 0)], w, 0, 0) _
  refine ar_if_ne (pc' := 12) hM rfl rfl (fun c9 => ?_) (fun c9 => ?_)
  · refine ar_aload_n (pc' := 16) hM rfl rfl rfl ?_
    refine ar_getfield (pc' := 19) hM rfl hm rfl rfl ?_
    refine ar_bipush (x := 40) (pc' := 21) hM rfl (by decide) rfl ?_
    refine ar_icmp_ne (pc' := 24) hM rfl rfl (fun c21 => ?_) (fun c21 => ?_)
    · refine ar_aload_n (pc' := 28) hM rfl rfl rfl ?_
      refine ar_getfield (pc' := 31) hM rfl hm rfl rfl ?_
      refine ar_aload_n (pc' := 32) hM rfl rfl rfl ?_
      refine ar_getfield (pc' := 35) hM rfl hm rfl rfl ?_
      refine ar_iload_n (pc' := 36) hM rfl rfl rfl ?_
      refine ar_iastoreN (j := t.1) (pc' := 37) hM rfl h141 rfl (by rcases Nat.lt_or_ge t.1 40 with q | q; exact q; exact absurd (congrArg nI (show t.1 = 40 by omega)) c21) (Nat.le_of_ble_eq_true rfl) (by decide) rfl ?_
      refine ar_aload_n (pc' := 38) hM rfl rfl rfl ?_
      refine ar_dup (pc' := 39) hM rfl rfl rfl ?_
      refine ar_getfield (pc' := 42) hM rfl (am_gn (by decide) hm) rfl rfl ?_
      refine ar_iconst (x := 1) (pc' := 43) hM rfl (by decide) rfl ?_
      refine ar_iadd (pc' := 44) hM rfl rfl ?_
      rw [show ((nI t.1) + 1 : Int32) = nI (t.1 + 1) from nI_add t.1 1]
      refine ar_putfield (pc' := 47) hM rfl (am_gn (by decide) hm) (Nat.le_of_ble_eq_true rfl) rfl (by decide) rfl ?_
      show am_Go 109 (47, [.ref 133, .int c], [], ((w.set 141 (.inl (0, 40, .inl (upd tx t.1 c)))).set 133 (.inr (11, [.int (nI T.2.2.1), .int (nI T.2.2.2.1), .int T.1, .int T.2.1, .ref 134, .ref 135, .ref 136, .ref 137, .ref 138, .ref 139, .ref 140, .int rh, .int rk, .ref 141, .int (nI (t.1 + 1)), .int wh, .int fa, .ref 142, .int 0, .int (nI A.length), .int (nI nx), .ref 143, .ref 144, .int (nI N.1), .ref 145, .ref 146, .ref 147, .long sd, .ref 148, .ref 149]))), 0, 0) _
      refine ar_aload_n (pc' := 48) hM rfl rfl rfl ?_
      refine ar_getfield (pc' := 51) hM rfl (am_gs (am_gn (by decide) hm)) rfl rfl ?_
      refine ar_ireturn hM rfl (Or.inl rfl) ?_
      have h40 : t.1 < 40 := by rcases Nat.lt_or_ge t.1 40 with q | q; exact q; exact absurd (congrArg nI (show t.1 = 40 by omega)) c21
      rw [show x_write t c = x_app t c from if_pos (am_ne0 c9), show x_app t c = (nI (t.1 + 1), (t.1 + 1, upd t.2 t.1 c)) from if_pos h40]
      exact ⟨rfl, ⟨_, _, _, _, _, _, _, _, _, _, _, _, _, _, _, _, _, _, _, _, _, (am_gs (am_gn (by decide) hm)), (am_gn (by decide) (am_gn (by decide) h134)), (am_gn (by decide) (am_gn (by decide) h135)), (am_gn (by decide) (am_gn (by decide) h136)), (am_gn (by decide) (am_gn (by decide) h137)), (am_gn (by decide) (am_gn (by decide) h138)), (am_gn (by decide) (am_gn (by decide) h139)), (am_gn (by decide) (am_gn (by decide) h140)), (am_gn (by decide) (am_gs h141)), (am_gn (by decide) (am_gn (by decide) h142)), (am_gn (by decide) (am_gn (by decide) h143)), (am_gn (by decide) (am_gn (by decide) h144)), (am_gn (by decide) (am_gn (by decide) h145)), (am_gn (by decide) (am_gn (by decide) h146)), (am_gn (by decide) (am_gn (by decide) h147)), (am_gn (by decide) (am_gn (by decide) h148)), (am_gn (by decide) (am_gn (by decide) h149)), ⟨by show t.1 + 1 ≤ 40; omega, hN6⟩, hT, hS, am_fu htx, hA, hK, hN⟩, (am_same.set (am_same.set am_same.rf (by unfold rg; omega)) (by unfold rg; omega))⟩
    · refine ar_bipush (x := (-4)) (pc' := 26) hM rfl (by decide) rfl ?_
      refine ar_ireturn hM rfl (Or.inl rfl) ?_
      rw [show x_write t c = x_app t c from if_pos (am_ne0 c9), show x_app t c = (-4, t) from if_neg (by have := (nI_eq (b := 40) (by omega) (by omega)).mp c21; omega)]
      exact ⟨rfl, ⟨_, _, _, _, _, _, _, _, _, _, _, _, _, _, _, _, _, _, _, _, _, hm, h134, h135, h136, h137, h138, h139, h140, h141, h142, h143, h144, h145, h146, h147, h148, h149, ⟨ht40, hN6⟩, hT, hS, htx, hA, hK, hN⟩, am_same.rf⟩
  · refine ar_bipush (x := (-2)) (pc' := 14) hM rfl (by decide) rfl ?_
    refine ar_ireturn hM rfl (Or.inl rfl) ?_
    rw [show x_write t c = (-2, t) from if_neg (am_eq0 c9)]
    exact ⟨rfl, ⟨_, _, _, _, _, _, _, _, _, _, _, _, _, _, _, _, _, _, _, _, _, hm, h134, h135, h136, h137, h138, h139, h140, h141, h142, h143, h144, h145, h146, h147, h148, h149, ⟨ht40, hN6⟩, hT, hS, htx, hA, hK, hN⟩, am_same.rf⟩
set_option maxRecDepth 100000 in
set_option maxHeartbeats 4000000 in
theorem e_wipe (w : am_W) (t : Nat × (Nat → Int32)) (T : p_D) (S : s_S) (A : List s_S) (K : Nat → Option s_S) (N : x_N) (sd : Int64) (d : Nat) (hd : d ≤ 1000) (hv : v_W d T S A K) (hW : d_W w t T S A K N sd)  : am_Go 110 (0, [.ref 133, .float 0], [], w, 0, 0) (fun res w' => res = some (.int (nI t.1)) ∧ d_W w' (0, t.2) T S A K N sd ∧ am_same (rg 133 17) w w') := by
  have hM : am_P[110]? = some zm_X11_wipe := rfl
  have hn6 : T.2.2.1 ≤ 6 := hv.1.1.1
  have hvT := hv.1.1
  have hvS := hv.2.1.1
  have hdy := hv.2.1.2.1
  obtain ⟨rh, rk, wh, fa, nx, ne, ki, ba, he, nw, rH, rT, tx, td, rw_, oo, s1, s2, s3, ik, kp, hm, h134, h135, h136, h137, h138, h139, h140, h141, h142, h143, h144, h145, h146, h147, h148, h149, ⟨ht40, hN6⟩, hT, hS, htx, hA, hK, hN⟩ := hW
  have hnx := hA.1
  have hal := hA.2.1
  refine ar_aload_n (pc' := 1) hM rfl rfl rfl ?_
  refine ar_getfield (pc' := 4) hM rfl hm rfl rfl ?_
  refine ar_istore_n (pc' := 5) hM rfl rfl rfl rfl ?_
  refine ar_aload_n (pc' := 6) hM rfl rfl rfl ?_
  refine ar_iconst (x := 0) (pc' := 7) hM rfl (by decide) rfl ?_
  refine ar_putfield (pc' := 10) hM rfl hm (Nat.le_of_ble_eq_true rfl) rfl (by decide) rfl ?_
  show am_Go 110 (10, [.ref 133, .int (nI t.1)], [], (w.set 133 (.inr (11, [.int (nI T.2.2.1), .int (nI T.2.2.2.1), .int T.1, .int T.2.1, .ref 134, .ref 135, .ref 136, .ref 137, .ref 138, .ref 139, .ref 140, .int rh, .int rk, .ref 141, .int 0, .int wh, .int fa, .ref 142, .int 0, .int (nI A.length), .int (nI nx), .ref 143, .ref 144, .int (nI N.1), .ref 145, .ref 146, .ref 147, .long sd, .ref 148, .ref 149]))), 0, 0) _
  refine ar_iload_n (pc' := 11) hM rfl rfl rfl ?_
  refine ar_ireturn hM rfl (Or.inl rfl) ?_
  exact ⟨rfl, ⟨_, _, _, _, _, _, _, _, _, _, _, _, _, _, _, _, _, _, _, _, _, (am_gs hm), (am_gn (by decide) h134), (am_gn (by decide) h135), (am_gn (by decide) h136), (am_gn (by decide) h137), (am_gn (by decide) h138), (am_gn (by decide) h139), (am_gn (by decide) h140), (am_gn (by decide) h141), (am_gn (by decide) h142), (am_gn (by decide) h143), (am_gn (by decide) h144), (am_gn (by decide) h145), (am_gn (by decide) h146), (am_gn (by decide) h147), (am_gn (by decide) h148), (am_gn (by decide) h149), ⟨Nat.zero_le _, hN6⟩, hT, hS, (fun i hi => absurd hi (by omega)), hA, hK, hN⟩, (am_same.set am_same.rf (by unfold rg; omega))⟩
set_option maxRecDepth 100000 in
set_option maxHeartbeats 4000000 in
theorem e_houseN (w : am_W) (t : Nat × (Nat → Int32)) (T : p_D) (S : s_S) (A : List s_S) (K : Nat → Option s_S) (N : x_N) (sd : Int64) (d : Nat) (hd : d ≤ 1000) (hv : v_W d T S A K) (hW : d_W w t T S A K N sd) (h : Int32) (hh : ¬ i_H T.2.2.1 h) (wh_ : Int32) : am_Go 124 (0, [.ref 133, .int h, .int wh_], [], w, 0, 0) (fun res w' => res = some (.int (-1)) ∧ d_W w' t T S A K N sd ∧ am_same (rg 133 17) w w') := by
  have hM : am_P[124]? = some zm_X11_house := rfl
  have hn6 : T.2.2.1 ≤ 6 := hv.1.1.1
  have hvT := hv.1.1
  have hvS := hv.2.1.1
  have hdy := hv.2.1.2.1
  obtain ⟨rh, rk, wh, fa, nx, ne, ki, ba, he, nw, rH, rT, tx, td, rw_, oo, s1, s2, s3, ik, kp, hm, h134, h135, h136, h137, h138, h139, h140, h141, h142, h143, h144, h145, h146, h147, h148, h149, ⟨ht40, hN6⟩, hT, hS, htx, hA, hK, hN⟩ := hW
  have hnx := hA.1
  have hal := hA.2.1
  refine ar_aload_n (pc' := 1) hM rfl rfl rfl ?_
  refine ar_iload_n (pc' := 2) hM rfl rfl rfl ?_
  refine ar_virtual (pc' := 5) (k3 := 0) (k4 := 0) hM rfl rfl hm ⟨rfl, (by decide)⟩ rfl rfl (by have h0 := d_isH (w := w) T hm h; rw [if_neg (fun q => hh ((i_H_iff hn6 _).mp q))] at h0; exact h0) (fun r2 w2 q2 => ?_)
  obtain ⟨rfl, q2w⟩ := q2
  rw [q2w]
  show am_Go 124 (5, [.ref 133, .int h, .int wh_], [.int 0], w, 0, 0) _
  refine ar_if_ne (pc' := 8) hM rfl rfl (fun q => absurd (by decide) q) (fun _ => ?_)
  refine ar_iconst (x := (-1)) (pc' := 9) hM rfl (by decide) rfl ?_
  refine ar_ireturn hM rfl (Or.inl rfl) ?_
  exact ⟨rfl, ⟨_, _, _, _, _, _, _, _, _, _, _, _, _, _, _, _, _, _, _, _, _, hm, h134, h135, h136, h137, h138, h139, h140, h141, h142, h143, h144, h145, h146, h147, h148, h149, ⟨ht40, hN6⟩, hT, hS, htx, hA, hK, hN⟩, am_same.rf⟩
set_option maxRecDepth 100000 in
set_option maxHeartbeats 4000000 in
theorem e_house0 (w : am_W) (t : Nat × (Nat → Int32)) (T : p_D) (S : s_S) (A : List s_S) (K : Nat → Option s_S) (N : x_N) (sd : Int64) (d : Nat) (hd : d ≤ 1000) (hv : v_W d T S A K) (hW : d_W w t T S A K N sd) (k : Nat) (hk : k < T.2.2.1) : am_Go 124 (0, [.ref 133, .int (nI k), .int 0], [], w, 0, 0) (fun res w' => res = some (.int (x_house T S k 0)) ∧ d_W w' t T S A K N sd ∧ am_same (rg 133 17) w w') := by
  have hM : am_P[124]? = some zm_X11_house := rfl
  have hn6 : T.2.2.1 ≤ 6 := hv.1.1.1
  have hvT := hv.1.1
  have hvS := hv.2.1.1
  have hdy := hv.2.1.2.1
  obtain ⟨rh, rk, wh, fa, nx, ne, ki, ba, he, nw, rH, rT, tx, td, rw_, oo, s1, s2, s3, ik, kp, hm, h134, h135, h136, h137, h138, h139, h140, h141, h142, h143, h144, h145, h146, h147, h148, h149, ⟨ht40, hN6⟩, hT, hS, htx, hA, hK, hN⟩ := hW
  have hnx := hA.1
  have hal := hA.2.1
  refine ar_aload_n (pc' := 1) hM rfl rfl rfl ?_
  refine ar_iload_n (pc' := 2) hM rfl rfl rfl ?_
  refine ar_virtual (pc' := 5) (k3 := 0) (k4 := 0) hM rfl rfl hm ⟨rfl, (by decide)⟩ rfl rfl (by have h0 := d_isH (w := w) T hm (nI k); rw [if_pos ((i_H_iff hn6 _).mpr ⟨k, hk, rfl⟩)] at h0; exact h0) (fun r2 w2 q2 => ?_)
  obtain ⟨rfl, q2w⟩ := q2
  rw [q2w]
  show am_Go 124 (5, [.ref 133, .int (nI k), .int 0], [.int 1], w, 0, 0) _
  refine ar_if_ne (pc' := 8) hM rfl rfl (fun _ => ?_) (fun q => absurd q (by decide))
  refine ar_iload_n (pc' := 11) hM rfl rfl rfl ?_
  refine ar_tableIn (off := 45) (t := 56) hM rfl (by decide) (by decide) (by decide) ?_
  refine ar_aload_n (pc' := 57) hM rfl rfl rfl ?_
  refine ar_getfield (pc' := 60) hM rfl hm rfl rfl ?_
  refine ar_iload_n (pc' := 61) hM rfl rfl rfl ?_
  refine ar_ialoadN (j := k) (pc' := 62) hM rfl h134 rfl (by omega) (Nat.le_of_ble_eq_true rfl) rfl ?_
  rw [show (ne k : Int32) = T.2.2.2.2.1 k from (hT.1 k hk).1]
  refine ar_ireturn hM rfl (Or.inl rfl) ?_
  exact ⟨rfl, ⟨_, _, _, _, _, _, _, _, _, _, _, _, _, _, _, _, _, _, _, _, _, hm, h134, h135, h136, h137, h138, h139, h140, h141, h142, h143, h144, h145, h146, h147, h148, h149, ⟨ht40, hN6⟩, hT, hS, htx, hA, hK, hN⟩, am_same.rf⟩
set_option maxRecDepth 100000 in
set_option maxHeartbeats 4000000 in
theorem e_house1 (w : am_W) (t : Nat × (Nat → Int32)) (T : p_D) (S : s_S) (A : List s_S) (K : Nat → Option s_S) (N : x_N) (sd : Int64) (d : Nat) (hd : d ≤ 1000) (hv : v_W d T S A K) (hW : d_W w t T S A K N sd) (k : Nat) (hk : k < T.2.2.1) : am_Go 124 (0, [.ref 133, .int (nI k), .int 1], [], w, 0, 0) (fun res w' => res = some (.int (x_house T S k 1)) ∧ d_W w' t T S A K N sd ∧ am_same (rg 133 17) w w') := by
  have hM : am_P[124]? = some zm_X11_house := rfl
  have hn6 : T.2.2.1 ≤ 6 := hv.1.1.1
  have hvT := hv.1.1
  have hvS := hv.2.1.1
  have hdy := hv.2.1.2.1
  obtain ⟨rh, rk, wh, fa, nx, ne, ki, ba, he, nw, rH, rT, tx, td, rw_, oo, s1, s2, s3, ik, kp, hm, h134, h135, h136, h137, h138, h139, h140, h141, h142, h143, h144, h145, h146, h147, h148, h149, ⟨ht40, hN6⟩, hT, hS, htx, hA, hK, hN⟩ := hW
  have hnx := hA.1
  have hal := hA.2.1
  refine ar_aload_n (pc' := 1) hM rfl rfl rfl ?_
  refine ar_iload_n (pc' := 2) hM rfl rfl rfl ?_
  refine ar_virtual (pc' := 5) (k3 := 0) (k4 := 0) hM rfl rfl hm ⟨rfl, (by decide)⟩ rfl rfl (by have h0 := d_isH (w := w) T hm (nI k); rw [if_pos ((i_H_iff hn6 _).mpr ⟨k, hk, rfl⟩)] at h0; exact h0) (fun r2 w2 q2 => ?_)
  obtain ⟨rfl, q2w⟩ := q2
  rw [q2w]
  show am_Go 124 (5, [.ref 133, .int (nI k), .int 1], [.int 1], w, 0, 0) _
  refine ar_if_ne (pc' := 8) hM rfl rfl (fun _ => ?_) (fun q => absurd q (by decide))
  refine ar_iload_n (pc' := 11) hM rfl rfl rfl ?_
  refine ar_tableIn (off := 52) (t := 63) hM rfl (by decide) (by decide) (by decide) ?_
  refine ar_aload_n (pc' := 64) hM rfl rfl rfl ?_
  refine ar_getfield (pc' := 67) hM rfl hm rfl rfl ?_
  refine ar_iload_n (pc' := 68) hM rfl rfl rfl ?_
  refine ar_ialoadN (j := k) (pc' := 69) hM rfl h135 rfl (by omega) (Nat.le_of_ble_eq_true rfl) rfl ?_
  rw [show (ki k : Int32) = T.2.2.2.2.2.1 k from (hT.1 k hk).2.1]
  refine ar_ireturn hM rfl (Or.inl rfl) ?_
  exact ⟨rfl, ⟨_, _, _, _, _, _, _, _, _, _, _, _, _, _, _, _, _, _, _, _, _, hm, h134, h135, h136, h137, h138, h139, h140, h141, h142, h143, h144, h145, h146, h147, h148, h149, ⟨ht40, hN6⟩, hT, hS, htx, hA, hK, hN⟩, am_same.rf⟩
set_option maxRecDepth 100000 in
set_option maxHeartbeats 4000000 in
theorem e_house2 (w : am_W) (t : Nat × (Nat → Int32)) (T : p_D) (S : s_S) (A : List s_S) (K : Nat → Option s_S) (N : x_N) (sd : Int64) (d : Nat) (hd : d ≤ 1000) (hv : v_W d T S A K) (hW : d_W w t T S A K N sd) (k : Nat) (hk : k < T.2.2.1) : am_Go 124 (0, [.ref 133, .int (nI k), .int 2], [], w, 0, 0) (fun res w' => res = some (.int (x_house T S k 2)) ∧ d_W w' t T S A K N sd ∧ am_same (rg 133 17) w w') := by
  have hM : am_P[124]? = some zm_X11_house := rfl
  have hn6 : T.2.2.1 ≤ 6 := hv.1.1.1
  have hvT := hv.1.1
  have hvS := hv.2.1.1
  have hdy := hv.2.1.2.1
  obtain ⟨rh, rk, wh, fa, nx, ne, ki, ba, he, nw, rH, rT, tx, td, rw_, oo, s1, s2, s3, ik, kp, hm, h134, h135, h136, h137, h138, h139, h140, h141, h142, h143, h144, h145, h146, h147, h148, h149, ⟨ht40, hN6⟩, hT, hS, htx, hA, hK, hN⟩ := hW
  have hnx := hA.1
  have hal := hA.2.1
  refine ar_aload_n (pc' := 1) hM rfl rfl rfl ?_
  refine ar_iload_n (pc' := 2) hM rfl rfl rfl ?_
  refine ar_virtual (pc' := 5) (k3 := 0) (k4 := 0) hM rfl rfl hm ⟨rfl, (by decide)⟩ rfl rfl (by have h0 := d_isH (w := w) T hm (nI k); rw [if_pos ((i_H_iff hn6 _).mpr ⟨k, hk, rfl⟩)] at h0; exact h0) (fun r2 w2 q2 => ?_)
  obtain ⟨rfl, q2w⟩ := q2
  rw [q2w]
  show am_Go 124 (5, [.ref 133, .int (nI k), .int 2], [.int 1], w, 0, 0) _
  refine ar_if_ne (pc' := 8) hM rfl rfl (fun _ => ?_) (fun q => absurd q (by decide))
  refine ar_iload_n (pc' := 11) hM rfl rfl rfl ?_
  refine ar_tableIn (off := 59) (t := 70) hM rfl (by decide) (by decide) (by decide) ?_
  refine ar_aload_n (pc' := 71) hM rfl rfl rfl ?_
  refine ar_getfield (pc' := 74) hM rfl hm rfl rfl ?_
  refine ar_iload_n (pc' := 75) hM rfl rfl rfl ?_
  refine ar_ialoadN (j := k) (pc' := 76) hM rfl h136 rfl (by omega) (Nat.le_of_ble_eq_true rfl) rfl ?_
  rw [show (ba k : Int32) = T.2.2.2.2.2.2.1 k from (hT.1 k hk).2.2]
  refine ar_ireturn hM rfl (Or.inl rfl) ?_
  exact ⟨rfl, ⟨_, _, _, _, _, _, _, _, _, _, _, _, _, _, _, _, _, _, _, _, _, hm, h134, h135, h136, h137, h138, h139, h140, h141, h142, h143, h144, h145, h146, h147, h148, h149, ⟨ht40, hN6⟩, hT, hS, htx, hA, hK, hN⟩, am_same.rf⟩
set_option maxRecDepth 100000 in
set_option maxHeartbeats 4000000 in
theorem e_house3 (w : am_W) (t : Nat × (Nat → Int32)) (T : p_D) (S : s_S) (A : List s_S) (K : Nat → Option s_S) (N : x_N) (sd : Int64) (d : Nat) (hd : d ≤ 1000) (hv : v_W d T S A K) (hW : d_W w t T S A K N sd) (k : Nat) (hk : k < T.2.2.1) : am_Go 124 (0, [.ref 133, .int (nI k), .int 3], [], w, 0, 0) (fun res w' => res = some (.int (x_house T S k 3)) ∧ d_W w' t T S A K N sd ∧ am_same (rg 133 17) w w') := by
  have hM : am_P[124]? = some zm_X11_house := rfl
  have hn6 : T.2.2.1 ≤ 6 := hv.1.1.1
  have hvT := hv.1.1
  have hvS := hv.2.1.1
  have hdy := hv.2.1.2.1
  obtain ⟨rh, rk, wh, fa, nx, ne, ki, ba, he, nw, rH, rT, tx, td, rw_, oo, s1, s2, s3, ik, kp, hm, h134, h135, h136, h137, h138, h139, h140, h141, h142, h143, h144, h145, h146, h147, h148, h149, ⟨ht40, hN6⟩, hT, hS, htx, hA, hK, hN⟩ := hW
  have hnx := hA.1
  have hal := hA.2.1
  refine ar_aload_n (pc' := 1) hM rfl rfl rfl ?_
  refine ar_iload_n (pc' := 2) hM rfl rfl rfl ?_
  refine ar_virtual (pc' := 5) (k3 := 0) (k4 := 0) hM rfl rfl hm ⟨rfl, (by decide)⟩ rfl rfl (by have h0 := d_isH (w := w) T hm (nI k); rw [if_pos ((i_H_iff hn6 _).mpr ⟨k, hk, rfl⟩)] at h0; exact h0) (fun r2 w2 q2 => ?_)
  obtain ⟨rfl, q2w⟩ := q2
  rw [q2w]
  show am_Go 124 (5, [.ref 133, .int (nI k), .int 3], [.int 1], w, 0, 0) _
  refine ar_if_ne (pc' := 8) hM rfl rfl (fun _ => ?_) (fun q => absurd q (by decide))
  refine ar_iload_n (pc' := 11) hM rfl rfl rfl ?_
  refine ar_tableIn (off := 66) (t := 77) hM rfl (by decide) (by decide) (by decide) ?_
  refine ar_aload_n (pc' := 78) hM rfl rfl rfl ?_
  refine ar_getfield (pc' := 81) hM rfl hm rfl rfl ?_
  refine ar_bipush (x := 6) (pc' := 83) hM rfl (by decide) rfl ?_
  refine ar_iload_n (pc' := 84) hM rfl rfl rfl ?_
  refine ar_iadd (pc' := 85) hM rfl rfl ?_
  rw [show (6 + (nI k) : Int32) = nI (6 + k) from nI_add 6 k]
  refine ar_ialoadN (j := (6 + k)) (pc' := 86) hM rfl h138 rfl (by omega) (Nat.le_of_ble_eq_true rfl) rfl ?_
  rw [show (nw (6 + k) : Int32) = S.2.2.1 k from (by have h0 := (hS.1 k hk).2.1; rw [Nat.zero_add] at h0; exact h0)]
  refine ar_ireturn hM rfl (Or.inl rfl) ?_
  exact ⟨rfl, ⟨_, _, _, _, _, _, _, _, _, _, _, _, _, _, _, _, _, _, _, _, _, hm, h134, h135, h136, h137, h138, h139, h140, h141, h142, h143, h144, h145, h146, h147, h148, h149, ⟨ht40, hN6⟩, hT, hS, htx, hA, hK, hN⟩, am_same.rf⟩
set_option maxRecDepth 100000 in
set_option maxHeartbeats 4000000 in
theorem e_house4 (w : am_W) (t : Nat × (Nat → Int32)) (T : p_D) (S : s_S) (A : List s_S) (K : Nat → Option s_S) (N : x_N) (sd : Int64) (d : Nat) (hd : d ≤ 1000) (hv : v_W d T S A K) (hW : d_W w t T S A K N sd) (k : Nat) (hk : k < T.2.2.1) : am_Go 124 (0, [.ref 133, .int (nI k), .int 4], [], w, 0, 0) (fun res w' => res = some (.int (x_house T S k 4)) ∧ d_W w' t T S A K N sd ∧ am_same (rg 133 17) w w') := by
  have hM : am_P[124]? = some zm_X11_house := rfl
  have hn6 : T.2.2.1 ≤ 6 := hv.1.1.1
  have hvT := hv.1.1
  have hvS := hv.2.1.1
  have hdy := hv.2.1.2.1
  obtain ⟨rh, rk, wh, fa, nx, ne, ki, ba, he, nw, rH, rT, tx, td, rw_, oo, s1, s2, s3, ik, kp, hm, h134, h135, h136, h137, h138, h139, h140, h141, h142, h143, h144, h145, h146, h147, h148, h149, ⟨ht40, hN6⟩, hT, hS, htx, hA, hK, hN⟩ := hW
  have hnx := hA.1
  have hal := hA.2.1
  refine ar_aload_n (pc' := 1) hM rfl rfl rfl ?_
  refine ar_iload_n (pc' := 2) hM rfl rfl rfl ?_
  refine ar_virtual (pc' := 5) (k3 := 0) (k4 := 0) hM rfl rfl hm ⟨rfl, (by decide)⟩ rfl rfl (by have h0 := d_isH (w := w) T hm (nI k); rw [if_pos ((i_H_iff hn6 _).mpr ⟨k, hk, rfl⟩)] at h0; exact h0) (fun r2 w2 q2 => ?_)
  obtain ⟨rfl, q2w⟩ := q2
  rw [q2w]
  show am_Go 124 (5, [.ref 133, .int (nI k), .int 4], [.int 1], w, 0, 0) _
  refine ar_if_ne (pc' := 8) hM rfl rfl (fun _ => ?_) (fun q => absurd q (by decide))
  refine ar_iload_n (pc' := 11) hM rfl rfl rfl ?_
  refine ar_tableIn (off := 76) (t := 87) hM rfl (by decide) (by decide) (by decide) ?_
  refine ar_aload_n (pc' := 88) hM rfl rfl rfl ?_
  refine ar_getfield (pc' := 91) hM rfl hm rfl rfl ?_
  refine ar_iload_n (pc' := 92) hM rfl rfl rfl ?_
  refine ar_ialoadN (j := k) (pc' := 93) hM rfl h138 rfl (by omega) (Nat.le_of_ble_eq_true rfl) rfl ?_
  rw [show (nw k : Int32) = nI (S.2.1 k) from (by have h0 := (hS.1 k hk).1; rw [Nat.zero_add] at h0; exact h0)]
  refine ar_ireturn hM rfl (Or.inl rfl) ?_
  exact ⟨rfl, ⟨_, _, _, _, _, _, _, _, _, _, _, _, _, _, _, _, _, _, _, _, _, hm, h134, h135, h136, h137, h138, h139, h140, h141, h142, h143, h144, h145, h146, h147, h148, h149, ⟨ht40, hN6⟩, hT, hS, htx, hA, hK, hN⟩, am_same.rf⟩
set_option maxRecDepth 100000 in
set_option maxHeartbeats 4000000 in
theorem e_house5 (w : am_W) (t : Nat × (Nat → Int32)) (T : p_D) (S : s_S) (A : List s_S) (K : Nat → Option s_S) (N : x_N) (sd : Int64) (d : Nat) (hd : d ≤ 1000) (hv : v_W d T S A K) (hW : d_W w t T S A K N sd) (k : Nat) (hk : k < T.2.2.1) : am_Go 124 (0, [.ref 133, .int (nI k), .int 5], [], w, 0, 0) (fun res w' => res = some (.int (x_house T S k 5)) ∧ d_W w' t T S A K N sd ∧ am_same (rg 133 17) w w') := by
  have hM : am_P[124]? = some zm_X11_house := rfl
  have hn6 : T.2.2.1 ≤ 6 := hv.1.1.1
  have hvT := hv.1.1
  have hvS := hv.2.1.1
  have hdy := hv.2.1.2.1
  obtain ⟨rh, rk, wh, fa, nx, ne, ki, ba, he, nw, rH, rT, tx, td, rw_, oo, s1, s2, s3, ik, kp, hm, h134, h135, h136, h137, h138, h139, h140, h141, h142, h143, h144, h145, h146, h147, h148, h149, ⟨ht40, hN6⟩, hT, hS, htx, hA, hK, hN⟩ := hW
  have hnx := hA.1
  have hal := hA.2.1
  refine ar_aload_n (pc' := 1) hM rfl rfl rfl ?_
  refine ar_iload_n (pc' := 2) hM rfl rfl rfl ?_
  refine ar_virtual (pc' := 5) (k3 := 0) (k4 := 0) hM rfl rfl hm ⟨rfl, (by decide)⟩ rfl rfl (by have h0 := d_isH (w := w) T hm (nI k); rw [if_pos ((i_H_iff hn6 _).mpr ⟨k, hk, rfl⟩)] at h0; exact h0) (fun r2 w2 q2 => ?_)
  obtain ⟨rfl, q2w⟩ := q2
  rw [q2w]
  show am_Go 124 (5, [.ref 133, .int (nI k), .int 5], [.int 1], w, 0, 0) _
  refine ar_if_ne (pc' := 8) hM rfl rfl (fun _ => ?_) (fun q => absurd q (by decide))
  refine ar_iload_n (pc' := 11) hM rfl rfl rfl ?_
  refine ar_tableIn (off := 83) (t := 94) hM rfl (by decide) (by decide) (by decide) ?_
  refine ar_aload_n (pc' := 95) hM rfl rfl rfl ?_
  refine ar_getfield (pc' := 98) hM rfl hm rfl rfl ?_
  refine ar_bipush (x := 12) (pc' := 100) hM rfl (by decide) rfl ?_
  refine ar_iload_n (pc' := 101) hM rfl rfl rfl ?_
  refine ar_iadd (pc' := 102) hM rfl rfl ?_
  rw [show (12 + (nI k) : Int32) = nI (12 + k) from nI_add 12 k]
  refine ar_ialoadN (j := (12 + k)) (pc' := 103) hM rfl h138 rfl (by omega) (Nat.le_of_ble_eq_true rfl) rfl ?_
  rw [show (nw (12 + k) : Int32) = S.2.2.2.1 k from (by have h0 := (hS.1 k hk).2.2; rw [Nat.zero_add] at h0; exact h0)]
  refine ar_ireturn hM rfl (Or.inl rfl) ?_
  exact ⟨rfl, ⟨_, _, _, _, _, _, _, _, _, _, _, _, _, _, _, _, _, _, _, _, _, hm, h134, h135, h136, h137, h138, h139, h140, h141, h142, h143, h144, h145, h146, h147, h148, h149, ⟨ht40, hN6⟩, hT, hS, htx, hA, hK, hN⟩, am_same.rf⟩
set_option maxRecDepth 100000 in
set_option maxHeartbeats 4000000 in
theorem e_house6 (w : am_W) (t : Nat × (Nat → Int32)) (T : p_D) (S : s_S) (A : List s_S) (K : Nat → Option s_S) (N : x_N) (sd : Int64) (d : Nat) (hd : d ≤ 1000) (hv : v_W d T S A K) (hW : d_W w t T S A K N sd) (k : Nat) (hk : k < T.2.2.1) : am_Go 124 (0, [.ref 133, .int (nI k), .int 6], [], w, 0, 0) (fun res w' => res = some (.int (x_house T S k 6)) ∧ d_W w' t T S A K N sd ∧ am_same (rg 133 17) w w') := by
  have hM : am_P[124]? = some zm_X11_house := rfl
  have hn6 : T.2.2.1 ≤ 6 := hv.1.1.1
  have hvT := hv.1.1
  have hvS := hv.2.1.1
  have hdy := hv.2.1.2.1
  obtain ⟨rh, rk, wh, fa, nx, ne, ki, ba, he, nw, rH, rT, tx, td, rw_, oo, s1, s2, s3, ik, kp, hm, h134, h135, h136, h137, h138, h139, h140, h141, h142, h143, h144, h145, h146, h147, h148, h149, ⟨ht40, hN6⟩, hT, hS, htx, hA, hK, hN⟩ := hW
  have hnx := hA.1
  have hal := hA.2.1
  refine ar_aload_n (pc' := 1) hM rfl rfl rfl ?_
  refine ar_iload_n (pc' := 2) hM rfl rfl rfl ?_
  refine ar_virtual (pc' := 5) (k3 := 0) (k4 := 0) hM rfl rfl hm ⟨rfl, (by decide)⟩ rfl rfl (by have h0 := d_isH (w := w) T hm (nI k); rw [if_pos ((i_H_iff hn6 _).mpr ⟨k, hk, rfl⟩)] at h0; exact h0) (fun r2 w2 q2 => ?_)
  obtain ⟨rfl, q2w⟩ := q2
  rw [q2w]
  show am_Go 124 (5, [.ref 133, .int (nI k), .int 6], [.int 1], w, 0, 0) _
  refine ar_if_ne (pc' := 8) hM rfl rfl (fun _ => ?_) (fun q => absurd q (by decide))
  refine ar_iload_n (pc' := 11) hM rfl rfl rfl ?_
  refine ar_tableIn (off := 93) (t := 104) hM rfl (by decide) (by decide) (by decide) ?_
  refine ar_aload_n (pc' := 105) hM rfl rfl rfl ?_
  refine ar_getfield (pc' := 108) hM rfl hm rfl rfl ?_
  refine ar_bipush (x := 18) (pc' := 110) hM rfl (by decide) rfl ?_
  refine ar_ialoadN (j := 18) (pc' := 111) hM rfl h138 (by decide) (by omega) (Nat.le_of_ble_eq_true rfl) rfl ?_
  rw [show (nw 18 : Int32) = S.2.2.2.2.1 from (by have h0 := hS.2.1; rw [Nat.zero_add] at h0; exact h0)]
  refine ar_iload_n (pc' := 112) hM rfl rfl rfl ?_
  refine ar_ishr (pc' := 113) hM rfl rfl ?_
  refine ar_iconst (x := 1) (pc' := 114) hM rfl (by decide) rfl ?_
  refine ar_iand (pc' := 115) hM rfl rfl ?_
  refine ar_ireturn hM rfl (Or.inl rfl) ?_
  exact ⟨by rw [i_bit01]; rfl, ⟨_, _, _, _, _, _, _, _, _, _, _, _, _, _, _, _, _, _, _, _, _, hm, h134, h135, h136, h137, h138, h139, h140, h141, h142, h143, h144, h145, h146, h147, h148, h149, ⟨ht40, hN6⟩, hT, hS, htx, hA, hK, hN⟩, am_same.rf⟩
set_option maxRecDepth 100000 in
set_option maxHeartbeats 4000000 in
theorem e_house7 (w : am_W) (t : Nat × (Nat → Int32)) (T : p_D) (S : s_S) (A : List s_S) (K : Nat → Option s_S) (N : x_N) (sd : Int64) (d : Nat) (hd : d ≤ 1000) (hv : v_W d T S A K) (hW : d_W w t T S A K N sd) (k : Nat) (hk : k < T.2.2.1) : am_Go 124 (0, [.ref 133, .int (nI k), .int 7], [], w, 0, 0) (fun res w' => res = some (.int (x_house T S k 7)) ∧ d_W w' t T S A K N sd ∧ am_same (rg 133 17) w w') := by
  have hM : am_P[124]? = some zm_X11_house := rfl
  have hn6 : T.2.2.1 ≤ 6 := hv.1.1.1
  have hvT := hv.1.1
  have hvS := hv.2.1.1
  have hdy := hv.2.1.2.1
  obtain ⟨rh, rk, wh, fa, nx, ne, ki, ba, he, nw, rH, rT, tx, td, rw_, oo, s1, s2, s3, ik, kp, hm, h134, h135, h136, h137, h138, h139, h140, h141, h142, h143, h144, h145, h146, h147, h148, h149, ⟨ht40, hN6⟩, hT, hS, htx, hA, hK, hN⟩ := hW
  have hnx := hA.1
  have hal := hA.2.1
  refine ar_aload_n (pc' := 1) hM rfl rfl rfl ?_
  refine ar_iload_n (pc' := 2) hM rfl rfl rfl ?_
  refine ar_virtual (pc' := 5) (k3 := 0) (k4 := 0) hM rfl rfl hm ⟨rfl, (by decide)⟩ rfl rfl (by have h0 := d_isH (w := w) T hm (nI k); rw [if_pos ((i_H_iff hn6 _).mpr ⟨k, hk, rfl⟩)] at h0; exact h0) (fun r2 w2 q2 => ?_)
  obtain ⟨rfl, q2w⟩ := q2
  rw [q2w]
  show am_Go 124 (5, [.ref 133, .int (nI k), .int 7], [.int 1], w, 0, 0) _
  refine ar_if_ne (pc' := 8) hM rfl rfl (fun _ => ?_) (fun q => absurd q (by decide))
  refine ar_iload_n (pc' := 11) hM rfl rfl rfl ?_
  refine ar_tableIn (off := 105) (t := 116) hM rfl (by decide) (by decide) (by decide) ?_
  refine ar_aload_n (pc' := 117) hM rfl rfl rfl ?_
  refine ar_getfield (pc' := 120) hM rfl hm rfl rfl ?_
  refine ar_bipush (x := 19) (pc' := 122) hM rfl (by decide) rfl ?_
  refine ar_ialoadN (j := 19) (pc' := 123) hM rfl h138 (by decide) (by omega) (Nat.le_of_ble_eq_true rfl) rfl ?_
  rw [show (nw 19 : Int32) = S.2.2.2.2.2.1 from (by have h0 := hS.2.2.1; rw [Nat.zero_add] at h0; exact h0)]
  refine ar_iload_n (pc' := 124) hM rfl rfl rfl ?_
  refine ar_ishr (pc' := 125) hM rfl rfl ?_
  refine ar_iconst (x := 1) (pc' := 126) hM rfl (by decide) rfl ?_
  refine ar_iand (pc' := 127) hM rfl rfl ?_
  refine ar_ireturn hM rfl (Or.inl rfl) ?_
  exact ⟨by rw [i_bit01]; rfl, ⟨_, _, _, _, _, _, _, _, _, _, _, _, _, _, _, _, _, _, _, _, _, hm, h134, h135, h136, h137, h138, h139, h140, h141, h142, h143, h144, h145, h146, h147, h148, h149, ⟨ht40, hN6⟩, hT, hS, htx, hA, hK, hN⟩, am_same.rf⟩
theorem e_house (w : am_W) (t : Nat × (Nat → Int32)) (T : p_D) (S : s_S) (A : List s_S) (K : Nat → Option s_S) (N : x_N) (sd : Int64) (d : Nat) (hd : d ≤ 1000) (hv : v_W d T S A K) (hW : d_W w t T S A K N sd) (k : Nat) (hk : k < T.2.2.1) (j : Nat) (hj : j ≤ 7) : am_Go 124 (0, [.ref 133, .int (nI k), .int (nI j)], [], w, 0, 0) (fun res w' => res = some (.int (x_house T S k j)) ∧ d_W w' t T S A K N sd ∧ am_same (rg 133 17) w w') := by
  match j, hj with
  | 0, _ => exact e_house0 w t T S A K N sd d hd hv hW k hk
  | 1, _ => exact e_house1 w t T S A K N sd d hd hv hW k hk
  | 2, _ => exact e_house2 w t T S A K N sd d hd hv hW k hk
  | 3, _ => exact e_house3 w t T S A K N sd d hd hv hW k hk
  | 4, _ => exact e_house4 w t T S A K N sd d hd hv hW k hk
  | 5, _ => exact e_house5 w t T S A K N sd d hd hv hW k hk
  | 6, _ => exact e_house6 w t T S A K N sd d hd hv hW k hk
  | 7, _ => exact e_house7 w t T S A K N sd d hd hv hW k hk
  | j + 8, h => omega
set_option maxRecDepth 100000 in
set_option maxHeartbeats 4000000 in
theorem e_houseO (w : am_W) (t : Nat × (Nat → Int32)) (T : p_D) (S : s_S) (A : List s_S) (K : Nat → Option s_S) (N : x_N) (sd : Int64) (d : Nat) (hd : d ≤ 1000) (hv : v_W d T S A K) (hW : d_W w t T S A K N sd) (k : Nat) (hk : k < T.2.2.1) (wq : Int32) (hq : wq.toInt < 0 ∨ 7 < wq.toInt) : am_Go 124 (0, [.ref 133, .int (nI k), .int wq], [], w, 0, 0) (fun res w' => res = some (.int (-2)) ∧ d_W w' t T S A K N sd ∧ am_same (rg 133 17) w w') := by
  have hM : am_P[124]? = some zm_X11_house := rfl
  have hn6 : T.2.2.1 ≤ 6 := hv.1.1.1
  have hvT := hv.1.1
  have hvS := hv.2.1.1
  have hdy := hv.2.1.2.1
  obtain ⟨rh, rk, wh, fa, nx, ne, ki, ba, he, nw, rH, rT, tx, td, rw_, oo, s1, s2, s3, ik, kp, hm, h134, h135, h136, h137, h138, h139, h140, h141, h142, h143, h144, h145, h146, h147, h148, h149, ⟨ht40, hN6⟩, hT, hS, htx, hA, hK, hN⟩ := hW
  have hnx := hA.1
  have hal := hA.2.1
  refine ar_aload_n (pc' := 1) hM rfl rfl rfl ?_
  refine ar_iload_n (pc' := 2) hM rfl rfl rfl ?_
  refine ar_virtual (pc' := 5) (k3 := 0) (k4 := 0) hM rfl rfl hm ⟨rfl, (by decide)⟩ rfl rfl (by have h0 := d_isH (w := w) T hm (nI k); rw [if_pos ((i_H_iff hn6 _).mpr ⟨k, hk, rfl⟩)] at h0; exact h0) (fun r2 w2 q2 => ?_)
  obtain ⟨rfl, q2w⟩ := q2
  rw [q2w]
  show am_Go 124 (5, [.ref 133, .int (nI k), .int wq], [.int 1], w, 0, 0) _
  refine ar_if_ne (pc' := 8) hM rfl rfl (fun _ => ?_) (fun q => absurd q (by decide))
  refine ar_iload_n (pc' := 11) hM rfl rfl rfl ?_
  refine ar_tableOut (t := 128) hM rfl hq rfl ?_
  refine ar_bipush (x := (-2)) (pc' := 130) hM rfl (by decide) rfl ?_
  refine ar_ireturn hM rfl (Or.inl rfl) ?_
  exact ⟨rfl, ⟨_, _, _, _, _, _, _, _, _, _, _, _, _, _, _, _, _, _, _, _, _, hm, h134, h135, h136, h137, h138, h139, h140, h141, h142, h143, h144, h145, h146, h147, h148, h149, ⟨ht40, hN6⟩, hT, hS, htx, hA, hK, hN⟩, am_same.rf⟩
set_option maxRecDepth 100000 in
set_option maxHeartbeats 4000000 in
theorem e_todayN (w : am_W) (t : Nat × (Nat → Int32)) (T : p_D) (S : s_S) (A : List s_S) (K : Nat → Option s_S) (N : x_N) (sd : Int64) (d : Nat) (hd : d ≤ 1000) (hv : v_W d T S A K) (hW : d_W w t T S A K N sd) (h : Int32) (hh : ¬ i_H T.2.2.1 h) (wq : Int32) : am_Go 125 (0, [.ref 133, .int h, .int wq], [], w, 0, 0) (fun res w' => res = some (.int (-1)) ∧ d_W w' t T S A K N sd ∧ am_same (rg 133 17) w w') := by
  have hM : am_P[125]? = some zm_X11_today := rfl
  have hn6 : T.2.2.1 ≤ 6 := hv.1.1.1
  have hvT := hv.1.1
  have hvS := hv.2.1.1
  have hdy := hv.2.1.2.1
  obtain ⟨rh, rk, wh, fa, nx, ne, ki, ba, he, nw, rH, rT, tx, td, rw_, oo, s1, s2, s3, ik, kp, hm, h134, h135, h136, h137, h138, h139, h140, h141, h142, h143, h144, h145, h146, h147, h148, h149, ⟨ht40, hN6⟩, hT, hS, htx, hA, hK, hN⟩ := hW
  have hnx := hA.1
  have hal := hA.2.1
  refine ar_aload_n (pc' := 1) hM rfl rfl rfl ?_
  refine ar_iload_n (pc' := 2) hM rfl rfl rfl ?_
  refine ar_virtual (pc' := 5) (k3 := 0) (k4 := 0) hM rfl rfl hm ⟨rfl, (by decide)⟩ rfl rfl (by have h0 := d_isH (w := w) T hm h; rw [if_neg (fun q => hh ((i_H_iff hn6 _).mp q))] at h0; exact h0) (fun r2 w2 q2 => ?_)
  obtain ⟨rfl, q2w⟩ := q2
  rw [q2w]
  show am_Go 125 (5, [.ref 133, .int h, .int wq], [.int 0], w, 0, 0) _
  refine ar_if_ne (pc' := 8) hM rfl rfl (fun q => absurd (by decide) q) (fun _ => ?_)
  refine ar_iconst (x := (-1)) (pc' := 9) hM rfl (by decide) rfl ?_
  refine ar_ireturn hM rfl (Or.inl rfl) ?_
  exact ⟨rfl, ⟨_, _, _, _, _, _, _, _, _, _, _, _, _, _, _, _, _, _, _, _, _, hm, h134, h135, h136, h137, h138, h139, h140, h141, h142, h143, h144, h145, h146, h147, h148, h149, ⟨ht40, hN6⟩, hT, hS, htx, hA, hK, hN⟩, am_same.rf⟩
theorem d_Y_at {td : Nat → Int32} {T : p_D} {S : s_S} (h : d_Y td T S 0) {k : Nat} (hk : k < T.2.2.1) : ∀ j, j ≤ 5 → td (6 * j + k) = x_today T S k j
  | 0, _ => by rw [show 6 * 0 + k = k by omega]; exact (h k hk).1
  | 1, _ => (h k hk).2.1
  | 2, _ => (h k hk).2.2.1
  | 3, _ => (h k hk).2.2.2.1
  | 4, _ => (h k hk).2.2.2.2.1
  | 5, _ => (h k hk).2.2.2.2.2
  | j + 6, q => by omega
theorem i_swN {x : Int32} {m : Nat} {M : Int32} (hM : M.toInt = m) (h : x.toInt < 0 ∨ (m : Int) < x.toInt) : ¬ (0 ≤ x ∧ x ≤ M) := by
  rintro ⟨h1, h2⟩
  have a := Int32.le_iff_toInt_le.mp h1
  have b := Int32.le_iff_toInt_le.mp h2
  rw [show (0 : Int32).toInt = 0 from rfl] at a
  omega
set_option maxRecDepth 100000 in
set_option maxHeartbeats 4000000 in
theorem e_today (w : am_W) (t : Nat × (Nat → Int32)) (T : p_D) (S : s_S) (A : List s_S) (K : Nat → Option s_S) (N : x_N) (sd : Int64) (d : Nat) (hd : d ≤ 1000) (hv : v_W d T S A K) (hW : d_W w t T S A K N sd) (k : Nat) (hk : k < T.2.2.1) (j : Nat) (hj : j ≤ 5) : am_Go 125 (0, [.ref 133, .int (nI k), .int (nI j)], [], w, 0, 0) (fun res w' => res = some (.int (x_today T S k j)) ∧ d_W w' t T S A K N sd ∧ am_same (rg 133 17) w w') := by
  have hM : am_P[125]? = some zm_X11_today := rfl
  have hn6 : T.2.2.1 ≤ 6 := hv.1.1.1
  have hvT := hv.1.1
  have hvS := hv.2.1.1
  have hdy := hv.2.1.2.1
  obtain ⟨rh, rk, wh, fa, nx, ne, ki, ba, he, nw, rH, rT, tx, td, rw_, oo, s1, s2, s3, ik, kp, hm, h134, h135, h136, h137, h138, h139, h140, h141, h142, h143, h144, h145, h146, h147, h148, h149, ⟨ht40, hN6⟩, hT, hS, htx, hA, hK, hN⟩ := hW
  have hnx := hA.1
  have hal := hA.2.1
  refine ar_aload_n (pc' := 1) hM rfl rfl rfl ?_
  refine ar_iload_n (pc' := 2) hM rfl rfl rfl ?_
  refine ar_virtual (pc' := 5) (k3 := 0) (k4 := 0) hM rfl rfl hm ⟨rfl, (by decide)⟩ rfl rfl (by have h0 := d_isH (w := w) T hm (nI k); rw [if_pos ((i_H_iff hn6 _).mpr ⟨k, hk, rfl⟩)] at h0; exact h0) (fun r2 w2 q2 => ?_)
  obtain ⟨rfl, q2w⟩ := q2
  rw [q2w]
  show am_Go 125 (5, [.ref 133, .int (nI k), .int (nI j)], [.int 1], w, 0, 0) _
  refine ar_if_ne (pc' := 8) hM rfl rfl (fun _ => ?_) (fun q => absurd q (by decide))
  refine ar_iload_n (pc' := 11) hM rfl rfl rfl ?_
  refine ar_i2l (pc' := 12) hM rfl rfl ?_
  refine ar_lconst (x := 0) (pc' := 13) hM rfl (by decide) rfl ?_
  refine ar_ldc2_w (x := 5) (pc' := 16) hM rfl (by decide) rfl ?_
  refine ar_static (pc' := 19) (k3 := 0) (k4 := 0) hM rfl (by decide) rfl rfl (by have h0 := d_in w (nI j) 0 5 0 5 (by decide) (by decide); rw [if_pos ⟨nI_le (a := 0) (by omega) (by omega), nI_le (b := 5) (by omega) (by omega)⟩] at h0; exact h0) (fun r16 w16 q16 => ?_)
  obtain ⟨rfl, q16w⟩ := q16
  rw [q16w]
  show am_Go 125 (19, [.ref 133, .int (nI k), .int (nI j)], [.int 1], w, 0, 0) _
  refine ar_if_ne (pc' := 22) hM rfl rfl (fun _ => ?_) (fun q => absurd q (by decide))
  refine ar_aload_n (pc' := 26) hM rfl rfl rfl ?_
  refine ar_iconst (x := 0) (pc' := 27) hM rfl (by decide) rfl ?_
  refine ar_virtual (pc' := 30) (k3 := 0) (k4 := 0) hM rfl rfl hm ⟨rfl, (by decide)⟩ rfl rfl (d_lay T hm h134 h135 h136 h137 h138 h142 hT 0 (by omega) S hvT hvS (by simpa using hS)) (fun r27 w27 q27 => ?_)
  obtain ⟨td2, rfl, q27w, hY2⟩ := q27
  rw [q27w]
  show am_Go 125 (30, [.ref 133, .int (nI k), .int (nI j)], [], (w.set 142 (.inl (0, 36, .inl td2))), 0, 0) _
  refine ar_aload_n (pc' := 31) hM rfl rfl rfl ?_
  refine ar_getfield (pc' := 34) hM rfl (am_gn (by decide) hm) rfl rfl ?_
  refine ar_bipush (x := 6) (pc' := 36) hM rfl (by decide) rfl ?_
  refine ar_iload_n (pc' := 37) hM rfl rfl rfl ?_
  refine ar_imul (pc' := 38) hM rfl rfl ?_
  rw [show (6 * (nI j) : Int32) = nI (6 * j) from pk_mul 6 j]
  refine ar_iload_n (pc' := 39) hM rfl rfl rfl ?_
  refine ar_iadd (pc' := 40) hM rfl rfl ?_
  rw [show ((nI (6 * j)) + (nI k) : Int32) = nI (6 * j + k) from nI_add (6 * j) k]
  refine ar_ialoadN (j := (6 * j + k)) (pc' := 41) hM rfl (am_gs h142) rfl (by omega) (Nat.le_of_ble_eq_true rfl) rfl ?_
  rw [show (td2 (6 * j + k) : Int32) = x_today T S k j from (d_Y_at hY2 hk j hj)]
  refine ar_ireturn hM rfl (Or.inl rfl) ?_
  exact ⟨rfl, ⟨_, _, _, _, _, _, _, _, _, _, _, _, _, _, _, _, _, _, _, _, _, (am_gn (by decide) hm), (am_gn (by decide) h134), (am_gn (by decide) h135), (am_gn (by decide) h136), (am_gn (by decide) h137), (am_gn (by decide) h138), (am_gn (by decide) h139), (am_gn (by decide) h140), (am_gn (by decide) h141), (am_gs h142), (am_gn (by decide) h143), (am_gn (by decide) h144), (am_gn (by decide) h145), (am_gn (by decide) h146), (am_gn (by decide) h147), (am_gn (by decide) h148), (am_gn (by decide) h149), ⟨ht40, hN6⟩, hT, hS, htx, hA, hK, hN⟩, (am_same.set am_same.rf (by unfold rg; omega))⟩
set_option maxRecDepth 100000 in
set_option maxHeartbeats 4000000 in
theorem e_todayO (w : am_W) (t : Nat × (Nat → Int32)) (T : p_D) (S : s_S) (A : List s_S) (K : Nat → Option s_S) (N : x_N) (sd : Int64) (d : Nat) (hd : d ≤ 1000) (hv : v_W d T S A K) (hW : d_W w t T S A K N sd) (k : Nat) (hk : k < T.2.2.1) (wq : Int32) (hq : wq.toInt < 0 ∨ 5 < wq.toInt) : am_Go 125 (0, [.ref 133, .int (nI k), .int wq], [], w, 0, 0) (fun res w' => res = some (.int (-2)) ∧ d_W w' t T S A K N sd ∧ am_same (rg 133 17) w w') := by
  have hM : am_P[125]? = some zm_X11_today := rfl
  have hn6 : T.2.2.1 ≤ 6 := hv.1.1.1
  have hvT := hv.1.1
  have hvS := hv.2.1.1
  have hdy := hv.2.1.2.1
  obtain ⟨rh, rk, wh, fa, nx, ne, ki, ba, he, nw, rH, rT, tx, td, rw_, oo, s1, s2, s3, ik, kp, hm, h134, h135, h136, h137, h138, h139, h140, h141, h142, h143, h144, h145, h146, h147, h148, h149, ⟨ht40, hN6⟩, hT, hS, htx, hA, hK, hN⟩ := hW
  have hnx := hA.1
  have hal := hA.2.1
  refine ar_aload_n (pc' := 1) hM rfl rfl rfl ?_
  refine ar_iload_n (pc' := 2) hM rfl rfl rfl ?_
  refine ar_virtual (pc' := 5) (k3 := 0) (k4 := 0) hM rfl rfl hm ⟨rfl, (by decide)⟩ rfl rfl (by have h0 := d_isH (w := w) T hm (nI k); rw [if_pos ((i_H_iff hn6 _).mpr ⟨k, hk, rfl⟩)] at h0; exact h0) (fun r2 w2 q2 => ?_)
  obtain ⟨rfl, q2w⟩ := q2
  rw [q2w]
  show am_Go 125 (5, [.ref 133, .int (nI k), .int wq], [.int 1], w, 0, 0) _
  refine ar_if_ne (pc' := 8) hM rfl rfl (fun _ => ?_) (fun q => absurd q (by decide))
  refine ar_iload_n (pc' := 11) hM rfl rfl rfl ?_
  refine ar_i2l (pc' := 12) hM rfl rfl ?_
  refine ar_lconst (x := 0) (pc' := 13) hM rfl (by decide) rfl ?_
  refine ar_ldc2_w (x := 5) (pc' := 16) hM rfl (by decide) rfl ?_
  refine ar_static (pc' := 19) (k3 := 0) (k4 := 0) hM rfl (by decide) rfl rfl (by have h0 := d_in w wq 0 5 0 5 (by decide) (by decide); rw [if_neg (i_swN (m := 5) (by decide) hq)] at h0; exact h0) (fun r16 w16 q16 => ?_)
  obtain ⟨rfl, q16w⟩ := q16
  rw [q16w]
  show am_Go 125 (19, [.ref 133, .int (nI k), .int wq], [.int 0], w, 0, 0) _
  refine ar_if_ne (pc' := 22) hM rfl rfl (fun q => absurd (by decide) q) (fun _ => ?_)
  refine ar_bipush (x := (-2)) (pc' := 24) hM rfl (by decide) rfl ?_
  refine ar_ireturn hM rfl (Or.inl rfl) ?_
  exact ⟨rfl, ⟨_, _, _, _, _, _, _, _, _, _, _, _, _, _, _, _, _, _, _, _, _, hm, h134, h135, h136, h137, h138, h139, h140, h141, h142, h143, h144, h145, h146, h147, h148, h149, ⟨ht40, hN6⟩, hT, hS, htx, hA, hK, hN⟩, am_same.rf⟩
set_option maxRecDepth 100000 in
set_option maxHeartbeats 4000000 in
theorem e_atN (w : am_W) (t : Nat × (Nat → Int32)) (T : p_D) (S : s_S) (A : List s_S) (K : Nat → Option s_S) (N : x_N) (sd : Int64) (d : Nat) (hd : d ≤ 1000) (hv : v_W d T S A K) (hW : d_W w t T S A K N sd) (h : Int32) (hh : ¬ i_H T.2.2.1 h) : am_Go 126 (0, [.ref 133, .int h], [], w, 0, 0) (fun res w' => res = some (.int (-9)) ∧ d_W w' t T S A K N sd ∧ am_same (rg 133 17) w w') := by
  have hM : am_P[126]? = some zm_X11_at := rfl
  have hn6 : T.2.2.1 ≤ 6 := hv.1.1.1
  have hvT := hv.1.1
  have hvS := hv.2.1.1
  have hdy := hv.2.1.2.1
  obtain ⟨rh, rk, wh, fa, nx, ne, ki, ba, he, nw, rH, rT, tx, td, rw_, oo, s1, s2, s3, ik, kp, hm, h134, h135, h136, h137, h138, h139, h140, h141, h142, h143, h144, h145, h146, h147, h148, h149, ⟨ht40, hN6⟩, hT, hS, htx, hA, hK, hN⟩ := hW
  have hnx := hA.1
  have hal := hA.2.1
  refine ar_aload_n (pc' := 1) hM rfl rfl rfl ?_
  refine ar_iconst (x := 0) (pc' := 2) hM rfl (by decide) rfl ?_
  refine ar_iload_n (pc' := 3) hM rfl rfl rfl ?_
  refine ar_virtual (pc' := 6) (k3 := 0) (k4 := 0) hM rfl rfl hm ⟨rfl, (by decide)⟩ rfl rfl (d_houseAtN T hm h138 0 (by omega) S hn6 hvS (by simpa using hS) h hh) (fun r3 w3 q3 => ?_)
  obtain ⟨rfl, q3w⟩ := q3
  rw [q3w]
  show am_Go 126 (6, [.ref 133, .int h], [.int (-9)], w, 0, 0) _
  refine ar_ireturn hM rfl (Or.inl rfl) ?_
  exact ⟨rfl, ⟨_, _, _, _, _, _, _, _, _, _, _, _, _, _, _, _, _, _, _, _, _, hm, h134, h135, h136, h137, h138, h139, h140, h141, h142, h143, h144, h145, h146, h147, h148, h149, ⟨ht40, hN6⟩, hT, hS, htx, hA, hK, hN⟩, am_same.rf⟩
set_option maxRecDepth 100000 in
set_option maxHeartbeats 4000000 in
theorem e_at (w : am_W) (t : Nat × (Nat → Int32)) (T : p_D) (S : s_S) (A : List s_S) (K : Nat → Option s_S) (N : x_N) (sd : Int64) (d : Nat) (hd : d ≤ 1000) (hv : v_W d T S A K) (hW : d_W w t T S A K N sd) (k : Nat) (hk : k < T.2.2.1) : am_Go 126 (0, [.ref 133, .int (nI k)], [], w, 0, 0) (fun res w' => res = some (.int (nI (S.1 k))) ∧ d_W w' t T S A K N sd ∧ am_same (rg 133 17) w w') := by
  have hM : am_P[126]? = some zm_X11_at := rfl
  have hn6 : T.2.2.1 ≤ 6 := hv.1.1.1
  have hvT := hv.1.1
  have hvS := hv.2.1.1
  have hdy := hv.2.1.2.1
  obtain ⟨rh, rk, wh, fa, nx, ne, ki, ba, he, nw, rH, rT, tx, td, rw_, oo, s1, s2, s3, ik, kp, hm, h134, h135, h136, h137, h138, h139, h140, h141, h142, h143, h144, h145, h146, h147, h148, h149, ⟨ht40, hN6⟩, hT, hS, htx, hA, hK, hN⟩ := hW
  have hnx := hA.1
  have hal := hA.2.1
  refine ar_aload_n (pc' := 1) hM rfl rfl rfl ?_
  refine ar_iconst (x := 0) (pc' := 2) hM rfl (by decide) rfl ?_
  refine ar_iload_n (pc' := 3) hM rfl rfl rfl ?_
  refine ar_virtual (pc' := 6) (k3 := 0) (k4 := 0) hM rfl rfl hm ⟨rfl, (by decide)⟩ rfl rfl (d_houseAt T hm h138 0 (by omega) S hn6 hvS (by simpa using hS) k hk) (fun r3 w3 q3 => ?_)
  obtain ⟨rfl, q3w⟩ := q3
  rw [q3w]
  show am_Go 126 (6, [.ref 133, .int (nI k)], [.int (nI (S.1 k))], w, 0, 0) _
  refine ar_ireturn hM rfl (Or.inl rfl) ?_
  exact ⟨rfl, ⟨_, _, _, _, _, _, _, _, _, _, _, _, _, _, _, _, _, _, _, _, _, hm, h134, h135, h136, h137, h138, h139, h140, h141, h142, h143, h144, h145, h146, h147, h148, h149, ⟨ht40, hN6⟩, hT, hS, htx, hA, hK, hN⟩, am_same.rf⟩
set_option maxRecDepth 100000 in
set_option maxHeartbeats 4000000 in
theorem e_day (w : am_W) (t : Nat × (Nat → Int32)) (T : p_D) (S : s_S) (A : List s_S) (K : Nat → Option s_S) (N : x_N) (sd : Int64) (d : Nat) (hd : d ≤ 1000) (hv : v_W d T S A K) (hW : d_W w t T S A K N sd)  : am_Go 128 (0, [.ref 133], [], w, 0, 0) (fun res w' => res = some (.int (i_sum (m_lk T S 0) T.2.2.1)) ∧ d_W w' t T (m_pass T S) ((S :: A).take 14) K N sd ∧ am_same (rg 133 17) w w') := by
  have hM : am_P[128]? = some zm_X11_day := rfl
  have hn6 : T.2.2.1 ≤ 6 := hv.1.1.1
  have hvT := hv.1.1
  have hvS := hv.2.1.1
  have hdy := hv.2.1.2.1
  obtain ⟨rh, rk, wh, fa, nx, ne, ki, ba, he, nw, rH, rT, tx, td, rw_, oo, s1, s2, s3, ik, kp, hm, h134, h135, h136, h137, h138, h139, h140, h141, h142, h143, h144, h145, h146, h147, h148, h149, ⟨ht40, hN6⟩, hT, hS, htx, hA, hK, hN⟩ := hW
  have hnx := hA.1
  have hal := hA.2.1
  refine ar_aload_n (pc' := 1) hM rfl rfl rfl ?_
  refine ar_virtual (pc' := 4) (k3 := 0) (k4 := 0) hM rfl rfl hm ⟨rfl, (by decide)⟩ rfl rfl (d_keepA T hm h138 h143 rfl hn6 S hS hA) (fun r1 w1 q1 => ?_)
  obtain ⟨rw1, rfl, q1w, hA1⟩ := q1
  rw [q1w]
  show am_Go 128 (4, [.ref 133], [], ((w.set 143 (.inl (0, 294, .inl rw1))).set 133 (.inr (11, [.int (nI T.2.2.1), .int (nI T.2.2.2.1), .int T.1, .int T.2.1, .ref 134, .ref 135, .ref 136, .ref 137, .ref 138, .ref 139, .ref 140, .int rh, .int rk, .ref 141, .int (nI t.1), .int wh, .int fa, .ref 142, .int 0, .int (nI ((S :: A).take 14).length), .int (nI ((nx + 1) % 14)), .ref 143, .ref 144, .int (nI N.1), .ref 145, .ref 146, .ref 147, .long sd, .ref 148, .ref 149]))), 0, 0) _
  refine ar_aload_n (pc' := 5) hM rfl rfl rfl ?_
  refine ar_iconst (x := 0) (pc' := 6) hM rfl (by decide) rfl ?_
  refine ar_virtual (pc' := 9) (k3 := 0) (k4 := 0) hM rfl rfl (am_gs (am_gn (by decide) hm)) ⟨rfl, (by decide)⟩ rfl rfl (d_pass T (am_gs (am_gn (by decide) hm)) (am_gn (by decide) (am_gn (by decide) h134)) (am_gn (by decide) (am_gn (by decide) h135)) (am_gn (by decide) (am_gn (by decide) h136)) (am_gn (by decide) (am_gn (by decide) h137)) (am_gn (by decide) (am_gn (by decide) h138)) (am_gn (by decide) (am_gn (by decide) h142)) hT 0 (by omega) S hvT hvS (by simpa using hS)) (fun r6 w6 q6 => ?_)
  obtain ⟨td1, nw1, rfl, q6w, hY1, hS1, hnw1⟩ := q6
  rw [q6w]
  show am_Go 128 (9, [.ref 133], [.int (i_sum (m_lk T S 0) T.2.2.1)], ((((w.set 143 (.inl (0, 294, .inl rw1))).set 133 (.inr (11, [.int (nI T.2.2.1), .int (nI T.2.2.2.1), .int T.1, .int T.2.1, .ref 134, .ref 135, .ref 136, .ref 137, .ref 138, .ref 139, .ref 140, .int rh, .int rk, .ref 141, .int (nI t.1), .int wh, .int fa, .ref 142, .int 0, .int (nI ((S :: A).take 14).length), .int (nI ((nx + 1) % 14)), .ref 143, .ref 144, .int (nI N.1), .ref 145, .ref 146, .ref 147, .long sd, .ref 148, .ref 149]))).set 142 (.inl (0, 36, .inl td1))).set 138 (.inl (0, 42, .inl nw1))), 0, 0) _
  refine ar_ireturn hM rfl (Or.inl rfl) ?_
  exact ⟨rfl, ⟨_, _, _, _, _, _, _, _, _, _, _, _, _, _, _, _, _, _, _, _, _, (am_gn (by decide) (am_gn (by decide) (am_gs (am_gn (by decide) hm)))), (am_gn (by decide) (am_gn (by decide) (am_gn (by decide) (am_gn (by decide) h134)))), (am_gn (by decide) (am_gn (by decide) (am_gn (by decide) (am_gn (by decide) h135)))), (am_gn (by decide) (am_gn (by decide) (am_gn (by decide) (am_gn (by decide) h136)))), (am_gn (by decide) (am_gn (by decide) (am_gn (by decide) (am_gn (by decide) h137)))), (am_gs (am_gn (by decide) (am_gn (by decide) (am_gn (by decide) h138)))), (am_gn (by decide) (am_gn (by decide) (am_gn (by decide) (am_gn (by decide) h139)))), (am_gn (by decide) (am_gn (by decide) (am_gn (by decide) (am_gn (by decide) h140)))), (am_gn (by decide) (am_gn (by decide) (am_gn (by decide) (am_gn (by decide) h141)))), (am_gn (by decide) (am_gs (am_gn (by decide) (am_gn (by decide) h142)))), (am_gn (by decide) (am_gn (by decide) (am_gn (by decide) (am_gs h143)))), (am_gn (by decide) (am_gn (by decide) (am_gn (by decide) (am_gn (by decide) h144)))), (am_gn (by decide) (am_gn (by decide) (am_gn (by decide) (am_gn (by decide) h145)))), (am_gn (by decide) (am_gn (by decide) (am_gn (by decide) (am_gn (by decide) h146)))), (am_gn (by decide) (am_gn (by decide) (am_gn (by decide) (am_gn (by decide) h147)))), (am_gn (by decide) (am_gn (by decide) (am_gn (by decide) (am_gn (by decide) h148)))), (am_gn (by decide) (am_gn (by decide) (am_gn (by decide) (am_gn (by decide) h149)))), ⟨ht40, hN6⟩, hT, (by simpa using (hS1 rfl)), htx, hA1, hK, hN⟩, (am_same.set (am_same.set (am_same.set (am_same.set am_same.rf (by unfold rg; omega)) (by unfold rg; omega)) (by unfold rg; omega)) (by unfold rg; omega))⟩
set_option maxRecDepth 100000 in
set_option maxHeartbeats 4000000 in
theorem e_swapN (w : am_W) (t : Nat × (Nat → Int32)) (T : p_D) (S : s_S) (A : List s_S) (K : Nat → Option s_S) (N : x_N) (sd : Int64) (d : Nat) (hd : d ≤ 1000) (hv : v_W d T S A K) (hW : d_W w t T S A K N sd) (h : Int32) (hh : ¬ i_H T.2.2.1 h) (b : Int32) : am_Go 130 (0, [.ref 133, .int h, .int b], [], w, 0, 0) (fun res w' => res = some (.int (-1)) ∧ d_W w' t T S A K N sd ∧ am_same (rg 133 17) w w') := by
  have hM : am_P[130]? = some zm_X11_swap := rfl
  have hn6 : T.2.2.1 ≤ 6 := hv.1.1.1
  have hvT := hv.1.1
  have hvS := hv.2.1.1
  have hdy := hv.2.1.2.1
  obtain ⟨rh, rk, wh, fa, nx, ne, ki, ba, he, nw, rH, rT, tx, td, rw_, oo, s1, s2, s3, ik, kp, hm, h134, h135, h136, h137, h138, h139, h140, h141, h142, h143, h144, h145, h146, h147, h148, h149, ⟨ht40, hN6⟩, hT, hS, htx, hA, hK, hN⟩ := hW
  have hnx := hA.1
  have hal := hA.2.1
  refine ar_aload_n (pc' := 1) hM rfl rfl rfl ?_
  refine ar_iload_n (pc' := 2) hM rfl rfl rfl ?_
  refine ar_virtual (pc' := 5) (k3 := 0) (k4 := 0) hM rfl rfl hm ⟨rfl, (by decide)⟩ rfl rfl (by have h0 := d_isH (w := w) T hm h; rw [if_neg (fun q => hh ((i_H_iff hn6 _).mp q))] at h0; exact h0) (fun r2 w2 q2 => ?_)
  obtain ⟨rfl, q2w⟩ := q2
  rw [q2w]
  show am_Go 130 (5, [.ref 133, .int h, .int b], [.int 0], w, 0, 0) _
  refine ar_if_eq (pc' := 8) hM rfl rfl (fun _ => ?_) (fun q => absurd (by decide) q)
  refine ar_iconst (x := (-1)) (pc' := 17) hM rfl (by decide) rfl ?_
  refine ar_ireturn hM rfl (Or.inl rfl) ?_
  exact ⟨rfl, ⟨_, _, _, _, _, _, _, _, _, _, _, _, _, _, _, _, _, _, _, _, _, hm, h134, h135, h136, h137, h138, h139, h140, h141, h142, h143, h144, h145, h146, h147, h148, h149, ⟨ht40, hN6⟩, hT, hS, htx, hA, hK, hN⟩, am_same.rf⟩
set_option maxRecDepth 100000 in
set_option maxHeartbeats 4000000 in
theorem e_swapM (w : am_W) (t : Nat × (Nat → Int32)) (T : p_D) (S : s_S) (A : List s_S) (K : Nat → Option s_S) (N : x_N) (sd : Int64) (d : Nat) (hd : d ≤ 1000) (hv : v_W d T S A K) (hW : d_W w t T S A K N sd) (k : Nat) (hk : k < T.2.2.1) (h : Int32) (hh : ¬ i_H T.2.2.1 h) : am_Go 130 (0, [.ref 133, .int (nI k), .int h], [], w, 0, 0) (fun res w' => res = some (.int (-1)) ∧ d_W w' t T S A K N sd ∧ am_same (rg 133 17) w w') := by
  have hM : am_P[130]? = some zm_X11_swap := rfl
  have hn6 : T.2.2.1 ≤ 6 := hv.1.1.1
  have hvT := hv.1.1
  have hvS := hv.2.1.1
  have hdy := hv.2.1.2.1
  obtain ⟨rh, rk, wh, fa, nx, ne, ki, ba, he, nw, rH, rT, tx, td, rw_, oo, s1, s2, s3, ik, kp, hm, h134, h135, h136, h137, h138, h139, h140, h141, h142, h143, h144, h145, h146, h147, h148, h149, ⟨ht40, hN6⟩, hT, hS, htx, hA, hK, hN⟩ := hW
  have hnx := hA.1
  have hal := hA.2.1
  refine ar_aload_n (pc' := 1) hM rfl rfl rfl ?_
  refine ar_iload_n (pc' := 2) hM rfl rfl rfl ?_
  refine ar_virtual (pc' := 5) (k3 := 0) (k4 := 0) hM rfl rfl hm ⟨rfl, (by decide)⟩ rfl rfl (by have h0 := d_isH (w := w) T hm (nI k); rw [if_pos ((i_H_iff hn6 _).mpr ⟨k, hk, rfl⟩)] at h0; exact h0) (fun r2 w2 q2 => ?_)
  obtain ⟨rfl, q2w⟩ := q2
  rw [q2w]
  show am_Go 130 (5, [.ref 133, .int (nI k), .int h], [.int 1], w, 0, 0) _
  refine ar_if_eq (pc' := 8) hM rfl rfl (fun q => absurd q (by decide)) (fun _ => ?_)
  refine ar_aload_n (pc' := 9) hM rfl rfl rfl ?_
  refine ar_iload_n (pc' := 10) hM rfl rfl rfl ?_
  refine ar_virtual (pc' := 13) (k3 := 0) (k4 := 0) hM rfl rfl hm ⟨rfl, (by decide)⟩ rfl rfl (by have h0 := d_isH (w := w) T hm h; rw [if_neg (fun q => hh ((i_H_iff hn6 _).mp q))] at h0; exact h0) (fun r10 w10 q10 => ?_)
  obtain ⟨rfl, q10w⟩ := q10
  rw [q10w]
  show am_Go 130 (13, [.ref 133, .int (nI k), .int h], [.int 0], w, 0, 0) _
  refine ar_if_ne (pc' := 16) hM rfl rfl (fun q => absurd (by decide) q) (fun _ => ?_)
  refine ar_iconst (x := (-1)) (pc' := 17) hM rfl (by decide) rfl ?_
  refine ar_ireturn hM rfl (Or.inl rfl) ?_
  exact ⟨rfl, ⟨_, _, _, _, _, _, _, _, _, _, _, _, _, _, _, _, _, _, _, _, _, hm, h134, h135, h136, h137, h138, h139, h140, h141, h142, h143, h144, h145, h146, h147, h148, h149, ⟨ht40, hN6⟩, hT, hS, htx, hA, hK, hN⟩, am_same.rf⟩
set_option maxRecDepth 100000 in
set_option maxHeartbeats 4000000 in
theorem e_swapE (w : am_W) (t : Nat × (Nat → Int32)) (T : p_D) (S : s_S) (A : List s_S) (K : Nat → Option s_S) (N : x_N) (sd : Int64) (d : Nat) (hd : d ≤ 1000) (hv : v_W d T S A K) (hW : d_W w t T S A K N sd) (k : Nat) (hk : k < T.2.2.1) : am_Go 130 (0, [.ref 133, .int (nI k), .int (nI k)], [], w, 0, 0) (fun res w' => res = some (.int (-2)) ∧ d_W w' t T S A K N sd ∧ am_same (rg 133 17) w w') := by
  have hM : am_P[130]? = some zm_X11_swap := rfl
  have hn6 : T.2.2.1 ≤ 6 := hv.1.1.1
  have hvT := hv.1.1
  have hvS := hv.2.1.1
  have hdy := hv.2.1.2.1
  obtain ⟨rh, rk, wh, fa, nx, ne, ki, ba, he, nw, rH, rT, tx, td, rw_, oo, s1, s2, s3, ik, kp, hm, h134, h135, h136, h137, h138, h139, h140, h141, h142, h143, h144, h145, h146, h147, h148, h149, ⟨ht40, hN6⟩, hT, hS, htx, hA, hK, hN⟩ := hW
  have hnx := hA.1
  have hal := hA.2.1
  refine ar_aload_n (pc' := 1) hM rfl rfl rfl ?_
  refine ar_iload_n (pc' := 2) hM rfl rfl rfl ?_
  refine ar_virtual (pc' := 5) (k3 := 0) (k4 := 0) hM rfl rfl hm ⟨rfl, (by decide)⟩ rfl rfl (by have h0 := d_isH (w := w) T hm (nI k); rw [if_pos ((i_H_iff hn6 _).mpr ⟨k, hk, rfl⟩)] at h0; exact h0) (fun r2 w2 q2 => ?_)
  obtain ⟨rfl, q2w⟩ := q2
  rw [q2w]
  show am_Go 130 (5, [.ref 133, .int (nI k), .int (nI k)], [.int 1], w, 0, 0) _
  refine ar_if_eq (pc' := 8) hM rfl rfl (fun q => absurd q (by decide)) (fun _ => ?_)
  refine ar_aload_n (pc' := 9) hM rfl rfl rfl ?_
  refine ar_iload_n (pc' := 10) hM rfl rfl rfl ?_
  refine ar_virtual (pc' := 13) (k3 := 0) (k4 := 0) hM rfl rfl hm ⟨rfl, (by decide)⟩ rfl rfl (by have h0 := d_isH (w := w) T hm (nI k); rw [if_pos ((i_H_iff hn6 _).mpr ⟨k, hk, rfl⟩)] at h0; exact h0) (fun r10 w10 q10 => ?_)
  obtain ⟨rfl, q10w⟩ := q10
  rw [q10w]
  show am_Go 130 (13, [.ref 133, .int (nI k), .int (nI k)], [.int 1], w, 0, 0) _
  refine ar_if_ne (pc' := 16) hM rfl rfl (fun _ => ?_) (fun q => absurd q (by decide))
  refine ar_iload_n (pc' := 19) hM rfl rfl rfl ?_
  refine ar_iload_n (pc' := 20) hM rfl rfl rfl ?_
  refine ar_icmp_ne (pc' := 23) hM rfl rfl (fun q => absurd rfl q) (fun _ => ?_)
  refine ar_bipush (x := (-2)) (pc' := 25) hM rfl (by decide) rfl ?_
  refine ar_ireturn hM rfl (Or.inl rfl) ?_
  exact ⟨rfl, ⟨_, _, _, _, _, _, _, _, _, _, _, _, _, _, _, _, _, _, _, _, _, hm, h134, h135, h136, h137, h138, h139, h140, h141, h142, h143, h144, h145, h146, h147, h148, h149, ⟨ht40, hN6⟩, hT, hS, htx, hA, hK, hN⟩, am_same.rf⟩
set_option maxRecDepth 100000 in
set_option maxHeartbeats 4000000 in
theorem e_swap (w : am_W) (t : Nat × (Nat → Int32)) (T : p_D) (S : s_S) (A : List s_S) (K : Nat → Option s_S) (N : x_N) (sd : Int64) (d : Nat) (hd : d ≤ 1000) (hv : v_W d T S A K) (hW : d_W w t T S A K N sd) (k : Nat) (hk : k < T.2.2.1) (j : Nat) (hj : j < T.2.2.1) (hkj : k ≠ j) : am_Go 130 (0, [.ref 133, .int (nI k), .int (nI j)], [], w, 0, 0) (fun res w' => res = some (.int (nI ((m_swap S k j).2.1 k))) ∧ d_W w' t T (m_swap S k j) ((S :: A).take 14) K N sd ∧ am_same (rg 133 17) w w') := by
  have hM : am_P[130]? = some zm_X11_swap := rfl
  have hn6 : T.2.2.1 ≤ 6 := hv.1.1.1
  have hvT := hv.1.1
  have hvS := hv.2.1.1
  have hdy := hv.2.1.2.1
  obtain ⟨rh, rk, wh, fa, nx, ne, ki, ba, he, nw, rH, rT, tx, td, rw_, oo, s1, s2, s3, ik, kp, hm, h134, h135, h136, h137, h138, h139, h140, h141, h142, h143, h144, h145, h146, h147, h148, h149, ⟨ht40, hN6⟩, hT, hS, htx, hA, hK, hN⟩ := hW
  have hnx := hA.1
  have hal := hA.2.1
  refine ar_aload_n (pc' := 1) hM rfl rfl rfl ?_
  refine ar_iload_n (pc' := 2) hM rfl rfl rfl ?_
  refine ar_virtual (pc' := 5) (k3 := 0) (k4 := 0) hM rfl rfl hm ⟨rfl, (by decide)⟩ rfl rfl (by have h0 := d_isH (w := w) T hm (nI k); rw [if_pos ((i_H_iff hn6 _).mpr ⟨k, hk, rfl⟩)] at h0; exact h0) (fun r2 w2 q2 => ?_)
  obtain ⟨rfl, q2w⟩ := q2
  rw [q2w]
  show am_Go 130 (5, [.ref 133, .int (nI k), .int (nI j)], [.int 1], w, 0, 0) _
  refine ar_if_eq (pc' := 8) hM rfl rfl (fun q => absurd q (by decide)) (fun _ => ?_)
  refine ar_aload_n (pc' := 9) hM rfl rfl rfl ?_
  refine ar_iload_n (pc' := 10) hM rfl rfl rfl ?_
  refine ar_virtual (pc' := 13) (k3 := 0) (k4 := 0) hM rfl rfl hm ⟨rfl, (by decide)⟩ rfl rfl (by have h0 := d_isH (w := w) T hm (nI j); rw [if_pos ((i_H_iff hn6 _).mpr ⟨j, hj, rfl⟩)] at h0; exact h0) (fun r10 w10 q10 => ?_)
  obtain ⟨rfl, q10w⟩ := q10
  rw [q10w]
  show am_Go 130 (13, [.ref 133, .int (nI k), .int (nI j)], [.int 1], w, 0, 0) _
  refine ar_if_ne (pc' := 16) hM rfl rfl (fun _ => ?_) (fun q => absurd q (by decide))
  refine ar_iload_n (pc' := 19) hM rfl rfl rfl ?_
  refine ar_iload_n (pc' := 20) hM rfl rfl rfl ?_
  refine ar_icmp_ne (pc' := 23) hM rfl rfl (fun _ => ?_) (fun q => absurd q (fun q => hkj ((nI_eq (by omega) (by omega)).mp q)))
  refine ar_aload_n (pc' := 27) hM rfl rfl rfl ?_
  refine ar_virtual (pc' := 30) (k3 := 0) (k4 := 0) hM rfl rfl hm ⟨rfl, (by decide)⟩ rfl rfl (d_keepA T hm h138 h143 rfl hn6 S hS hA) (fun r27 w27 q27 => ?_)
  obtain ⟨rw1, rfl, q27w, hA1⟩ := q27
  rw [q27w]
  show am_Go 130 (30, [.ref 133, .int (nI k), .int (nI j)], [], ((w.set 143 (.inl (0, 294, .inl rw1))).set 133 (.inr (11, [.int (nI T.2.2.1), .int (nI T.2.2.2.1), .int T.1, .int T.2.1, .ref 134, .ref 135, .ref 136, .ref 137, .ref 138, .ref 139, .ref 140, .int rh, .int rk, .ref 141, .int (nI t.1), .int wh, .int fa, .ref 142, .int 0, .int (nI ((S :: A).take 14).length), .int (nI ((nx + 1) % 14)), .ref 143, .ref 144, .int (nI N.1), .ref 145, .ref 146, .ref 147, .long sd, .ref 148, .ref 149]))), 0, 0) _
  refine ar_aload_n (pc' := 31) hM rfl rfl rfl ?_
  refine ar_iconst (x := 0) (pc' := 32) hM rfl (by decide) rfl ?_
  refine ar_iload_n (pc' := 33) hM rfl rfl rfl ?_
  refine ar_iload_n (pc' := 34) hM rfl rfl rfl ?_
  refine ar_virtual (pc' := 37) (k3 := 0) (k4 := 0) hM rfl rfl (am_gs (am_gn (by decide) hm)) ⟨rfl, (by decide)⟩ rfl rfl (d_swap T (am_gs (am_gn (by decide) hm)) (am_gn (by decide) (am_gn (by decide) h138)) 0 (by omega) S hn6 (by simpa using hS) k j hk hj) (fun r34 w34 q34 => ?_)
  obtain ⟨nw1, rfl, q34w, hS1, hnw1⟩ := q34
  rw [q34w]
  have hS2 : d_S nw1 0 T.2.2.1 (m_swap S k j) := by simpa using hS1
  show am_Go 130 (37, [.ref 133, .int (nI k), .int (nI j)], [], (((w.set 143 (.inl (0, 294, .inl rw1))).set 133 (.inr (11, [.int (nI T.2.2.1), .int (nI T.2.2.2.1), .int T.1, .int T.2.1, .ref 134, .ref 135, .ref 136, .ref 137, .ref 138, .ref 139, .ref 140, .int rh, .int rk, .ref 141, .int (nI t.1), .int wh, .int fa, .ref 142, .int 0, .int (nI ((S :: A).take 14).length), .int (nI ((nx + 1) % 14)), .ref 143, .ref 144, .int (nI N.1), .ref 145, .ref 146, .ref 147, .long sd, .ref 148, .ref 149]))).set 138 (.inl (0, 42, .inl nw1))), 0, 0) _
  refine ar_aload_n (pc' := 38) hM rfl rfl rfl ?_
  refine ar_getfield (pc' := 41) hM rfl (am_gn (by decide) (am_gs (am_gn (by decide) hm))) rfl rfl ?_
  refine ar_iload_n (pc' := 42) hM rfl rfl rfl ?_
  refine ar_ialoadN (j := k) (pc' := 43) hM rfl (am_gs (am_gn (by decide) (am_gn (by decide) h138))) rfl (by omega) (Nat.le_of_ble_eq_true rfl) rfl ?_
  rw [show (nw1 k : Int32) = nI ((m_swap S k j).2.1 k) from (by have h0 := (hS2.1 k hk).1; rw [Nat.zero_add] at h0; exact h0)]
  refine ar_ireturn hM rfl (Or.inl rfl) ?_
  exact ⟨rfl, ⟨_, _, _, _, _, _, _, _, _, _, _, _, _, _, _, _, _, _, _, _, _, (am_gn (by decide) (am_gs (am_gn (by decide) hm))), (am_gn (by decide) (am_gn (by decide) (am_gn (by decide) h134))), (am_gn (by decide) (am_gn (by decide) (am_gn (by decide) h135))), (am_gn (by decide) (am_gn (by decide) (am_gn (by decide) h136))), (am_gn (by decide) (am_gn (by decide) (am_gn (by decide) h137))), (am_gs (am_gn (by decide) (am_gn (by decide) h138))), (am_gn (by decide) (am_gn (by decide) (am_gn (by decide) h139))), (am_gn (by decide) (am_gn (by decide) (am_gn (by decide) h140))), (am_gn (by decide) (am_gn (by decide) (am_gn (by decide) h141))), (am_gn (by decide) (am_gn (by decide) (am_gn (by decide) h142))), (am_gn (by decide) (am_gn (by decide) (am_gs h143))), (am_gn (by decide) (am_gn (by decide) (am_gn (by decide) h144))), (am_gn (by decide) (am_gn (by decide) (am_gn (by decide) h145))), (am_gn (by decide) (am_gn (by decide) (am_gn (by decide) h146))), (am_gn (by decide) (am_gn (by decide) (am_gn (by decide) h147))), (am_gn (by decide) (am_gn (by decide) (am_gn (by decide) h148))), (am_gn (by decide) (am_gn (by decide) (am_gn (by decide) h149))), ⟨ht40, hN6⟩, hT, hS2, htx, hA1, hK, hN⟩, (am_same.set (am_same.set (am_same.set am_same.rf (by unfold rg; omega)) (by unfold rg; omega)) (by unfold rg; omega))⟩
set_option maxRecDepth 100000 in
set_option maxHeartbeats 4000000 in
theorem e_saltN (w : am_W) (t : Nat × (Nat → Int32)) (T : p_D) (S : s_S) (A : List s_S) (K : Nat → Option s_S) (N : x_N) (sd : Int64) (d : Nat) (hd : d ≤ 1000) (hv : v_W d T S A K) (hW : d_W w t T S A K N sd) (h : Int32) (hh : ¬ i_H T.2.2.1 h) : am_Go 131 (0, [.ref 133, .int h], [], w, 0, 0) (fun res w' => res = some (.int (-1)) ∧ d_W w' t T S A K N sd ∧ am_same (rg 133 17) w w') := by
  have hM : am_P[131]? = some zm_X11_salt := rfl
  have hn6 : T.2.2.1 ≤ 6 := hv.1.1.1
  have hvT := hv.1.1
  have hvS := hv.2.1.1
  have hdy := hv.2.1.2.1
  obtain ⟨rh, rk, wh, fa, nx, ne, ki, ba, he, nw, rH, rT, tx, td, rw_, oo, s1, s2, s3, ik, kp, hm, h134, h135, h136, h137, h138, h139, h140, h141, h142, h143, h144, h145, h146, h147, h148, h149, ⟨ht40, hN6⟩, hT, hS, htx, hA, hK, hN⟩ := hW
  have hnx := hA.1
  have hal := hA.2.1
  refine ar_aload_n (pc' := 1) hM rfl rfl rfl ?_
  refine ar_iload_n (pc' := 2) hM rfl rfl rfl ?_
  refine ar_virtual (pc' := 5) (k3 := 0) (k4 := 0) hM rfl rfl hm ⟨rfl, (by decide)⟩ rfl rfl (by have h0 := d_isH (w := w) T hm h; rw [if_neg (fun q => hh ((i_H_iff hn6 _).mp q))] at h0; exact h0) (fun r2 w2 q2 => ?_)
  obtain ⟨rfl, q2w⟩ := q2
  rw [q2w]
  show am_Go 131 (5, [.ref 133, .int h], [.int 0], w, 0, 0) _
  refine ar_if_ne (pc' := 8) hM rfl rfl (fun q => absurd (by decide) q) (fun _ => ?_)
  refine ar_iconst (x := (-1)) (pc' := 9) hM rfl (by decide) rfl ?_
  refine ar_ireturn hM rfl (Or.inl rfl) ?_
  exact ⟨rfl, ⟨_, _, _, _, _, _, _, _, _, _, _, _, _, _, _, _, _, _, _, _, _, hm, h134, h135, h136, h137, h138, h139, h140, h141, h142, h143, h144, h145, h146, h147, h148, h149, ⟨ht40, hN6⟩, hT, hS, htx, hA, hK, hN⟩, am_same.rf⟩
set_option maxRecDepth 100000 in
set_option maxHeartbeats 4000000 in
theorem e_saltS (w : am_W) (t : Nat × (Nat → Int32)) (T : p_D) (S : s_S) (A : List s_S) (K : Nat → Option s_S) (N : x_N) (sd : Int64) (d : Nat) (hd : d ≤ 1000) (hv : v_W d T S A K) (hW : d_W w t T S A K N sd) (k : Nat) (hk : k < T.2.2.1) (hb : (S.2.2.2.2.1 >>> (nI k &&& 31)) &&& 1 = 1) : am_Go 131 (0, [.ref 133, .int (nI k)], [], w, 0, 0) (fun res w' => res = some (.int (-3)) ∧ d_W w' t T S A K N sd ∧ am_same (rg 133 17) w w') := by
  have hM : am_P[131]? = some zm_X11_salt := rfl
  have hn6 : T.2.2.1 ≤ 6 := hv.1.1.1
  have hvT := hv.1.1
  have hvS := hv.2.1.1
  have hdy := hv.2.1.2.1
  obtain ⟨rh, rk, wh, fa, nx, ne, ki, ba, he, nw, rH, rT, tx, td, rw_, oo, s1, s2, s3, ik, kp, hm, h134, h135, h136, h137, h138, h139, h140, h141, h142, h143, h144, h145, h146, h147, h148, h149, ⟨ht40, hN6⟩, hT, hS, htx, hA, hK, hN⟩ := hW
  have hnx := hA.1
  have hal := hA.2.1
  refine ar_aload_n (pc' := 1) hM rfl rfl rfl ?_
  refine ar_iload_n (pc' := 2) hM rfl rfl rfl ?_
  refine ar_virtual (pc' := 5) (k3 := 0) (k4 := 0) hM rfl rfl hm ⟨rfl, (by decide)⟩ rfl rfl (by have h0 := d_isH (w := w) T hm (nI k); rw [if_pos ((i_H_iff hn6 _).mpr ⟨k, hk, rfl⟩)] at h0; exact h0) (fun r2 w2 q2 => ?_)
  obtain ⟨rfl, q2w⟩ := q2
  rw [q2w]
  show am_Go 131 (5, [.ref 133, .int (nI k)], [.int 1], w, 0, 0) _
  refine ar_if_ne (pc' := 8) hM rfl rfl (fun _ => ?_) (fun q => absurd q (by decide))
  refine ar_aload_n (pc' := 11) hM rfl rfl rfl ?_
  refine ar_getfield (pc' := 14) hM rfl hm rfl rfl ?_
  refine ar_bipush (x := 18) (pc' := 16) hM rfl (by decide) rfl ?_
  refine ar_ialoadN (j := 18) (pc' := 17) hM rfl h138 (by decide) (by omega) (Nat.le_of_ble_eq_true rfl) rfl ?_
  rw [show (nw 18 : Int32) = S.2.2.2.2.1 from (by have h0 := hS.2.1; rw [Nat.zero_add] at h0; exact h0)]
  refine ar_iload_n (pc' := 18) hM rfl rfl rfl ?_
  refine ar_static (pc' := 21) (k3 := 0) (k4 := 0) hM rfl (by decide) rfl rfl (by have h0 := d_has w S.2.2.2.2.1 (nI k); rw [if_pos hb] at h0; exact h0) (fun r18 w18 q18 => ?_)
  obtain ⟨rfl, q18w⟩ := q18
  rw [q18w]
  show am_Go 131 (21, [.ref 133, .int (nI k)], [.int 1], w, 0, 0) _
  refine ar_if_eq (pc' := 24) hM rfl rfl (fun q => absurd q (by decide)) (fun _ => ?_)
  refine ar_bipush (x := (-3)) (pc' := 26) hM rfl (by decide) rfl ?_
  refine ar_ireturn hM rfl (Or.inl rfl) ?_
  exact ⟨rfl, ⟨_, _, _, _, _, _, _, _, _, _, _, _, _, _, _, _, _, _, _, _, _, hm, h134, h135, h136, h137, h138, h139, h140, h141, h142, h143, h144, h145, h146, h147, h148, h149, ⟨ht40, hN6⟩, hT, hS, htx, hA, hK, hN⟩, am_same.rf⟩
theorem d_S_b18 {nw : Nat → Int32} {b n : Nat} {S : s_S} (hn : n ≤ 6) (h : d_S nw b n S) (x : Int32) : d_S (upd nw (b + 18) x) b n (S.1, S.2.1, S.2.2.1, S.2.2.2.1, x, S.2.2.2.2.2) := by
  refine ⟨fun k hk => ⟨?_, ?_, ?_⟩, pk_us, ?_, ?_⟩
  · rw [pk_un (by omega)]; exact (h.1 k hk).1
  · rw [pk_un (by omega)]; exact (h.1 k hk).2.1
  · rw [pk_un (by omega)]; exact (h.1 k hk).2.2
  · rw [pk_un (by omega)]; exact h.2.2.1
  · rw [pk_un (by omega)]; exact h.2.2.2
theorem d_S_b19 {nw : Nat → Int32} {b n : Nat} {S : s_S} (hn : n ≤ 6) (h : d_S nw b n S) (x : Int32) : d_S (upd nw (b + 19) x) b n (S.1, S.2.1, S.2.2.1, S.2.2.2.1, S.2.2.2.2.1, x, S.2.2.2.2.2.2) := by
  refine ⟨fun k hk => ⟨?_, ?_, ?_⟩, ?_, pk_us, ?_⟩
  · rw [pk_un (by omega)]; exact (h.1 k hk).1
  · rw [pk_un (by omega)]; exact (h.1 k hk).2.1
  · rw [pk_un (by omega)]; exact (h.1 k hk).2.2
  · rw [pk_un (by omega)]; exact h.2.1
  · rw [pk_un (by omega)]; exact h.2.2.2
set_option maxRecDepth 100000 in
set_option maxHeartbeats 4000000 in
theorem e_salt (w : am_W) (t : Nat × (Nat → Int32)) (T : p_D) (S : s_S) (A : List s_S) (K : Nat → Option s_S) (N : x_N) (sd : Int64) (d : Nat) (hd : d ≤ 1000) (hv : v_W d T S A K) (hW : d_W w t T S A K N sd) (k : Nat) (hk : k < T.2.2.1) (hb : ¬ (S.2.2.2.2.1 >>> (nI k &&& 31)) &&& 1 = 1) : am_Go 131 (0, [.ref 133, .int (nI k)], [], w, 0, 0) (fun res w' => res = some (.int (m_wt T (m_salt S (nI k)) 0 k)) ∧ d_W w' t T (m_salt S (nI k)) ((S :: A).take 14) K N sd ∧ am_same (rg 133 17) w w') := by
  have hM : am_P[131]? = some zm_X11_salt := rfl
  have hn6 : T.2.2.1 ≤ 6 := hv.1.1.1
  have hvT := hv.1.1
  have hvS := hv.2.1.1
  have hdy := hv.2.1.2.1
  obtain ⟨rh, rk, wh, fa, nx, ne, ki, ba, he, nw, rH, rT, tx, td, rw_, oo, s1, s2, s3, ik, kp, hm, h134, h135, h136, h137, h138, h139, h140, h141, h142, h143, h144, h145, h146, h147, h148, h149, ⟨ht40, hN6⟩, hT, hS, htx, hA, hK, hN⟩ := hW
  have hnx := hA.1
  have hal := hA.2.1
  refine ar_aload_n (pc' := 1) hM rfl rfl rfl ?_
  refine ar_iload_n (pc' := 2) hM rfl rfl rfl ?_
  refine ar_virtual (pc' := 5) (k3 := 0) (k4 := 0) hM rfl rfl hm ⟨rfl, (by decide)⟩ rfl rfl (by have h0 := d_isH (w := w) T hm (nI k); rw [if_pos ((i_H_iff hn6 _).mpr ⟨k, hk, rfl⟩)] at h0; exact h0) (fun r2 w2 q2 => ?_)
  obtain ⟨rfl, q2w⟩ := q2
  rw [q2w]
  show am_Go 131 (5, [.ref 133, .int (nI k)], [.int 1], w, 0, 0) _
  refine ar_if_ne (pc' := 8) hM rfl rfl (fun _ => ?_) (fun q => absurd q (by decide))
  refine ar_aload_n (pc' := 11) hM rfl rfl rfl ?_
  refine ar_getfield (pc' := 14) hM rfl hm rfl rfl ?_
  refine ar_bipush (x := 18) (pc' := 16) hM rfl (by decide) rfl ?_
  refine ar_ialoadN (j := 18) (pc' := 17) hM rfl h138 (by decide) (by omega) (Nat.le_of_ble_eq_true rfl) rfl ?_
  rw [show (nw 18 : Int32) = S.2.2.2.2.1 from (by have h0 := hS.2.1; rw [Nat.zero_add] at h0; exact h0)]
  refine ar_iload_n (pc' := 18) hM rfl rfl rfl ?_
  refine ar_static (pc' := 21) (k3 := 0) (k4 := 0) hM rfl (by decide) rfl rfl (by have h0 := d_has w S.2.2.2.2.1 (nI k); rw [if_neg hb] at h0; exact h0) (fun r18 w18 q18 => ?_)
  obtain ⟨rfl, q18w⟩ := q18
  rw [q18w]
  show am_Go 131 (21, [.ref 133, .int (nI k)], [.int 0], w, 0, 0) _
  refine ar_if_eq (pc' := 24) hM rfl rfl (fun _ => ?_) (fun q => absurd (by decide) q)
  refine ar_aload_n (pc' := 28) hM rfl rfl rfl ?_
  refine ar_virtual (pc' := 31) (k3 := 0) (k4 := 0) hM rfl rfl hm ⟨rfl, (by decide)⟩ rfl rfl (d_keepA T hm h138 h143 rfl hn6 S hS hA) (fun r28 w28 q28 => ?_)
  obtain ⟨rw1, rfl, q28w, hA1⟩ := q28
  rw [q28w]
  show am_Go 131 (31, [.ref 133, .int (nI k)], [], ((w.set 143 (.inl (0, 294, .inl rw1))).set 133 (.inr (11, [.int (nI T.2.2.1), .int (nI T.2.2.2.1), .int T.1, .int T.2.1, .ref 134, .ref 135, .ref 136, .ref 137, .ref 138, .ref 139, .ref 140, .int rh, .int rk, .ref 141, .int (nI t.1), .int wh, .int fa, .ref 142, .int 0, .int (nI ((S :: A).take 14).length), .int (nI ((nx + 1) % 14)), .ref 143, .ref 144, .int (nI N.1), .ref 145, .ref 146, .ref 147, .long sd, .ref 148, .ref 149]))), 0, 0) _
  refine ar_aload_n (pc' := 32) hM rfl rfl rfl ?_
  refine ar_getfield (pc' := 35) hM rfl (am_gs (am_gn (by decide) hm)) rfl rfl ?_
  refine ar_bipush (x := 18) (pc' := 37) hM rfl (by decide) rfl ?_
  refine ar_dup2 (pc' := 38) hM rfl rfl rfl rfl ?_
  refine ar_ialoadN (j := 18) (pc' := 39) hM rfl (am_gn (by decide) (am_gn (by decide) h138)) (by decide) (by omega) (Nat.le_of_ble_eq_true rfl) rfl ?_
  rw [show (nw 18 : Int32) = S.2.2.2.2.1 from (by have h0 := hS.2.1; rw [Nat.zero_add] at h0; exact h0)]
  refine ar_iconst (x := 1) (pc' := 40) hM rfl (by decide) rfl ?_
  refine ar_iload_n (pc' := 41) hM rfl rfl rfl ?_
  refine ar_ishl (pc' := 42) hM rfl rfl ?_
  refine ar_ior (pc' := 43) hM rfl rfl ?_
  refine ar_iastoreN (j := 18) (pc' := 44) hM rfl (am_gn (by decide) (am_gn (by decide) h138)) (by decide) (by omega) (Nat.le_of_ble_eq_true rfl) (by decide) rfl ?_
  have hS2 : d_S (upd nw 18 (S.2.2.2.2.1 ||| 1 <<< (nI k &&& 31))) 0 T.2.2.1 (m_salt S (nI k)) := by have h0 := d_S_b18 hn6 hS (S.2.2.2.2.1 ||| 1 <<< (nI k &&& 31)); rw [Nat.zero_add] at h0; exact h0
  refine ar_aload_n (pc' := 45) hM rfl rfl rfl ?_
  refine ar_iconst (x := 0) (pc' := 46) hM rfl (by decide) rfl ?_
  refine ar_virtual (pc' := 49) (k3 := 0) (k4 := 0) hM rfl rfl (am_gn (by decide) (am_gs (am_gn (by decide) hm))) ⟨rfl, (by decide)⟩ rfl rfl (d_lay T (am_gn (by decide) (am_gs (am_gn (by decide) hm))) (am_gn (by decide) (am_gn (by decide) (am_gn (by decide) h134))) (am_gn (by decide) (am_gn (by decide) (am_gn (by decide) h135))) (am_gn (by decide) (am_gn (by decide) (am_gn (by decide) h136))) (am_gn (by decide) (am_gn (by decide) (am_gn (by decide) h137))) (am_gs (am_gn (by decide) (am_gn (by decide) h138))) (am_gn (by decide) (am_gn (by decide) (am_gn (by decide) h142))) hT 0 (by omega) (m_salt S (nI k)) hvT (show v_S T.2.2.1 (m_salt S (nI k)) from hvS) (by simpa using hS2)) (fun r46 w46 q46 => ?_)
  obtain ⟨td3, rfl, q46w, hY3⟩ := q46
  rw [q46w]
  show am_Go 131 (49, [.ref 133, .int (nI k)], [], ((((w.set 143 (.inl (0, 294, .inl rw1))).set 133 (.inr (11, [.int (nI T.2.2.1), .int (nI T.2.2.2.1), .int T.1, .int T.2.1, .ref 134, .ref 135, .ref 136, .ref 137, .ref 138, .ref 139, .ref 140, .int rh, .int rk, .ref 141, .int (nI t.1), .int wh, .int fa, .ref 142, .int 0, .int (nI ((S :: A).take 14).length), .int (nI ((nx + 1) % 14)), .ref 143, .ref 144, .int (nI N.1), .ref 145, .ref 146, .ref 147, .long sd, .ref 148, .ref 149]))).set 138 (.inl (0, 42, .inl (upd nw 18 (S.2.2.2.2.1 ||| (1 <<< ((nI k) &&& 31))))))).set 142 (.inl (0, 36, .inl td3))), 0, 0) _
  refine ar_aload_n (pc' := 50) hM rfl rfl rfl ?_
  refine ar_getfield (pc' := 53) hM rfl (am_gn (by decide) (am_gn (by decide) (am_gs (am_gn (by decide) hm)))) rfl rfl ?_
  refine ar_iload_n (pc' := 54) hM rfl rfl rfl ?_
  refine ar_ialoadN (j := k) (pc' := 55) hM rfl (am_gs (am_gn (by decide) (am_gn (by decide) (am_gn (by decide) h142)))) rfl (by omega) (Nat.le_of_ble_eq_true rfl) rfl ?_
  rw [show (td3 k : Int32) = m_wt T (m_salt S (nI k)) 0 k from (hY3 k hk).1]
  refine ar_ireturn hM rfl (Or.inl rfl) ?_
  exact ⟨rfl, ⟨_, _, _, _, _, _, _, _, _, _, _, _, _, _, _, _, _, _, _, _, _, (am_gn (by decide) (am_gn (by decide) (am_gs (am_gn (by decide) hm)))), (am_gn (by decide) (am_gn (by decide) (am_gn (by decide) (am_gn (by decide) h134)))), (am_gn (by decide) (am_gn (by decide) (am_gn (by decide) (am_gn (by decide) h135)))), (am_gn (by decide) (am_gn (by decide) (am_gn (by decide) (am_gn (by decide) h136)))), (am_gn (by decide) (am_gn (by decide) (am_gn (by decide) (am_gn (by decide) h137)))), (am_gn (by decide) (am_gs (am_gn (by decide) (am_gn (by decide) h138)))), (am_gn (by decide) (am_gn (by decide) (am_gn (by decide) (am_gn (by decide) h139)))), (am_gn (by decide) (am_gn (by decide) (am_gn (by decide) (am_gn (by decide) h140)))), (am_gn (by decide) (am_gn (by decide) (am_gn (by decide) (am_gn (by decide) h141)))), (am_gs (am_gn (by decide) (am_gn (by decide) (am_gn (by decide) h142)))), (am_gn (by decide) (am_gn (by decide) (am_gn (by decide) (am_gs h143)))), (am_gn (by decide) (am_gn (by decide) (am_gn (by decide) (am_gn (by decide) h144)))), (am_gn (by decide) (am_gn (by decide) (am_gn (by decide) (am_gn (by decide) h145)))), (am_gn (by decide) (am_gn (by decide) (am_gn (by decide) (am_gn (by decide) h146)))), (am_gn (by decide) (am_gn (by decide) (am_gn (by decide) (am_gn (by decide) h147)))), (am_gn (by decide) (am_gn (by decide) (am_gn (by decide) (am_gn (by decide) h148)))), (am_gn (by decide) (am_gn (by decide) (am_gn (by decide) (am_gn (by decide) h149)))), ⟨ht40, hN6⟩, hT, hS2, htx, hA1, hK, hN⟩, (am_same.set (am_same.set (am_same.set (am_same.set am_same.rf (by unfold rg; omega)) (by unfold rg; omega)) (by unfold rg; omega)) (by unfold rg; omega))⟩
set_option maxRecDepth 100000 in
set_option maxHeartbeats 4000000 in
theorem e_awayN (w : am_W) (t : Nat × (Nat → Int32)) (T : p_D) (S : s_S) (A : List s_S) (K : Nat → Option s_S) (N : x_N) (sd : Int64) (d : Nat) (hd : d ≤ 1000) (hv : v_W d T S A K) (hW : d_W w t T S A K N sd) (h : Int32) (hh : ¬ i_H T.2.2.1 h) : am_Go 132 (0, [.ref 133, .int h], [], w, 0, 0) (fun res w' => res = some (.int (-1)) ∧ d_W w' t T S A K N sd ∧ am_same (rg 133 17) w w') := by
  have hM : am_P[132]? = some zm_X11_away := rfl
  have hn6 : T.2.2.1 ≤ 6 := hv.1.1.1
  have hvT := hv.1.1
  have hvS := hv.2.1.1
  have hdy := hv.2.1.2.1
  obtain ⟨rh, rk, wh, fa, nx, ne, ki, ba, he, nw, rH, rT, tx, td, rw_, oo, s1, s2, s3, ik, kp, hm, h134, h135, h136, h137, h138, h139, h140, h141, h142, h143, h144, h145, h146, h147, h148, h149, ⟨ht40, hN6⟩, hT, hS, htx, hA, hK, hN⟩ := hW
  have hnx := hA.1
  have hal := hA.2.1
  refine ar_aload_n (pc' := 1) hM rfl rfl rfl ?_
  refine ar_iload_n (pc' := 2) hM rfl rfl rfl ?_
  refine ar_virtual (pc' := 5) (k3 := 0) (k4 := 0) hM rfl rfl hm ⟨rfl, (by decide)⟩ rfl rfl (by have h0 := d_isH (w := w) T hm h; rw [if_neg (fun q => hh ((i_H_iff hn6 _).mp q))] at h0; exact h0) (fun r2 w2 q2 => ?_)
  obtain ⟨rfl, q2w⟩ := q2
  rw [q2w]
  show am_Go 132 (5, [.ref 133, .int h], [.int 0], w, 0, 0) _
  refine ar_if_ne (pc' := 8) hM rfl rfl (fun q => absurd (by decide) q) (fun _ => ?_)
  refine ar_iconst (x := (-1)) (pc' := 9) hM rfl (by decide) rfl ?_
  refine ar_ireturn hM rfl (Or.inl rfl) ?_
  exact ⟨rfl, ⟨_, _, _, _, _, _, _, _, _, _, _, _, _, _, _, _, _, _, _, _, _, hm, h134, h135, h136, h137, h138, h139, h140, h141, h142, h143, h144, h145, h146, h147, h148, h149, ⟨ht40, hN6⟩, hT, hS, htx, hA, hK, hN⟩, am_same.rf⟩
set_option maxRecDepth 100000 in
set_option maxHeartbeats 4000000 in
theorem e_away (w : am_W) (t : Nat × (Nat → Int32)) (T : p_D) (S : s_S) (A : List s_S) (K : Nat → Option s_S) (N : x_N) (sd : Int64) (d : Nat) (hd : d ≤ 1000) (hv : v_W d T S A K) (hW : d_W w t T S A K N sd) (k : Nat) (hk : k < T.2.2.1) : am_Go 132 (0, [.ref 133, .int (nI k)], [], w, 0, 0) (fun res w' => res = some (.int (if ((m_away S (nI k)).2.2.2.2.2.1 >>> (nI k &&& 31)) &&& 1 = 1 then 1 else 0)) ∧ d_W w' t T (m_away S (nI k)) ((S :: A).take 14) K N sd ∧ am_same (rg 133 17) w w') := by
  have hM : am_P[132]? = some zm_X11_away := rfl
  have hn6 : T.2.2.1 ≤ 6 := hv.1.1.1
  have hvT := hv.1.1
  have hvS := hv.2.1.1
  have hdy := hv.2.1.2.1
  obtain ⟨rh, rk, wh, fa, nx, ne, ki, ba, he, nw, rH, rT, tx, td, rw_, oo, s1, s2, s3, ik, kp, hm, h134, h135, h136, h137, h138, h139, h140, h141, h142, h143, h144, h145, h146, h147, h148, h149, ⟨ht40, hN6⟩, hT, hS, htx, hA, hK, hN⟩ := hW
  have hnx := hA.1
  have hal := hA.2.1
  refine ar_aload_n (pc' := 1) hM rfl rfl rfl ?_
  refine ar_iload_n (pc' := 2) hM rfl rfl rfl ?_
  refine ar_virtual (pc' := 5) (k3 := 0) (k4 := 0) hM rfl rfl hm ⟨rfl, (by decide)⟩ rfl rfl (by have h0 := d_isH (w := w) T hm (nI k); rw [if_pos ((i_H_iff hn6 _).mpr ⟨k, hk, rfl⟩)] at h0; exact h0) (fun r2 w2 q2 => ?_)
  obtain ⟨rfl, q2w⟩ := q2
  rw [q2w]
  show am_Go 132 (5, [.ref 133, .int (nI k)], [.int 1], w, 0, 0) _
  refine ar_if_ne (pc' := 8) hM rfl rfl (fun _ => ?_) (fun q => absurd q (by decide))
  refine ar_aload_n (pc' := 11) hM rfl rfl rfl ?_
  refine ar_virtual (pc' := 14) (k3 := 0) (k4 := 0) hM rfl rfl hm ⟨rfl, (by decide)⟩ rfl rfl (d_keepA T hm h138 h143 rfl hn6 S hS hA) (fun r11 w11 q11 => ?_)
  obtain ⟨rw1, rfl, q11w, hA1⟩ := q11
  rw [q11w]
  show am_Go 132 (14, [.ref 133, .int (nI k)], [], ((w.set 143 (.inl (0, 294, .inl rw1))).set 133 (.inr (11, [.int (nI T.2.2.1), .int (nI T.2.2.2.1), .int T.1, .int T.2.1, .ref 134, .ref 135, .ref 136, .ref 137, .ref 138, .ref 139, .ref 140, .int rh, .int rk, .ref 141, .int (nI t.1), .int wh, .int fa, .ref 142, .int 0, .int (nI ((S :: A).take 14).length), .int (nI ((nx + 1) % 14)), .ref 143, .ref 144, .int (nI N.1), .ref 145, .ref 146, .ref 147, .long sd, .ref 148, .ref 149]))), 0, 0) _
  refine ar_aload_n (pc' := 15) hM rfl rfl rfl ?_
  refine ar_getfield (pc' := 18) hM rfl (am_gs (am_gn (by decide) hm)) rfl rfl ?_
  refine ar_bipush (x := 19) (pc' := 20) hM rfl (by decide) rfl ?_
  refine ar_dup2 (pc' := 21) hM rfl rfl rfl rfl ?_
  refine ar_ialoadN (j := 19) (pc' := 22) hM rfl (am_gn (by decide) (am_gn (by decide) h138)) (by decide) (by omega) (Nat.le_of_ble_eq_true rfl) rfl ?_
  rw [show (nw 19 : Int32) = S.2.2.2.2.2.1 from (by have h0 := hS.2.2.1; rw [Nat.zero_add] at h0; exact h0)]
  refine ar_iconst (x := 1) (pc' := 23) hM rfl (by decide) rfl ?_
  refine ar_iload_n (pc' := 24) hM rfl rfl rfl ?_
  refine ar_ishl (pc' := 25) hM rfl rfl ?_
  refine ar_ixor (pc' := 26) hM rfl rfl ?_
  refine ar_iastoreN (j := 19) (pc' := 27) hM rfl (am_gn (by decide) (am_gn (by decide) h138)) (by decide) (by omega) (Nat.le_of_ble_eq_true rfl) (by decide) rfl ?_
  have hS2 : d_S (upd nw 19 (S.2.2.2.2.2.1 ^^^ 1 <<< (nI k &&& 31))) 0 T.2.2.1 (m_away S (nI k)) := by have h0 := d_S_b19 hn6 hS (S.2.2.2.2.2.1 ^^^ 1 <<< (nI k &&& 31)); rw [Nat.zero_add] at h0; exact h0
  refine ar_aload_n (pc' := 28) hM rfl rfl rfl ?_
  refine ar_getfield (pc' := 31) hM rfl (am_gn (by decide) (am_gs (am_gn (by decide) hm))) rfl rfl ?_
  refine ar_bipush (x := 19) (pc' := 33) hM rfl (by decide) rfl ?_
  refine ar_ialoadN (j := 19) (pc' := 34) hM rfl (am_gs (am_gn (by decide) (am_gn (by decide) h138))) (by decide) (by omega) (Nat.le_of_ble_eq_true rfl) rfl ?_
  rw [show ((upd nw 19 (S.2.2.2.2.2.1 ^^^ (1 <<< ((nI k) &&& 31)))) 19 : Int32) = S.2.2.2.2.2.1 ^^^ 1 <<< (nI k &&& 31) from pk_us]
  refine ar_iload_n (pc' := 35) hM rfl rfl rfl ?_
  refine ar_ishr (pc' := 36) hM rfl rfl ?_
  refine ar_iconst (x := 1) (pc' := 37) hM rfl (by decide) rfl ?_
  refine ar_iand (pc' := 38) hM rfl rfl ?_
  refine ar_ireturn hM rfl (Or.inl rfl) ?_
  exact ⟨by rw [i_bit01]; rfl, ⟨_, _, _, _, _, _, _, _, _, _, _, _, _, _, _, _, _, _, _, _, _, (am_gn (by decide) (am_gs (am_gn (by decide) hm))), (am_gn (by decide) (am_gn (by decide) (am_gn (by decide) h134))), (am_gn (by decide) (am_gn (by decide) (am_gn (by decide) h135))), (am_gn (by decide) (am_gn (by decide) (am_gn (by decide) h136))), (am_gn (by decide) (am_gn (by decide) (am_gn (by decide) h137))), (am_gs (am_gn (by decide) (am_gn (by decide) h138))), (am_gn (by decide) (am_gn (by decide) (am_gn (by decide) h139))), (am_gn (by decide) (am_gn (by decide) (am_gn (by decide) h140))), (am_gn (by decide) (am_gn (by decide) (am_gn (by decide) h141))), (am_gn (by decide) (am_gn (by decide) (am_gn (by decide) h142))), (am_gn (by decide) (am_gn (by decide) (am_gs h143))), (am_gn (by decide) (am_gn (by decide) (am_gn (by decide) h144))), (am_gn (by decide) (am_gn (by decide) (am_gn (by decide) h145))), (am_gn (by decide) (am_gn (by decide) (am_gn (by decide) h146))), (am_gn (by decide) (am_gn (by decide) (am_gn (by decide) h147))), (am_gn (by decide) (am_gn (by decide) (am_gn (by decide) h148))), (am_gn (by decide) (am_gn (by decide) (am_gn (by decide) h149))), ⟨ht40, hN6⟩, hT, hS2, htx, hA1, hK, hN⟩, (am_same.set (am_same.set (am_same.set am_same.rf (by unfold rg; omega)) (by unfold rg; omega)) (by unfold rg; omega))⟩
