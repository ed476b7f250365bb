/-! the reference whole: undone, days to come, seen, slots, counts -/
theorem i_sum_add (f g : Nat → Int32) : ∀ n, i_sum (fun h => f h + g h) n = i_sum f n + i_sum g n
  | 0 => by show (0 : Int32) = 0 + 0; decide
  | n + 1 => by
    show i_sum (fun h => f h + g h) n + (f n + g n) = (i_sum f n + f n) + (i_sum g n + g n)
    rw [i_sum_add f g n]
    generalize i_sum f n = a
    generalize i_sum g n = b
    generalize f n = c
    generalize g n = e
    grind
theorem m_it_lack (T : p_D) (S : s_S) : ∀ k, i_sum (m_it T S k).2.2.2.1 T.2.2.1 - i_sum S.2.2.2.1 T.2.2.1 = m_tot T S 0 k
  | 0 => Int32.sub_self _
  | k + 1 => by
    show i_sum (fun h => (m_it T S k).2.2.2.1 h + m_lk T (m_it T S k) 0 h) T.2.2.1 - _ = m_tot T S 0 k + i_sum (if (0 : Int32) = 0 then m_lk T (m_it T S k) 0 else m_sp T (m_it T S k) 0) T.2.2.1
    rw [i_sum_add, if_pos rfl, ← m_it_lack T S k]
    generalize i_sum (m_it T S k).2.2.2.1 T.2.2.1 = a
    generalize i_sum (m_lk T (m_it T S k) 0) T.2.2.1 = b
    generalize i_sum S.2.2.2.1 T.2.2.1 = c
    grind
set_option maxRecDepth 100000 in
set_option maxHeartbeats 4000000 in
theorem e_undo0 (w : am_W) (t : Nat × (Nat → Int32)) (T : p_D) (S : s_S) (A : List s_S) (K : Nat → Option s_S) (N : x_N) (sd : Int64) (d : Nat) (hd : d ≤ 1000) (hv : v_W d T S A K) (hW : d_W w t T S A K N sd) (hAe : A = []) : am_Go 133 (0, [.ref 133, .float 0], [], w, 0, 0) (fun res w' => res = some (.int (-3)) ∧ d_W w' t T S A K N sd ∧ am_same (rg 133 17) w w') := by
  have hM : am_P[133]? = some zm_X11_undo := rfl
  have hn6 : T.2.2.1 ≤ 6 := hv.1.1.1
  have hvT := hv.1.1
  have hvS := hv.2.1.1
  have hdy := hv.2.1.2.1
  obtain ⟨rh, rk, wh, fa, nx, ne, ki, ba, he, nw, rH, rT, tx, td, rw_, oo, s1, s2, s3, ik, kp, hm, h134, h135, h136, h137, h138, h139, h140, h141, h142, h143, h144, h145, h146, h147, h148, h149, ⟨ht40, hN6⟩, hT, hS, htx, hA, hK, hN⟩ := hW
  have hnx := hA.1
  have hal := hA.2.1
  refine ar_aload_n (pc' := 1) hM rfl rfl rfl ?_
  refine ar_getfield (pc' := 4) hM rfl hm rfl rfl ?_
  refine ar_if_ne (pc' := 7) hM rfl rfl (fun q => absurd (by rw [hAe]; rfl) q) (fun _ => ?_)
  refine ar_bipush (x := (-3)) (pc' := 9) hM rfl (by decide) rfl ?_
  refine ar_ireturn hM rfl (Or.inl rfl) ?_
  exact ⟨rfl, ⟨_, _, _, _, _, _, _, _, _, _, _, _, _, _, _, _, _, _, _, _, _, hm, h134, h135, h136, h137, h138, h139, h140, h141, h142, h143, h144, h145, h146, h147, h148, h149, ⟨ht40, hN6⟩, hT, hS, htx, hA, hK, hN⟩, am_same.rf⟩
set_option maxRecDepth 100000 in
set_option maxHeartbeats 4000000 in
theorem e_undo (w : am_W) (t : Nat × (Nat → Int32)) (T : p_D) (S : s_S) (A : List s_S) (K : Nat → Option s_S) (N : x_N) (sd : Int64) (d : Nat) (hd : d ≤ 1000) (hv : v_W d T S A K) (hW : d_W w t T S A K N sd) (S0 : s_S) (B : List s_S) (hAe : A = S0 :: B) : am_Go 133 (0, [.ref 133, .float 0], [], w, 0, 0) (fun res w' => res = some (.int (nI B.length)) ∧ d_W w' t T S0 B K N sd ∧ am_same (rg 133 17) w w') := by
  have hM : am_P[133]? = some zm_X11_undo := rfl
  have hn6 : T.2.2.1 ≤ 6 := hv.1.1.1
  have hvT := hv.1.1
  have hvS := hv.2.1.1
  have hdy := hv.2.1.2.1
  obtain ⟨rh, rk, wh, fa, nx, ne, ki, ba, he, nw, rH, rT, tx, td, rw_, oo, s1, s2, s3, ik, kp, hm, h134, h135, h136, h137, h138, h139, h140, h141, h142, h143, h144, h145, h146, h147, h148, h149, ⟨ht40, hN6⟩, hT, hS, htx, hA, hK, hN⟩ := hW
  have hnx := hA.1
  have hal := hA.2.1
  subst hAe
  have hpop := d_A_pop hA
  have hbl : B.length + 1 ≤ 14 := hal
  refine ar_aload_n (pc' := 1) hM rfl rfl rfl ?_
  refine ar_getfield (pc' := 4) hM rfl hm rfl rfl ?_
  refine ar_if_ne (pc' := 7) hM rfl rfl (fun _ => ?_) (fun q => absurd q (nI_ne0 (n := B.length + 1) (by omega) (by omega)))
  refine ar_aload_n (pc' := 11) hM rfl rfl rfl ?_
  refine ar_dup (pc' := 12) hM rfl rfl rfl ?_
  refine ar_getfield (pc' := 15) hM rfl hm rfl rfl ?_
  refine ar_iconst (x := 1) (pc' := 16) hM rfl (by decide) rfl ?_
  refine ar_isub (pc' := 17) hM rfl rfl ?_
  rw [show ((nI (S0 :: B).length) - 1 : Int32) = nI B.length from (nI_pred B.length)]
  refine ar_putfield (pc' := 20) hM rfl hm (Nat.le_of_ble_eq_true rfl) rfl (by decide) rfl ?_
  show am_Go 133 (20, [.ref 133, .float 0], [], (w.set 133 (.inr (11, [.int (nI T.2.2.1), .int (nI T.2.2.2.1), .int T.1, .int T.2.1, .ref 134, .ref 135, .ref 136, .ref 137, .ref 138, .ref 139, .ref 140, .int rh, .int rk, .ref 141, .int (nI t.1), .int wh, .int fa, .ref 142, .int 0, .int (nI B.length), .int (nI nx), .ref 143, .ref 144, .int (nI N.1), .ref 145, .ref 146, .ref 147, .long sd, .ref 148, .ref 149]))), 0, 0) _
  refine ar_aload_n (pc' := 21) hM rfl rfl rfl ?_
  refine ar_aload_n (pc' := 22) hM rfl rfl rfl ?_
  refine ar_getfield (pc' := 25) hM rfl (am_gs hm) rfl rfl ?_
  refine ar_bipush (x := 13) (pc' := 27) hM rfl (by decide) rfl ?_
  refine ar_iadd (pc' := 28) hM rfl rfl ?_
  rw [show ((nI nx) + 13 : Int32) = nI (nx + 13) from nI_add nx 13]
  refine ar_bipush (x := 14) (pc' := 30) hM rfl (by decide) rfl ?_
  refine ar_irem (pc' := 31) hM rfl (by decide) rfl ?_
  rw [show ((nI (nx + 13)) - (nI (nx + 13)) / 14 * 14 : Int32) = nI ((nx + 13) % 14) from (pk_rem (d := 14) (by omega) (by decide) (by decide))]
  refine ar_putfield (pc' := 34) hM rfl (am_gs hm) (Nat.le_of_ble_eq_true rfl) rfl (by decide) rfl ?_
  show am_Go 133 (34, [.ref 133, .float 0], [], ((w.set 133 (.inr (11, [.int (nI T.2.2.1), .int (nI T.2.2.2.1), .int T.1, .int T.2.1, .ref 134, .ref 135, .ref 136, .ref 137, .ref 138, .ref 139, .ref 140, .int rh, .int rk, .ref 141, .int (nI t.1), .int wh, .int fa, .ref 142, .int 0, .int (nI B.length), .int (nI nx), .ref 143, .ref 144, .int (nI N.1), .ref 145, .ref 146, .ref 147, .long sd, .ref 148, .ref 149]))).set 133 (.inr (11, [.int (nI T.2.2.1), .int (nI T.2.2.2.1), .int T.1, .int T.2.1, .ref 134, .ref 135, .ref 136, .ref 137, .ref 138, .ref 139, .ref 140, .int rh, .int rk, .ref 141, .int (nI t.1), .int wh, .int fa, .ref 142, .int 0, .int (nI B.length), .int (nI ((nx + 13) % 14)), .ref 143, .ref 144, .int (nI N.1), .ref 145, .ref 146, .ref 147, .long sd, .ref 148, .ref 149]))), 0, 0) _
  rw [show ((w.set 133 (.inr (11, [.int (nI T.2.2.1), .int (nI T.2.2.2.1), .int T.1, .int T.2.1, .ref 134, .ref 135, .ref 136, .ref 137, .ref 138, .ref 139, .ref 140, .int rh, .int rk, .ref 141, .int (nI t.1), .int wh, .int fa, .ref 142, .int 0, .int (nI B.length), .int (nI nx), .ref 143, .ref 144, .int (nI N.1), .ref 145, .ref 146, .ref 147, .long sd, .ref 148, .ref 149]))).set 133 (.inr (11, [.int (nI T.2.2.1), .int (nI T.2.2.2.1), .int T.1, .int T.2.1, .ref 134, .ref 135, .ref 136, .ref 137, .ref 138, .ref 139, .ref 140, .int rh, .int rk, .ref 141, .int (nI t.1), .int wh, .int fa, .ref 142, .int 0, .int (nI B.length), .int (nI ((nx + 13) % 14)), .ref 143, .ref 144, .int (nI N.1), .ref 145, .ref 146, .ref 147, .long sd, .ref 148, .ref 149]))) = (w.set 133 (.inr (11, [.int (nI T.2.2.1), .int (nI T.2.2.2.1), .int T.1, .int T.2.1, .ref 134, .ref 135, .ref 136, .ref 137, .ref 138, .ref 139, .ref 140, .int rh, .int rk, .ref 141, .int (nI t.1), .int wh, .int fa, .ref 142, .int 0, .int (nI B.length), .int (nI ((nx + 13) % 14)), .ref 143, .ref 144, .int (nI N.1), .ref 145, .ref 146, .ref 147, .long sd, .ref 148, .ref 149]))) from by rw [List.set_set]]
  refine ar_iconst (x := 0) (pc' := 35) hM rfl (by decide) rfl ?_
  refine ar_istore_n (pc' := 36) hM rfl rfl rfl rfl ?_
  have loop : ∀ (dj j : Nat) (g : Nat → Int32), dj + j = 21 → (∀ k, k < j → g k = rw_ (21 * ((nx + 13) % 14) + k)) → am_Go 133 (36, [.ref 133, .int (nI j)], [], ((w.set 133 (.inr (11, [.int (nI T.2.2.1), .int (nI T.2.2.2.1), .int T.1, .int T.2.1, .ref 134, .ref 135, .ref 136, .ref 137, .ref 138, .ref 139, .ref 140, .int rh, .int rk, .ref 141, .int (nI t.1), .int wh, .int fa, .ref 142, .int 0, .int (nI B.length), .int (nI ((nx + 13) % 14)), .ref 143, .ref 144, .int (nI N.1), .ref 145, .ref 146, .ref 147, .long sd, .ref 148, .ref 149]))).set 138 (.inl (0, 42, .inl g))), 0, 0) (fun res w' => res = some (.int (nI B.length)) ∧ d_W w' t T S0 B K N sd ∧ am_same (rg 133 17) w w') := by
    intro dj
    induction dj with
    | zero =>
      intro j g hj p1
      refine ar_iload_n (pc' := 37) hM rfl rfl rfl ?_
      refine ar_bipush (x := 21) (pc' := 39) hM rfl (by decide) rfl ?_
      refine ar_icmp_ge (pc' := 42) hM rfl rfl (fun _ => ?_) (fun q => absurd (nI_le (a := 21) (b := j) (by omega) (by omega)) q)
      refine ar_aload_n (pc' := 69) hM rfl rfl rfl ?_
      refine ar_getfield (pc' := 72) hM rfl (am_gn (by decide) (am_gs hm)) rfl rfl ?_
      refine ar_ireturn hM rfl (Or.inl rfl) ?_
      exact ⟨rfl, ⟨_, _, _, _, _, _, _, _, _, _, _, _, _, _, _, _, _, _, _, _, _, (am_gn (by decide) (am_gs hm)), (am_gn (by decide) (am_gn (by decide) h134)), (am_gn (by decide) (am_gn (by decide) h135)), (am_gn (by decide) (am_gn (by decide) h136)), (am_gn (by decide) (am_gn (by decide) h137)), (am_gs (am_gn (by decide) h138)), (am_gn (by decide) (am_gn (by decide) h139)), (am_gn (by decide) (am_gn (by decide) h140)), (am_gn (by decide) (am_gn (by decide) h141)), (am_gn (by decide) (am_gn (by decide) h142)), (am_gn (by decide) (am_gn (by decide) h143)), (am_gn (by decide) (am_gn (by decide) h144)), (am_gn (by decide) (am_gn (by decide) h145)), (am_gn (by decide) (am_gn (by decide) h146)), (am_gn (by decide) (am_gn (by decide) h147)), (am_gn (by decide) (am_gn (by decide) h148)), (am_gn (by decide) (am_gn (by decide) h149)), ⟨ht40, hN6⟩, hT, (hpop.2.cg hn6 (fun k hk => by rw [Nat.zero_add]; exact p1 k (by omega))), htx, hpop.1, hK, hN⟩, (am_same.set (am_same.set am_same.rf (by unfold rg; omega)) (by unfold rg; omega))⟩
    | succ dj ih =>
      intro j g hj p1
      refine ar_iload_n (pc' := 37) hM rfl rfl rfl ?_
      refine ar_bipush (x := 21) (pc' := 39) hM rfl (by decide) rfl ?_
      refine ar_icmp_ge (pc' := 42) hM rfl rfl (fun q => absurd q (nI_ge (a := j) (b := 21) (by omega) (by omega))) (fun _ => ?_)
      refine ar_aload_n (pc' := 43) hM rfl rfl rfl ?_
      refine ar_getfield (pc' := 46) hM rfl (am_gn (by decide) (am_gs hm)) rfl rfl ?_
      refine ar_iload_n (pc' := 47) hM rfl rfl rfl ?_
      refine ar_aload_n (pc' := 48) hM rfl rfl rfl ?_
      refine ar_getfield (pc' := 51) hM rfl (am_gn (by decide) (am_gs hm)) rfl rfl ?_
      refine ar_bipush (x := 21) (pc' := 53) hM rfl (by decide) rfl ?_
      refine ar_aload_n (pc' := 54) hM rfl rfl rfl ?_
      refine ar_getfield (pc' := 57) hM rfl (am_gn (by decide) (am_gs hm)) rfl rfl ?_
      refine ar_imul (pc' := 58) hM rfl rfl ?_
      rw [show (21 * (nI ((nx + 13) % 14)) : Int32) = nI (21 * ((nx + 13) % 14)) from pk_mul 21 ((nx + 13) % 14)]
      refine ar_iload_n (pc' := 59) hM rfl rfl rfl ?_
      refine ar_iadd (pc' := 60) hM rfl rfl ?_
      rw [show ((nI (21 * ((nx + 13) % 14))) + (nI j) : Int32) = nI ((21 * ((nx + 13) % 14)) + j) from nI_add (21 * ((nx + 13) % 14)) j]
      refine ar_ialoadN (j := ((21 * ((nx + 13) % 14)) + j)) (pc' := 61) hM rfl (am_gn (by decide) (am_gn (by decide) h143)) rfl (by omega) (Nat.le_of_ble_eq_true rfl) rfl ?_
      refine ar_iastoreN (j := j) (pc' := 62) hM rfl (am_gs (am_gn (by decide) h138)) rfl (by omega) (Nat.le_of_ble_eq_true rfl) (by decide) rfl ?_
      refine ar_iinc (z := nI (j + 1)) (pc' := 65) hM rfl rfl (nI_1 _) rfl rfl rfl ?_
      refine ar_goto hM rfl ?_
      rw [show (((w.set 133 (.inr (11, [.int (nI T.2.2.1), .int (nI T.2.2.2.1), .int T.1, .int T.2.1, .ref 134, .ref 135, .ref 136, .ref 137, .ref 138, .ref 139, .ref 140, .int rh, .int rk, .ref 141, .int (nI t.1), .int wh, .int fa, .ref 142, .int 0, .int (nI B.length), .int (nI ((nx + 13) % 14)), .ref 143, .ref 144, .int (nI N.1), .ref 145, .ref 146, .ref 147, .long sd, .ref 148, .ref 149]))).set 138 (.inl (0, 42, .inl g))).set 138 (.inl (0, 42, .inl (upd g j (rw_ ((21 * ((nx + 13) % 14)) + j)))))) = ((w.set 133 (.inr (11, [.int (nI T.2.2.1), .int (nI T.2.2.2.1), .int T.1, .int T.2.1, .ref 134, .ref 135, .ref 136, .ref 137, .ref 138, .ref 139, .ref 140, .int rh, .int rk, .ref 141, .int (nI t.1), .int wh, .int fa, .ref 142, .int 0, .int (nI B.length), .int (nI ((nx + 13) % 14)), .ref 143, .ref 144, .int (nI N.1), .ref 145, .ref 146, .ref 147, .long sd, .ref 148, .ref 149]))).set 138 (.inl (0, 42, .inl (upd g j (rw_ ((21 * ((nx + 13) % 14)) + j)))))) from by rw [List.set_set]]
      exact ih (j + 1) (upd g j (rw_ (21 * ((nx + 13) % 14) + j))) (by omega) (fun k hk => by
          rcases Nat.lt_or_ge k j with q | q
          · rw [pk_un (by omega)]; exact p1 k q
          · rw [show k = j by omega, pk_us])
  have hl0 := loop (21) 0 nw (by omega) (fun k hk => absurd hk (by omega))
  rw [am_si (am_gn (by decide) h138)] at hl0
  exact hl0
set_option maxRecDepth 100000 in
set_option maxHeartbeats 4000000 in
theorem e_seed (w : am_W) (t : Nat × (Nat → Int32)) (T : p_D) (S : s_S) (A : List s_S) (K : Nat → Option s_S) (N : x_N) (sd : Int64) (d : Nat) (hd : d ≤ 1000) (hv : v_W d T S A K) (hW : d_W w t T S A K N sd) (v : Int64) : am_Go 158 (0, [.ref 133, .long v, .float 0, .float 0, .float 0], [], w, 0, 0) (fun res w' => res = some (.long sd) ∧ d_W w' t T S A K N v ∧ am_same (rg 133 17) w w') := by
  have hM : am_P[158]? = some zm_X11_seed := rfl
  have hn6 : T.2.2.1 ≤ 6 := hv.1.1.1
  have hvT := hv.1.1
  have hvS := hv.2.1.1
  have hdy := hv.2.1.2.1
  obtain ⟨rh, rk, wh, fa, nx, ne, ki, ba, he, nw, rH, rT, tx, td, rw_, oo, s1, s2, s3, ik, kp, hm, h134, h135, h136, h137, h138, h139, h140, h141, h142, h143, h144, h145, h146, h147, h148, h149, ⟨ht40, hN6⟩, hT, hS, htx, hA, hK, hN⟩ := hW
  have hnx := hA.1
  have hal := hA.2.1
  refine ar_aload_n (pc' := 1) hM rfl rfl rfl ?_
  refine ar_getfield (pc' := 4) hM rfl hm rfl rfl ?_
  refine ar_lstore_n (pc' := 5) hM rfl rfl rfl rfl ?_
  refine ar_aload_n (pc' := 6) hM rfl rfl rfl ?_
  refine ar_lload_n (pc' := 7) hM rfl rfl rfl ?_
  refine ar_putfield (pc' := 10) hM rfl hm (Nat.le_of_ble_eq_true rfl) rfl (by decide) rfl ?_
  show am_Go 158 (10, [.ref 133, .long v, .float 0, .long sd, .float 0], [], (w.set 133 (.inr (11, [.int (nI T.2.2.1), .int (nI T.2.2.2.1), .int T.1, .int T.2.1, .ref 134, .ref 135, .ref 136, .ref 137, .ref 138, .ref 139, .ref 140, .int rh, .int rk, .ref 141, .int (nI t.1), .int wh, .int fa, .ref 142, .int 0, .int (nI A.length), .int (nI nx), .ref 143, .ref 144, .int (nI N.1), .ref 145, .ref 146, .ref 147, .long v, .ref 148, .ref 149]))), 0, 0) _
  refine ar_lload_n (pc' := 11) hM rfl rfl rfl ?_
  refine ar_lreturn hM rfl ?_
  exact ⟨rfl, ⟨_, _, _, _, _, _, _, _, _, _, _, _, _, _, _, _, _, _, _, _, _, (am_gs hm), (am_gn (by decide) h134), (am_gn (by decide) h135), (am_gn (by decide) h136), (am_gn (by decide) h137), (am_gn (by decide) h138), (am_gn (by decide) h139), (am_gn (by decide) h140), (am_gn (by decide) h141), (am_gn (by decide) h142), (am_gn (by decide) h143), (am_gn (by decide) h144), (am_gn (by decide) h145), (am_gn (by decide) h146), (am_gn (by decide) h147), (am_gn (by decide) h148), (am_gn (by decide) h149), ⟨ht40, hN6⟩, hT, hS, htx, hA, hK, hN⟩, (am_same.set am_same.rf (by unfold rg; omega))⟩
set_option maxRecDepth 100000 in
set_option maxHeartbeats 4000000 in
theorem e_aheadO (w : am_W) (t : Nat × (Nat → Int32)) (T : p_D) (S : s_S) (A : List s_S) (K : Nat → Option s_S) (N : x_N) (sd : Int64) (d : Nat) (hd : d ≤ 1000) (hv : v_W d T S A K) (hW : d_W w t T S A K N sd) (a b : Int32) (hno : ¬ ((0 ≤ a ∧ a ≤ 20) ∧ 0 ≤ b ∧ b ≤ 1)) : am_Go 135 (0, [.ref 133, .int a, .int b, .float 0, .float 0], [], w, 0, 0) (fun res w' => res = some (.int (-2)) ∧ d_W w' t T S A K N sd ∧ am_same (rg 133 17) w w') := by
  have hM : am_P[135]? = some zm_X11_ahead := rfl
  have hn6 : T.2.2.1 ≤ 6 := hv.1.1.1
  have hvT := hv.1.1
  have hvS := hv.2.1.1
  have hdy := hv.2.1.2.1
  obtain ⟨rh, rk, wh, fa, nx, ne, ki, ba, he, nw, rH, rT, tx, td, rw_, oo, s1, s2, s3, ik, kp, hm, h134, h135, h136, h137, h138, h139, h140, h141, h142, h143, h144, h145, h146, h147, h148, h149, ⟨ht40, hN6⟩, hT, hS, htx, hA, hK, hN⟩ := hW
  have hnx := hA.1
  have hal := hA.2.1
  refine ar_iload_n (pc' := 1) hM rfl rfl rfl ?_
  refine ar_i2l (pc' := 2) hM rfl rfl ?_
  refine ar_lconst (x := 0) (pc' := 3) hM rfl (by decide) rfl ?_
  refine ar_ldc2_w (x := 20) (pc' := 6) hM rfl (by decide) rfl ?_
  refine ar_static (pc' := 9) (k3 := 0) (k4 := 0) hM rfl (by decide) rfl rfl (d_in _ a 0 20 _ _ (by decide) (by decide)) (fun r6 w6 q6 => ?_)
  obtain ⟨rfl, q6w⟩ := q6
  rw [q6w]
  show am_Go 135 (9, [.ref 133, .int a, .int b, .float 0, .float 0], [.int (if 0 ≤ a ∧ a ≤ 20 then 1 else 0)], w, 0, 0) _
  refine ar_if_eq (pc' := 12) hM rfl rfl (fun c9 => ?_) (fun c9 => ?_)
  · refine ar_bipush (x := (-2)) (pc' := 24) hM rfl (by decide) rfl ?_
    refine ar_ireturn hM rfl (Or.inl rfl) ?_
    exact ⟨rfl, ⟨_, _, _, _, _, _, _, _, _, _, _, _, _, _, _, _, _, _, _, _, _, hm, h134, h135, h136, h137, h138, h139, h140, h141, h142, h143, h144, h145, h146, h147, h148, h149, ⟨ht40, hN6⟩, hT, hS, htx, hA, hK, hN⟩, am_same.rf⟩
  · refine ar_iload_n (pc' := 13) hM rfl rfl rfl ?_
    refine ar_i2l (pc' := 14) hM rfl rfl ?_
    refine ar_lconst (x := 0) (pc' := 15) hM rfl (by decide) rfl ?_
    refine ar_lconst (x := 1) (pc' := 16) hM rfl (by decide) rfl ?_
    refine ar_static (pc' := 19) (k3 := 0) (k4 := 0) hM rfl (by decide) rfl rfl (d_in _ b 0 1 _ _ (by decide) (by decide)) (fun r16 w16 q16 => ?_)
    obtain ⟨rfl, q16w⟩ := q16
    rw [q16w]
    show am_Go 135 (19, [.ref 133, .int a, .int b, .float 0, .float 0], [.int (if 0 ≤ b ∧ b ≤ 1 then 1 else 0)], w, 0, 0) _
    refine ar_if_ne (pc' := 22) hM rfl rfl (fun c19 => ?_) (fun c19 => ?_)
    · exact absurd ⟨am_ne0 c9, am_ne0 c19⟩ hno
    · refine ar_bipush (x := (-2)) (pc' := 24) hM rfl (by decide) rfl ?_
      refine ar_ireturn hM rfl (Or.inl rfl) ?_
      exact ⟨rfl, ⟨_, _, _, _, _, _, _, _, _, _, _, _, _, _, _, _, _, _, _, _, _, hm, h134, h135, h136, h137, h138, h139, h140, h141, h142, h143, h144, h145, h146, h147, h148, h149, ⟨ht40, hN6⟩, hT, hS, htx, hA, hK, hN⟩, am_same.rf⟩
set_option maxRecDepth 100000 in
set_option maxHeartbeats 4000000 in
theorem e_ahead0 (w : am_W) (t : Nat × (Nat → Int32)) (T : p_D) (S : s_S) (A : List s_S) (K : Nat → Option s_S) (N : x_N) (sd : Int64) (d : Nat) (hd : d ≤ 1000) (hv : v_W d T S A K) (hW : d_W w t T S A K N sd) (k : Nat) (hk : k ≤ 20) : am_Go 135 (0, [.ref 133, .int (nI k), .int 0, .float 0, .float 0], [], w, 0, 0) (fun res w' => res = some (.int (m_tot T S 0 k)) ∧ d_W w' t T S A K N sd ∧ am_same (rg 133 17) w w') := by
  have hM : am_P[135]? = some zm_X11_ahead := rfl
  have hn6 : T.2.2.1 ≤ 6 := hv.1.1.1
  have hvT := hv.1.1
  have hvS := hv.2.1.1
  have hdy := hv.2.1.2.1
  obtain ⟨rh, rk, wh, fa, nx, ne, ki, ba, he, nw, rH, rT, tx, td, rw_, oo, s1, s2, s3, ik, kp, hm, h134, h135, h136, h137, h138, h139, h140, h141, h142, h143, h144, h145, h146, h147, h148, h149, ⟨ht40, hN6⟩, hT, hS, htx, hA, hK, hN⟩ := hW
  have hnx := hA.1
  have hal := hA.2.1
  refine ar_iload_n (pc' := 1) hM rfl rfl rfl ?_
  refine ar_i2l (pc' := 2) hM rfl rfl ?_
  refine ar_lconst (x := 0) (pc' := 3) hM rfl (by decide) rfl ?_
  refine ar_ldc2_w (x := 20) (pc' := 6) hM rfl (by decide) rfl ?_
  refine ar_static (pc' := 9) (k3 := 0) (k4 := 0) hM rfl (by decide) rfl rfl (by have h0 := d_in w (nI k) 0 20 0 20 (by decide) (by decide); rw [if_pos ⟨nI_le (a := 0) (by omega) (by omega), nI_le (b := 20) (by omega) (by omega)⟩] at h0; exact h0) (fun r6 w6 q6 => ?_)
  obtain ⟨rfl, q6w⟩ := q6
  rw [q6w]
  show am_Go 135 (9, [.ref 133, .int (nI k), .int 0, .float 0, .float 0], [.int 1], w, 0, 0) _
  refine ar_if_eq (pc' := 12) hM rfl rfl (fun q => absurd q (by decide)) (fun _ => ?_)
  refine ar_iload_n (pc' := 13) hM rfl rfl rfl ?_
  refine ar_i2l (pc' := 14) hM rfl rfl ?_
  refine ar_lconst (x := 0) (pc' := 15) hM rfl (by decide) rfl ?_
  refine ar_lconst (x := 1) (pc' := 16) hM rfl (by decide) rfl ?_
  refine ar_static (pc' := 19) (k3 := 0) (k4 := 0) hM rfl (by decide) rfl rfl (by have h0 := d_in w 0 0 1 0 1 (by decide) (by decide); rw [if_pos (by decide)] at h0; exact h0) (fun r16 w16 q16 => ?_)
  obtain ⟨rfl, q16w⟩ := q16
  rw [q16w]
  show am_Go 135 (19, [.ref 133, .int (nI k), .int 0, .float 0, .float 0], [.int 1], w, 0, 0) _
  refine ar_if_ne (pc' := 22) hM rfl rfl (fun _ => ?_) (fun q => absurd q (by decide))
  refine ar_aload_n (pc' := 26) hM rfl rfl rfl ?_
  refine ar_virtual (pc' := 29) (k3 := 0) (k4 := 0) hM rfl rfl hm ⟨rfl, (by decide)⟩ rfl rfl (d_trial T hm h138) (fun r26 w26 q26 => ?_)
  obtain ⟨nw1, rfl, q26w, hl1, hh1⟩ := q26
  rw [q26w]
  show am_Go 135 (29, [.ref 133, .int (nI k), .int 0, .float 0, .float 0], [], (w.set 138 (.inl (0, 42, .inl nw1))), 0, 0) _
  refine ar_iconst (x := 0) (pc' := 30) hM rfl (by decide) rfl ?_
  refine ar_istore_n (pc' := 31) hM rfl rfl rfl rfl ?_
  refine ar_iconst (x := 0) (pc' := 32) hM rfl (by decide) rfl ?_
  refine ar_istore (pc' := 34) hM rfl rfl rfl rfl ?_
  have loop : ∀ (dj j : Nat) (y : Int32) (g : Nat → Int32) (f : Nat → Int32), dj + j = k → (y = m_tot T S 1 j) → (∀ i, i < 21 → g i = nw i) → (d_S g (21 * 1) T.2.2.1 (m_it T S j)) → am_Go 135 (34, [.ref 133, .int (nI k), .int 0, .int y, .int (nI j)], [], ((w.set 138 (.inl (0, 42, .inl g))).set 142 (.inl (0, 36, .inl f))), 0, 0) (fun res w' => res = some (.int (m_tot T S 0 k)) ∧ d_W w' t T S A K N sd ∧ am_same (rg 133 17) w w') := by
    intro dj
    induction dj with
    | zero =>
      intro j y g f hj hy q1 q2
      refine ar_iload (pc' := 36) hM rfl rfl rfl ?_
      refine ar_iload_n (pc' := 37) hM rfl rfl rfl ?_
      refine ar_icmp_ge (pc' := 40) hM rfl rfl (fun _ => ?_) (fun q => absurd (nI_le (a := k) (b := j) (by omega) (by omega)) q)
      refine ar_iload_n (pc' := 61) hM rfl rfl rfl ?_
      refine ar_if_ne (pc' := 64) hM rfl rfl (fun q => absurd rfl q) (fun _ => ?_)
      refine ar_aload_n (pc' := 65) hM rfl rfl rfl ?_
      refine ar_iconst (x := 1) (pc' := 66) hM rfl (by decide) rfl ?_
      refine ar_virtual (pc' := 69) (k3 := 0) (k4 := 0) hM rfl rfl (am_gn (by decide) (am_gn (by decide) hm)) ⟨rfl, (by decide)⟩ rfl rfl (d_lackedOn T (am_gn (by decide) (am_gn (by decide) hm)) (am_gn (by decide) (am_gs h138)) 1 (by omega) _ hn6 (m_it_v hvS j (by omega)) q2) (fun r66 w66 q66 => ?_)
      obtain ⟨rfl, q66w⟩ := q66
      rw [q66w]
      show am_Go 135 (69, [.ref 133, .int (nI k), .int 0, .int y, .int (nI j)], [.int (i_sum (m_it T S j).2.2.2.1 T.2.2.1)], ((w.set 138 (.inl (0, 42, .inl g))).set 142 (.inl (0, 36, .inl f))), 0, 0) _
      refine ar_aload_n (pc' := 70) hM rfl rfl rfl ?_
      refine ar_iconst (x := 0) (pc' := 71) hM rfl (by decide) rfl ?_
      refine ar_virtual (pc' := 74) (k3 := 0) (k4 := 0) hM rfl rfl (am_gn (by decide) (am_gn (by decide) hm)) ⟨rfl, (by decide)⟩ rfl rfl (d_lackedOn T (am_gn (by decide) (am_gn (by decide) hm)) (am_gn (by decide) (am_gs h138)) 0 (by omega) S hn6 hvS (hS.cg hn6 (fun k hk => by rw [Nat.mul_zero, Nat.zero_add]; exact q1 k hk))) (fun r71 w71 q71 => ?_)
      obtain ⟨rfl, q71w⟩ := q71
      rw [q71w]
      show am_Go 135 (74, [.ref 133, .int (nI k), .int 0, .int y, .int (nI j)], [.int (i_sum S.2.2.2.1 T.2.2.1), .int (i_sum (m_it T S j).2.2.2.1 T.2.2.1)], ((w.set 138 (.inl (0, 42, .inl g))).set 142 (.inl (0, 36, .inl f))), 0, 0) _
      refine ar_isub (pc' := 75) hM rfl rfl ?_
      refine ar_goto hM rfl ?_
      refine ar_ireturn hM rfl (Or.inl rfl) ?_
      exact ⟨by rw [m_it_lack, show j = k by omega], ⟨_, _, _, _, _, _, _, _, _, _, _, _, _, _, _, _, _, _, _, _, _, (am_gn (by decide) (am_gn (by decide) hm)), (am_gn (by decide) (am_gn (by decide) h134)), (am_gn (by decide) (am_gn (by decide) h135)), (am_gn (by decide) (am_gn (by decide) h136)), (am_gn (by decide) (am_gn (by decide) h137)), (am_gn (by decide) (am_gs h138)), (am_gn (by decide) (am_gn (by decide) h139)), (am_gn (by decide) (am_gn (by decide) h140)), (am_gn (by decide) (am_gn (by decide) h141)), (am_gs (am_gn (by decide) h142)), (am_gn (by decide) (am_gn (by decide) h143)), (am_gn (by decide) (am_gn (by decide) h144)), (am_gn (by decide) (am_gn (by decide) h145)), (am_gn (by decide) (am_gn (by decide) h146)), (am_gn (by decide) (am_gn (by decide) h147)), (am_gn (by decide) (am_gn (by decide) h148)), (am_gn (by decide) (am_gn (by decide) h149)), ⟨ht40, hN6⟩, hT, (hS.cg hn6 (fun i hi => by rw [Nat.zero_add]; exact q1 i hi)), htx, hA, hK, hN⟩, (am_same.set (am_same.set am_same.rf (by unfold rg; omega)) (by unfold rg; omega))⟩
    | succ dj ih =>
      intro j y g f hj hy q1 q2
      refine ar_iload (pc' := 36) hM rfl rfl rfl ?_
      refine ar_iload_n (pc' := 37) hM rfl rfl rfl ?_
      refine ar_icmp_ge (pc' := 40) hM rfl rfl (fun q => absurd q (nI_ge (a := j) (b := k) (by omega) (by omega))) (fun _ => ?_)
      refine ar_aload_n (pc' := 41) hM rfl rfl rfl ?_
      refine ar_iconst (x := 1) (pc' := 42) hM rfl (by decide) rfl ?_
      refine ar_virtual (pc' := 45) (k3 := 0) (k4 := 0) hM rfl rfl (am_gn (by decide) (am_gn (by decide) hm)) ⟨rfl, (by decide)⟩ rfl rfl (d_pass T (am_gn (by decide) (am_gn (by decide) hm)) (am_gn (by decide) (am_gn (by decide) h134)) (am_gn (by decide) (am_gn (by decide) h135)) (am_gn (by decide) (am_gn (by decide) h136)) (am_gn (by decide) (am_gn (by decide) h137)) (am_gn (by decide) (am_gs h138)) (am_gs (am_gn (by decide) h142)) hT 1 (by omega) (m_it T S j) hvT (m_it_v hvS j (by omega)) q2) (fun r42 w42 q42 => ?_)
      obtain ⟨td2, nw2, rfl, q42w, hY2, hS2, hnw2⟩ := q42
      rw [q42w]
      show am_Go 135 (45, [.ref 133, .int (nI k), .int 0, .int y, .int (nI j)], [.int (i_sum (m_lk T (m_it T S j) 0) T.2.2.1)], ((((w.set 138 (.inl (0, 42, .inl g))).set 142 (.inl (0, 36, .inl f))).set 142 (.inl (0, 36, .inl td2))).set 138 (.inl (0, 42, .inl nw2))), 0, 0) _
      refine ar_pop (pc' := 46) hM rfl rfl rfl ?_
      refine ar_iload_n (pc' := 47) hM rfl rfl rfl ?_
      refine ar_aload_n (pc' := 48) hM rfl rfl rfl ?_
      refine ar_iconst (x := 5) (pc' := 49) hM rfl (by decide) rfl ?_
      refine ar_virtual (pc' := 52) (k3 := 0) (k4 := 0) hM rfl rfl (am_gn (by decide) (am_gn (by decide) (am_gn (by decide) (am_gn (by decide) hm)))) ⟨rfl, (by decide)⟩ rfl rfl (by have h0 := d_sumOf (w := ((((w.set 138 (.inl (0, 42, .inl g))).set 142 (.inl (0, 36, .inl f))).set 142 (.inl (0, 36, .inl td2))).set 138 (.inl (0, 42, .inl nw2)))) T (am_gn (by decide) (am_gn (by decide) (am_gn (by decide) (am_gn (by decide) hm)))) (am_gn (by decide) (am_gs (am_gs (am_gn (by decide) h142)))) 5 (by omega) hn6; rw [i_sum_congr (fun h hh => (hY2 h hh).2.2.2.2.2)] at h0; exact h0) (fun r49 w49 q49 => ?_)
      obtain ⟨rfl, q49w⟩ := q49
      rw [q49w]
      show am_Go 135 (52, [.ref 133, .int (nI k), .int 0, .int y, .int (nI j)], [.int (i_sum (m_sp T (m_it T S j) 0) T.2.2.1), .int y], ((((w.set 138 (.inl (0, 42, .inl g))).set 142 (.inl (0, 36, .inl f))).set 142 (.inl (0, 36, .inl td2))).set 138 (.inl (0, 42, .inl nw2))), 0, 0) _
      refine ar_iadd (pc' := 53) hM rfl rfl ?_
      refine ar_istore_n (pc' := 54) hM rfl rfl rfl rfl ?_
      refine ar_iinc (z := nI (j + 1)) (pc' := 57) hM rfl rfl (nI_1 _) rfl rfl rfl ?_
      refine ar_goto hM rfl ?_
      rw [show (((w.set 138 (.inl (0, 42, .inl g))).set 142 (.inl (0, 36, .inl f))).set 142 (.inl (0, 36, .inl td2))) = ((w.set 138 (.inl (0, 42, .inl g))).set 142 (.inl (0, 36, .inl td2))) from by rw [List.set_set]]
      rw [show (((w.set 138 (.inl (0, 42, .inl g))).set 142 (.inl (0, 36, .inl td2))).set 138 (.inl (0, 42, .inl nw2))) = ((w.set 138 (.inl (0, 42, .inl nw2))).set 142 (.inl (0, 36, .inl td2))) from by rw [List.set_comm _ _ (show 142 ≠ 138 by decide), List.set_set]]
      exact ih (j + 1) (y + (i_sum (m_sp T (m_it T S j) 0) T.2.2.1)) nw2 td2 (by omega) (by rw [hy]; rfl) (fun i hi => by rw [hnw2 i (by omega)]; exact q1 i hi) (hS2 rfl)
  have hl0 := loop (k) 0 0 nw1 td (by omega) rfl hl1 (hS.cg hn6 (fun i hi => by rw [Nat.zero_add]; exact hh1 i hi))
  rw [am_si (am_gn (by decide) h142)] at hl0
  exact hl0
set_option maxRecDepth 100000 in
set_option maxHeartbeats 4000000 in
theorem e_ahead1 (w : am_W) (t : Nat × (Nat → Int32)) (T : p_D) (S : s_S) (A : List s_S) (K : Nat → Option s_S) (N : x_N) (sd : Int64) (d : Nat) (hd : d ≤ 1000) (hv : v_W d T S A K) (hW : d_W w t T S A K N sd) (k : Nat) (hk : k ≤ 20) : am_Go 135 (0, [.ref 133, .int (nI k), .int 1, .float 0, .float 0], [], w, 0, 0) (fun res w' => res = some (.int (m_tot T S 1 k)) ∧ d_W w' t T S A K N sd ∧ am_same (rg 133 17) w w') := by
  have hM : am_P[135]? = some zm_X11_ahead := rfl
  have hn6 : T.2.2.1 ≤ 6 := hv.1.1.1
  have hvT := hv.1.1
  have hvS := hv.2.1.1
  have hdy := hv.2.1.2.1
  obtain ⟨rh, rk, wh, fa, nx, ne, ki, ba, he, nw, rH, rT, tx, td, rw_, oo, s1, s2, s3, ik, kp, hm, h134, h135, h136, h137, h138, h139, h140, h141, h142, h143, h144, h145, h146, h147, h148, h149, ⟨ht40, hN6⟩, hT, hS, htx, hA, hK, hN⟩ := hW
  have hnx := hA.1
  have hal := hA.2.1
  refine ar_iload_n (pc' := 1) hM rfl rfl rfl ?_
  refine ar_i2l (pc' := 2) hM rfl rfl ?_
  refine ar_lconst (x := 0) (pc' := 3) hM rfl (by decide) rfl ?_
  refine ar_ldc2_w (x := 20) (pc' := 6) hM rfl (by decide) rfl ?_
  refine ar_static (pc' := 9) (k3 := 0) (k4 := 0) hM rfl (by decide) rfl rfl (by have h0 := d_in w (nI k) 0 20 0 20 (by decide) (by decide); rw [if_pos ⟨nI_le (a := 0) (by omega) (by omega), nI_le (b := 20) (by omega) (by omega)⟩] at h0; exact h0) (fun r6 w6 q6 => ?_)
  obtain ⟨rfl, q6w⟩ := q6
  rw [q6w]
  show am_Go 135 (9, [.ref 133, .int (nI k), .int 1, .float 0, .float 0], [.int 1], w, 0, 0) _
  refine ar_if_eq (pc' := 12) hM rfl rfl (fun q => absurd q (by decide)) (fun _ => ?_)
  refine ar_iload_n (pc' := 13) hM rfl rfl rfl ?_
  refine ar_i2l (pc' := 14) hM rfl rfl ?_
  refine ar_lconst (x := 0) (pc' := 15) hM rfl (by decide) rfl ?_
  refine ar_lconst (x := 1) (pc' := 16) hM rfl (by decide) rfl ?_
  refine ar_static (pc' := 19) (k3 := 0) (k4 := 0) hM rfl (by decide) rfl rfl (by have h0 := d_in w 1 0 1 0 1 (by decide) (by decide); rw [if_pos (by decide)] at h0; exact h0) (fun r16 w16 q16 => ?_)
  obtain ⟨rfl, q16w⟩ := q16
  rw [q16w]
  show am_Go 135 (19, [.ref 133, .int (nI k), .int 1, .float 0, .float 0], [.int 1], w, 0, 0) _
  refine ar_if_ne (pc' := 22) hM rfl rfl (fun _ => ?_) (fun q => absurd q (by decide))
  refine ar_aload_n (pc' := 26) hM rfl rfl rfl ?_
  refine ar_virtual (pc' := 29) (k3 := 0) (k4 := 0) hM rfl rfl hm ⟨rfl, (by decide)⟩ rfl rfl (d_trial T hm h138) (fun r26 w26 q26 => ?_)
  obtain ⟨nw1, rfl, q26w, hl1, hh1⟩ := q26
  rw [q26w]
  show am_Go 135 (29, [.ref 133, .int (nI k), .int 1, .float 0, .float 0], [], (w.set 138 (.inl (0, 42, .inl nw1))), 0, 0) _
  refine ar_iconst (x := 0) (pc' := 30) hM rfl (by decide) rfl ?_
  refine ar_istore_n (pc' := 31) hM rfl rfl rfl rfl ?_
  refine ar_iconst (x := 0) (pc' := 32) hM rfl (by decide) rfl ?_
  refine ar_istore (pc' := 34) hM rfl rfl rfl rfl ?_
  have loop : ∀ (dj j : Nat) (y : Int32) (g : Nat → Int32) (f : Nat → Int32), dj + j = k → (y = m_tot T S 1 j) → (∀ i, i < 21 → g i = nw i) → (d_S g (21 * 1) T.2.2.1 (m_it T S j)) → am_Go 135 (34, [.ref 133, .int (nI k), .int 1, .int y, .int (nI j)], [], ((w.set 138 (.inl (0, 42, .inl g))).set 142 (.inl (0, 36, .inl f))), 0, 0) (fun res w' => res = some (.int (m_tot T S 1 k)) ∧ d_W w' t T S A K N sd ∧ am_same (rg 133 17) w w') := by
    intro dj
    induction dj with
    | zero =>
      intro j y g f hj hy q1 q2
      refine ar_iload (pc' := 36) hM rfl rfl rfl ?_
      refine ar_iload_n (pc' := 37) hM rfl rfl rfl ?_
      refine ar_icmp_ge (pc' := 40) hM rfl rfl (fun _ => ?_) (fun q => absurd (nI_le (a := k) (b := j) (by omega) (by omega)) q)
      refine ar_iload_n (pc' := 61) hM rfl rfl rfl ?_
      refine ar_if_ne (pc' := 64) hM rfl rfl (fun _ => ?_) (fun q => absurd q (by decide))
      refine ar_iload_n (pc' := 79) hM rfl rfl rfl ?_
      refine ar_ireturn hM rfl (Or.inl rfl) ?_
      exact ⟨by rw [hy, show j = k by omega], ⟨_, _, _, _, _, _, _, _, _, _, _, _, _, _, _, _, _, _, _, _, _, (am_gn (by decide) (am_gn (by decide) hm)), (am_gn (by decide) (am_gn (by decide) h134)), (am_gn (by decide) (am_gn (by decide) h135)), (am_gn (by decide) (am_gn (by decide) h136)), (am_gn (by decide) (am_gn (by decide) h137)), (am_gn (by decide) (am_gs h138)), (am_gn (by decide) (am_gn (by decide) h139)), (am_gn (by decide) (am_gn (by decide) h140)), (am_gn (by decide) (am_gn (by decide) h141)), (am_gs (am_gn (by decide) h142)), (am_gn (by decide) (am_gn (by decide) h143)), (am_gn (by decide) (am_gn (by decide) h144)), (am_gn (by decide) (am_gn (by decide) h145)), (am_gn (by decide) (am_gn (by decide) h146)), (am_gn (by decide) (am_gn (by decide) h147)), (am_gn (by decide) (am_gn (by decide) h148)), (am_gn (by decide) (am_gn (by decide) h149)), ⟨ht40, hN6⟩, hT, (hS.cg hn6 (fun i hi => by rw [Nat.zero_add]; exact q1 i hi)), htx, hA, hK, hN⟩, (am_same.set (am_same.set am_same.rf (by unfold rg; omega)) (by unfold rg; omega))⟩
    | succ dj ih =>
      intro j y g f hj hy q1 q2
      refine ar_iload (pc' := 36) hM rfl rfl rfl ?_
      refine ar_iload_n (pc' := 37) hM rfl rfl rfl ?_
      refine ar_icmp_ge (pc' := 40) hM rfl rfl (fun q => absurd q (nI_ge (a := j) (b := k) (by omega) (by omega))) (fun _ => ?_)
      refine ar_aload_n (pc' := 41) hM rfl rfl rfl ?_
      refine ar_iconst (x := 1) (pc' := 42) hM rfl (by decide) rfl ?_
      refine ar_virtual (pc' := 45) (k3 := 0) (k4 := 0) hM rfl rfl (am_gn (by decide) (am_gn (by decide) hm)) ⟨rfl, (by decide)⟩ rfl rfl (d_pass T (am_gn (by decide) (am_gn (by decide) hm)) (am_gn (by decide) (am_gn (by decide) h134)) (am_gn (by decide) (am_gn (by decide) h135)) (am_gn (by decide) (am_gn (by decide) h136)) (am_gn (by decide) (am_gn (by decide) h137)) (am_gn (by decide) (am_gs h138)) (am_gs (am_gn (by decide) h142)) hT 1 (by omega) (m_it T S j) hvT (m_it_v hvS j (by omega)) q2) (fun r42 w42 q42 => ?_)
      obtain ⟨td2, nw2, rfl, q42w, hY2, hS2, hnw2⟩ := q42
      rw [q42w]
      show am_Go 135 (45, [.ref 133, .int (nI k), .int 1, .int y, .int (nI j)], [.int (i_sum (m_lk T (m_it T S j) 0) T.2.2.1)], ((((w.set 138 (.inl (0, 42, .inl g))).set 142 (.inl (0, 36, .inl f))).set 142 (.inl (0, 36, .inl td2))).set 138 (.inl (0, 42, .inl nw2))), 0, 0) _
      refine ar_pop (pc' := 46) hM rfl rfl rfl ?_
      refine ar_iload_n (pc' := 47) hM rfl rfl rfl ?_
      refine ar_aload_n (pc' := 48) hM rfl rfl rfl ?_
      refine ar_iconst (x := 5) (pc' := 49) hM rfl (by decide) rfl ?_
      refine ar_virtual (pc' := 52) (k3 := 0) (k4 := 0) hM rfl rfl (am_gn (by decide) (am_gn (by decide) (am_gn (by decide) (am_gn (by decide) hm)))) ⟨rfl, (by decide)⟩ rfl rfl (by have h0 := d_sumOf (w := ((((w.set 138 (.inl (0, 42, .inl g))).set 142 (.inl (0, 36, .inl f))).set 142 (.inl (0, 36, .inl td2))).set 138 (.inl (0, 42, .inl nw2)))) T (am_gn (by decide) (am_gn (by decide) (am_gn (by decide) (am_gn (by decide) hm)))) (am_gn (by decide) (am_gs (am_gs (am_gn (by decide) h142)))) 5 (by omega) hn6; rw [i_sum_congr (fun h hh => (hY2 h hh).2.2.2.2.2)] at h0; exact h0) (fun r49 w49 q49 => ?_)
      obtain ⟨rfl, q49w⟩ := q49
      rw [q49w]
      show am_Go 135 (52, [.ref 133, .int (nI k), .int 1, .int y, .int (nI j)], [.int (i_sum (m_sp T (m_it T S j) 0) T.2.2.1), .int y], ((((w.set 138 (.inl (0, 42, .inl g))).set 142 (.inl (0, 36, .inl f))).set 142 (.inl (0, 36, .inl td2))).set 138 (.inl (0, 42, .inl nw2))), 0, 0) _
      refine ar_iadd (pc' := 53) hM rfl rfl ?_
      refine ar_istore_n (pc' := 54) hM rfl rfl rfl rfl ?_
      refine ar_iinc (z := nI (j + 1)) (pc' := 57) hM rfl rfl (nI_1 _) rfl rfl rfl ?_
      refine ar_goto hM rfl ?_
      rw [show (((w.set 138 (.inl (0, 42, .inl g))).set 142 (.inl (0, 36, .inl f))).set 142 (.inl (0, 36, .inl td2))) = ((w.set 138 (.inl (0, 42, .inl g))).set 142 (.inl (0, 36, .inl td2))) from by rw [List.set_set]]
      rw [show (((w.set 138 (.inl (0, 42, .inl g))).set 142 (.inl (0, 36, .inl td2))).set 138 (.inl (0, 42, .inl nw2))) = ((w.set 138 (.inl (0, 42, .inl nw2))).set 142 (.inl (0, 36, .inl td2))) from by rw [List.set_comm _ _ (show 142 ≠ 138 by decide), List.set_set]]
      exact ih (j + 1) (y + (i_sum (m_sp T (m_it T S j) 0) T.2.2.1)) nw2 td2 (by omega) (by rw [hy]; rfl) (fun i hi => by rw [hnw2 i (by omega)]; exact q1 i hi) (hS2 rfl)
  have hl0 := loop (k) 0 0 nw1 td (by omega) rfl hl1 (hS.cg hn6 (fun i hi => by rw [Nat.zero_add]; exact hh1 i hi))
  rw [am_si (am_gn (by decide) h142)] at hl0
  exact hl0
set_option maxRecDepth 100000 in
set_option maxHeartbeats 4000000 in
theorem e_keepN (w : am_W) (t : Nat × (Nat → Int32)) (T : p_D) (S : s_S) (A : List s_S) (K : Nat → Option s_S) (N : x_N) (sd : Int64) (d : Nat) (hd : d ≤ 1000) (hv : v_W d T S A K) (hW : d_W w t T S A K N sd) (a : Int32) (hno : ¬ (0 ≤ a ∧ a ≤ 1)) : am_Go 160 (0, [.ref 133, .int a, .float 0], [], w, 0, 0) (fun res w' => res = some (.int (-1)) ∧ d_W w' t T S A K N sd ∧ am_same (rg 133 17) w w') := by
  have hM : am_P[160]? = some zm_X11_keep := rfl
  have hn6 : T.2.2.1 ≤ 6 := hv.1.1.1
  have hvT := hv.1.1
  have hvS := hv.2.1.1
  have hdy := hv.2.1.2.1
  obtain ⟨rh, rk, wh, fa, nx, ne, ki, ba, he, nw, rH, rT, tx, td, rw_, oo, s1, s2, s3, ik, kp, hm, h134, h135, h136, h137, h138, h139, h140, h141, h142, h143, h144, h145, h146, h147, h148, h149, ⟨ht40, hN6⟩, hT, hS, htx, hA, hK, hN⟩ := hW
  have hnx := hA.1
  have hal := hA.2.1
  refine ar_iload_n (pc' := 1) hM rfl rfl rfl ?_
  refine ar_i2l (pc' := 2) hM rfl rfl ?_
  refine ar_lconst (x := 0) (pc' := 3) hM rfl (by decide) rfl ?_
  refine ar_lconst (x := 1) (pc' := 4) hM rfl (by decide) rfl ?_
  refine ar_static (pc' := 7) (k3 := 0) (k4 := 0) hM rfl (by decide) rfl rfl (by have h0 := d_in w a 0 1 0 1 (by decide) (by decide); rw [if_neg hno] at h0; exact h0) (fun r4 w4 q4 => ?_)
  obtain ⟨rfl, q4w⟩ := q4
  rw [q4w]
  show am_Go 160 (7, [.ref 133, .int a, .float 0], [.int 0], w, 0, 0) _
  refine ar_if_ne (pc' := 10) hM rfl rfl (fun q => absurd (by decide) q) (fun _ => ?_)
  refine ar_iconst (x := (-1)) (pc' := 11) hM rfl (by decide) rfl ?_
  refine ar_ireturn hM rfl (Or.inl rfl) ?_
  exact ⟨rfl, ⟨_, _, _, _, _, _, _, _, _, _, _, _, _, _, _, _, _, _, _, _, _, hm, h134, h135, h136, h137, h138, h139, h140, h141, h142, h143, h144, h145, h146, h147, h148, h149, ⟨ht40, hN6⟩, hT, hS, htx, hA, hK, hN⟩, am_same.rf⟩
set_option maxRecDepth 100000 in
set_option maxHeartbeats 4000000 in
theorem e_againN (w : am_W) (t : Nat × (Nat → Int32)) (T : p_D) (S : s_S) (A : List s_S) (K : Nat → Option s_S) (N : x_N) (sd : Int64) (d : Nat) (hd : d ≤ 1000) (hv : v_W d T S A K) (hW : d_W w t T S A K N sd) (a : Int32) (hno : ¬ (0 ≤ a ∧ a ≤ 1)) : am_Go 161 (0, [.ref 133, .int a, .float 0], [], w, 0, 0) (fun res w' => res = some (.int (-1)) ∧ d_W w' t T S A K N sd ∧ am_same (rg 133 17) w w') := by
  have hM : am_P[161]? = some zm_X11_again := rfl
  have hn6 : T.2.2.1 ≤ 6 := hv.1.1.1
  have hvT := hv.1.1
  have hvS := hv.2.1.1
  have hdy := hv.2.1.2.1
  obtain ⟨rh, rk, wh, fa, nx, ne, ki, ba, he, nw, rH, rT, tx, td, rw_, oo, s1, s2, s3, ik, kp, hm, h134, h135, h136, h137, h138, h139, h140, h141, h142, h143, h144, h145, h146, h147, h148, h149, ⟨ht40, hN6⟩, hT, hS, htx, hA, hK, hN⟩ := hW
  have hnx := hA.1
  have hal := hA.2.1
  refine ar_iload_n (pc' := 1) hM rfl rfl rfl ?_
  refine ar_i2l (pc' := 2) hM rfl rfl ?_
  refine ar_lconst (x := 0) (pc' := 3) hM rfl (by decide) rfl ?_
  refine ar_lconst (x := 1) (pc' := 4) hM rfl (by decide) rfl ?_
  refine ar_static (pc' := 7) (k3 := 0) (k4 := 0) hM rfl (by decide) rfl rfl (by have h0 := d_in w a 0 1 0 1 (by decide) (by decide); rw [if_neg hno] at h0; exact h0) (fun r4 w4 q4 => ?_)
  obtain ⟨rfl, q4w⟩ := q4
  rw [q4w]
  show am_Go 161 (7, [.ref 133, .int a, .float 0], [.int 0], w, 0, 0) _
  refine ar_if_ne (pc' := 10) hM rfl rfl (fun q => absurd (by decide) q) (fun _ => ?_)
  refine ar_iconst (x := (-1)) (pc' := 11) hM rfl (by decide) rfl ?_
  refine ar_ireturn hM rfl (Or.inl rfl) ?_
  exact ⟨rfl, ⟨_, _, _, _, _, _, _, _, _, _, _, _, _, _, _, _, _, _, _, _, _, hm, h134, h135, h136, h137, h138, h139, h140, h141, h142, h143, h144, h145, h146, h147, h148, h149, ⟨ht40, hN6⟩, hT, hS, htx, hA, hK, hN⟩, am_same.rf⟩
theorem d_K_put {ik kp kq nw : Nat → Int32} {n : Nat} {K : Nat → Option s_S} {S : s_S} {k : Nat} (hn : n ≤ 6) (hK : d_K ik kp n K) (hS : d_S nw 0 n S) (hk : k < 2) (h1 : ∀ i, i < 21 → kq (21 * k + i) = nw i) (h2 : ∀ i, (i < 21 * k ∨ 21 * k + 21 ≤ i) → kq i = kp i) : d_K (upd ik k 1) kq n (fun i => if i = k then some S else K i) := by
  intro i hi
  by_cases e : i = k
  · subst e
    exact Or.inr ⟨S, if_pos rfl, pk_us, hS.cg hn (fun j hj => by rw [Nat.zero_add]; exact h1 j hj)⟩
  · rcases hK i hi with ⟨a, b⟩ | ⟨S', a, b, c⟩
    · exact Or.inl ⟨(if_neg e).trans a, by rw [pk_un e]; exact b⟩
    · exact Or.inr ⟨S', (if_neg e).trans a, by rw [pk_un e]; exact b, c.cg hn (fun j hj => h2 _ (by omega))⟩
set_option maxRecDepth 100000 in
set_option maxHeartbeats 4000000 in
theorem e_keep (w : am_W) (t : Nat × (Nat → Int32)) (T : p_D) (S : s_S) (A : List s_S) (K : Nat → Option s_S) (N : x_N) (sd : Int64) (d : Nat) (hd : d ≤ 1000) (hv : v_W d T S A K) (hW : d_W w t T S A K N sd) (k : Nat) (hk : k < 2)  : am_Go 160 (0, [.ref 133, .int (nI k), .float 0], [], w, 0, 0) (fun res w' => res = some (.int (nI S.2.2.2.2.2.2)) ∧ d_W w' t T S A (fun i => if i = k then some S else K i) N sd ∧ am_same (rg 133 17) w w') := by
  have hM : am_P[160]? = some zm_X11_keep := rfl
  have hn6 : T.2.2.1 ≤ 6 := hv.1.1.1
  have hvT := hv.1.1
  have hvS := hv.2.1.1
  have hdy := hv.2.1.2.1
  obtain ⟨rh, rk, wh, fa, nx, ne, ki, ba, he, nw, rH, rT, tx, td, rw_, oo, s1, s2, s3, ik, kp, hm, h134, h135, h136, h137, h138, h139, h140, h141, h142, h143, h144, h145, h146, h147, h148, h149, ⟨ht40, hN6⟩, hT, hS, htx, hA, hK, hN⟩ := hW
  have hnx := hA.1
  have hal := hA.2.1
  refine ar_iload_n (pc' := 1) hM rfl rfl rfl ?_
  refine ar_i2l (pc' := 2) hM rfl rfl ?_
  refine ar_lconst (x := 0) (pc' := 3) hM rfl (by decide) rfl ?_
  refine ar_lconst (x := 1) (pc' := 4) hM rfl (by decide) rfl ?_
  refine ar_static (pc' := 7) (k3 := 0) (k4 := 0) hM rfl (by decide) rfl rfl (by have h0 := d_in w (nI k) 0 1 0 1 (by decide) (by decide); rw [if_pos ⟨nI_le (a := 0) (by omega) (by omega), nI_le (b := 1) (by omega) (by omega)⟩] at h0; exact h0) (fun r4 w4 q4 => ?_)
  obtain ⟨rfl, q4w⟩ := q4
  rw [q4w]
  show am_Go 160 (7, [.ref 133, .int (nI k), .float 0], [.int 1], w, 0, 0) _
  refine ar_if_ne (pc' := 10) hM rfl rfl (fun _ => ?_) (fun q => absurd q (by decide))
  refine ar_aload_n (pc' := 13) hM rfl rfl rfl ?_
  refine ar_getfield (pc' := 16) hM rfl hm rfl rfl ?_
  refine ar_iload_n (pc' := 17) hM rfl rfl rfl ?_
  refine ar_iconst (x := 1) (pc' := 18) hM rfl (by decide) rfl ?_
  refine ar_bastoreN (j := k) (pc' := 19) hM rfl h148 rfl (by omega) (Nat.le_of_ble_eq_true rfl) (by decide) (by decide) rfl ?_
  refine ar_iconst (x := 0) (pc' := 20) hM rfl (by decide) rfl ?_
  refine ar_istore_n (pc' := 21) hM rfl rfl rfl rfl ?_
  have loop : ∀ (dj j : Nat) (g : Nat → Int32), dj + j = 21 → (∀ i, i < j → g (21 * k + i) = nw i) → (∀ i, (i < 21 * k ∨ 21 * k + 21 ≤ i) → g i = kp i) → am_Go 160 (21, [.ref 133, .int (nI k), .int (nI j)], [], ((w.set 148 (.inl (1, 2, .inl (upd ik k 1)))).set 149 (.inl (0, 42, .inl g))), 0, 0) (fun res w' => res = some (.int (nI S.2.2.2.2.2.2)) ∧ d_W w' t T S A (fun i => if i = k then some S else K i) N sd ∧ am_same (rg 133 17) w w') := by
    intro dj
    induction dj with
    | zero =>
      intro j g hj p1 p2
      refine ar_iload_n (pc' := 22) hM rfl rfl rfl ?_
      refine ar_bipush (x := 21) (pc' := 24) hM rfl (by decide) rfl ?_
      refine ar_icmp_ge (pc' := 27) hM rfl rfl (fun _ => ?_) (fun q => absurd (nI_le (a := 21) (b := j) (by omega) (by omega)) q)
      refine ar_aload_n (pc' := 51) hM rfl rfl rfl ?_
      refine ar_getfield (pc' := 54) hM rfl (am_gn (by decide) (am_gn (by decide) hm)) rfl rfl ?_
      refine ar_bipush (x := 20) (pc' := 56) hM rfl (by decide) rfl ?_
      refine ar_ialoadN (j := 20) (pc' := 57) hM rfl (am_gn (by decide) (am_gn (by decide) h138)) (by decide) (by omega) (Nat.le_of_ble_eq_true rfl) rfl ?_
      rw [show (nw 20 : Int32) = nI S.2.2.2.2.2.2 from (by have h0 := hS.2.2.2; rw [Nat.zero_add] at h0; exact h0)]
      refine ar_ireturn hM rfl (Or.inl rfl) ?_
      exact ⟨rfl, ⟨_, _, _, _, _, _, _, _, _, _, _, _, _, _, _, _, _, _, _, _, _, (am_gn (by decide) (am_gn (by decide) hm)), (am_gn (by decide) (am_gn (by decide) h134)), (am_gn (by decide) (am_gn (by decide) h135)), (am_gn (by decide) (am_gn (by decide) h136)), (am_gn (by decide) (am_gn (by decide) h137)), (am_gn (by decide) (am_gn (by decide) h138)), (am_gn (by decide) (am_gn (by decide) h139)), (am_gn (by decide) (am_gn (by decide) h140)), (am_gn (by decide) (am_gn (by decide) h141)), (am_gn (by decide) (am_gn (by decide) h142)), (am_gn (by decide) (am_gn (by decide) h143)), (am_gn (by decide) (am_gn (by decide) h144)), (am_gn (by decide) (am_gn (by decide) h145)), (am_gn (by decide) (am_gn (by decide) h146)), (am_gn (by decide) (am_gn (by decide) h147)), (am_gn (by decide) (am_gs h148)), (am_gs (am_gn (by decide) h149)), ⟨ht40, hN6⟩, hT, hS, htx, hA, (d_K_put hn6 hK hS hk (fun i hi => p1 i (by omega)) p2), hN⟩, (am_same.set (am_same.set am_same.rf (by unfold rg; omega)) (by unfold rg; omega))⟩
    | succ dj ih =>
      intro j g hj p1 p2
      refine ar_iload_n (pc' := 22) hM rfl rfl rfl ?_
      refine ar_bipush (x := 21) (pc' := 24) hM rfl (by decide) rfl ?_
      refine ar_icmp_ge (pc' := 27) hM rfl rfl (fun q => absurd q (nI_ge (a := j) (b := 21) (by omega) (by omega))) (fun _ => ?_)
      refine ar_aload_n (pc' := 28) hM rfl rfl rfl ?_
      refine ar_getfield (pc' := 31) hM rfl (am_gn (by decide) (am_gn (by decide) hm)) rfl rfl ?_
      refine ar_bipush (x := 21) (pc' := 33) hM rfl (by decide) rfl ?_
      refine ar_iload_n (pc' := 34) hM rfl rfl rfl ?_
      refine ar_imul (pc' := 35) hM rfl rfl ?_
      rw [show (21 * (nI k) : Int32) = nI (21 * k) from pk_mul 21 k]
      refine ar_iload_n (pc' := 36) hM rfl rfl rfl ?_
      refine ar_iadd (pc' := 37) hM rfl rfl ?_
      rw [show ((nI (21 * k)) + (nI j) : Int32) = nI (21 * k + j) from nI_add (21 * k) j]
      refine ar_aload_n (pc' := 38) hM rfl rfl rfl ?_
      refine ar_getfield (pc' := 41) hM rfl (am_gn (by decide) (am_gn (by decide) hm)) rfl rfl ?_
      refine ar_iload_n (pc' := 42) hM rfl rfl rfl ?_
      refine ar_ialoadN (j := j) (pc' := 43) hM rfl (am_gn (by decide) (am_gn (by decide) h138)) rfl (by omega) (Nat.le_of_ble_eq_true rfl) rfl ?_
      refine ar_iastoreN (j := (21 * k + j)) (pc' := 44) hM rfl (am_gs (am_gn (by decide) h149)) rfl (by omega) (Nat.le_of_ble_eq_true rfl) (by decide) rfl ?_
      refine ar_iinc (z := nI (j + 1)) (pc' := 47) hM rfl rfl (nI_1 _) rfl rfl rfl ?_
      refine ar_goto hM rfl ?_
      rw [show (((w.set 148 (.inl (1, 2, .inl (upd ik k 1)))).set 149 (.inl (0, 42, .inl g))).set 149 (.inl (0, 42, .inl (upd g (21 * k + j) (nw j))))) = ((w.set 148 (.inl (1, 2, .inl (upd ik k 1)))).set 149 (.inl (0, 42, .inl (upd g (21 * k + j) (nw j))))) from by rw [List.set_set]]
      exact ih (j + 1) (upd g (21 * k + j) (nw j)) (by omega) (fun i hi => by
          rcases Nat.lt_or_ge i j with q | q
          · rw [pk_un (by omega)]; exact p1 i q
          · rw [show i = j by omega, pk_us]) (fun i hi => by rw [pk_un (by omega)]; exact p2 i hi)
  have hl0 := loop (21) 0 kp (by omega) (fun i hi => absurd hi (by omega)) (fun i hi => rfl)
  rw [am_si (am_gn (by decide) h149)] at hl0
  exact hl0
set_option maxRecDepth 100000 in
set_option maxHeartbeats 4000000 in
theorem e_again0 (w : am_W) (t : Nat × (Nat → Int32)) (T : p_D) (S : s_S) (A : List s_S) (K : Nat → Option s_S) (N : x_N) (sd : Int64) (d : Nat) (hd : d ≤ 1000) (hv : v_W d T S A K) (hW : d_W w t T S A K N sd) (k : Nat) (hk : k < 2) (hKe : K k = none) : am_Go 161 (0, [.ref 133, .int (nI k), .float 0], [], w, 0, 0) (fun res w' => res = some (.int (-3)) ∧ d_W w' t T S A K N sd ∧ am_same (rg 133 17) w w') := by
  have hM : am_P[161]? = some zm_X11_again := rfl
  have hn6 : T.2.2.1 ≤ 6 := hv.1.1.1
  have hvT := hv.1.1
  have hvS := hv.2.1.1
  have hdy := hv.2.1.2.1
  obtain ⟨rh, rk, wh, fa, nx, ne, ki, ba, he, nw, rH, rT, tx, td, rw_, oo, s1, s2, s3, ik, kp, hm, h134, h135, h136, h137, h138, h139, h140, h141, h142, h143, h144, h145, h146, h147, h148, h149, ⟨ht40, hN6⟩, hT, hS, htx, hA, hK, hN⟩ := hW
  have hnx := hA.1
  have hal := hA.2.1
  have hik : ik k = 0 := by rcases hK k hk with ⟨_, b⟩ | ⟨S', a, _⟩; exact b; rw [hKe] at a; cases a
  refine ar_iload_n (pc' := 1) hM rfl rfl rfl ?_
  refine ar_i2l (pc' := 2) hM rfl rfl ?_
  refine ar_lconst (x := 0) (pc' := 3) hM rfl (by decide) rfl ?_
  refine ar_lconst (x := 1) (pc' := 4) hM rfl (by decide) rfl ?_
  refine ar_static (pc' := 7) (k3 := 0) (k4 := 0) hM rfl (by decide) rfl rfl (by have h0 := d_in w (nI k) 0 1 0 1 (by decide) (by decide); rw [if_pos ⟨nI_le (a := 0) (by omega) (by omega), nI_le (b := 1) (by omega) (by omega)⟩] at h0; exact h0) (fun r4 w4 q4 => ?_)
  obtain ⟨rfl, q4w⟩ := q4
  rw [q4w]
  show am_Go 161 (7, [.ref 133, .int (nI k), .float 0], [.int 1], w, 0, 0) _
  refine ar_if_ne (pc' := 10) hM rfl rfl (fun _ => ?_) (fun q => absurd q (by decide))
  refine ar_aload_n (pc' := 13) hM rfl rfl rfl ?_
  refine ar_getfield (pc' := 16) hM rfl hm rfl rfl ?_
  refine ar_iload_n (pc' := 17) hM rfl rfl rfl ?_
  refine ar_baloadN (j := k) (pc' := 18) hM rfl h148 rfl (by omega) (Nat.le_of_ble_eq_true rfl) (by decide) rfl ?_
  refine ar_if_ne (pc' := 21) hM rfl rfl (fun q => absurd hik q) (fun _ => ?_)
  refine ar_bipush (x := (-3)) (pc' := 23) hM rfl (by decide) rfl ?_
  refine ar_ireturn hM rfl (Or.inl rfl) ?_
  exact ⟨rfl, ⟨_, _, _, _, _, _, _, _, _, _, _, _, _, _, _, _, _, _, _, _, _, hm, h134, h135, h136, h137, h138, h139, h140, h141, h142, h143, h144, h145, h146, h147, h148, h149, ⟨ht40, hN6⟩, hT, hS, htx, hA, hK, hN⟩, am_same.rf⟩
set_option maxRecDepth 100000 in
set_option maxHeartbeats 4000000 in
theorem e_again (w : am_W) (t : Nat × (Nat → Int32)) (T : p_D) (S : s_S) (A : List s_S) (K : Nat → Option s_S) (N : x_N) (sd : Int64) (d : Nat) (hd : d ≤ 1000) (hv : v_W d T S A K) (hW : d_W w t T S A K N sd) (k : Nat) (hk : k < 2) (S0 : s_S) (hKe : K k = some S0) : am_Go 161 (0, [.ref 133, .int (nI k), .float 0], [], w, 0, 0) (fun res w' => res = some (.int (nI S0.2.2.2.2.2.2)) ∧ d_W w' t T S0 ([]) K N sd ∧ am_same (rg 133 17) w w') := by
  have hM : am_P[161]? = some zm_X11_again := rfl
  have hn6 : T.2.2.1 ≤ 6 := hv.1.1.1
  have hvT := hv.1.1
  have hvS := hv.2.1.1
  have hdy := hv.2.1.2.1
  obtain ⟨rh, rk, wh, fa, nx, ne, ki, ba, he, nw, rH, rT, tx, td, rw_, oo, s1, s2, s3, ik, kp, hm, h134, h135, h136, h137, h138, h139, h140, h141, h142, h143, h144, h145, h146, h147, h148, h149, ⟨ht40, hN6⟩, hT, hS, htx, hA, hK, hN⟩ := hW
  have hnx := hA.1
  have hal := hA.2.1
  obtain ⟨hik, hSk⟩ : ik k = 1 ∧ d_S kp (21 * k) T.2.2.1 S0 := by rcases hK k hk with ⟨a, _⟩ | ⟨S', a, b, c⟩; rw [hKe] at a; cases a; rw [hKe] at a; cases a; exact ⟨b, c⟩
  refine ar_iload_n (pc' := 1) hM rfl rfl rfl ?_
  refine ar_i2l (pc' := 2) hM rfl rfl ?_
  refine ar_lconst (x := 0) (pc' := 3) hM rfl (by decide) rfl ?_
  refine ar_lconst (x := 1) (pc' := 4) hM rfl (by decide) rfl ?_
  refine ar_static (pc' := 7) (k3 := 0) (k4 := 0) hM rfl (by decide) rfl rfl (by have h0 := d_in w (nI k) 0 1 0 1 (by decide) (by decide); rw [if_pos ⟨nI_le (a := 0) (by omega) (by omega), nI_le (b := 1) (by omega) (by omega)⟩] at h0; exact h0) (fun r4 w4 q4 => ?_)
  obtain ⟨rfl, q4w⟩ := q4
  rw [q4w]
  show am_Go 161 (7, [.ref 133, .int (nI k), .float 0], [.int 1], w, 0, 0) _
  refine ar_if_ne (pc' := 10) hM rfl rfl (fun _ => ?_) (fun q => absurd q (by decide))
  refine ar_aload_n (pc' := 13) hM rfl rfl rfl ?_
  refine ar_getfield (pc' := 16) hM rfl hm rfl rfl ?_
  refine ar_iload_n (pc' := 17) hM rfl rfl rfl ?_
  refine ar_baloadN (j := k) (pc' := 18) hM rfl h148 rfl (by omega) (Nat.le_of_ble_eq_true rfl) (by decide) rfl ?_
  refine ar_if_ne (pc' := 21) hM rfl rfl (fun _ => ?_) (fun q => absurd q (by rw [hik]; decide))
  refine ar_iconst (x := 0) (pc' := 25) hM rfl (by decide) rfl ?_
  refine ar_istore_n (pc' := 26) hM rfl rfl rfl rfl ?_
  have loop : ∀ (dj j : Nat) (g : Nat → Int32), dj + j = 21 → (∀ i, i < j → g i = kp (21 * k + i)) → am_Go 161 (26, [.ref 133, .int (nI k), .int (nI j)], [], (w.set 138 (.inl (0, 42, .inl g))), 0, 0) (fun res w' => res = some (.int (nI S0.2.2.2.2.2.2)) ∧ d_W w' t T S0 ([]) K N sd ∧ am_same (rg 133 17) w w') := by
    intro dj
    induction dj with
    | zero =>
      intro j g hj p1
      refine ar_iload_n (pc' := 27) hM rfl rfl rfl ?_
      refine ar_bipush (x := 21) (pc' := 29) hM rfl (by decide) rfl ?_
      refine ar_icmp_ge (pc' := 32) hM rfl rfl (fun _ => ?_) (fun q => absurd (nI_le (a := 21) (b := j) (by omega) (by omega)) q)
      refine ar_aload_n (pc' := 56) hM rfl rfl rfl ?_
      refine ar_iconst (x := 0) (pc' := 57) hM rfl (by decide) rfl ?_
      refine ar_putfield (pc' := 60) hM rfl (am_gn (by decide) hm) (Nat.le_of_ble_eq_true rfl) rfl (by decide) rfl ?_
      show am_Go 161 (60, [.ref 133, .int (nI k), .int (nI j)], [], ((w.set 138 (.inl (0, 42, .inl g))).set 133 (.inr (11, [.int (nI T.2.2.1), .int (nI T.2.2.2.1), .int T.1, .int T.2.1, .ref 134, .ref 135, .ref 136, .ref 137, .ref 138, .ref 139, .ref 140, .int rh, .int rk, .ref 141, .int (nI t.1), .int wh, .int fa, .ref 142, .int 0, .int 0, .int (nI nx), .ref 143, .ref 144, .int (nI N.1), .ref 145, .ref 146, .ref 147, .long sd, .ref 148, .ref 149]))), 0, 0) _
      refine ar_aload_n (pc' := 61) hM rfl rfl rfl ?_
      refine ar_getfield (pc' := 64) hM rfl (am_gs (am_gn (by decide) hm)) rfl rfl ?_
      refine ar_bipush (x := 20) (pc' := 66) hM rfl (by decide) rfl ?_
      refine ar_ialoadN (j := 20) (pc' := 67) hM rfl (am_gn (by decide) (am_gs h138)) (by decide) (by omega) (Nat.le_of_ble_eq_true rfl) rfl ?_
      rw [show (g 20 : Int32) = nI S0.2.2.2.2.2.2 from (by rw [p1 20 (by omega)]; exact hSk.2.2.2)]
      refine ar_ireturn hM rfl (Or.inl rfl) ?_
      exact ⟨rfl, ⟨_, _, _, _, _, _, _, _, _, _, _, _, _, _, _, _, _, _, _, _, _, (am_gs (am_gn (by decide) hm)), (am_gn (by decide) (am_gn (by decide) h134)), (am_gn (by decide) (am_gn (by decide) h135)), (am_gn (by decide) (am_gn (by decide) h136)), (am_gn (by decide) (am_gn (by decide) h137)), (am_gn (by decide) (am_gs h138)), (am_gn (by decide) (am_gn (by decide) h139)), (am_gn (by decide) (am_gn (by decide) h140)), (am_gn (by decide) (am_gn (by decide) h141)), (am_gn (by decide) (am_gn (by decide) h142)), (am_gn (by decide) (am_gn (by decide) h143)), (am_gn (by decide) (am_gn (by decide) h144)), (am_gn (by decide) (am_gn (by decide) h145)), (am_gn (by decide) (am_gn (by decide) h146)), (am_gn (by decide) (am_gn (by decide) h147)), (am_gn (by decide) (am_gn (by decide) h148)), (am_gn (by decide) (am_gn (by decide) h149)), ⟨ht40, hN6⟩, hT, (hSk.cg hn6 (fun i hi => by rw [Nat.zero_add]; exact p1 i (by omega))), htx, ⟨hnx, Nat.zero_le _, fun i S' hi => by simp at hi⟩, hK, hN⟩, (am_same.set (am_same.set am_same.rf (by unfold rg; omega)) (by unfold rg; omega))⟩
    | succ dj ih =>
      intro j g hj p1
      refine ar_iload_n (pc' := 27) hM rfl rfl rfl ?_
      refine ar_bipush (x := 21) (pc' := 29) hM rfl (by decide) rfl ?_
      refine ar_icmp_ge (pc' := 32) hM rfl rfl (fun q => absurd q (nI_ge (a := j) (b := 21) (by omega) (by omega))) (fun _ => ?_)
      refine ar_aload_n (pc' := 33) hM rfl rfl rfl ?_
      refine ar_getfield (pc' := 36) hM rfl (am_gn (by decide) hm) rfl rfl ?_
      refine ar_iload_n (pc' := 37) hM rfl rfl rfl ?_
      refine ar_aload_n (pc' := 38) hM rfl rfl rfl ?_
      refine ar_getfield (pc' := 41) hM rfl (am_gn (by decide) hm) rfl rfl ?_
      refine ar_bipush (x := 21) (pc' := 43) hM rfl (by decide) rfl ?_
      refine ar_iload_n (pc' := 44) hM rfl rfl rfl ?_
      refine ar_imul (pc' := 45) hM rfl rfl ?_
      rw [show (21 * (nI k) : Int32) = nI (21 * k) from pk_mul 21 k]
      refine ar_iload_n (pc' := 46) hM rfl rfl rfl ?_
      refine ar_iadd (pc' := 47) hM rfl rfl ?_
      rw [show ((nI (21 * k)) + (nI j) : Int32) = nI (21 * k + j) from nI_add (21 * k) j]
      refine ar_ialoadN (j := (21 * k + j)) (pc' := 48) hM rfl (am_gn (by decide) h149) rfl (by omega) (Nat.le_of_ble_eq_true rfl) rfl ?_
      refine ar_iastoreN (j := j) (pc' := 49) hM rfl (am_gs h138) rfl (by omega) (Nat.le_of_ble_eq_true rfl) (by decide) rfl ?_
      refine ar_iinc (z := nI (j + 1)) (pc' := 52) hM rfl rfl (nI_1 _) rfl rfl rfl ?_
      refine ar_goto hM rfl ?_
      rw [show ((w.set 138 (.inl (0, 42, .inl g))).set 138 (.inl (0, 42, .inl (upd g j (kp (21 * k + j)))))) = (w.set 138 (.inl (0, 42, .inl (upd g j (kp (21 * k + j)))))) from by rw [List.set_set]]
      exact ih (j + 1) (upd g j (kp (21 * k + j))) (by omega) (fun i hi => by
          rcases Nat.lt_or_ge i j with q | q
          · rw [pk_un (by omega)]; exact p1 i q
          · rw [show i = j by omega, pk_us])
  have hl0 := loop (21) 0 nw (by omega) (fun i hi => absurd hi (by omega))
  rw [am_si h138] at hl0
  exact hl0
