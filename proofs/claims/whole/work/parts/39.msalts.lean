/-! the reference whole: salts, cask, weeks -/
theorem n_pop_le (m : Nat) : n_pop m ≤ 6 := by unfold n_pop; omega
theorem i_n9 {m : Nat} (h : m < 64) : ¬ nI m = -9 := by
  intro e
  have := congrArg Int32.toInt e
  rw [nI_toInt (by omega)] at this
  rw [show (-9 : Int32).toInt = -9 from by decide] at this
  omega
theorem m_few_inv (T : p_D) (S : s_S) (h : Nat) : ∀ j, j ≤ 64 → ((m_few T S h j).1 = -9 ∧ (m_few T S h j).2 = 7) ∨ ∃ m, m < 64 ∧ (m_few T S h j).1 = nI m ∧ (m_few T S h j).2 = nI (n_pop m)
  | 0, _ => Or.inl ⟨rfl, rfl⟩
  | j + 1, hj => by
    have e : m_few T S h (j + 1) = if (nI j &&& S.2.2.2.2.1 = 0 ∧ i_bc (nI j) < (m_few T S h j).2) ∧ m_lk T (m_set S (S.2.2.2.2.1 ||| nI j) S.2.2.2.2.2.1 S.2.2.2.2.2.2) 0 h = 0 then (nI j, i_bc (nI j)) else m_few T S h j := rfl
    rw [e]
    by_cases q : (nI j &&& S.2.2.2.2.1 = 0 ∧ i_bc (nI j) < (m_few T S h j).2) ∧ m_lk T (m_set S (S.2.2.2.2.1 ||| nI j) S.2.2.2.2.2.1 S.2.2.2.2.2.2) 0 h = 0
    · rw [if_pos q]; exact Or.inr ⟨j, by omega, rfl, i_bc_tab j (by omega)⟩
    · rw [if_neg q]; exact m_few_inv T S h j (by omega)
theorem m_few_may {T : p_D} {S : s_S} {h j : Nat} {y : Int32} (hj : j < 64) (hy : y = (m_few T S h j).1) : (y = -9 ∨ nI (n_pop j) < i_ons y 6) ↔ i_bc (nI j) < (m_few T S h j).2 := by
  rw [i_bc_tab j hj]
  have hp := n_pop_le j
  rcases m_few_inv T S h j (by omega) with ⟨a, b⟩ | ⟨m, hm, a, b⟩
  · rw [b]
    exact ⟨fun _ => nI_lt (b := 7) (by omega) (by omega), fun _ => Or.inl (hy.trans a)⟩
  · rw [b, hy, a, i_ons_tab m hm]
    exact ⟨fun q => q.resolve_left (i_n9 hm), fun q => Or.inr q⟩
theorem d_S_in {nw : Nat → Int32} {b n : Nat} {S : s_S} (hn : n ≤ 6) (h : d_S nw b n S) {k : Nat} (hk : k < n) (x : Int32) : d_S (upd nw (b + 6 + k) x) b n (m_sb S k x) := by
  refine ⟨fun i hi => ⟨?_, ?_, ?_⟩, ?_, ?_, ?_⟩
  · rw [pk_un (by omega)]; exact (h.1 i hi).1
  · show _ = upd S.2.2.1 k x i
    by_cases e : i = k
    · subst e; rw [pk_us, pk_us]
    · rw [pk_un (by omega), pk_un e]; exact (h.1 i hi).2.1
  · rw [pk_un (by omega)]; exact (h.1 i hi).2.2
  · rw [pk_un (by omega)]; exact h.2.1
  · rw [pk_un (by omega)]; exact h.2.2.1
  · rw [pk_un (by omega)]; exact h.2.2.2
set_option maxRecDepth 100000 in
set_option maxHeartbeats 4000000 in
theorem e_saltsN (w : am_W) (t : Nat × (Nat → Int32)) (T : p_D) (S : s_S) (A : List s_S) (K : Nat → Option s_S) (N : x_N) (sd : Int64) (d : Nat) (hd : d ≤ 1000) (hv : v_W d T S A K) (hW : d_W w t T S A K N sd) (h : Int32) (hh : ¬ i_H T.2.2.1 h) : am_Go 143 (0, [.ref 133, .int h, .float 0, .float 0, .float 0], [], w, 0, 0) (fun res w' => res = some (.int (-1)) ∧ d_W w' t T S A K N sd ∧ am_same (rg 133 17) w w') := by
  have hM : am_P[143]? = some zm_X11_salts := rfl
  have hn6 : T.2.2.1 ≤ 6 := hv.1.1.1
  have hvT := hv.1.1
  have hvS := hv.2.1.1
  have hdy := hv.2.1.2.1
  obtain ⟨rh, rk, wh, fa, nx, ne, ki, ba, he, nw, rH, rT, tx, td, rw_, oo, s1, s2, s3, ik, kp, hm, h134, h135, h136, h137, h138, h139, h140, h141, h142, h143, h144, h145, h146, h147, h148, h149, ⟨ht40, hN6⟩, hT, hS, htx, hA, hK, hN⟩ := hW
  have hnx := hA.1
  have hal := hA.2.1
  refine ar_aload_n (pc' := 1) hM rfl rfl rfl ?_
  refine ar_iload_n (pc' := 2) hM rfl rfl rfl ?_
  refine ar_virtual (pc' := 5) (k3 := 0) (k4 := 0) hM rfl rfl hm ⟨rfl, (by decide)⟩ rfl rfl (by have h0 := d_isH (w := w) T hm h; rw [if_neg (fun q => hh ((i_H_iff hn6 _).mp q))] at h0; exact h0) (fun r2 w2 q2 => ?_)
  obtain ⟨rfl, q2w⟩ := q2
  rw [q2w]
  show am_Go 143 (5, [.ref 133, .int h, .float 0, .float 0, .float 0], [.int 0], w, 0, 0) _
  refine ar_if_ne (pc' := 8) hM rfl rfl (fun q => absurd (by decide) q) (fun _ => ?_)
  refine ar_iconst (x := (-1)) (pc' := 9) hM rfl (by decide) rfl ?_
  refine ar_ireturn hM rfl (Or.inl rfl) ?_
  exact ⟨rfl, ⟨_, _, _, _, _, _, _, _, _, _, _, _, _, _, _, _, _, _, _, _, _, hm, h134, h135, h136, h137, h138, h139, h140, h141, h142, h143, h144, h145, h146, h147, h148, h149, ⟨ht40, hN6⟩, hT, hS, htx, hA, hK, hN⟩, am_same.rf⟩
set_option maxRecDepth 100000 in
set_option maxHeartbeats 4000000 in
theorem e_salts (w : am_W) (t : Nat × (Nat → Int32)) (T : p_D) (S : s_S) (A : List s_S) (K : Nat → Option s_S) (N : x_N) (sd : Int64) (d : Nat) (hd : d ≤ 1000) (hv : v_W d T S A K) (hW : d_W w t T S A K N sd) (k : Nat) (hk : k < T.2.2.1) : am_Go 143 (0, [.ref 133, .int (nI k), .float 0, .float 0, .float 0], [], w, 0, 0) (fun res w' => res = some (.int ((m_few T S k (2 ^ T.2.2.1)).1)) ∧ d_W w' t T S A K N sd ∧ am_same (rg 133 17) w w') := by
  have hM : am_P[143]? = some zm_X11_salts := rfl
  have hn6 : T.2.2.1 ≤ 6 := hv.1.1.1
  have hvT := hv.1.1
  have hvS := hv.2.1.1
  have hdy := hv.2.1.2.1
  obtain ⟨rh, rk, wh, fa, nx, ne, ki, ba, he, nw, rH, rT, tx, td, rw_, oo, s1, s2, s3, ik, kp, hm, h134, h135, h136, h137, h138, h139, h140, h141, h142, h143, h144, h145, h146, h147, h148, h149, ⟨ht40, hN6⟩, hT, hS, htx, hA, hK, hN⟩ := hW
  have hnx := hA.1
  have hal := hA.2.1
  have h64 : 2 ^ T.2.2.1 ≤ 64 := by have := Nat.pow_le_pow_right (show 0 < 2 by decide) hn6; omega
  have hp2 : 0 < 2 ^ T.2.2.1 := Nat.two_pow_pos _
  refine ar_aload_n (pc' := 1) hM rfl rfl rfl ?_
  refine ar_iload_n (pc' := 2) hM rfl rfl rfl ?_
  refine ar_virtual (pc' := 5) (k3 := 0) (k4 := 0) hM rfl rfl hm ⟨rfl, (by decide)⟩ rfl rfl (by have h0 := d_isH (w := w) T hm (nI k); rw [if_pos ((i_H_iff hn6 _).mpr ⟨k, hk, rfl⟩)] at h0; exact h0) (fun r2 w2 q2 => ?_)
  obtain ⟨rfl, q2w⟩ := q2
  rw [q2w]
  show am_Go 143 (5, [.ref 133, .int (nI k), .float 0, .float 0, .float 0], [.int 1], w, 0, 0) _
  refine ar_if_ne (pc' := 8) hM rfl rfl (fun _ => ?_) (fun q => absurd q (by decide))
  refine ar_bipush (x := (-9)) (pc' := 12) hM rfl (by decide) rfl ?_
  refine ar_istore_n (pc' := 13) hM rfl rfl rfl rfl ?_
  refine ar_iconst (x := 0) (pc' := 14) hM rfl (by decide) rfl ?_
  refine ar_istore_n (pc' := 15) hM rfl rfl rfl rfl ?_
  have loop : ∀ (dj j : Nat) (y : Int32) (g : Nat → Int32) (f : Nat → Int32) (z4 : Value), dj + j = 2 ^ T.2.2.1 → (y = (m_few T S k j).1) → (∀ i, i < 21 → g i = nw i) → am_Go 143 (15, [.ref 133, .int (nI k), .int y, .int (nI j), z4], [], ((w.set 138 (.inl (0, 42, .inl g))).set 142 (.inl (0, 36, .inl f))), 0, 0) (fun res w' => res = some (.int ((m_few T S k (2 ^ T.2.2.1)).1)) ∧ d_W w' t T S A K N sd ∧ am_same (rg 133 17) w w') := by
    intro dj
    induction dj with
    | zero =>
      intro j y g f z4 hj hy q1
      refine ar_iload_n (pc' := 16) hM rfl rfl rfl ?_
      refine ar_aload_n (pc' := 17) hM rfl rfl rfl ?_
      refine ar_virtual (pc' := 20) (k3 := 0) (k4 := 0) hM rfl rfl (am_gn (by decide) (am_gn (by decide) hm)) ⟨rfl, (by decide)⟩ rfl rfl (by have h0 := d_every (w := ((w.set 138 (.inl (0, 42, .inl g))).set 142 (.inl (0, 36, .inl f)))) T (am_gn (by decide) (am_gn (by decide) hm)) hn6; rw [i_pred (Nat.two_pow_pos _)] at h0; exact h0) (fun r17 w17 q17 => ?_)
      obtain ⟨rfl, q17w⟩ := q17
      rw [q17w]
      show am_Go 143 (20, [.ref 133, .int (nI k), .int y, .int (nI j), z4], [.int (nI (2 ^ T.2.2.1 - 1)), .int (nI j)], ((w.set 138 (.inl (0, 42, .inl g))).set 142 (.inl (0, 36, .inl f))), 0, 0) _
      refine ar_icmp_gt (pc' := 23) hM rfl rfl (fun _ => ?_) (fun q => absurd (nI_lt (by omega) (by omega)) q)
      refine ar_iload_n (pc' := 109) hM rfl rfl rfl ?_
      refine ar_ireturn hM rfl (Or.inl rfl) ?_
      exact ⟨by rw [hy, show j = 2 ^ T.2.2.1 by omega], ⟨_, _, _, _, _, _, _, _, _, _, _, _, _, _, _, _, _, _, _, _, _, (am_gn (by decide) (am_gn (by decide) hm)), (am_gn (by decide) (am_gn (by decide) h134)), (am_gn (by decide) (am_gn (by decide) h135)), (am_gn (by decide) (am_gn (by decide) h136)), (am_gn (by decide) (am_gn (by decide) h137)), (am_gn (by decide) (am_gs h138)), (am_gn (by decide) (am_gn (by decide) h139)), (am_gn (by decide) (am_gn (by decide) h140)), (am_gn (by decide) (am_gn (by decide) h141)), (am_gs (am_gn (by decide) h142)), (am_gn (by decide) (am_gn (by decide) h143)), (am_gn (by decide) (am_gn (by decide) h144)), (am_gn (by decide) (am_gn (by decide) h145)), (am_gn (by decide) (am_gn (by decide) h146)), (am_gn (by decide) (am_gn (by decide) h147)), (am_gn (by decide) (am_gn (by decide) h148)), (am_gn (by decide) (am_gn (by decide) h149)), ⟨ht40, hN6⟩, hT, (hS.cg hn6 (fun i hi => by rw [Nat.zero_add]; exact q1 i hi)), htx, hA, hK, hN⟩, (am_same.set (am_same.set am_same.rf (by unfold rg; omega)) (by unfold rg; omega))⟩
    | succ dj ih =>
      intro j y g f z4 hj hy q1
      refine ar_iload_n (pc' := 16) hM rfl rfl rfl ?_
      refine ar_aload_n (pc' := 17) hM rfl rfl rfl ?_
      refine ar_virtual (pc' := 20) (k3 := 0) (k4 := 0) hM rfl rfl (am_gn (by decide) (am_gn (by decide) hm)) ⟨rfl, (by decide)⟩ rfl rfl (by have h0 := d_every (w := ((w.set 138 (.inl (0, 42, .inl g))).set 142 (.inl (0, 36, .inl f)))) T (am_gn (by decide) (am_gn (by decide) hm)) hn6; rw [i_pred (Nat.two_pow_pos _)] at h0; exact h0) (fun r17 w17 q17 => ?_)
      obtain ⟨rfl, q17w⟩ := q17
      rw [q17w]
      show am_Go 143 (20, [.ref 133, .int (nI k), .int y, .int (nI j), z4], [.int (nI (2 ^ T.2.2.1 - 1)), .int (nI j)], ((w.set 138 (.inl (0, 42, .inl g))).set 142 (.inl (0, 36, .inl f))), 0, 0) _
      refine ar_icmp_gt (pc' := 23) hM rfl rfl (fun q => absurd q (nI_nlt (by omega) (by omega))) (fun _ => ?_)
      refine ar_iload_n (pc' := 24) hM rfl rfl rfl ?_
      refine ar_aload_n (pc' := 25) hM rfl rfl rfl ?_
      refine ar_getfield (pc' := 28) hM rfl (am_gn (by decide) (am_gn (by decide) hm)) rfl rfl ?_
      refine ar_bipush (x := 18) (pc' := 30) hM rfl (by decide) rfl ?_
      refine ar_ialoadN (j := 18) (pc' := 31) hM rfl (am_gn (by decide) (am_gs h138)) (by decide) (by omega) (Nat.le_of_ble_eq_true rfl) rfl ?_
      rw [show (g 18 : Int32) = S.2.2.2.2.1 from ((q1 18 (by omega)).trans (by have h0 := hS.2.1; rw [Nat.zero_add] at h0; exact h0))]
      refine ar_iand (pc' := 32) hM rfl rfl ?_
      refine ar_if_ne (pc' := 35) hM rfl rfl (fun c32 => ?_) (fun c32 => ?_)
      · refine ar_iconst (x := 0) (pc' := 57) hM rfl (by decide) rfl ?_
        refine ar_istore (pc' := 59) hM rfl rfl rfl rfl ?_
        refine ar_iload (pc' := 61) hM rfl rfl rfl ?_
        refine ar_if_eq (pc' := 64) hM rfl rfl (fun _ => ?_) (fun q => absurd rfl q)
        refine ar_iinc (z := nI (j + 1)) (pc' := 105) hM rfl rfl (nI_1 _) rfl rfl rfl ?_
        refine ar_goto hM rfl ?_
        exact ih (j + 1) y g f (.int 0) (by omega) (by show _ = (if _ then _ else m_few T S k j).1; rw [if_neg (fun q => c32 q.1.1)]; exact hy) q1
      · refine ar_iload_n (pc' := 36) hM rfl rfl rfl ?_
        refine ar_bipush (x := (-9)) (pc' := 38) hM rfl (by decide) rfl ?_
        refine ar_icmp_eq (pc' := 41) hM rfl rfl (fun c38 => ?_) (fun c38 => ?_)
        · refine ar_iconst (x := 1) (pc' := 53) hM rfl (by decide) rfl ?_
          refine ar_goto hM rfl ?_
          refine ar_istore (pc' := 59) hM rfl rfl rfl rfl ?_
          refine ar_iload (pc' := 61) hM rfl rfl rfl ?_
          refine ar_if_eq (pc' := 64) hM rfl rfl (fun q => absurd q (by decide)) (fun _ => ?_)
          refine ar_aload_n (pc' := 65) hM rfl rfl rfl ?_
          refine ar_virtual (pc' := 68) (k3 := 0) (k4 := 0) hM rfl rfl (am_gn (by decide) (am_gn (by decide) hm)) ⟨rfl, (by decide)⟩ rfl rfl (d_trial T (am_gn (by decide) (am_gn (by decide) hm)) (am_gn (by decide) (am_gs h138))) (fun r65 w65 q65 => ?_)
          obtain ⟨nw1, rfl, q65w, hl1, hh1⟩ := q65
          rw [q65w]
          show am_Go 143 (68, [.ref 133, .int (nI k), .int y, .int (nI j), .int 1], [], (((w.set 138 (.inl (0, 42, .inl g))).set 142 (.inl (0, 36, .inl f))).set 138 (.inl (0, 42, .inl nw1))), 0, 0) _
          refine ar_aload_n (pc' := 69) hM rfl rfl rfl ?_
          refine ar_getfield (pc' := 72) hM rfl (am_gn (by decide) (am_gn (by decide) (am_gn (by decide) hm))) rfl rfl ?_
          refine ar_bipush (x := 39) (pc' := 74) hM rfl (by decide) rfl ?_
          refine ar_dup2 (pc' := 75) hM rfl rfl rfl rfl ?_
          refine ar_ialoadN (j := 39) (pc' := 76) hM rfl (am_gs (am_gn (by decide) (am_gs h138))) (by decide) (by omega) (Nat.le_of_ble_eq_true rfl) rfl ?_
          rw [show (nw1 39 : Int32) = S.2.2.2.2.1 from ((hh1 18 (by omega)).trans ((q1 18 (by omega)).trans (by have h0 := hS.2.1; rw [Nat.zero_add] at h0; exact h0)))]
          refine ar_iload_n (pc' := 77) hM rfl rfl rfl ?_
          refine ar_ior (pc' := 78) hM rfl rfl ?_
          refine ar_iastoreN (j := 39) (pc' := 79) hM rfl (am_gs (am_gn (by decide) (am_gs h138))) (by decide) (by omega) (Nat.le_of_ble_eq_true rfl) (by decide) rfl ?_
          refine ar_aload_n (pc' := 80) hM rfl rfl rfl ?_
          refine ar_iconst (x := 1) (pc' := 81) hM rfl (by decide) rfl ?_
          refine ar_virtual (pc' := 84) (k3 := 0) (k4 := 0) hM rfl rfl (am_gn (by decide) (am_gn (by decide) (am_gn (by decide) (am_gn (by decide) hm)))) ⟨rfl, (by decide)⟩ rfl rfl (d_lay T (am_gn (by decide) (am_gn (by decide) (am_gn (by decide) (am_gn (by decide) hm)))) (am_gn (by decide) (am_gn (by decide) (am_gn (by decide) (am_gn (by decide) h134)))) (am_gn (by decide) (am_gn (by decide) (am_gn (by decide) (am_gn (by decide) h135)))) (am_gn (by decide) (am_gn (by decide) (am_gn (by decide) (am_gn (by decide) h136)))) (am_gn (by decide) (am_gn (by decide) (am_gn (by decide) (am_gn (by decide) h137)))) (am_gs (am_gs (am_gn (by decide) (am_gs h138)))) (am_gn (by decide) (am_gn (by decide) (am_gs (am_gn (by decide) h142)))) hT 1 (by omega) (m_set S (S.2.2.2.2.1 ||| nI j) S.2.2.2.2.2.1 S.2.2.2.2.2.2) hvT (show v_S T.2.2.1 (m_set S (S.2.2.2.2.1 ||| nI j) S.2.2.2.2.2.1 S.2.2.2.2.2.2) from hvS) (d_S_b18 hn6 (hS.cg (b' := 21 * 1) hn6 (fun i hi => by rw [Nat.zero_add]; exact (hh1 i hi).trans (q1 i hi))) (S.2.2.2.2.1 ||| nI j))) (fun r81 w81 q81 => ?_)
          obtain ⟨td4, rfl, q81w, hY4⟩ := q81
          rw [q81w]
          show am_Go 143 (84, [.ref 133, .int (nI k), .int y, .int (nI j), .int 1], [], (((((w.set 138 (.inl (0, 42, .inl g))).set 142 (.inl (0, 36, .inl f))).set 138 (.inl (0, 42, .inl nw1))).set 138 (.inl (0, 42, .inl (upd nw1 39 (S.2.2.2.2.1 ||| (nI j)))))).set 142 (.inl (0, 36, .inl td4))), 0, 0) _
          refine ar_aload_n (pc' := 85) hM rfl rfl rfl ?_
          refine ar_getfield (pc' := 88) hM rfl (am_gn (by decide) (am_gn (by decide) (am_gn (by decide) (am_gn (by decide) (am_gn (by decide) hm))))) rfl rfl ?_
          refine ar_bipush (x := 24) (pc' := 90) hM rfl (by decide) rfl ?_
          refine ar_iload_n (pc' := 91) hM rfl rfl rfl ?_
          refine ar_iadd (pc' := 92) hM rfl rfl ?_
          rw [show (24 + (nI k) : Int32) = nI (24 + k) from nI_add 24 k]
          refine ar_ialoadN (j := (24 + k)) (pc' := 93) hM rfl (am_gs (am_gn (by decide) (am_gn (by decide) (am_gs (am_gn (by decide) h142))))) rfl (by omega) (Nat.le_of_ble_eq_true rfl) rfl ?_
          rw [show (td4 (24 + k) : Int32) = m_lk T (m_set S (S.2.2.2.2.1 ||| nI j) S.2.2.2.2.2.1 S.2.2.2.2.2.2) 0 k from (hY4 k hk).2.2.2.2.1]
          refine ar_if_ne (pc' := 96) hM rfl rfl (fun c93 => ?_) (fun c93 => ?_)
          · refine ar_iload_n (pc' := 101) hM rfl rfl rfl ?_
            refine ar_istore_n (pc' := 102) hM rfl rfl rfl rfl ?_
            refine ar_iinc (z := nI (j + 1)) (pc' := 105) hM rfl rfl (nI_1 _) rfl rfl rfl ?_
            refine ar_goto hM rfl ?_
            rw [show (((w.set 138 (.inl (0, 42, .inl g))).set 142 (.inl (0, 36, .inl f))).set 138 (.inl (0, 42, .inl nw1))) = ((w.set 138 (.inl (0, 42, .inl nw1))).set 142 (.inl (0, 36, .inl f))) from by rw [List.set_comm _ _ (show 142 ≠ 138 by decide), List.set_set]]
            rw [show (((w.set 138 (.inl (0, 42, .inl nw1))).set 142 (.inl (0, 36, .inl f))).set 138 (.inl (0, 42, .inl (upd nw1 39 (S.2.2.2.2.1 ||| (nI j)))))) = ((w.set 138 (.inl (0, 42, .inl (upd nw1 39 (S.2.2.2.2.1 ||| (nI j)))))).set 142 (.inl (0, 36, .inl f))) from by rw [List.set_comm _ _ (show 142 ≠ 138 by decide), List.set_set]]
            rw [show (((w.set 138 (.inl (0, 42, .inl (upd nw1 39 (S.2.2.2.2.1 ||| (nI j)))))).set 142 (.inl (0, 36, .inl f))).set 142 (.inl (0, 36, .inl td4))) = ((w.set 138 (.inl (0, 42, .inl (upd nw1 39 (S.2.2.2.2.1 ||| (nI j)))))).set 142 (.inl (0, 36, .inl td4))) from by rw [List.set_set]]
            exact ih (j + 1) y (upd nw1 39 (S.2.2.2.2.1 ||| (nI j))) td4 (.int 1) (by omega) (by show _ = (if _ then _ else m_few T S k j).1; rw [if_neg (fun q => c93 q.2)]; exact hy) (fun i hi => by rw [pk_un (by omega)]; exact (hl1 i hi).trans (q1 i hi))
          · refine ar_iload_n (pc' := 97) hM rfl rfl rfl ?_
            refine ar_goto hM rfl ?_
            refine ar_istore_n (pc' := 102) hM rfl rfl rfl rfl ?_
            refine ar_iinc (z := nI (j + 1)) (pc' := 105) hM rfl rfl (nI_1 _) rfl rfl rfl ?_
            refine ar_goto hM rfl ?_
            rw [show (((w.set 138 (.inl (0, 42, .inl g))).set 142 (.inl (0, 36, .inl f))).set 138 (.inl (0, 42, .inl nw1))) = ((w.set 138 (.inl (0, 42, .inl nw1))).set 142 (.inl (0, 36, .inl f))) from by rw [List.set_comm _ _ (show 142 ≠ 138 by decide), List.set_set]]
            rw [show (((w.set 138 (.inl (0, 42, .inl nw1))).set 142 (.inl (0, 36, .inl f))).set 138 (.inl (0, 42, .inl (upd nw1 39 (S.2.2.2.2.1 ||| (nI j)))))) = ((w.set 138 (.inl (0, 42, .inl (upd nw1 39 (S.2.2.2.2.1 ||| (nI j)))))).set 142 (.inl (0, 36, .inl f))) from by rw [List.set_comm _ _ (show 142 ≠ 138 by decide), List.set_set]]
            rw [show (((w.set 138 (.inl (0, 42, .inl (upd nw1 39 (S.2.2.2.2.1 ||| (nI j)))))).set 142 (.inl (0, 36, .inl f))).set 142 (.inl (0, 36, .inl td4))) = ((w.set 138 (.inl (0, 42, .inl (upd nw1 39 (S.2.2.2.2.1 ||| (nI j)))))).set 142 (.inl (0, 36, .inl td4))) from by rw [List.set_set]]
            exact ih (j + 1) (nI j) (upd nw1 39 (S.2.2.2.2.1 ||| (nI j))) td4 (.int 1) (by omega) (by show _ = (if _ then _ else m_few T S k j).1; rw [if_pos ⟨⟨c32, (m_few_may (by omega) hy).mp (Or.inl c38)⟩, c93⟩]) (fun i hi => by rw [pk_un (by omega)]; exact (hl1 i hi).trans (q1 i hi))
        · refine ar_iload_n (pc' := 42) hM rfl rfl rfl ?_
          refine ar_static (pc' := 45) (k3 := 0) (k4 := 0) hM rfl (by decide) rfl rfl (d_ones _ j (by omega)) (fun r42 w42 q42 => ?_)
          obtain ⟨rfl, q42w⟩ := q42
          rw [q42w]
          show am_Go 143 (45, [.ref 133, .int (nI k), .int y, .int (nI j), z4], [.int (nI (n_pop j))], ((w.set 138 (.inl (0, 42, .inl g))).set 142 (.inl (0, 36, .inl f))), 0, 0) _
          refine ar_iload_n (pc' := 46) hM rfl rfl rfl ?_
          refine ar_static (pc' := 49) (k3 := 0) (k4 := 0) hM rfl (by decide) rfl rfl (d_ones0 _ _) (fun r46 w46 q46 => ?_)
          obtain ⟨rfl, q46w⟩ := q46
          rw [q46w]
          show am_Go 143 (49, [.ref 133, .int (nI k), .int y, .int (nI j), z4], [.int (i_ons y 6), .int (nI (n_pop j))], ((w.set 138 (.inl (0, 42, .inl g))).set 142 (.inl (0, 36, .inl f))), 0, 0) _
          refine ar_icmp_ge (pc' := 52) hM rfl rfl (fun c49 => ?_) (fun c49 => ?_)
          · refine ar_iconst (x := 0) (pc' := 57) hM rfl (by decide) rfl ?_
            refine ar_istore (pc' := 59) hM rfl rfl rfl rfl ?_
            refine ar_iload (pc' := 61) hM rfl rfl rfl ?_
            refine ar_if_eq (pc' := 64) hM rfl rfl (fun _ => ?_) (fun q => absurd rfl q)
            refine ar_iinc (z := nI (j + 1)) (pc' := 105) hM rfl rfl (nI_1 _) rfl rfl rfl ?_
            refine ar_goto hM rfl ?_
            exact ih (j + 1) y g f (.int 0) (by omega) (by show _ = (if _ then _ else m_few T S k j).1; rw [if_neg (fun q => absurd ((m_few_may (by omega) hy).mpr q.1.2) (fun q => q.elim (fun q => c38 q) (fun q => absurd q (Int32.not_lt.mpr c49))))]; exact hy) q1
          · refine ar_iconst (x := 1) (pc' := 53) hM rfl (by decide) rfl ?_
            refine ar_goto hM rfl ?_
            refine ar_istore (pc' := 59) hM rfl rfl rfl rfl ?_
            refine ar_iload (pc' := 61) hM rfl rfl rfl ?_
            refine ar_if_eq (pc' := 64) hM rfl rfl (fun q => absurd q (by decide)) (fun _ => ?_)
            refine ar_aload_n (pc' := 65) hM rfl rfl rfl ?_
            refine ar_virtual (pc' := 68) (k3 := 0) (k4 := 0) hM rfl rfl (am_gn (by decide) (am_gn (by decide) hm)) ⟨rfl, (by decide)⟩ rfl rfl (d_trial T (am_gn (by decide) (am_gn (by decide) hm)) (am_gn (by decide) (am_gs h138))) (fun r65 w65 q65 => ?_)
            obtain ⟨nw1, rfl, q65w, hl1, hh1⟩ := q65
            rw [q65w]
            show am_Go 143 (68, [.ref 133, .int (nI k), .int y, .int (nI j), .int 1], [], (((w.set 138 (.inl (0, 42, .inl g))).set 142 (.inl (0, 36, .inl f))).set 138 (.inl (0, 42, .inl nw1))), 0, 0) _
            refine ar_aload_n (pc' := 69) hM rfl rfl rfl ?_
            refine ar_getfield (pc' := 72) hM rfl (am_gn (by decide) (am_gn (by decide) (am_gn (by decide) hm))) rfl rfl ?_
            refine ar_bipush (x := 39) (pc' := 74) hM rfl (by decide) rfl ?_
            refine ar_dup2 (pc' := 75) hM rfl rfl rfl rfl ?_
            refine ar_ialoadN (j := 39) (pc' := 76) hM rfl (am_gs (am_gn (by decide) (am_gs h138))) (by decide) (by omega) (Nat.le_of_ble_eq_true rfl) rfl ?_
            rw [show (nw1 39 : Int32) = S.2.2.2.2.1 from ((hh1 18 (by omega)).trans ((q1 18 (by omega)).trans (by have h0 := hS.2.1; rw [Nat.zero_add] at h0; exact h0)))]
            refine ar_iload_n (pc' := 77) hM rfl rfl rfl ?_
            refine ar_ior (pc' := 78) hM rfl rfl ?_
            refine ar_iastoreN (j := 39) (pc' := 79) hM rfl (am_gs (am_gn (by decide) (am_gs h138))) (by decide) (by omega) (Nat.le_of_ble_eq_true rfl) (by decide) rfl ?_
            refine ar_aload_n (pc' := 80) hM rfl rfl rfl ?_
            refine ar_iconst (x := 1) (pc' := 81) hM rfl (by decide) rfl ?_
            refine ar_virtual (pc' := 84) (k3 := 0) (k4 := 0) hM rfl rfl (am_gn (by decide) (am_gn (by decide) (am_gn (by decide) (am_gn (by decide) hm)))) ⟨rfl, (by decide)⟩ rfl rfl (d_lay T (am_gn (by decide) (am_gn (by decide) (am_gn (by decide) (am_gn (by decide) hm)))) (am_gn (by decide) (am_gn (by decide) (am_gn (by decide) (am_gn (by decide) h134)))) (am_gn (by decide) (am_gn (by decide) (am_gn (by decide) (am_gn (by decide) h135)))) (am_gn (by decide) (am_gn (by decide) (am_gn (by decide) (am_gn (by decide) h136)))) (am_gn (by decide) (am_gn (by decide) (am_gn (by decide) (am_gn (by decide) h137)))) (am_gs (am_gs (am_gn (by decide) (am_gs h138)))) (am_gn (by decide) (am_gn (by decide) (am_gs (am_gn (by decide) h142)))) hT 1 (by omega) (m_set S (S.2.2.2.2.1 ||| nI j) S.2.2.2.2.2.1 S.2.2.2.2.2.2) hvT (show v_S T.2.2.1 (m_set S (S.2.2.2.2.1 ||| nI j) S.2.2.2.2.2.1 S.2.2.2.2.2.2) from hvS) (d_S_b18 hn6 (hS.cg (b' := 21 * 1) hn6 (fun i hi => by rw [Nat.zero_add]; exact (hh1 i hi).trans (q1 i hi))) (S.2.2.2.2.1 ||| nI j))) (fun r81 w81 q81 => ?_)
            obtain ⟨td5, rfl, q81w, hY5⟩ := q81
            rw [q81w]
            show am_Go 143 (84, [.ref 133, .int (nI k), .int y, .int (nI j), .int 1], [], (((((w.set 138 (.inl (0, 42, .inl g))).set 142 (.inl (0, 36, .inl f))).set 138 (.inl (0, 42, .inl nw1))).set 138 (.inl (0, 42, .inl (upd nw1 39 (S.2.2.2.2.1 ||| (nI j)))))).set 142 (.inl (0, 36, .inl td5))), 0, 0) _
            refine ar_aload_n (pc' := 85) hM rfl rfl rfl ?_
            refine ar_getfield (pc' := 88) hM rfl (am_gn (by decide) (am_gn (by decide) (am_gn (by decide) (am_gn (by decide) (am_gn (by decide) hm))))) rfl rfl ?_
            refine ar_bipush (x := 24) (pc' := 90) hM rfl (by decide) rfl ?_
            refine ar_iload_n (pc' := 91) hM rfl rfl rfl ?_
            refine ar_iadd (pc' := 92) hM rfl rfl ?_
            rw [show (24 + (nI k) : Int32) = nI (24 + k) from nI_add 24 k]
            refine ar_ialoadN (j := (24 + k)) (pc' := 93) hM rfl (am_gs (am_gn (by decide) (am_gn (by decide) (am_gs (am_gn (by decide) h142))))) rfl (by omega) (Nat.le_of_ble_eq_true rfl) rfl ?_
            rw [show (td5 (24 + k) : Int32) = m_lk T (m_set S (S.2.2.2.2.1 ||| nI j) S.2.2.2.2.2.1 S.2.2.2.2.2.2) 0 k from (hY5 k hk).2.2.2.2.1]
            refine ar_if_ne (pc' := 96) hM rfl rfl (fun c93 => ?_) (fun c93 => ?_)
            · refine ar_iload_n (pc' := 101) hM rfl rfl rfl ?_
              refine ar_istore_n (pc' := 102) hM rfl rfl rfl rfl ?_
              refine ar_iinc (z := nI (j + 1)) (pc' := 105) hM rfl rfl (nI_1 _) rfl rfl rfl ?_
              refine ar_goto hM rfl ?_
              rw [show (((w.set 138 (.inl (0, 42, .inl g))).set 142 (.inl (0, 36, .inl f))).set 138 (.inl (0, 42, .inl nw1))) = ((w.set 138 (.inl (0, 42, .inl nw1))).set 142 (.inl (0, 36, .inl f))) from by rw [List.set_comm _ _ (show 142 ≠ 138 by decide), List.set_set]]
              rw [show (((w.set 138 (.inl (0, 42, .inl nw1))).set 142 (.inl (0, 36, .inl f))).set 138 (.inl (0, 42, .inl (upd nw1 39 (S.2.2.2.2.1 ||| (nI j)))))) = ((w.set 138 (.inl (0, 42, .inl (upd nw1 39 (S.2.2.2.2.1 ||| (nI j)))))).set 142 (.inl (0, 36, .inl f))) from by rw [List.set_comm _ _ (show 142 ≠ 138 by decide), List.set_set]]
              rw [show (((w.set 138 (.inl (0, 42, .inl (upd nw1 39 (S.2.2.2.2.1 ||| (nI j)))))).set 142 (.inl (0, 36, .inl f))).set 142 (.inl (0, 36, .inl td5))) = ((w.set 138 (.inl (0, 42, .inl (upd nw1 39 (S.2.2.2.2.1 ||| (nI j)))))).set 142 (.inl (0, 36, .inl td5))) from by rw [List.set_set]]
              exact ih (j + 1) y (upd nw1 39 (S.2.2.2.2.1 ||| (nI j))) td5 (.int 1) (by omega) (by show _ = (if _ then _ else m_few T S k j).1; rw [if_neg (fun q => c93 q.2)]; exact hy) (fun i hi => by rw [pk_un (by omega)]; exact (hl1 i hi).trans (q1 i hi))
            · refine ar_iload_n (pc' := 97) hM rfl rfl rfl ?_
              refine ar_goto hM rfl ?_
              refine ar_istore_n (pc' := 102) hM rfl rfl rfl rfl ?_
              refine ar_iinc (z := nI (j + 1)) (pc' := 105) hM rfl rfl (nI_1 _) rfl rfl rfl ?_
              refine ar_goto hM rfl ?_
              rw [show (((w.set 138 (.inl (0, 42, .inl g))).set 142 (.inl (0, 36, .inl f))).set 138 (.inl (0, 42, .inl nw1))) = ((w.set 138 (.inl (0, 42, .inl nw1))).set 142 (.inl (0, 36, .inl f))) from by rw [List.set_comm _ _ (show 142 ≠ 138 by decide), List.set_set]]
              rw [show (((w.set 138 (.inl (0, 42, .inl nw1))).set 142 (.inl (0, 36, .inl f))).set 138 (.inl (0, 42, .inl (upd nw1 39 (S.2.2.2.2.1 ||| (nI j)))))) = ((w.set 138 (.inl (0, 42, .inl (upd nw1 39 (S.2.2.2.2.1 ||| (nI j)))))).set 142 (.inl (0, 36, .inl f))) from by rw [List.set_comm _ _ (show 142 ≠ 138 by decide), List.set_set]]
              rw [show (((w.set 138 (.inl (0, 42, .inl (upd nw1 39 (S.2.2.2.2.1 ||| (nI j)))))).set 142 (.inl (0, 36, .inl f))).set 142 (.inl (0, 36, .inl td5))) = ((w.set 138 (.inl (0, 42, .inl (upd nw1 39 (S.2.2.2.2.1 ||| (nI j)))))).set 142 (.inl (0, 36, .inl td5))) from by rw [List.set_set]]
              exact ih (j + 1) (nI j) (upd nw1 39 (S.2.2.2.2.1 ||| (nI j))) td5 (.int 1) (by omega) (by show _ = (if _ then _ else m_few T S k j).1; rw [if_pos ⟨⟨c32, (m_few_may (by omega) hy).mp (Or.inr (Int32.not_le.mp c49))⟩, c93⟩]) (fun i hi => by rw [pk_un (by omega)]; exact (hl1 i hi).trans (q1 i hi))
  have hl0 := loop (2 ^ T.2.2.1) 0 (-9) nw td (.float 0) (by omega) rfl (fun _ _ => rfl)
  rw [am_si h138, am_si h142] at hl0
  exact hl0
set_option maxRecDepth 100000 in
set_option maxHeartbeats 4000000 in
theorem e_caskN (w : am_W) (t : Nat × (Nat → Int32)) (T : p_D) (S : s_S) (A : List s_S) (K : Nat → Option s_S) (N : x_N) (sd : Int64) (d : Nat) (hd : d ≤ 1000) (hv : v_W d T S A K) (hW : d_W w t T S A K N sd) (h : Int32) (hh : ¬ i_H T.2.2.1 h) : am_Go 144 (0, [.ref 133, .int h, .float 0, .float 0, .float 0, .float 0], [], w, 0, 0) (fun res w' => res = some (.int (-1)) ∧ d_W w' t T S A K N sd ∧ am_same (rg 133 17) w w') := by
  have hM : am_P[144]? = some zm_X11_cask := rfl
  have hn6 : T.2.2.1 ≤ 6 := hv.1.1.1
  have hvT := hv.1.1
  have hvS := hv.2.1.1
  have hdy := hv.2.1.2.1
  obtain ⟨rh, rk, wh, fa, nx, ne, ki, ba, he, nw, rH, rT, tx, td, rw_, oo, s1, s2, s3, ik, kp, hm, h134, h135, h136, h137, h138, h139, h140, h141, h142, h143, h144, h145, h146, h147, h148, h149, ⟨ht40, hN6⟩, hT, hS, htx, hA, hK, hN⟩ := hW
  have hnx := hA.1
  have hal := hA.2.1
  refine ar_aload_n (pc' := 1) hM rfl rfl rfl ?_
  refine ar_iload_n (pc' := 2) hM rfl rfl rfl ?_
  refine ar_virtual (pc' := 5) (k3 := 0) (k4 := 0) hM rfl rfl hm ⟨rfl, (by decide)⟩ rfl rfl (by have h0 := d_isH (w := w) T hm h; rw [if_neg (fun q => hh ((i_H_iff hn6 _).mp q))] at h0; exact h0) (fun r2 w2 q2 => ?_)
  obtain ⟨rfl, q2w⟩ := q2
  rw [q2w]
  show am_Go 144 (5, [.ref 133, .int h, .float 0, .float 0, .float 0, .float 0], [.int 0], w, 0, 0) _
  refine ar_if_ne (pc' := 8) hM rfl rfl (fun q => absurd (by decide) q) (fun _ => ?_)
  refine ar_iconst (x := (-1)) (pc' := 9) hM rfl (by decide) rfl ?_
  refine ar_ireturn hM rfl (Or.inl rfl) ?_
  exact ⟨rfl, ⟨_, _, _, _, _, _, _, _, _, _, _, _, _, _, _, _, _, _, _, _, _, hm, h134, h135, h136, h137, h138, h139, h140, h141, h142, h143, h144, h145, h146, h147, h148, h149, ⟨ht40, hN6⟩, hT, hS, htx, hA, hK, hN⟩, am_same.rf⟩
def m_ckr (T : p_D) (S : s_S) (k j : Nat) (y : Int32) : Prop := (y = -9 ∧ ∀ i, i < j → ¬ m_ck T S k i) ∨ ∃ b, b < j ∧ y = nI b ∧ m_ck T S k b ∧ ∀ i, i < b → ¬ m_ck T S k i
theorem m_ckr_no {T : p_D} {S : s_S} {k j : Nat} {y : Int32} (hj : j < 10) (h : m_ckr T S k j y) (hy : y = -9) (hn : ¬ m_ck T S k j) : m_ckr T S k (j + 1) y := by
  rcases h with ⟨a, b⟩ | ⟨b, h1, h2, h3⟩
  · exact Or.inl ⟨a, fun i hi => by rcases Nat.lt_or_ge i j with q | q; exact b i q; rw [show i = j by omega]; exact hn⟩
  · exact absurd (h2.symm.trans hy) (i_n9 (by omega))
theorem m_ckr_yes {T : p_D} {S : s_S} {k j : Nat} {y : Int32} (hj : j < 10) (h : m_ckr T S k j y) (hy : y = -9) (hn : m_ck T S k j) : m_ckr T S k (j + 1) (nI j) := by
  rcases h with ⟨a, b⟩ | ⟨b, h1, h2, h3⟩
  · exact Or.inr ⟨j, by omega, rfl, hn, b⟩
  · exact absurd (h2.symm.trans hy) (i_n9 (by omega))
theorem m_ckr_end {T : p_D} {S : s_S} {k j : Nat} {y : Int32} (hj : j ≤ 10) (h : m_ckr T S k j y) (he : j = 10 ∨ ¬ y = -9) : m_cask T S k (some (.int y)) := by
  rcases h with ⟨a, b⟩ | ⟨b, h1, h2, h3, h4⟩
  · rcases he with e | e
    · exact Or.inr ⟨fun i hi => b i (by omega), by rw [a]⟩
    · exact absurd a e
  · exact Or.inl ⟨b, by omega, h3, h4, by rw [h2]⟩
set_option maxRecDepth 100000 in
set_option maxHeartbeats 4000000 in
theorem e_cask (w : am_W) (t : Nat × (Nat → Int32)) (T : p_D) (S : s_S) (A : List s_S) (K : Nat → Option s_S) (N : x_N) (sd : Int64) (d : Nat) (hd : d ≤ 1000) (hv : v_W d T S A K) (hW : d_W w t T S A K N sd) (k : Nat) (hk : k < T.2.2.1) : am_Go 144 (0, [.ref 133, .int (nI k), .float 0, .float 0, .float 0, .float 0], [], w, 0, 0) (fun res w' => ∃ rr, res = some (.int rr) ∧ m_cask T S k (some (.int rr)) ∧ d_W w' t T S A K N sd ∧ am_same (rg 133 17) w w') := by
  have hM : am_P[144]? = some zm_X11_cask := rfl
  have hn6 : T.2.2.1 ≤ 6 := hv.1.1.1
  have hvT := hv.1.1
  have hvS := hv.2.1.1
  have hdy := hv.2.1.2.1
  obtain ⟨rh, rk, wh, fa, nx, ne, ki, ba, he, nw, rH, rT, tx, td, rw_, oo, s1, s2, s3, ik, kp, hm, h134, h135, h136, h137, h138, h139, h140, h141, h142, h143, h144, h145, h146, h147, h148, h149, ⟨ht40, hN6⟩, hT, hS, htx, hA, hK, hN⟩ := hW
  have hnx := hA.1
  have hal := hA.2.1
  refine ar_aload_n (pc' := 1) hM rfl rfl rfl ?_
  refine ar_iload_n (pc' := 2) hM rfl rfl rfl ?_
  refine ar_virtual (pc' := 5) (k3 := 0) (k4 := 0) hM rfl rfl hm ⟨rfl, (by decide)⟩ rfl rfl (by have h0 := d_isH (w := w) T hm (nI k); rw [if_pos ((i_H_iff hn6 _).mpr ⟨k, hk, rfl⟩)] at h0; exact h0) (fun r2 w2 q2 => ?_)
  obtain ⟨rfl, q2w⟩ := q2
  rw [q2w]
  show am_Go 144 (5, [.ref 133, .int (nI k), .float 0, .float 0, .float 0, .float 0], [.int 1], w, 0, 0) _
  refine ar_if_ne (pc' := 8) hM rfl rfl (fun _ => ?_) (fun q => absurd q (by decide))
  refine ar_aload_n (pc' := 11) hM rfl rfl rfl ?_
  refine ar_getfield (pc' := 14) hM rfl hm rfl rfl ?_
  refine ar_iload_n (pc' := 15) hM rfl rfl rfl ?_
  refine ar_ialoadN (j := k) (pc' := 16) hM rfl h136 rfl (by omega) (Nat.le_of_ble_eq_true rfl) rfl ?_
  refine ar_istore_n (pc' := 17) hM rfl rfl rfl rfl ?_
  refine ar_bipush (x := (-9)) (pc' := 19) hM rfl (by decide) rfl ?_
  refine ar_istore_n (pc' := 20) hM rfl rfl rfl rfl ?_
  refine ar_iconst (x := 0) (pc' := 21) hM rfl (by decide) rfl ?_
  refine ar_istore (pc' := 23) hM rfl rfl rfl rfl ?_
  have loop : ∀ (dj j : Nat) (y : Int32) (g : Nat → Int32) (f : Nat → Int32) (e : Nat → Int32) (z5 : Value), dj + j = 10 → (m_ckr T S k j y) → (∀ i, i < 21 → g i = nw i) → (∀ h, h ≠ k → e h = ba h) → am_Go 144 (23, [.ref 133, .int (nI k), .int (ba k), .int y, .int (nI j), z5], [], (((w.set 138 (.inl (0, 42, .inl g))).set 142 (.inl (0, 36, .inl f))).set 136 (.inl (0, 6, .inl e))), 0, 0) (fun res w' => ∃ rr, res = some (.int rr) ∧ m_cask T S k (some (.int rr)) ∧ d_W w' t T S A K N sd ∧ am_same (rg 133 17) w w') := by
    intro dj
    induction dj with
    | zero =>
      intro j y g f e z5 hj hy q1 q2
      refine ar_iload (pc' := 25) hM rfl rfl rfl ?_
      refine ar_bipush (x := 10) (pc' := 27) hM rfl (by decide) rfl ?_
      refine ar_icmp_ge (pc' := 30) hM rfl rfl (fun _ => ?_) (fun q => absurd (nI_le (a := 10) (b := j) (by omega) (by omega)) q)
      refine ar_aload_n (pc' := 115) hM rfl rfl rfl ?_
      refine ar_getfield (pc' := 118) hM rfl (am_gn (by decide) (am_gn (by decide) (am_gn (by decide) hm))) rfl rfl ?_
      refine ar_iload_n (pc' := 119) hM rfl rfl rfl ?_
      refine ar_iload_n (pc' := 120) hM rfl rfl rfl ?_
      refine ar_iastoreN (j := k) (pc' := 121) hM rfl (am_gs (am_gn (by decide) (am_gn (by decide) h136))) rfl (by omega) (Nat.le_of_ble_eq_true rfl) (by decide) rfl ?_
      refine ar_iload_n (pc' := 122) hM rfl rfl rfl ?_
      refine ar_ireturn hM rfl (Or.inl rfl) ?_
      exact ⟨y, rfl, m_ckr_end (by omega) hy (Or.inl (by omega)), ⟨_, _, _, _, _, _, _, _, _, _, _, _, _, _, _, _, _, _, _, _, _, (am_gn (by decide) (am_gn (by decide) (am_gn (by decide) (am_gn (by decide) hm)))), (am_gn (by decide) (am_gn (by decide) (am_gn (by decide) (am_gn (by decide) h134)))), (am_gn (by decide) (am_gn (by decide) (am_gn (by decide) (am_gn (by decide) h135)))), (am_gs (am_gs (am_gn (by decide) (am_gn (by decide) h136)))), (am_gn (by decide) (am_gn (by decide) (am_gn (by decide) (am_gn (by decide) h137)))), (am_gn (by decide) (am_gn (by decide) (am_gn (by decide) (am_gs h138)))), (am_gn (by decide) (am_gn (by decide) (am_gn (by decide) (am_gn (by decide) h139)))), (am_gn (by decide) (am_gn (by decide) (am_gn (by decide) (am_gn (by decide) h140)))), (am_gn (by decide) (am_gn (by decide) (am_gn (by decide) (am_gn (by decide) h141)))), (am_gn (by decide) (am_gn (by decide) (am_gs (am_gn (by decide) h142)))), (am_gn (by decide) (am_gn (by decide) (am_gn (by decide) (am_gn (by decide) h143)))), (am_gn (by decide) (am_gn (by decide) (am_gn (by decide) (am_gn (by decide) h144)))), (am_gn (by decide) (am_gn (by decide) (am_gn (by decide) (am_gn (by decide) h145)))), (am_gn (by decide) (am_gn (by decide) (am_gn (by decide) (am_gn (by decide) h146)))), (am_gn (by decide) (am_gn (by decide) (am_gn (by decide) (am_gn (by decide) h147)))), (am_gn (by decide) (am_gn (by decide) (am_gn (by decide) (am_gn (by decide) h148)))), (am_gn (by decide) (am_gn (by decide) (am_gn (by decide) (am_gn (by decide) h149)))), ⟨ht40, hN6⟩, ⟨fun h hh => ⟨(hT.1 h hh).1, (hT.1 h hh).2.1, by by_cases q : h = k; rw [q, pk_us]; exact (hT.1 k hk).2.2; rw [pk_un q, q2 h q]; exact (hT.1 h hh).2.2⟩, hT.2⟩, (hS.cg hn6 (fun i hi => by rw [Nat.zero_add]; exact q1 i hi)), htx, hA, hK, hN⟩, (am_same.set (am_same.set (am_same.set (am_same.set am_same.rf (by unfold rg; omega)) (by unfold rg; omega)) (by unfold rg; omega)) (by unfold rg; omega))⟩
    | succ dj ih =>
      intro j y g f e z5 hj hy q1 q2
      refine ar_iload (pc' := 25) hM rfl rfl rfl ?_
      refine ar_bipush (x := 10) (pc' := 27) hM rfl (by decide) rfl ?_
      refine ar_icmp_ge (pc' := 30) hM rfl rfl (fun q => absurd q (nI_ge (a := j) (b := 10) (by omega) (by omega))) (fun _ => ?_)
      refine ar_iload_n (pc' := 31) hM rfl rfl rfl ?_
      refine ar_bipush (x := (-9)) (pc' := 33) hM rfl (by decide) rfl ?_
      refine ar_icmp_ne (pc' := 36) hM rfl rfl (fun c33 => ?_) (fun c33 => ?_)
      · refine ar_aload_n (pc' := 115) hM rfl rfl rfl ?_
        refine ar_getfield (pc' := 118) hM rfl (am_gn (by decide) (am_gn (by decide) (am_gn (by decide) hm))) rfl rfl ?_
        refine ar_iload_n (pc' := 119) hM rfl rfl rfl ?_
        refine ar_iload_n (pc' := 120) hM rfl rfl rfl ?_
        refine ar_iastoreN (j := k) (pc' := 121) hM rfl (am_gs (am_gn (by decide) (am_gn (by decide) h136))) rfl (by omega) (Nat.le_of_ble_eq_true rfl) (by decide) rfl ?_
        refine ar_iload_n (pc' := 122) hM rfl rfl rfl ?_
        refine ar_ireturn hM rfl (Or.inl rfl) ?_
        exact ⟨y, rfl, m_ckr_end (by omega) hy (Or.inr c33), ⟨_, _, _, _, _, _, _, _, _, _, _, _, _, _, _, _, _, _, _, _, _, (am_gn (by decide) (am_gn (by decide) (am_gn (by decide) (am_gn (by decide) hm)))), (am_gn (by decide) (am_gn (by decide) (am_gn (by decide) (am_gn (by decide) h134)))), (am_gn (by decide) (am_gn (by decide) (am_gn (by decide) (am_gn (by decide) h135)))), (am_gs (am_gs (am_gn (by decide) (am_gn (by decide) h136)))), (am_gn (by decide) (am_gn (by decide) (am_gn (by decide) (am_gn (by decide) h137)))), (am_gn (by decide) (am_gn (by decide) (am_gn (by decide) (am_gs h138)))), (am_gn (by decide) (am_gn (by decide) (am_gn (by decide) (am_gn (by decide) h139)))), (am_gn (by decide) (am_gn (by decide) (am_gn (by decide) (am_gn (by decide) h140)))), (am_gn (by decide) (am_gn (by decide) (am_gn (by decide) (am_gn (by decide) h141)))), (am_gn (by decide) (am_gn (by decide) (am_gs (am_gn (by decide) h142)))), (am_gn (by decide) (am_gn (by decide) (am_gn (by decide) (am_gn (by decide) h143)))), (am_gn (by decide) (am_gn (by decide) (am_gn (by decide) (am_gn (by decide) h144)))), (am_gn (by decide) (am_gn (by decide) (am_gn (by decide) (am_gn (by decide) h145)))), (am_gn (by decide) (am_gn (by decide) (am_gn (by decide) (am_gn (by decide) h146)))), (am_gn (by decide) (am_gn (by decide) (am_gn (by decide) (am_gn (by decide) h147)))), (am_gn (by decide) (am_gn (by decide) (am_gn (by decide) (am_gn (by decide) h148)))), (am_gn (by decide) (am_gn (by decide) (am_gn (by decide) (am_gn (by decide) h149)))), ⟨ht40, hN6⟩, ⟨fun h hh => ⟨(hT.1 h hh).1, (hT.1 h hh).2.1, by by_cases q : h = k; rw [q, pk_us]; exact (hT.1 k hk).2.2; rw [pk_un q, q2 h q]; exact (hT.1 h hh).2.2⟩, hT.2⟩, (hS.cg hn6 (fun i hi => by rw [Nat.zero_add]; exact q1 i hi)), htx, hA, hK, hN⟩, (am_same.set (am_same.set (am_same.set (am_same.set am_same.rf (by unfold rg; omega)) (by unfold rg; omega)) (by unfold rg; omega)) (by unfold rg; omega))⟩
      · refine ar_aload_n (pc' := 37) hM rfl rfl rfl ?_
        refine ar_getfield (pc' := 40) hM rfl (am_gn (by decide) (am_gn (by decide) (am_gn (by decide) hm))) rfl rfl ?_
        refine ar_iload_n (pc' := 41) hM rfl rfl rfl ?_
        refine ar_iload (pc' := 43) hM rfl rfl rfl ?_
        refine ar_iastoreN (j := k) (pc' := 44) hM rfl (am_gs (am_gn (by decide) (am_gn (by decide) h136))) rfl (by omega) (Nat.le_of_ble_eq_true rfl) (by decide) rfl ?_
        refine ar_aload_n (pc' := 45) hM rfl rfl rfl ?_
        refine ar_virtual (pc' := 48) (k3 := 0) (k4 := 0) hM rfl rfl (am_gn (by decide) (am_gn (by decide) (am_gn (by decide) (am_gn (by decide) hm)))) ⟨rfl, (by decide)⟩ rfl rfl (d_trial T (am_gn (by decide) (am_gn (by decide) (am_gn (by decide) (am_gn (by decide) hm)))) (am_gn (by decide) (am_gn (by decide) (am_gn (by decide) (am_gs h138))))) (fun r45 w45 q45 => ?_)
        obtain ⟨nw1, rfl, q45w, hl1, hh1⟩ := q45
        rw [q45w]
        show am_Go 144 (48, [.ref 133, .int (nI k), .int (ba k), .int y, .int (nI j), z5], [], (((((w.set 138 (.inl (0, 42, .inl g))).set 142 (.inl (0, 36, .inl f))).set 136 (.inl (0, 6, .inl e))).set 136 (.inl (0, 6, .inl (upd e k (nI j))))).set 138 (.inl (0, 42, .inl nw1))), 0, 0) _
        refine ar_aload_n (pc' := 49) hM rfl rfl rfl ?_
        refine ar_getfield (pc' := 52) hM rfl (am_gn (by decide) (am_gn (by decide) (am_gn (by decide) (am_gn (by decide) (am_gn (by decide) hm))))) rfl rfl ?_
        refine ar_bipush (x := 27) (pc' := 54) hM rfl (by decide) rfl ?_
        refine ar_iload_n (pc' := 55) hM rfl rfl rfl ?_
        refine ar_iadd (pc' := 56) hM rfl rfl ?_
        rw [show (27 + (nI k) : Int32) = nI (27 + k) from nI_add 27 k]
        refine ar_iconst (x := 0) (pc' := 57) hM rfl (by decide) rfl ?_
        refine ar_iastoreN (j := (27 + k)) (pc' := 58) hM rfl (am_gs (am_gn (by decide) (am_gn (by decide) (am_gn (by decide) (am_gs h138))))) rfl (by omega) (Nat.le_of_ble_eq_true rfl) (by decide) rfl ?_
        refine ar_iconst (x := 0) (pc' := 59) hM rfl (by decide) rfl ?_
        refine ar_istore (pc' := 61) hM rfl rfl rfl rfl ?_
        rw [show ((((w.set 138 (.inl (0, 42, .inl g))).set 142 (.inl (0, 36, .inl f))).set 136 (.inl (0, 6, .inl e))).set 136 (.inl (0, 6, .inl (upd e k (nI j))))) = (((w.set 138 (.inl (0, 42, .inl g))).set 142 (.inl (0, 36, .inl f))).set 136 (.inl (0, 6, .inl (upd e k (nI j))))) from by rw [List.set_set]]
        rw [show ((((w.set 138 (.inl (0, 42, .inl g))).set 142 (.inl (0, 36, .inl f))).set 136 (.inl (0, 6, .inl (upd e k (nI j))))).set 138 (.inl (0, 42, .inl nw1))) = (((w.set 138 (.inl (0, 42, .inl nw1))).set 142 (.inl (0, 36, .inl f))).set 136 (.inl (0, 6, .inl (upd e k (nI j))))) from by rw [List.set_comm _ _ (show 136 ≠ 138 by decide), List.set_comm _ _ (show 142 ≠ 138 by decide), List.set_set]]
        rw [show ((((w.set 138 (.inl (0, 42, .inl nw1))).set 142 (.inl (0, 36, .inl f))).set 136 (.inl (0, 6, .inl (upd e k (nI j))))).set 138 (.inl (0, 42, .inl (upd nw1 (27 + k) 0)))) = (((w.set 138 (.inl (0, 42, .inl (upd nw1 (27 + k) 0)))).set 142 (.inl (0, 36, .inl f))).set 136 (.inl (0, 6, .inl (upd e k (nI j))))) from by rw [List.set_comm _ _ (show 136 ≠ 138 by decide), List.set_comm _ _ (show 142 ≠ 138 by decide), List.set_set]]
        have loopi : ∀ (dj i : Nat) (g2 : Nat → Int32) (f2 : Nat → Int32), dj + i = 10 → (∀ i, i < 21 → g2 i = nw i) → (d_S g2 (21 * 1) T.2.2.1 (m_it (m_ba T k (nI j)) (m_sb S k 0) i)) → am_Go 144 (61, [.ref 133, .int (nI k), .int (ba k), .int y, .int (nI j), .int (nI i)], [], (((w.set 138 (.inl (0, 42, .inl g2))).set 142 (.inl (0, 36, .inl f2))).set 136 (.inl (0, 6, .inl (upd e k (nI j))))), 0, 0) (fun res w' => ∃ rr, res = some (.int rr) ∧ m_cask T S k (some (.int rr)) ∧ d_W w' t T S A K N sd ∧ am_same (rg 133 17) w w') := by
          intro dj
          induction dj with
          | zero =>
            intro i g2 f2 hj p1 p2
            refine ar_iload (pc' := 63) hM rfl rfl rfl ?_
            refine ar_bipush (x := 10) (pc' := 65) hM rfl (by decide) rfl ?_
            refine ar_icmp_ge (pc' := 68) hM rfl rfl (fun _ => ?_) (fun q => absurd (nI_le (a := 10) (b := i) (by omega) (by omega)) q)
            refine ar_aload_n (pc' := 81) hM rfl rfl rfl ?_
            refine ar_getfield (pc' := 84) hM rfl (am_gn (by decide) (am_gn (by decide) (am_gn (by decide) hm))) rfl rfl ?_
            refine ar_bipush (x := 33) (pc' := 86) hM rfl (by decide) rfl ?_
            refine ar_iload_n (pc' := 87) hM rfl rfl rfl ?_
            refine ar_iadd (pc' := 88) hM rfl rfl ?_
            rw [show (33 + (nI k) : Int32) = nI (33 + k) from nI_add 33 k]
            refine ar_ialoadN (j := (33 + k)) (pc' := 89) hM rfl (am_gn (by decide) (am_gn (by decide) (am_gs h138))) rfl (by omega) (Nat.le_of_ble_eq_true rfl) rfl ?_
            rw [show (g2 (33 + k) : Int32) = (m_it (m_ba T k (nI j)) (m_sb S k 0) i).2.2.2.1 k from (p2.1 k hk).2.2]
            refine ar_aload_n (pc' := 90) hM rfl rfl rfl ?_
            refine ar_getfield (pc' := 93) hM rfl (am_gn (by decide) (am_gn (by decide) (am_gn (by decide) hm))) rfl rfl ?_
            refine ar_bipush (x := 12) (pc' := 95) hM rfl (by decide) rfl ?_
            refine ar_iload_n (pc' := 96) hM rfl rfl rfl ?_
            refine ar_iadd (pc' := 97) hM rfl rfl ?_
            rw [show (12 + (nI k) : Int32) = nI (12 + k) from nI_add 12 k]
            refine ar_ialoadN (j := (12 + k)) (pc' := 98) hM rfl (am_gn (by decide) (am_gn (by decide) (am_gs h138))) rfl (by omega) (Nat.le_of_ble_eq_true rfl) rfl ?_
            rw [show (g2 (12 + k) : Int32) = S.2.2.2.1 k from ((p1 (12 + k) (by omega)).trans (by have h0 := (hS.1 k hk).2.2; rw [Nat.zero_add] at h0; exact h0))]
            refine ar_icmp_ne (pc' := 101) hM rfl rfl (fun c98 => ?_) (fun c98 => ?_)
            · refine ar_iload_n (pc' := 107) hM rfl rfl rfl ?_
              refine ar_istore_n (pc' := 108) hM rfl rfl rfl rfl ?_
              refine ar_iinc (z := nI (j + 1)) (pc' := 111) hM rfl rfl (nI_1 _) rfl rfl rfl ?_
              refine ar_goto hM rfl ?_
              exact ih (j + 1) y g2 f2 (upd e k (nI j)) (.int (nI i)) (by omega) (m_ckr_no (by omega) hy c33 (fun q : m_ck T S k j => c98 ((congrArg (fun z => (m_it (m_ba T k (nI j)) (m_sb S k 0) z).2.2.2.1 k) (show i = 10 by omega)).trans q))) (fun i hi => p1 i hi) (fun h hh => by rw [pk_un hh]; exact q2 h hh)
            · refine ar_iload (pc' := 103) hM rfl rfl rfl ?_
              refine ar_goto hM rfl ?_
              refine ar_istore_n (pc' := 108) hM rfl rfl rfl rfl ?_
              refine ar_iinc (z := nI (j + 1)) (pc' := 111) hM rfl rfl (nI_1 _) rfl rfl rfl ?_
              refine ar_goto hM rfl ?_
              exact ih (j + 1) (nI j) g2 f2 (upd e k (nI j)) (.int (nI i)) (by omega) (m_ckr_yes (by omega) hy c33 (show m_ck T S k j from (congrArg (fun z => (m_it (m_ba T k (nI j)) (m_sb S k 0) z).2.2.2.1 k) (show 10 = i by omega)).trans c98)) (fun i hi => p1 i hi) (fun h hh => by rw [pk_un hh]; exact q2 h hh)
          | succ dj ih =>
            intro i g2 f2 hj p1 p2
            refine ar_iload (pc' := 63) hM rfl rfl rfl ?_
            refine ar_bipush (x := 10) (pc' := 65) hM rfl (by decide) rfl ?_
            refine ar_icmp_ge (pc' := 68) hM rfl rfl (fun q => absurd q (nI_ge (a := i) (b := 10) (by omega) (by omega))) (fun _ => ?_)
            refine ar_aload_n (pc' := 69) hM rfl rfl rfl ?_
            refine ar_iconst (x := 1) (pc' := 70) hM rfl (by decide) rfl ?_
            refine ar_virtual (pc' := 73) (k3 := 0) (k4 := 0) hM rfl rfl (am_gn (by decide) (am_gn (by decide) (am_gn (by decide) hm))) ⟨rfl, (by decide)⟩ rfl rfl (d_pass (m_ba T k (nI j)) (am_gn (by decide) (am_gn (by decide) (am_gn (by decide) hm))) (am_gn (by decide) (am_gn (by decide) (am_gn (by decide) h134))) (am_gn (by decide) (am_gn (by decide) (am_gn (by decide) h135))) (am_gs (am_gn (by decide) (am_gn (by decide) h136))) (am_gn (by decide) (am_gn (by decide) (am_gn (by decide) h137))) (am_gn (by decide) (am_gn (by decide) (am_gs h138))) (am_gn (by decide) (am_gs (am_gn (by decide) h142))) (show d_T ne ki (upd e k (nI j)) he (m_ba T k (nI j)) from ⟨fun h hh => ⟨(hT.1 h hh).1, (hT.1 h hh).2.1, by show upd e k (nI j) h = upd T.2.2.2.2.2.2.1 k (nI j) h; by_cases q : h = k; rw [q, pk_us, pk_us]; rw [pk_un q, pk_un q, q2 h q]; exact (hT.1 h hh).2.2⟩, hT.2⟩) 1 (by omega) (m_it (m_ba T k (nI j)) (m_sb S k 0) i) (show v_T (m_ba T k (nI j)) from hvT) (m_it_v (show v_S T.2.2.1 (m_sb S k 0) from hvS) i (by show S.2.2.2.2.2.2 + i < _; omega)) p2) (fun r70 w70 q70 => ?_)
            obtain ⟨td5, nw5, rfl, q70w, hY5, hS5, hnw5⟩ := q70
            rw [q70w]
            show am_Go 144 (73, [.ref 133, .int (nI k), .int (ba k), .int y, .int (nI j), .int (nI i)], [.int (i_sum (m_lk (m_ba T k (nI j)) (m_it (m_ba T k (nI j)) (m_sb S k 0) i) 0) (m_ba T k (nI j)).2.2.1)], (((((w.set 138 (.inl (0, 42, .inl g2))).set 142 (.inl (0, 36, .inl f2))).set 136 (.inl (0, 6, .inl (upd e k (nI j))))).set 142 (.inl (0, 36, .inl td5))).set 138 (.inl (0, 42, .inl nw5))), 0, 0) _
            refine ar_pop (pc' := 74) hM rfl rfl rfl ?_
            refine ar_iinc (z := nI (i + 1)) (pc' := 77) hM rfl rfl (nI_1 _) rfl rfl rfl ?_
            refine ar_goto hM rfl ?_
            rw [show ((((w.set 138 (.inl (0, 42, .inl g2))).set 142 (.inl (0, 36, .inl f2))).set 136 (.inl (0, 6, .inl (upd e k (nI j))))).set 142 (.inl (0, 36, .inl td5))) = (((w.set 138 (.inl (0, 42, .inl g2))).set 142 (.inl (0, 36, .inl td5))).set 136 (.inl (0, 6, .inl (upd e k (nI j))))) from by rw [List.set_comm _ _ (show 136 ≠ 142 by decide), List.set_set]]
            rw [show ((((w.set 138 (.inl (0, 42, .inl g2))).set 142 (.inl (0, 36, .inl td5))).set 136 (.inl (0, 6, .inl (upd e k (nI j))))).set 138 (.inl (0, 42, .inl nw5))) = (((w.set 138 (.inl (0, 42, .inl nw5))).set 142 (.inl (0, 36, .inl td5))).set 136 (.inl (0, 6, .inl (upd e k (nI j))))) from by rw [List.set_comm _ _ (show 136 ≠ 138 by decide), List.set_comm _ _ (show 142 ≠ 138 by decide), List.set_set]]
            exact ih (i + 1) nw5 td5 (by omega) (fun i hi => by rw [hnw5 i (by omega)]; exact p1 i hi) (hS5 rfl)
        exact loopi (10) 0 (upd nw1 (27 + k) 0) f (by omega) (fun i hi => by rw [pk_un (by omega)]; exact (hl1 i hi).trans (q1 i hi)) (d_S_in (b := 21 * 1) hn6 (hS.cg (b' := 21 * 1) hn6 (fun i hi => by rw [Nat.zero_add]; exact (hh1 i hi).trans (q1 i hi))) hk 0)
  have hl0 := loop (10) 0 (-9) nw td ba (.float 0) (by omega) (Or.inl ⟨rfl, fun i hi => absurd hi (by omega)⟩) (fun _ _ => rfl) (fun _ _ => rfl)
  rw [am_si h138, am_si h142, am_si h136] at hl0
  exact hl0
theorem d_isHn {w : am_W} {T : p_D} (hn6 : T.2.2.1 ≤ 6) (m : Nat) (hm : m < 100) (h : am_Go 115 (0, [.ref 133, .int (nI m)], [], w, 0, 0) (fun res w' => res = some (.int (if 0 ≤ nI m ∧ nI m ≤ nI T.2.2.1 - 1 then 1 else 0)) ∧ w' = w)) : am_Go 115 (0, [.ref 133, .int (nI m)], [], w, 0, 0) (fun res w' => res = some (.int (if m < T.2.2.1 then 1 else 0)) ∧ w' = w) := by
  by_cases q : m < T.2.2.1
  · rw [if_pos ((i_H_iff hn6 _).mpr ⟨m, q, rfl⟩)] at h
    rw [if_pos q]; exact h
  · rw [if_neg (fun e => by obtain ⟨k, h1, h2⟩ := (i_H_iff hn6 _).mp e; have := (nI_eq (by omega) (by omega)).mp h2; omega)] at h
    rw [if_neg q]; exact h
theorem m_wk_lack (vf : Int64 → Nat) (sf : Int64 → Int64) (T : p_D) (S : s_S) (sd : Int64) : ∀ k, i_sum (m_wk vf sf T S sd k).1.2.2.2.1 T.2.2.1 - i_sum S.2.2.2.1 T.2.2.1 = (m_wk vf sf T S sd k).2.1
  | 0 => Int32.sub_self _
  | k + 1 => by
    show i_sum (m_hap T (m_wk vf sf T S sd k).1 (vf (sf (m_wk vf sf T S sd k).2.2))).1.2.2.2.1 T.2.2.1 - _ = (m_wk vf sf T S sd k).2.1 + (m_hap T (m_wk vf sf T S sd k).1 (vf (sf (m_wk vf sf T S sd k).2.2))).2
    rw [← m_wk_lack vf sf T S sd k]
    generalize (m_wk vf sf T S sd k).1 = S1
    generalize vf (sf (m_wk vf sf T S sd k).2.2) = v
    unfold m_hap
    split
    · show i_sum (fun h => S1.2.2.2.1 h + m_lk T S1 0 h) T.2.2.1 - _ = _ - _ + i_sum (m_lk T S1 0) T.2.2.1
      rw [i_sum_add]
      generalize i_sum S1.2.2.2.1 T.2.2.1 = a
      generalize i_sum (m_lk T S1 0) T.2.2.1 = b
      generalize i_sum S.2.2.2.1 T.2.2.1 = c
      grind
    · rw [show (if v % 6 < T.2.2.1 then (if v < 6 then m_salt S1 (nI (v % 6)) else m_away S1 (nI (v % 6))) else S1).2.2.2.1 = S1.2.2.2.1 from by split; split; rfl; rfl; rfl]
      exact (Int32.add_zero _).symm
set_option maxRecDepth 100000 in
set_option maxHeartbeats 4000000 in
theorem e_weeksO (w : am_W) (t : Nat × (Nat → Int32)) (T : p_D) (S : s_S) (A : List s_S) (K : Nat → Option s_S) (N : x_N) (sd : Int64) (d : Nat) (hd : d ≤ 1000) (hv : v_W d T S A K) (hW : d_W w t T S A K N sd) (a : Int32) (hno : ¬ (1 ≤ a ∧ a ≤ 30)) : am_Go 159 (0, [.ref 133, .int a, .float 0, .float 0], [], w, 0, 0) (fun res w' => res = some (.int (-2)) ∧ d_W w' t T S A K N sd ∧ am_same (rg 133 17) w w') := by
  have hM : am_P[159]? = some zm_X11_weeks := rfl
  have hn6 : T.2.2.1 ≤ 6 := hv.1.1.1
  have hvT := hv.1.1
  have hvS := hv.2.1.1
  have hdy := hv.2.1.2.1
  obtain ⟨rh, rk, wh, fa, nx, ne, ki, ba, he, nw, rH, rT, tx, td, rw_, oo, s1, s2, s3, ik, kp, hm, h134, h135, h136, h137, h138, h139, h140, h141, h142, h143, h144, h145, h146, h147, h148, h149, ⟨ht40, hN6⟩, hT, hS, htx, hA, hK, hN⟩ := hW
  have hnx := hA.1
  have hal := hA.2.1
  refine ar_iload_n (pc' := 1) hM rfl rfl rfl ?_
  refine ar_i2l (pc' := 2) hM rfl rfl ?_
  refine ar_lconst (x := 1) (pc' := 3) hM rfl (by decide) rfl ?_
  refine ar_ldc2_w (x := 30) (pc' := 6) hM rfl (by decide) rfl ?_
  refine ar_static (pc' := 9) (k3 := 0) (k4 := 0) hM rfl (by decide) rfl rfl (by have h0 := d_in w a 1 30 1 30 (by decide) (by decide); rw [if_neg hno] at h0; exact h0) (fun r6 w6 q6 => ?_)
  obtain ⟨rfl, q6w⟩ := q6
  rw [q6w]
  show am_Go 159 (9, [.ref 133, .int a, .float 0, .float 0], [.int 0], w, 0, 0) _
  refine ar_if_ne (pc' := 12) hM rfl rfl (fun q => absurd (by decide) q) (fun _ => ?_)
  refine ar_bipush (x := (-2)) (pc' := 14) hM rfl (by decide) rfl ?_
  refine ar_ireturn hM rfl (Or.inl rfl) ?_
  exact ⟨rfl, ⟨_, _, _, _, _, _, _, _, _, _, _, _, _, _, _, _, _, _, _, _, _, hm, h134, h135, h136, h137, h138, h139, h140, h141, h142, h143, h144, h145, h146, h147, h148, h149, ⟨ht40, hN6⟩, hT, hS, htx, hA, hK, hN⟩, am_same.rf⟩
set_option maxRecDepth 100000 in
set_option maxHeartbeats 4000000 in
theorem e_weeks0 (w : am_W) (t : Nat × (Nat → Int32)) (T : p_D) (S : s_S) (A : List s_S) (K : Nat → Option s_S) (N : x_N) (sd : Int64) (d : Nat) (hd : d ≤ 1000) (hv : v_W d T S A K) (hW : d_W w t T S A K N sd) (k : Nat) (h1k : 1 ≤ k) (hk : k ≤ 30) (vf : Int64 → Nat) (sf : Int64 → Int64) (hv18 : ∀ x, vf x < 18) (hsf : ∀ x : Int64, x * 6364136223846793005 + 1442695040888963407 = sf x) (hvf : ∀ x : Int64, Int64.toInt32 ((Int64.toUInt64 x >>> (Int64.toUInt64 (Int32.toInt64 33) &&& Int64.toUInt64 63)).toInt64 - (Int64.toUInt64 x >>> (Int64.toUInt64 (Int32.toInt64 33) &&& Int64.toUInt64 63)).toInt64 / 18 * 18) = nI (vf x)) : am_Go 159 (0, [.ref 133, .int (nI k), .float 0, .float 0], [], w, 0, 0) (fun res w' => res = some (.int ((m_wk vf sf T S sd k).2.1)) ∧ d_W w' t T S A K N ((m_wk vf sf T S sd k).2.2) ∧ am_same (rg 133 17) w w') := by
  have hM : am_P[159]? = some zm_X11_weeks := rfl
  have hn6 : T.2.2.1 ≤ 6 := hv.1.1.1
  have hvT := hv.1.1
  have hvS := hv.2.1.1
  have hdy := hv.2.1.2.1
  obtain ⟨rh, rk, wh, fa, nx, ne, ki, ba, he, nw, rH, rT, tx, td, rw_, oo, s1, s2, s3, ik, kp, hm, h134, h135, h136, h137, h138, h139, h140, h141, h142, h143, h144, h145, h146, h147, h148, h149, ⟨ht40, hN6⟩, hT, hS, htx, hA, hK, hN⟩ := hW
  have hnx := hA.1
  have hal := hA.2.1
  refine ar_iload_n (pc' := 1) hM rfl rfl rfl ?_
  refine ar_i2l (pc' := 2) hM rfl rfl ?_
  refine ar_lconst (x := 1) (pc' := 3) hM rfl (by decide) rfl ?_
  refine ar_ldc2_w (x := 30) (pc' := 6) hM rfl (by decide) rfl ?_
  refine ar_static (pc' := 9) (k3 := 0) (k4 := 0) hM rfl (by decide) rfl rfl (by have h0 := d_in w (nI k) 1 30 1 30 (by decide) (by decide); rw [if_pos ⟨nI_le (a := 1) (by omega) (by omega), nI_le (b := 30) (by omega) (by omega)⟩] at h0; exact h0) (fun r6 w6 q6 => ?_)
  obtain ⟨rfl, q6w⟩ := q6
  rw [q6w]
  show am_Go 159 (9, [.ref 133, .int (nI k), .float 0, .float 0], [.int 1], w, 0, 0) _
  refine ar_if_ne (pc' := 12) hM rfl rfl (fun _ => ?_) (fun q => absurd q (by decide))
  refine ar_aload_n (pc' := 16) hM rfl rfl rfl ?_
  refine ar_virtual (pc' := 19) (k3 := 0) (k4 := 0) hM rfl rfl hm ⟨rfl, (by decide)⟩ rfl rfl (d_trial T hm h138) (fun r16 w16 q16 => ?_)
  obtain ⟨nw1, rfl, q16w, hl1, hh1⟩ := q16
  rw [q16w]
  show am_Go 159 (19, [.ref 133, .int (nI k), .float 0, .float 0], [], (w.set 138 (.inl (0, 42, .inl nw1))), 0, 0) _
  refine ar_iconst (x := 0) (pc' := 20) hM rfl (by decide) rfl ?_
  refine ar_istore_n (pc' := 21) hM rfl rfl rfl rfl ?_
  have loop : ∀ (dj j : Nat) (g : Nat → Int32) (f : Nat → Int32) (z : Int64) (z3 : Value), dj + j = k → (∀ i, i < 21 → g i = nw i) → (d_S g (21 * 1) T.2.2.1 (m_wk vf sf T S sd j).1) → (z = (m_wk vf sf T S sd j).2.2) → am_Go 159 (21, [.ref 133, .int (nI k), .int (nI j), z3], [], (((w.set 138 (.inl (0, 42, .inl g))).set 142 (.inl (0, 36, .inl f))).set 133 (.inr (11, [.int (nI T.2.2.1), .int (nI T.2.2.2.1), .int T.1, .int T.2.1, .ref 134, .ref 135, .ref 136, .ref 137, .ref 138, .ref 139, .ref 140, .int rh, .int rk, .ref 141, .int (nI t.1), .int wh, .int fa, .ref 142, .int 0, .int (nI A.length), .int (nI nx), .ref 143, .ref 144, .int (nI N.1), .ref 145, .ref 146, .ref 147, .long z, .ref 148, .ref 149]))), 0, 0) (fun res w' => res = some (.int ((m_wk vf sf T S sd k).2.1)) ∧ d_W w' t T S A K N ((m_wk vf sf T S sd k).2.2) ∧ am_same (rg 133 17) w w') := by
    intro dj
    induction dj with
    | zero =>
      intro j g f z z3 hj q1 q2 hz
      refine ar_iload_n (pc' := 22) hM rfl rfl rfl ?_
      refine ar_iload_n (pc' := 23) hM rfl rfl rfl ?_
      refine ar_icmp_ge (pc' := 26) hM rfl rfl (fun _ => ?_) (fun q => absurd (nI_le (a := k) (b := j) (by omega) (by omega)) q)
      refine ar_aload_n (pc' := 141) hM rfl rfl rfl ?_
      refine ar_iconst (x := 1) (pc' := 142) hM rfl (by decide) rfl ?_
      refine ar_virtual (pc' := 145) (k3 := 0) (k4 := 0) hM rfl rfl (am_gs (am_gn (by decide) (am_gn (by decide) hm))) ⟨rfl, (by decide)⟩ rfl rfl (d_lackedOn T (am_gs (am_gn (by decide) (am_gn (by decide) hm))) (am_gn (by decide) (am_gn (by decide) (am_gs h138))) 1 (by omega) _ hn6 (m_wk_v hvS j (by omega)).1 q2) (fun r142 w142 q142 => ?_)
      obtain ⟨rfl, q142w⟩ := q142
      rw [q142w]
      show am_Go 159 (145, [.ref 133, .int (nI k), .int (nI j), z3], [.int (i_sum (m_wk vf sf T S sd j).1.2.2.2.1 T.2.2.1)], (((w.set 138 (.inl (0, 42, .inl g))).set 142 (.inl (0, 36, .inl f))).set 133 (.inr (11, [.int (nI T.2.2.1), .int (nI T.2.2.2.1), .int T.1, .int T.2.1, .ref 134, .ref 135, .ref 136, .ref 137, .ref 138, .ref 139, .ref 140, .int rh, .int rk, .ref 141, .int (nI t.1), .int wh, .int fa, .ref 142, .int 0, .int (nI A.length), .int (nI nx), .ref 143, .ref 144, .int (nI N.1), .ref 145, .ref 146, .ref 147, .long z, .ref 148, .ref 149]))), 0, 0) _
      refine ar_aload_n (pc' := 146) hM rfl rfl rfl ?_
      refine ar_iconst (x := 0) (pc' := 147) hM rfl (by decide) rfl ?_
      refine ar_virtual (pc' := 150) (k3 := 0) (k4 := 0) hM rfl rfl (am_gs (am_gn (by decide) (am_gn (by decide) hm))) ⟨rfl, (by decide)⟩ rfl rfl (d_lackedOn T (am_gs (am_gn (by decide) (am_gn (by decide) hm))) (am_gn (by decide) (am_gn (by decide) (am_gs h138))) 0 (by omega) S hn6 hvS (hS.cg hn6 (fun k hk => by rw [Nat.mul_zero, Nat.zero_add]; exact q1 k hk))) (fun r147 w147 q147 => ?_)
      obtain ⟨rfl, q147w⟩ := q147
      rw [q147w]
      show am_Go 159 (150, [.ref 133, .int (nI k), .int (nI j), z3], [.int (i_sum S.2.2.2.1 T.2.2.1), .int (i_sum (m_wk vf sf T S sd j).1.2.2.2.1 T.2.2.1)], (((w.set 138 (.inl (0, 42, .inl g))).set 142 (.inl (0, 36, .inl f))).set 133 (.inr (11, [.int (nI T.2.2.1), .int (nI T.2.2.2.1), .int T.1, .int T.2.1, .ref 134, .ref 135, .ref 136, .ref 137, .ref 138, .ref 139, .ref 140, .int rh, .int rk, .ref 141, .int (nI t.1), .int wh, .int fa, .ref 142, .int 0, .int (nI A.length), .int (nI nx), .ref 143, .ref 144, .int (nI N.1), .ref 145, .ref 146, .ref 147, .long z, .ref 148, .ref 149]))), 0, 0) _
      refine ar_isub (pc' := 151) hM rfl rfl ?_
      refine ar_ireturn hM rfl (Or.inl rfl) ?_
      rw [show k = j by omega, ← hz]
      exact ⟨by rw [m_wk_lack], ⟨_, _, _, _, _, _, _, _, _, _, _, _, _, _, _, _, _, _, _, _, _, (am_gs (am_gn (by decide) (am_gn (by decide) hm))), (am_gn (by decide) (am_gn (by decide) (am_gn (by decide) h134))), (am_gn (by decide) (am_gn (by decide) (am_gn (by decide) h135))), (am_gn (by decide) (am_gn (by decide) (am_gn (by decide) h136))), (am_gn (by decide) (am_gn (by decide) (am_gn (by decide) h137))), (am_gn (by decide) (am_gn (by decide) (am_gs h138))), (am_gn (by decide) (am_gn (by decide) (am_gn (by decide) h139))), (am_gn (by decide) (am_gn (by decide) (am_gn (by decide) h140))), (am_gn (by decide) (am_gn (by decide) (am_gn (by decide) h141))), (am_gn (by decide) (am_gs (am_gn (by decide) h142))), (am_gn (by decide) (am_gn (by decide) (am_gn (by decide) h143))), (am_gn (by decide) (am_gn (by decide) (am_gn (by decide) h144))), (am_gn (by decide) (am_gn (by decide) (am_gn (by decide) h145))), (am_gn (by decide) (am_gn (by decide) (am_gn (by decide) h146))), (am_gn (by decide) (am_gn (by decide) (am_gn (by decide) h147))), (am_gn (by decide) (am_gn (by decide) (am_gn (by decide) h148))), (am_gn (by decide) (am_gn (by decide) (am_gn (by decide) h149))), ⟨ht40, hN6⟩, hT, (hS.cg hn6 (fun i hi => by rw [Nat.zero_add]; exact q1 i hi)), htx, hA, hK, hN⟩, (am_same.set (am_same.set (am_same.set am_same.rf (by unfold rg; omega)) (by unfold rg; omega)) (by unfold rg; omega))⟩
    | succ dj ih =>
      intro j g f z z3 hj q1 q2 hz
      refine ar_iload_n (pc' := 22) hM rfl rfl rfl ?_
      refine ar_iload_n (pc' := 23) hM rfl rfl rfl ?_
      refine ar_icmp_ge (pc' := 26) hM rfl rfl (fun q => absurd q (nI_ge (a := j) (b := k) (by omega) (by omega))) (fun _ => ?_)
      refine ar_aload_n (pc' := 27) hM rfl rfl rfl ?_
      refine ar_aload_n (pc' := 28) hM rfl rfl rfl ?_
      refine ar_getfield (pc' := 31) hM rfl (am_gs (am_gn (by decide) (am_gn (by decide) hm))) rfl rfl ?_
      refine ar_ldc2_w (x := 6364136223846793005) (pc' := 34) hM rfl (by decide) rfl ?_
      refine ar_lmul (pc' := 35) hM rfl rfl ?_
      refine ar_ldc2_w (x := 1442695040888963407) (pc' := 38) hM rfl (by decide) rfl ?_
      refine ar_ladd (pc' := 39) hM rfl rfl ?_
      rw [show ((z * 6364136223846793005) + 1442695040888963407 : Int64) = sf (m_wk vf sf T S sd j).2.2 from by rw [hz]; exact hsf _]
      refine ar_putfield (pc' := 42) hM rfl (am_gs (am_gn (by decide) (am_gn (by decide) hm))) (Nat.le_of_ble_eq_true rfl) rfl (by decide) rfl ?_
      show am_Go 159 (42, [.ref 133, .int (nI k), .int (nI j), z3], [], ((((w.set 138 (.inl (0, 42, .inl g))).set 142 (.inl (0, 36, .inl f))).set 133 (.inr (11, [.int (nI T.2.2.1), .int (nI T.2.2.2.1), .int T.1, .int T.2.1, .ref 134, .ref 135, .ref 136, .ref 137, .ref 138, .ref 139, .ref 140, .int rh, .int rk, .ref 141, .int (nI t.1), .int wh, .int fa, .ref 142, .int 0, .int (nI A.length), .int (nI nx), .ref 143, .ref 144, .int (nI N.1), .ref 145, .ref 146, .ref 147, .long z, .ref 148, .ref 149]))).set 133 (.inr (11, [.int (nI T.2.2.1), .int (nI T.2.2.2.1), .int T.1, .int T.2.1, .ref 134, .ref 135, .ref 136, .ref 137, .ref 138, .ref 139, .ref 140, .int rh, .int rk, .ref 141, .int (nI t.1), .int wh, .int fa, .ref 142, .int 0, .int (nI A.length), .int (nI nx), .ref 143, .ref 144, .int (nI N.1), .ref 145, .ref 146, .ref 147, .long (sf (m_wk vf sf T S sd j).2.2), .ref 148, .ref 149]))), 0, 0) _
      refine ar_aload_n (pc' := 43) hM rfl rfl rfl ?_
      refine ar_getfield (pc' := 46) hM rfl (am_gs (am_gs (am_gn (by decide) (am_gn (by decide) hm)))) rfl rfl ?_
      refine ar_bipush (x := 33) (pc' := 48) hM rfl (by decide) rfl ?_
      refine ar_lushr (pc' := 49) hM rfl rfl ?_
      refine ar_ldc2_w (x := 18) (pc' := 52) hM rfl (by decide) rfl ?_
      refine ar_lrem (pc' := 53) hM rfl (by decide) rfl ?_
      refine ar_l2i (pc' := 54) hM rfl rfl ?_
      obtain ⟨v, hv⟩ : ∃ v, v = vf (sf (m_wk vf sf T S sd j).2.2) := ⟨_, rfl⟩
      have hv18 : v < 18 := by rw [hv]; exact hv18 _
      rw [show (Int64.toInt32 (((Int64.toUInt64 (sf (m_wk vf sf T S sd j).2.2) >>> (Int64.toUInt64 (Int32.toInt64 33) &&& Int64.toUInt64 63)).toInt64) - ((Int64.toUInt64 (sf (m_wk vf sf T S sd j).2.2) >>> (Int64.toUInt64 (Int32.toInt64 33) &&& Int64.toUInt64 63)).toInt64) / 18 * 18) : Int32) = nI v from by rw [hv]; exact hvf _]
      refine ar_istore_n (pc' := 55) hM rfl rfl rfl rfl ?_
      refine ar_iload_n (pc' := 56) hM rfl rfl rfl ?_
      refine ar_bipush (x := 11) (pc' := 58) hM rfl (by decide) rfl ?_
      refine ar_icmp_le (pc' := 61) hM rfl rfl (fun c58 => ?_) (fun c58 => ?_)
      · refine ar_iload_n (pc' := 71) hM rfl rfl rfl ?_
        refine ar_iconst (x := 5) (pc' := 72) hM rfl (by decide) rfl ?_
        refine ar_icmp_le (pc' := 75) hM rfl rfl (fun c72 => ?_) (fun c72 => ?_)
        · refine ar_aload_n (pc' := 110) hM rfl rfl rfl ?_
          refine ar_getfield (pc' := 113) hM rfl (am_gs (am_gs (am_gn (by decide) (am_gn (by decide) hm)))) rfl rfl ?_
          refine ar_bipush (x := 39) (pc' := 115) hM rfl (by decide) rfl ?_
          refine ar_dup2 (pc' := 116) hM rfl rfl rfl rfl ?_
          refine ar_ialoadN (j := 39) (pc' := 117) hM rfl (am_gn (by decide) (am_gn (by decide) (am_gn (by decide) (am_gs h138)))) (by decide) (by omega) (Nat.le_of_ble_eq_true rfl) rfl ?_
          rw [show (g 39 : Int32) = (m_wk vf sf T S sd j).1.2.2.2.2.1 from q2.2.1]
          refine ar_aload_n (pc' := 118) hM rfl rfl rfl ?_
          refine ar_iload_n (pc' := 119) hM rfl rfl rfl ?_
          refine ar_virtual (pc' := 122) (k3 := 0) (k4 := 0) hM rfl rfl (am_gs (am_gs (am_gn (by decide) (am_gn (by decide) hm)))) ⟨rfl, (by decide)⟩ rfl rfl (d_isHn hn6 v (by omega) (d_isH T (am_gs (am_gs (am_gn (by decide) (am_gn (by decide) hm)))) (nI v))) (fun r119 w119 q119 => ?_)
          obtain ⟨rfl, q119w⟩ := q119
          rw [q119w]
          show am_Go 159 (122, [.ref 133, .int (nI k), .int (nI j), .int (nI v)], [.int (if v < T.2.2.1 then 1 else 0), .int ((m_wk vf sf T S sd j).1.2.2.2.2.1), .int 39, .ref 138], ((((w.set 138 (.inl (0, 42, .inl g))).set 142 (.inl (0, 36, .inl f))).set 133 (.inr (11, [.int (nI T.2.2.1), .int (nI T.2.2.2.1), .int T.1, .int T.2.1, .ref 134, .ref 135, .ref 136, .ref 137, .ref 138, .ref 139, .ref 140, .int rh, .int rk, .ref 141, .int (nI t.1), .int wh, .int fa, .ref 142, .int 0, .int (nI A.length), .int (nI nx), .ref 143, .ref 144, .int (nI N.1), .ref 145, .ref 146, .ref 147, .long z, .ref 148, .ref 149]))).set 133 (.inr (11, [.int (nI T.2.2.1), .int (nI T.2.2.2.1), .int T.1, .int T.2.1, .ref 134, .ref 135, .ref 136, .ref 137, .ref 138, .ref 139, .ref 140, .int rh, .int rk, .ref 141, .int (nI t.1), .int wh, .int fa, .ref 142, .int 0, .int (nI A.length), .int (nI nx), .ref 143, .ref 144, .int (nI N.1), .ref 145, .ref 146, .ref 147, .long (sf (m_wk vf sf T S sd j).2.2), .ref 148, .ref 149]))), 0, 0) _
          refine ar_if_eq (pc' := 125) hM rfl rfl (fun c122 => ?_) (fun c122 => ?_)
          · refine ar_iconst (x := 0) (pc' := 132) hM rfl (by decide) rfl ?_
            refine ar_ior (pc' := 133) hM rfl rfl ?_
            refine ar_iastoreN (j := 39) (pc' := 134) hM rfl (am_gn (by decide) (am_gn (by decide) (am_gn (by decide) (am_gs h138)))) (by decide) (by omega) (Nat.le_of_ble_eq_true rfl) (by decide) rfl ?_
            refine ar_iinc (z := nI (j + 1)) (pc' := 137) hM rfl rfl (nI_1 _) rfl rfl rfl ?_
            refine ar_goto hM rfl ?_
            rw [show ((((w.set 138 (.inl (0, 42, .inl g))).set 142 (.inl (0, 36, .inl f))).set 133 (.inr (11, [.int (nI T.2.2.1), .int (nI T.2.2.2.1), .int T.1, .int T.2.1, .ref 134, .ref 135, .ref 136, .ref 137, .ref 138, .ref 139, .ref 140, .int rh, .int rk, .ref 141, .int (nI t.1), .int wh, .int fa, .ref 142, .int 0, .int (nI A.length), .int (nI nx), .ref 143, .ref 144, .int (nI N.1), .ref 145, .ref 146, .ref 147, .long z, .ref 148, .ref 149]))).set 133 (.inr (11, [.int (nI T.2.2.1), .int (nI T.2.2.2.1), .int T.1, .int T.2.1, .ref 134, .ref 135, .ref 136, .ref 137, .ref 138, .ref 139, .ref 140, .int rh, .int rk, .ref 141, .int (nI t.1), .int wh, .int fa, .ref 142, .int 0, .int (nI A.length), .int (nI nx), .ref 143, .ref 144, .int (nI N.1), .ref 145, .ref 146, .ref 147, .long (sf (m_wk vf sf T S sd j).2.2), .ref 148, .ref 149]))) = (((w.set 138 (.inl (0, 42, .inl g))).set 142 (.inl (0, 36, .inl f))).set 133 (.inr (11, [.int (nI T.2.2.1), .int (nI T.2.2.2.1), .int T.1, .int T.2.1, .ref 134, .ref 135, .ref 136, .ref 137, .ref 138, .ref 139, .ref 140, .int rh, .int rk, .ref 141, .int (nI t.1), .int wh, .int fa, .ref 142, .int 0, .int (nI A.length), .int (nI nx), .ref 143, .ref 144, .int (nI N.1), .ref 145, .ref 146, .ref 147, .long (sf (m_wk vf sf T S sd j).2.2), .ref 148, .ref 149]))) from by rw [List.set_set]]
            rw [show ((((w.set 138 (.inl (0, 42, .inl g))).set 142 (.inl (0, 36, .inl f))).set 133 (.inr (11, [.int (nI T.2.2.1), .int (nI T.2.2.2.1), .int T.1, .int T.2.1, .ref 134, .ref 135, .ref 136, .ref 137, .ref 138, .ref 139, .ref 140, .int rh, .int rk, .ref 141, .int (nI t.1), .int wh, .int fa, .ref 142, .int 0, .int (nI A.length), .int (nI nx), .ref 143, .ref 144, .int (nI N.1), .ref 145, .ref 146, .ref 147, .long (sf (m_wk vf sf T S sd j).2.2), .ref 148, .ref 149]))).set 138 (.inl (0, 42, .inl (upd g 39 (((m_wk vf sf T S sd j).1.2.2.2.2.1) ||| 0))))) = (((w.set 138 (.inl (0, 42, .inl (upd g 39 (((m_wk vf sf T S sd j).1.2.2.2.2.1) ||| 0))))).set 142 (.inl (0, 36, .inl f))).set 133 (.inr (11, [.int (nI T.2.2.1), .int (nI T.2.2.2.1), .int T.1, .int T.2.1, .ref 134, .ref 135, .ref 136, .ref 137, .ref 138, .ref 139, .ref 140, .int rh, .int rk, .ref 141, .int (nI t.1), .int wh, .int fa, .ref 142, .int 0, .int (nI A.length), .int (nI nx), .ref 143, .ref 144, .int (nI N.1), .ref 145, .ref 146, .ref 147, .long (sf (m_wk vf sf T S sd j).2.2), .ref 148, .ref 149]))) from by rw [List.set_comm _ _ (show 133 ≠ 138 by decide), List.set_comm _ _ (show 142 ≠ 138 by decide), List.set_set]]
            exact ih (j + 1) (upd g 39 (((m_wk vf sf T S sd j).1.2.2.2.2.1) ||| 0)) f (sf (m_wk vf sf T S sd j).2.2) (.int (nI v)) (by omega) (fun i hi => by rw [pk_un (by omega)]; exact q1 i hi) (by show d_S _ _ _ (m_hap T (m_wk vf sf T S sd j).1 (vf (sf (m_wk vf sf T S sd j).2.2))).1; have hle := (nI_leI (b := 11) (by omega) (by omega)).mp c58; have hl5 := (nI_leI (b := 5) (by omega) (by omega)).mp c72; rw [← hv]; unfold m_hap; rw [if_neg (by omega), if_neg (show ¬ v % 6 < _ by have := am_eq0 c122; omega)]; have h0 := d_S_b18 (b := 21 * 1) hn6 q2 ((m_wk vf sf T S sd j).1.2.2.2.2.1 ||| 0); rw [show (m_wk vf sf T S sd j).1.2.2.2.2.1 ||| 0 = (m_wk vf sf T S sd j).1.2.2.2.2.1 from Int32.or_zero] at h0 ⊢; exact h0) rfl
          · refine ar_iconst (x := 1) (pc' := 126) hM rfl (by decide) rfl ?_
            refine ar_iload_n (pc' := 127) hM rfl rfl rfl ?_
            refine ar_ishl (pc' := 128) hM rfl rfl ?_
            refine ar_goto hM rfl ?_
            refine ar_ior (pc' := 133) hM rfl rfl ?_
            refine ar_iastoreN (j := 39) (pc' := 134) hM rfl (am_gn (by decide) (am_gn (by decide) (am_gn (by decide) (am_gs h138)))) (by decide) (by omega) (Nat.le_of_ble_eq_true rfl) (by decide) rfl ?_
            refine ar_iinc (z := nI (j + 1)) (pc' := 137) hM rfl rfl (nI_1 _) rfl rfl rfl ?_
            refine ar_goto hM rfl ?_
            rw [show ((((w.set 138 (.inl (0, 42, .inl g))).set 142 (.inl (0, 36, .inl f))).set 133 (.inr (11, [.int (nI T.2.2.1), .int (nI T.2.2.2.1), .int T.1, .int T.2.1, .ref 134, .ref 135, .ref 136, .ref 137, .ref 138, .ref 139, .ref 140, .int rh, .int rk, .ref 141, .int (nI t.1), .int wh, .int fa, .ref 142, .int 0, .int (nI A.length), .int (nI nx), .ref 143, .ref 144, .int (nI N.1), .ref 145, .ref 146, .ref 147, .long z, .ref 148, .ref 149]))).set 133 (.inr (11, [.int (nI T.2.2.1), .int (nI T.2.2.2.1), .int T.1, .int T.2.1, .ref 134, .ref 135, .ref 136, .ref 137, .ref 138, .ref 139, .ref 140, .int rh, .int rk, .ref 141, .int (nI t.1), .int wh, .int fa, .ref 142, .int 0, .int (nI A.length), .int (nI nx), .ref 143, .ref 144, .int (nI N.1), .ref 145, .ref 146, .ref 147, .long (sf (m_wk vf sf T S sd j).2.2), .ref 148, .ref 149]))) = (((w.set 138 (.inl (0, 42, .inl g))).set 142 (.inl (0, 36, .inl f))).set 133 (.inr (11, [.int (nI T.2.2.1), .int (nI T.2.2.2.1), .int T.1, .int T.2.1, .ref 134, .ref 135, .ref 136, .ref 137, .ref 138, .ref 139, .ref 140, .int rh, .int rk, .ref 141, .int (nI t.1), .int wh, .int fa, .ref 142, .int 0, .int (nI A.length), .int (nI nx), .ref 143, .ref 144, .int (nI N.1), .ref 145, .ref 146, .ref 147, .long (sf (m_wk vf sf T S sd j).2.2), .ref 148, .ref 149]))) from by rw [List.set_set]]
            rw [show ((((w.set 138 (.inl (0, 42, .inl g))).set 142 (.inl (0, 36, .inl f))).set 133 (.inr (11, [.int (nI T.2.2.1), .int (nI T.2.2.2.1), .int T.1, .int T.2.1, .ref 134, .ref 135, .ref 136, .ref 137, .ref 138, .ref 139, .ref 140, .int rh, .int rk, .ref 141, .int (nI t.1), .int wh, .int fa, .ref 142, .int 0, .int (nI A.length), .int (nI nx), .ref 143, .ref 144, .int (nI N.1), .ref 145, .ref 146, .ref 147, .long (sf (m_wk vf sf T S sd j).2.2), .ref 148, .ref 149]))).set 138 (.inl (0, 42, .inl (upd g 39 (((m_wk vf sf T S sd j).1.2.2.2.2.1) ||| (1 <<< ((nI v) &&& 31))))))) = (((w.set 138 (.inl (0, 42, .inl (upd g 39 (((m_wk vf sf T S sd j).1.2.2.2.2.1) ||| (1 <<< ((nI v) &&& 31))))))).set 142 (.inl (0, 36, .inl f))).set 133 (.inr (11, [.int (nI T.2.2.1), .int (nI T.2.2.2.1), .int T.1, .int T.2.1, .ref 134, .ref 135, .ref 136, .ref 137, .ref 138, .ref 139, .ref 140, .int rh, .int rk, .ref 141, .int (nI t.1), .int wh, .int fa, .ref 142, .int 0, .int (nI A.length), .int (nI nx), .ref 143, .ref 144, .int (nI N.1), .ref 145, .ref 146, .ref 147, .long (sf (m_wk vf sf T S sd j).2.2), .ref 148, .ref 149]))) from by rw [List.set_comm _ _ (show 133 ≠ 138 by decide), List.set_comm _ _ (show 142 ≠ 138 by decide), List.set_set]]
            exact ih (j + 1) (upd g 39 (((m_wk vf sf T S sd j).1.2.2.2.2.1) ||| (1 <<< ((nI v) &&& 31)))) f (sf (m_wk vf sf T S sd j).2.2) (.int (nI v)) (by omega) (fun i hi => by rw [pk_un (by omega)]; exact q1 i hi) (by show d_S _ _ _ (m_hap T (m_wk vf sf T S sd j).1 (vf (sf (m_wk vf sf T S sd j).2.2))).1; have hle := (nI_leI (b := 11) (by omega) (by omega)).mp c58; have hl5 := (nI_leI (b := 5) (by omega) (by omega)).mp c72; rw [← hv]; unfold m_hap; rw [if_neg (by omega), if_pos (show v % 6 < _ by have := am_ne0 c122; omega), if_pos (by omega), show v % 6 = v by omega]; exact d_S_b18 (b := 21 * 1) hn6 q2 ((m_wk vf sf T S sd j).1.2.2.2.2.1 ||| 1 <<< (nI v &&& 31))) rfl
        · have hgt := i_nge (a := 5) (b := v) c72 (by omega)
          refine ar_aload_n (pc' := 76) hM rfl rfl rfl ?_
          refine ar_getfield (pc' := 79) hM rfl (am_gs (am_gs (am_gn (by decide) (am_gn (by decide) hm)))) rfl rfl ?_
          refine ar_bipush (x := 40) (pc' := 81) hM rfl (by decide) rfl ?_
          refine ar_dup2 (pc' := 82) hM rfl rfl rfl rfl ?_
          refine ar_ialoadN (j := 40) (pc' := 83) hM rfl (am_gn (by decide) (am_gn (by decide) (am_gn (by decide) (am_gs h138)))) (by decide) (by omega) (Nat.le_of_ble_eq_true rfl) rfl ?_
          rw [show (g 40 : Int32) = (m_wk vf sf T S sd j).1.2.2.2.2.2.1 from q2.2.2.1]
          refine ar_aload_n (pc' := 84) hM rfl rfl rfl ?_
          refine ar_iload_n (pc' := 85) hM rfl rfl rfl ?_
          refine ar_bipush (x := 6) (pc' := 87) hM rfl (by decide) rfl ?_
          refine ar_isub (pc' := 88) hM rfl rfl ?_
          rw [show ((nI v) - 6 : Int32) = nI (v - 6) from (pk_sub (b := 6) (by omega))]
          refine ar_virtual (pc' := 91) (k3 := 0) (k4 := 0) hM rfl rfl (am_gs (am_gs (am_gn (by decide) (am_gn (by decide) hm)))) ⟨rfl, (by decide)⟩ rfl rfl (d_isHn hn6 (v - 6) (by omega) (d_isH T (am_gs (am_gs (am_gn (by decide) (am_gn (by decide) hm)))) (nI (v - 6)))) (fun r88 w88 q88 => ?_)
          obtain ⟨rfl, q88w⟩ := q88
          rw [q88w]
          show am_Go 159 (91, [.ref 133, .int (nI k), .int (nI j), .int (nI v)], [.int (if v - 6 < T.2.2.1 then 1 else 0), .int ((m_wk vf sf T S sd j).1.2.2.2.2.2.1), .int 40, .ref 138], ((((w.set 138 (.inl (0, 42, .inl g))).set 142 (.inl (0, 36, .inl f))).set 133 (.inr (11, [.int (nI T.2.2.1), .int (nI T.2.2.2.1), .int T.1, .int T.2.1, .ref 134, .ref 135, .ref 136, .ref 137, .ref 138, .ref 139, .ref 140, .int rh, .int rk, .ref 141, .int (nI t.1), .int wh, .int fa, .ref 142, .int 0, .int (nI A.length), .int (nI nx), .ref 143, .ref 144, .int (nI N.1), .ref 145, .ref 146, .ref 147, .long z, .ref 148, .ref 149]))).set 133 (.inr (11, [.int (nI T.2.2.1), .int (nI T.2.2.2.1), .int T.1, .int T.2.1, .ref 134, .ref 135, .ref 136, .ref 137, .ref 138, .ref 139, .ref 140, .int rh, .int rk, .ref 141, .int (nI t.1), .int wh, .int fa, .ref 142, .int 0, .int (nI A.length), .int (nI nx), .ref 143, .ref 144, .int (nI N.1), .ref 145, .ref 146, .ref 147, .long (sf (m_wk vf sf T S sd j).2.2), .ref 148, .ref 149]))), 0, 0) _
          refine ar_if_eq (pc' := 94) hM rfl rfl (fun c91 => ?_) (fun c91 => ?_)
          · refine ar_iconst (x := 0) (pc' := 104) hM rfl (by decide) rfl ?_
            refine ar_ixor (pc' := 105) hM rfl rfl ?_
            refine ar_iastoreN (j := 40) (pc' := 106) hM rfl (am_gn (by decide) (am_gn (by decide) (am_gn (by decide) (am_gs h138)))) (by decide) (by omega) (Nat.le_of_ble_eq_true rfl) (by decide) rfl ?_
            refine ar_goto hM rfl ?_
            refine ar_iinc (z := nI (j + 1)) (pc' := 137) hM rfl rfl (nI_1 _) rfl rfl rfl ?_
            refine ar_goto hM rfl ?_
            rw [show ((((w.set 138 (.inl (0, 42, .inl g))).set 142 (.inl (0, 36, .inl f))).set 133 (.inr (11, [.int (nI T.2.2.1), .int (nI T.2.2.2.1), .int T.1, .int T.2.1, .ref 134, .ref 135, .ref 136, .ref 137, .ref 138, .ref 139, .ref 140, .int rh, .int rk, .ref 141, .int (nI t.1), .int wh, .int fa, .ref 142, .int 0, .int (nI A.length), .int (nI nx), .ref 143, .ref 144, .int (nI N.1), .ref 145, .ref 146, .ref 147, .long z, .ref 148, .ref 149]))).set 133 (.inr (11, [.int (nI T.2.2.1), .int (nI T.2.2.2.1), .int T.1, .int T.2.1, .ref 134, .ref 135, .ref 136, .ref 137, .ref 138, .ref 139, .ref 140, .int rh, .int rk, .ref 141, .int (nI t.1), .int wh, .int fa, .ref 142, .int 0, .int (nI A.length), .int (nI nx), .ref 143, .ref 144, .int (nI N.1), .ref 145, .ref 146, .ref 147, .long (sf (m_wk vf sf T S sd j).2.2), .ref 148, .ref 149]))) = (((w.set 138 (.inl (0, 42, .inl g))).set 142 (.inl (0, 36, .inl f))).set 133 (.inr (11, [.int (nI T.2.2.1), .int (nI T.2.2.2.1), .int T.1, .int T.2.1, .ref 134, .ref 135, .ref 136, .ref 137, .ref 138, .ref 139, .ref 140, .int rh, .int rk, .ref 141, .int (nI t.1), .int wh, .int fa, .ref 142, .int 0, .int (nI A.length), .int (nI nx), .ref 143, .ref 144, .int (nI N.1), .ref 145, .ref 146, .ref 147, .long (sf (m_wk vf sf T S sd j).2.2), .ref 148, .ref 149]))) from by rw [List.set_set]]
            rw [show ((((w.set 138 (.inl (0, 42, .inl g))).set 142 (.inl (0, 36, .inl f))).set 133 (.inr (11, [.int (nI T.2.2.1), .int (nI T.2.2.2.1), .int T.1, .int T.2.1, .ref 134, .ref 135, .ref 136, .ref 137, .ref 138, .ref 139, .ref 140, .int rh, .int rk, .ref 141, .int (nI t.1), .int wh, .int fa, .ref 142, .int 0, .int (nI A.length), .int (nI nx), .ref 143, .ref 144, .int (nI N.1), .ref 145, .ref 146, .ref 147, .long (sf (m_wk vf sf T S sd j).2.2), .ref 148, .ref 149]))).set 138 (.inl (0, 42, .inl (upd g 40 (((m_wk vf sf T S sd j).1.2.2.2.2.2.1) ^^^ 0))))) = (((w.set 138 (.inl (0, 42, .inl (upd g 40 (((m_wk vf sf T S sd j).1.2.2.2.2.2.1) ^^^ 0))))).set 142 (.inl (0, 36, .inl f))).set 133 (.inr (11, [.int (nI T.2.2.1), .int (nI T.2.2.2.1), .int T.1, .int T.2.1, .ref 134, .ref 135, .ref 136, .ref 137, .ref 138, .ref 139, .ref 140, .int rh, .int rk, .ref 141, .int (nI t.1), .int wh, .int fa, .ref 142, .int 0, .int (nI A.length), .int (nI nx), .ref 143, .ref 144, .int (nI N.1), .ref 145, .ref 146, .ref 147, .long (sf (m_wk vf sf T S sd j).2.2), .ref 148, .ref 149]))) from by rw [List.set_comm _ _ (show 133 ≠ 138 by decide), List.set_comm _ _ (show 142 ≠ 138 by decide), List.set_set]]
            exact ih (j + 1) (upd g 40 (((m_wk vf sf T S sd j).1.2.2.2.2.2.1) ^^^ 0)) f (sf (m_wk vf sf T S sd j).2.2) (.int (nI v)) (by omega) (fun i hi => by rw [pk_un (by omega)]; exact q1 i hi) (by show d_S _ _ _ (m_hap T (m_wk vf sf T S sd j).1 (vf (sf (m_wk vf sf T S sd j).2.2))).1; have hle := (nI_leI (b := 11) (by omega) (by omega)).mp c58; have hgt := i_nge (a := 5) (b := v) c72 (by omega); rw [← hv]; unfold m_hap; rw [if_neg (by omega), if_neg (show ¬ v % 6 < _ by have := am_eq0 c91; omega)]; have h0 := d_S_b19 (b := 21 * 1) hn6 q2 ((m_wk vf sf T S sd j).1.2.2.2.2.2.1 ^^^ 0); rw [show (m_wk vf sf T S sd j).1.2.2.2.2.2.1 ^^^ 0 = (m_wk vf sf T S sd j).1.2.2.2.2.2.1 from Int32.xor_zero] at h0 ⊢; exact h0) rfl
          · refine ar_iconst (x := 1) (pc' := 95) hM rfl (by decide) rfl ?_
            refine ar_iload_n (pc' := 96) hM rfl rfl rfl ?_
            refine ar_bipush (x := 6) (pc' := 98) hM rfl (by decide) rfl ?_
            refine ar_isub (pc' := 99) hM rfl rfl ?_
            rw [show ((nI v) - 6 : Int32) = nI (v - 6) from (pk_sub (b := 6) (by omega))]
            refine ar_ishl (pc' := 100) hM rfl rfl ?_
            refine ar_goto hM rfl ?_
            refine ar_ixor (pc' := 105) hM rfl rfl ?_
            refine ar_iastoreN (j := 40) (pc' := 106) hM rfl (am_gn (by decide) (am_gn (by decide) (am_gn (by decide) (am_gs h138)))) (by decide) (by omega) (Nat.le_of_ble_eq_true rfl) (by decide) rfl ?_
            refine ar_goto hM rfl ?_
            refine ar_iinc (z := nI (j + 1)) (pc' := 137) hM rfl rfl (nI_1 _) rfl rfl rfl ?_
            refine ar_goto hM rfl ?_
            rw [show ((((w.set 138 (.inl (0, 42, .inl g))).set 142 (.inl (0, 36, .inl f))).set 133 (.inr (11, [.int (nI T.2.2.1), .int (nI T.2.2.2.1), .int T.1, .int T.2.1, .ref 134, .ref 135, .ref 136, .ref 137, .ref 138, .ref 139, .ref 140, .int rh, .int rk, .ref 141, .int (nI t.1), .int wh, .int fa, .ref 142, .int 0, .int (nI A.length), .int (nI nx), .ref 143, .ref 144, .int (nI N.1), .ref 145, .ref 146, .ref 147, .long z, .ref 148, .ref 149]))).set 133 (.inr (11, [.int (nI T.2.2.1), .int (nI T.2.2.2.1), .int T.1, .int T.2.1, .ref 134, .ref 135, .ref 136, .ref 137, .ref 138, .ref 139, .ref 140, .int rh, .int rk, .ref 141, .int (nI t.1), .int wh, .int fa, .ref 142, .int 0, .int (nI A.length), .int (nI nx), .ref 143, .ref 144, .int (nI N.1), .ref 145, .ref 146, .ref 147, .long (sf (m_wk vf sf T S sd j).2.2), .ref 148, .ref 149]))) = (((w.set 138 (.inl (0, 42, .inl g))).set 142 (.inl (0, 36, .inl f))).set 133 (.inr (11, [.int (nI T.2.2.1), .int (nI T.2.2.2.1), .int T.1, .int T.2.1, .ref 134, .ref 135, .ref 136, .ref 137, .ref 138, .ref 139, .ref 140, .int rh, .int rk, .ref 141, .int (nI t.1), .int wh, .int fa, .ref 142, .int 0, .int (nI A.length), .int (nI nx), .ref 143, .ref 144, .int (nI N.1), .ref 145, .ref 146, .ref 147, .long (sf (m_wk vf sf T S sd j).2.2), .ref 148, .ref 149]))) from by rw [List.set_set]]
            rw [show ((((w.set 138 (.inl (0, 42, .inl g))).set 142 (.inl (0, 36, .inl f))).set 133 (.inr (11, [.int (nI T.2.2.1), .int (nI T.2.2.2.1), .int T.1, .int T.2.1, .ref 134, .ref 135, .ref 136, .ref 137, .ref 138, .ref 139, .ref 140, .int rh, .int rk, .ref 141, .int (nI t.1), .int wh, .int fa, .ref 142, .int 0, .int (nI A.length), .int (nI nx), .ref 143, .ref 144, .int (nI N.1), .ref 145, .ref 146, .ref 147, .long (sf (m_wk vf sf T S sd j).2.2), .ref 148, .ref 149]))).set 138 (.inl (0, 42, .inl (upd g 40 (((m_wk vf sf T S sd j).1.2.2.2.2.2.1) ^^^ (1 <<< ((nI (v - 6)) &&& 31))))))) = (((w.set 138 (.inl (0, 42, .inl (upd g 40 (((m_wk vf sf T S sd j).1.2.2.2.2.2.1) ^^^ (1 <<< ((nI (v - 6)) &&& 31))))))).set 142 (.inl (0, 36, .inl f))).set 133 (.inr (11, [.int (nI T.2.2.1), .int (nI T.2.2.2.1), .int T.1, .int T.2.1, .ref 134, .ref 135, .ref 136, .ref 137, .ref 138, .ref 139, .ref 140, .int rh, .int rk, .ref 141, .int (nI t.1), .int wh, .int fa, .ref 142, .int 0, .int (nI A.length), .int (nI nx), .ref 143, .ref 144, .int (nI N.1), .ref 145, .ref 146, .ref 147, .long (sf (m_wk vf sf T S sd j).2.2), .ref 148, .ref 149]))) from by rw [List.set_comm _ _ (show 133 ≠ 138 by decide), List.set_comm _ _ (show 142 ≠ 138 by decide), List.set_set]]
            exact ih (j + 1) (upd g 40 (((m_wk vf sf T S sd j).1.2.2.2.2.2.1) ^^^ (1 <<< ((nI (v - 6)) &&& 31)))) f (sf (m_wk vf sf T S sd j).2.2) (.int (nI v)) (by omega) (fun i hi => by rw [pk_un (by omega)]; exact q1 i hi) (by show d_S _ _ _ (m_hap T (m_wk vf sf T S sd j).1 (vf (sf (m_wk vf sf T S sd j).2.2))).1; have hle := (nI_leI (b := 11) (by omega) (by omega)).mp c58; have hgt := i_nge (a := 5) (b := v) c72 (by omega); rw [← hv]; unfold m_hap; rw [if_neg (by omega), if_pos (show v % 6 < _ by have := am_ne0 c91; omega), if_neg (by omega), show v % 6 = v - 6 by omega]; exact d_S_b19 (b := 21 * 1) hn6 q2 ((m_wk vf sf T S sd j).1.2.2.2.2.2.1 ^^^ 1 <<< (nI (v - 6) &&& 31))) rfl
      · refine ar_aload_n (pc' := 62) hM rfl rfl rfl ?_
        refine ar_iconst (x := 1) (pc' := 63) hM rfl (by decide) rfl ?_
        refine ar_virtual (pc' := 66) (k3 := 0) (k4 := 0) hM rfl rfl (am_gs (am_gs (am_gn (by decide) (am_gn (by decide) hm)))) ⟨rfl, (by decide)⟩ rfl rfl (d_pass T (am_gs (am_gs (am_gn (by decide) (am_gn (by decide) hm)))) (am_gn (by decide) (am_gn (by decide) (am_gn (by decide) (am_gn (by decide) h134)))) (am_gn (by decide) (am_gn (by decide) (am_gn (by decide) (am_gn (by decide) h135)))) (am_gn (by decide) (am_gn (by decide) (am_gn (by decide) (am_gn (by decide) h136)))) (am_gn (by decide) (am_gn (by decide) (am_gn (by decide) (am_gn (by decide) h137)))) (am_gn (by decide) (am_gn (by decide) (am_gn (by decide) (am_gs h138)))) (am_gn (by decide) (am_gn (by decide) (am_gs (am_gn (by decide) h142)))) hT 1 (by omega) ((m_wk vf sf T S sd j).1) hvT (m_wk_v hvS j (by omega)).1 q2) (fun r63 w63 q63 => ?_)
        obtain ⟨td2, nw2, rfl, q63w, hY2, hS2, hnw2⟩ := q63
        rw [q63w]
        show am_Go 159 (66, [.ref 133, .int (nI k), .int (nI j), .int (nI v)], [.int (i_sum (m_lk T ((m_wk vf sf T S sd j).1) 0) T.2.2.1)], ((((((w.set 138 (.inl (0, 42, .inl g))).set 142 (.inl (0, 36, .inl f))).set 133 (.inr (11, [.int (nI T.2.2.1), .int (nI T.2.2.2.1), .int T.1, .int T.2.1, .ref 134, .ref 135, .ref 136, .ref 137, .ref 138, .ref 139, .ref 140, .int rh, .int rk, .ref 141, .int (nI t.1), .int wh, .int fa, .ref 142, .int 0, .int (nI A.length), .int (nI nx), .ref 143, .ref 144, .int (nI N.1), .ref 145, .ref 146, .ref 147, .long z, .ref 148, .ref 149]))).set 133 (.inr (11, [.int (nI T.2.2.1), .int (nI T.2.2.2.1), .int T.1, .int T.2.1, .ref 134, .ref 135, .ref 136, .ref 137, .ref 138, .ref 139, .ref 140, .int rh, .int rk, .ref 141, .int (nI t.1), .int wh, .int fa, .ref 142, .int 0, .int (nI A.length), .int (nI nx), .ref 143, .ref 144, .int (nI N.1), .ref 145, .ref 146, .ref 147, .long (sf (m_wk vf sf T S sd j).2.2), .ref 148, .ref 149]))).set 142 (.inl (0, 36, .inl td2))).set 138 (.inl (0, 42, .inl nw2))), 0, 0) _
        refine ar_pop (pc' := 67) hM rfl rfl rfl ?_
        refine ar_goto hM rfl ?_
        refine ar_iinc (z := nI (j + 1)) (pc' := 137) hM rfl rfl (nI_1 _) rfl rfl rfl ?_
        refine ar_goto hM rfl ?_
        rw [show ((((w.set 138 (.inl (0, 42, .inl g))).set 142 (.inl (0, 36, .inl f))).set 133 (.inr (11, [.int (nI T.2.2.1), .int (nI T.2.2.2.1), .int T.1, .int T.2.1, .ref 134, .ref 135, .ref 136, .ref 137, .ref 138, .ref 139, .ref 140, .int rh, .int rk, .ref 141, .int (nI t.1), .int wh, .int fa, .ref 142, .int 0, .int (nI A.length), .int (nI nx), .ref 143, .ref 144, .int (nI N.1), .ref 145, .ref 146, .ref 147, .long z, .ref 148, .ref 149]))).set 133 (.inr (11, [.int (nI T.2.2.1), .int (nI T.2.2.2.1), .int T.1, .int T.2.1, .ref 134, .ref 135, .ref 136, .ref 137, .ref 138, .ref 139, .ref 140, .int rh, .int rk, .ref 141, .int (nI t.1), .int wh, .int fa, .ref 142, .int 0, .int (nI A.length), .int (nI nx), .ref 143, .ref 144, .int (nI N.1), .ref 145, .ref 146, .ref 147, .long (sf (m_wk vf sf T S sd j).2.2), .ref 148, .ref 149]))) = (((w.set 138 (.inl (0, 42, .inl g))).set 142 (.inl (0, 36, .inl f))).set 133 (.inr (11, [.int (nI T.2.2.1), .int (nI T.2.2.2.1), .int T.1, .int T.2.1, .ref 134, .ref 135, .ref 136, .ref 137, .ref 138, .ref 139, .ref 140, .int rh, .int rk, .ref 141, .int (nI t.1), .int wh, .int fa, .ref 142, .int 0, .int (nI A.length), .int (nI nx), .ref 143, .ref 144, .int (nI N.1), .ref 145, .ref 146, .ref 147, .long (sf (m_wk vf sf T S sd j).2.2), .ref 148, .ref 149]))) from by rw [List.set_set]]
        rw [show ((((w.set 138 (.inl (0, 42, .inl g))).set 142 (.inl (0, 36, .inl f))).set 133 (.inr (11, [.int (nI T.2.2.1), .int (nI T.2.2.2.1), .int T.1, .int T.2.1, .ref 134, .ref 135, .ref 136, .ref 137, .ref 138, .ref 139, .ref 140, .int rh, .int rk, .ref 141, .int (nI t.1), .int wh, .int fa, .ref 142, .int 0, .int (nI A.length), .int (nI nx), .ref 143, .ref 144, .int (nI N.1), .ref 145, .ref 146, .ref 147, .long (sf (m_wk vf sf T S sd j).2.2), .ref 148, .ref 149]))).set 142 (.inl (0, 36, .inl td2))) = (((w.set 138 (.inl (0, 42, .inl g))).set 142 (.inl (0, 36, .inl td2))).set 133 (.inr (11, [.int (nI T.2.2.1), .int (nI T.2.2.2.1), .int T.1, .int T.2.1, .ref 134, .ref 135, .ref 136, .ref 137, .ref 138, .ref 139, .ref 140, .int rh, .int rk, .ref 141, .int (nI t.1), .int wh, .int fa, .ref 142, .int 0, .int (nI A.length), .int (nI nx), .ref 143, .ref 144, .int (nI N.1), .ref 145, .ref 146, .ref 147, .long (sf (m_wk vf sf T S sd j).2.2), .ref 148, .ref 149]))) from by rw [List.set_comm _ _ (show 133 ≠ 142 by decide), List.set_set]]
        rw [show ((((w.set 138 (.inl (0, 42, .inl g))).set 142 (.inl (0, 36, .inl td2))).set 133 (.inr (11, [.int (nI T.2.2.1), .int (nI T.2.2.2.1), .int T.1, .int T.2.1, .ref 134, .ref 135, .ref 136, .ref 137, .ref 138, .ref 139, .ref 140, .int rh, .int rk, .ref 141, .int (nI t.1), .int wh, .int fa, .ref 142, .int 0, .int (nI A.length), .int (nI nx), .ref 143, .ref 144, .int (nI N.1), .ref 145, .ref 146, .ref 147, .long (sf (m_wk vf sf T S sd j).2.2), .ref 148, .ref 149]))).set 138 (.inl (0, 42, .inl nw2))) = (((w.set 138 (.inl (0, 42, .inl nw2))).set 142 (.inl (0, 36, .inl td2))).set 133 (.inr (11, [.int (nI T.2.2.1), .int (nI T.2.2.2.1), .int T.1, .int T.2.1, .ref 134, .ref 135, .ref 136, .ref 137, .ref 138, .ref 139, .ref 140, .int rh, .int rk, .ref 141, .int (nI t.1), .int wh, .int fa, .ref 142, .int 0, .int (nI A.length), .int (nI nx), .ref 143, .ref 144, .int (nI N.1), .ref 145, .ref 146, .ref 147, .long (sf (m_wk vf sf T S sd j).2.2), .ref 148, .ref 149]))) from by rw [List.set_comm _ _ (show 133 ≠ 138 by decide), List.set_comm _ _ (show 142 ≠ 138 by decide), List.set_set]]
        exact ih (j + 1) nw2 td2 (sf (m_wk vf sf T S sd j).2.2) (.int (nI v)) (by omega) (fun i hi => by rw [hnw2 i (by omega)]; exact q1 i hi) (by show d_S _ _ _ (m_hap T (m_wk vf sf T S sd j).1 (vf (sf (m_wk vf sf T S sd j).2.2))).1; rw [← hv, show m_hap T (m_wk vf sf T S sd j).1 v = (m_pass T (m_wk vf sf T S sd j).1, i_sum (m_lk T (m_wk vf sf T S sd j).1 0) T.2.2.1) from if_pos (by have := i_nge (a := 11) (b := v) c58 (by omega); omega)]; exact (hS2 rfl)) rfl
  have hl0 := loop (k) 0 nw1 td sd (.float 0) (by omega) hl1 (hS.cg hn6 (fun i hi => by rw [Nat.zero_add]; exact hh1 i hi)) rfl
  rw [am_si (am_gn (by decide) h142), am_si (show ((w.set 138 (.inl (0, 42, .inl nw1))))[133]? = some (.inr (11, [.int (nI T.2.2.1), .int (nI T.2.2.2.1), .int T.1, .int T.2.1, .ref 134, .ref 135, .ref 136, .ref 137, .ref 138, .ref 139, .ref 140, .int rh, .int rk, .ref 141, .int (nI t.1), .int wh, .int fa, .ref 142, .int 0, .int (nI A.length), .int (nI nx), .ref 143, .ref 144, .int (nI N.1), .ref 145, .ref 146, .ref 147, .long sd, .ref 148, .ref 149])) from (am_gn (by decide) hm))] at hl0
  exact hl0
theorem e_weeks (w : am_W) (t : Nat × (Nat → Int32)) (T : p_D) (S : s_S) (A : List s_S) (K : Nat → Option s_S) (N : x_N) (sd : Int64) (d : Nat) (hd : d ≤ 1000) (hv : v_W d T S A K) (hW : d_W w t T S A K N sd) (k : Nat) (h1k : 1 ≤ k) (hk : k ≤ 30) : am_Go 159 (0, [.ref 133, .int (nI k), .float 0, .float 0], [], w, 0, 0) (fun res w' => res = some (.int ((m_wk l_v l_sd T S sd k).2.1)) ∧ d_W w' t T S A K N ((m_wk l_v l_sd T S sd k).2.2) ∧ am_same (rg 133 17) w w') := e_weeks0 w t T S A K N sd d hd hv hW k h1k hk l_v l_sd l_v_lt (fun _ => rfl) l_v_eq
