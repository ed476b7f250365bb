/-! the reference whole: told doings judged -/
set_option maxRecDepth 100000 in
set_option maxHeartbeats 4000000 in
theorem d_pow (w : am_W) (b e : Nat) (he : e < 100) : am_Go 146 (0, [.long (lN b), .float 0, .int (nI e), .float 0, .float 0, .float 0], [], w, 0, 0) (fun res w' => res = some (.long (lN (b ^ e))) ∧ w' = w) := by
  have hM : am_P[146]? = some zm_X11_power := rfl
  refine ar_lconst (x := 1) (pc' := 1) hM rfl (by decide) rfl ?_
  refine ar_lstore_n (pc' := 2) hM rfl rfl rfl rfl ?_
  refine ar_iconst (x := 0) (pc' := 3) hM rfl (by decide) rfl ?_
  refine ar_istore (pc' := 5) hM rfl rfl rfl rfl ?_
  have loop : ∀ (dj j : Nat) (y : Int64), dj + j = e → (y = lN (b ^ j)) → am_Go 146 (5, [.long (lN b), .float 0, .int (nI e), .long y, .float 0, .int (nI j)], [], w, 0, 0) (fun res w' => res = some (.long (lN (b ^ e))) ∧ w' = w) := by
    intro dj
    induction dj with
    | zero =>
      intro j y hj hy
      refine ar_iload (pc' := 7) hM rfl rfl rfl ?_
      refine ar_iload_n (pc' := 8) hM rfl rfl rfl ?_
      refine ar_icmp_ge (pc' := 11) hM rfl rfl (fun _ => ?_) (fun q => absurd (nI_le (a := e) (b := j) (by omega) (by omega)) q)
      refine ar_lload_n (pc' := 22) hM rfl rfl rfl ?_
      refine ar_lreturn hM rfl ?_
      exact ⟨by rw [hy, show j = e by omega], rfl⟩
    | succ dj ih =>
      intro j y hj hy
      refine ar_iload (pc' := 7) hM rfl rfl rfl ?_
      refine ar_iload_n (pc' := 8) hM rfl rfl rfl ?_
      refine ar_icmp_ge (pc' := 11) hM rfl rfl (fun q => absurd q (nI_ge (a := j) (b := e) (by omega) (by omega))) (fun _ => ?_)
      refine ar_lload_n (pc' := 12) hM rfl rfl rfl ?_
      refine ar_lload_n (pc' := 13) hM rfl rfl rfl ?_
      refine ar_lmul (pc' := 14) hM rfl rfl ?_
      refine ar_lstore_n (pc' := 15) hM rfl rfl rfl rfl ?_
      refine ar_iinc (z := nI (j + 1)) (pc' := 18) hM rfl rfl (nI_1 _) rfl rfl rfl ?_
      refine ar_goto hM rfl ?_
      exact ih (j + 1) (y * (lN b)) (by omega) (by rw [hy, lN_mul, Nat.pow_succ])
  exact loop (e) 0 1 (by omega) rfl
set_option maxRecDepth 100000 in
set_option maxHeartbeats 4000000 in
theorem d_try0 {w : am_W} (T : p_D) {rh rk wh fa gu : Int32} {tl ac nx sc : Nat} {sd : Int64} {ne ki ba he nw td : Nat → Int32} (hm : w[133]? = some (d_O T rh rk tl wh fa gu ac nx sc sd)) (h134 : w[134]? = some (.inl (0, 6, .inl ne))) (h135 : w[135]? = some (.inl (0, 6, .inl ki))) (h136 : w[136]? = some (.inl (0, 6, .inl ba))) (h137 : w[137]? = some (.inl (0, 5, .inl he))) (h138 : w[138]? = some (.inl (0, 42, .inl nw))) (h142 : w[142]? = some (.inl (0, 36, .inl td))) (hT : d_T ne ki ba he T) (hg : gu = 0) (S : s_S) (hvT : v_T T) (hvS : v_S T.2.2.1 S) (hS : d_S nw (21 * 1) T.2.2.1 S) (b c : Nat) (hb : b < 10) (hc : c < 10) : am_Go 145 (0, [.ref 133, .int 0, .int (nI b), .int (nI c), .float 0, .float 0, .float 0], [], w, 0, 0) (fun res w' => ∃ td' nw', w' = (w.set 138 (.inl (0, 42, .inl nw'))).set 142 (.inl (0, 36, .inl td')) ∧ (∀ k, k < 21 → nw' k = nw k) ∧ ((m_can T S 0 b c ∧ res = some (.int 1) ∧ d_S nw' (21 * 1) T.2.2.1 (m_do T S 0 b c)) ∨ (¬ m_can T S 0 b c ∧ res = some (.int 0)))) := by
  have hM : am_P[145]? = some zm_X11_tryThing := rfl
  have hn6 : T.2.2.1 ≤ 6 := hvT.1
  subst hg
  refine ar_iload_n (pc' := 1) hM rfl rfl rfl ?_
  refine ar_tableIn (off := 35) (t := 36) hM rfl (by decide) (by decide) (by decide) ?_
  refine ar_aload_n (pc' := 37) hM rfl rfl rfl ?_
  refine ar_iconst (x := 1) (pc' := 38) hM rfl (by decide) rfl ?_
  refine ar_virtual (pc' := 41) (k3 := 0) (k4 := 0) hM rfl rfl hm ⟨rfl, (by decide)⟩ rfl rfl (d_pass T hm h134 h135 h136 h137 h138 h142 hT 1 (by omega) S hvT hvS hS) (fun r38 w38 q38 => ?_)
  obtain ⟨td1, nw1, rfl, q38w, hY1, hS1, hnw1⟩ := q38
  rw [q38w]
  show am_Go 145 (41, [.ref 133, .int 0, .int (nI b), .int (nI c), .float 0, .float 0, .float 0], [.int (i_sum (m_lk T S 0) T.2.2.1)], ((w.set 142 (.inl (0, 36, .inl td1))).set 138 (.inl (0, 42, .inl nw1))), 0, 0) _
  refine ar_pop (pc' := 42) hM rfl rfl rfl ?_
  refine ar_iload_n (pc' := 43) hM rfl rfl rfl ?_
  refine ar_if_ne (pc' := 46) hM rfl rfl (fun c43 => ?_) (fun c43 => ?_)
  · refine ar_iconst (x := 0) (pc' := 55) hM rfl (by decide) rfl ?_
    refine ar_ireturn hM rfl (Or.inr (Or.inl rfl)) ?_
    exact ⟨_, _, (List.set_comm _ _ (by decide)), (fun i hi => hnw1 i (by omega)), Or.inr ⟨(fun q => c43 (congrArg nI q.1)), rfl⟩⟩
  · refine ar_iload_n (pc' := 47) hM rfl rfl rfl ?_
    refine ar_if_ne (pc' := 50) hM rfl rfl (fun c47 => ?_) (fun c47 => ?_)
    · refine ar_iconst (x := 0) (pc' := 55) hM rfl (by decide) rfl ?_
      refine ar_ireturn hM rfl (Or.inr (Or.inl rfl)) ?_
      exact ⟨_, _, (List.set_comm _ _ (by decide)), (fun i hi => hnw1 i (by omega)), Or.inr ⟨(fun q => c47 (congrArg nI q.2)), rfl⟩⟩
    · refine ar_iconst (x := 1) (pc' := 51) hM rfl (by decide) rfl ?_
      refine ar_goto hM rfl ?_
      refine ar_ireturn hM rfl (Or.inr (Or.inr rfl)) ?_
      exact ⟨_, _, (List.set_comm _ _ (by decide)), (fun i hi => hnw1 i (by omega)), Or.inl ⟨(show b = 0 ∧ c = 0 from ⟨((nI_eq (b := 0) (by omega) (by omega)).mp c43), ((nI_eq (b := 0) (by omega) (by omega)).mp c47)⟩), rfl, (hS1 rfl)⟩⟩
set_option maxRecDepth 100000 in
set_option maxHeartbeats 4000000 in
theorem d_try1 {w : am_W} (T : p_D) {rh rk wh fa gu : Int32} {tl ac nx sc : Nat} {sd : Int64} {ne ki ba he nw td : Nat → Int32} (hm : w[133]? = some (d_O T rh rk tl wh fa gu ac nx sc sd)) (h134 : w[134]? = some (.inl (0, 6, .inl ne))) (h135 : w[135]? = some (.inl (0, 6, .inl ki))) (h136 : w[136]? = some (.inl (0, 6, .inl ba))) (h137 : w[137]? = some (.inl (0, 5, .inl he))) (h138 : w[138]? = some (.inl (0, 42, .inl nw))) (h142 : w[142]? = some (.inl (0, 36, .inl td))) (hT : d_T ne ki ba he T) (hg : gu = 0) (S : s_S) (hvT : v_T T) (hvS : v_S T.2.2.1 S) (hS : d_S nw (21 * 1) T.2.2.1 S) (b c : Nat) (hb : b < 10) (hc : c < 10) : am_Go 145 (0, [.ref 133, .int 1, .int (nI b), .int (nI c), .float 0, .float 0, .float 0], [], w, 0, 0) (fun res w' => ∃ td' nw', w' = (w.set 138 (.inl (0, 42, .inl nw'))).set 142 (.inl (0, 36, .inl td')) ∧ (∀ k, k < 21 → nw' k = nw k) ∧ ((m_can T S 1 b c ∧ res = some (.int 1) ∧ d_S nw' (21 * 1) T.2.2.1 (m_do T S 1 b c)) ∨ (¬ m_can T S 1 b c ∧ res = some (.int 0)))) := by
  have hM : am_P[145]? = some zm_X11_tryThing := rfl
  have hn6 : T.2.2.1 ≤ 6 := hvT.1
  subst hg
  refine ar_iload_n (pc' := 1) hM rfl rfl rfl ?_
  refine ar_tableIn (off := 55) (t := 56) hM rfl (by decide) (by decide) (by decide) ?_
  refine ar_aload_n (pc' := 57) hM rfl rfl rfl ?_
  refine ar_iload_n (pc' := 58) hM rfl rfl rfl ?_
  refine ar_virtual (pc' := 61) (k3 := 0) (k4 := 0) hM rfl rfl hm ⟨rfl, (by decide)⟩ rfl rfl (d_isHn hn6 b (by omega) (d_isH T hm (nI b))) (fun r58 w58 q58 => ?_)
  obtain ⟨rfl, q58w⟩ := q58
  rw [q58w]
  show am_Go 145 (61, [.ref 133, .int 1, .int (nI b), .int (nI c), .float 0, .float 0, .float 0], [.int (if b < T.2.2.1 then 1 else 0)], w, 0, 0) _
  refine ar_if_eq (pc' := 64) hM rfl rfl (fun c61 => ?_) (fun c61 => ?_)
  · refine ar_iconst (x := 0) (pc' := 82) hM rfl (by decide) rfl ?_
    refine ar_istore (pc' := 84) hM rfl rfl rfl rfl ?_
    refine ar_iload (pc' := 86) hM rfl rfl rfl ?_
    refine ar_if_eq (pc' := 89) hM rfl rfl (fun _ => ?_) (fun q => absurd rfl q)
    refine ar_iload (pc' := 98) hM rfl rfl rfl ?_
    refine ar_ireturn hM rfl (Or.inr (Or.inl rfl)) ?_
    exact ⟨_, _, (by rw [am_si h138, am_si h142]), (fun _ _ => rfl), Or.inr ⟨(fun q => am_eq0 c61 q.1.2), rfl⟩⟩
  · refine ar_aload_n (pc' := 65) hM rfl rfl rfl ?_
    refine ar_iload_n (pc' := 66) hM rfl rfl rfl ?_
    refine ar_virtual (pc' := 69) (k3 := 0) (k4 := 0) hM rfl rfl hm ⟨rfl, (by decide)⟩ rfl rfl (d_isHn hn6 c (by omega) (d_isH T hm (nI c))) (fun r66 w66 q66 => ?_)
    obtain ⟨rfl, q66w⟩ := q66
    rw [q66w]
    show am_Go 145 (69, [.ref 133, .int 1, .int (nI b), .int (nI c), .float 0, .float 0, .float 0], [.int (if c < T.2.2.1 then 1 else 0)], w, 0, 0) _
    refine ar_if_eq (pc' := 72) hM rfl rfl (fun c69 => ?_) (fun c69 => ?_)
    · refine ar_iconst (x := 0) (pc' := 82) hM rfl (by decide) rfl ?_
      refine ar_istore (pc' := 84) hM rfl rfl rfl rfl ?_
      refine ar_iload (pc' := 86) hM rfl rfl rfl ?_
      refine ar_if_eq (pc' := 89) hM rfl rfl (fun _ => ?_) (fun q => absurd rfl q)
      refine ar_iload (pc' := 98) hM rfl rfl rfl ?_
      refine ar_ireturn hM rfl (Or.inr (Or.inl rfl)) ?_
      exact ⟨_, _, (by rw [am_si h138, am_si h142]), (fun _ _ => rfl), Or.inr ⟨(fun q => am_eq0 c69 q.1.1), rfl⟩⟩
    · refine ar_iload_n (pc' := 73) hM rfl rfl rfl ?_
      refine ar_iload_n (pc' := 74) hM rfl rfl rfl ?_
      refine ar_icmp_eq (pc' := 77) hM rfl rfl (fun c74 => ?_) (fun c74 => ?_)
      · refine ar_iconst (x := 0) (pc' := 82) hM rfl (by decide) rfl ?_
        refine ar_istore (pc' := 84) hM rfl rfl rfl rfl ?_
        refine ar_iload (pc' := 86) hM rfl rfl rfl ?_
        refine ar_if_eq (pc' := 89) hM rfl rfl (fun _ => ?_) (fun q => absurd rfl q)
        refine ar_iload (pc' := 98) hM rfl rfl rfl ?_
        refine ar_ireturn hM rfl (Or.inr (Or.inl rfl)) ?_
        exact ⟨_, _, (by rw [am_si h138, am_si h142]), (fun _ _ => rfl), Or.inr ⟨(fun q => q.2 ((nI_eq (by omega) (by omega)).mp c74)), rfl⟩⟩
      · refine ar_iconst (x := 1) (pc' := 78) hM rfl (by decide) rfl ?_
        refine ar_goto hM rfl ?_
        refine ar_istore (pc' := 84) hM rfl rfl rfl rfl ?_
        refine ar_iload (pc' := 86) hM rfl rfl rfl ?_
        refine ar_if_eq (pc' := 89) hM rfl rfl (fun q => absurd q (by decide)) (fun _ => ?_)
        refine ar_aload_n (pc' := 90) hM rfl rfl rfl ?_
        refine ar_iconst (x := 1) (pc' := 91) hM rfl (by decide) rfl ?_
        refine ar_iload_n (pc' := 92) hM rfl rfl rfl ?_
        refine ar_iload_n (pc' := 93) hM rfl rfl rfl ?_
        refine ar_virtual (pc' := 96) (k3 := 0) (k4 := 0) hM rfl rfl hm ⟨rfl, (by decide)⟩ rfl rfl (d_swap T hm h138 1 (by omega) S hn6 hS b c (am_ne0 c61) (am_ne0 c69)) (fun r93 w93 q93 => ?_)
        obtain ⟨nw1, rfl, q93w, hS1, hnw1⟩ := q93
        rw [q93w]
        show am_Go 145 (96, [.ref 133, .int 1, .int (nI b), .int (nI c), .int 1, .float 0, .float 0], [], (w.set 138 (.inl (0, 42, .inl nw1))), 0, 0) _
        refine ar_iload (pc' := 98) hM rfl rfl rfl ?_
        refine ar_ireturn hM rfl (Or.inr (Or.inr rfl)) ?_
        exact ⟨_, _, (am_si (am_gn (by decide) h142)).symm, (fun i hi => hnw1 i (by omega)), Or.inl ⟨(show (c < T.2.2.1 ∧ b < T.2.2.1) ∧ b ≠ c from ⟨⟨am_ne0 c69, am_ne0 c61⟩, fun q => c74 (congrArg nI q)⟩), rfl, hS1⟩⟩
set_option maxRecDepth 100000 in
set_option maxHeartbeats 4000000 in
theorem d_try2 {w : am_W} (T : p_D) {rh rk wh fa gu : Int32} {tl ac nx sc : Nat} {sd : Int64} {ne ki ba he nw td : Nat → Int32} (hm : w[133]? = some (d_O T rh rk tl wh fa gu ac nx sc sd)) (h134 : w[134]? = some (.inl (0, 6, .inl ne))) (h135 : w[135]? = some (.inl (0, 6, .inl ki))) (h136 : w[136]? = some (.inl (0, 6, .inl ba))) (h137 : w[137]? = some (.inl (0, 5, .inl he))) (h138 : w[138]? = some (.inl (0, 42, .inl nw))) (h142 : w[142]? = some (.inl (0, 36, .inl td))) (hT : d_T ne ki ba he T) (hg : gu = 0) (S : s_S) (hvT : v_T T) (hvS : v_S T.2.2.1 S) (hS : d_S nw (21 * 1) T.2.2.1 S) (b c : Nat) (hb : b < 10) (hc : c < 10) : am_Go 145 (0, [.ref 133, .int 2, .int (nI b), .int (nI c), .float 0, .float 0, .float 0], [], w, 0, 0) (fun res w' => ∃ td' nw', w' = (w.set 138 (.inl (0, 42, .inl nw'))).set 142 (.inl (0, 36, .inl td')) ∧ (∀ k, k < 21 → nw' k = nw k) ∧ ((m_can T S 2 b c ∧ res = some (.int 1) ∧ d_S nw' (21 * 1) T.2.2.1 (m_do T S 2 b c)) ∨ (¬ m_can T S 2 b c ∧ res = some (.int 0)))) := by
  have hM : am_P[145]? = some zm_X11_tryThing := rfl
  have hn6 : T.2.2.1 ≤ 6 := hvT.1
  subst hg
  refine ar_iload_n (pc' := 1) hM rfl rfl rfl ?_
  refine ar_tableIn (off := 98) (t := 99) hM rfl (by decide) (by decide) (by decide) ?_
  refine ar_iload_n (pc' := 100) hM rfl rfl rfl ?_
  refine ar_if_ne (pc' := 103) hM rfl rfl (fun c100 => ?_) (fun c100 => ?_)
  · refine ar_iconst (x := 0) (pc' := 130) hM rfl (by decide) rfl ?_
    refine ar_istore (pc' := 132) hM rfl rfl rfl rfl ?_
    refine ar_aload_n (pc' := 133) hM rfl rfl rfl ?_
    refine ar_getfield (pc' := 136) hM rfl hm rfl rfl ?_
    refine ar_bipush (x := 39) (pc' := 138) hM rfl (by decide) rfl ?_
    refine ar_dup2 (pc' := 139) hM rfl rfl rfl rfl ?_
    refine ar_ialoadN (j := 39) (pc' := 140) hM rfl h138 (by decide) (by omega) (Nat.le_of_ble_eq_true rfl) rfl ?_
    rw [show (nw 39 : Int32) = S.2.2.2.2.1 from hS.2.1]
    refine ar_iload (pc' := 142) hM rfl rfl rfl ?_
    refine ar_if_eq (pc' := 145) hM rfl rfl (fun _ => ?_) (fun q => absurd rfl q)
    refine ar_iconst (x := 0) (pc' := 152) hM rfl (by decide) rfl ?_
    refine ar_ior (pc' := 153) hM rfl rfl ?_
    refine ar_iastoreN (j := 39) (pc' := 154) hM rfl h138 (by decide) (by omega) (Nat.le_of_ble_eq_true rfl) (by decide) rfl ?_
    refine ar_iload (pc' := 156) hM rfl rfl rfl ?_
    refine ar_ireturn hM rfl (Or.inr (Or.inl rfl)) ?_
    exact ⟨_, _, (am_si (am_gn (by decide) h142)).symm, (fun i hi => pk_un (by omega)), Or.inr ⟨(fun q => c100 (congrArg nI q.1.2)), rfl⟩⟩
  · refine ar_aload_n (pc' := 104) hM rfl rfl rfl ?_
    refine ar_iload_n (pc' := 105) hM rfl rfl rfl ?_
    refine ar_virtual (pc' := 108) (k3 := 0) (k4 := 0) hM rfl rfl hm ⟨rfl, (by decide)⟩ rfl rfl (d_isHn hn6 c (by omega) (d_isH T hm (nI c))) (fun r105 w105 q105 => ?_)
    obtain ⟨rfl, q105w⟩ := q105
    rw [q105w]
    show am_Go 145 (108, [.ref 133, .int 2, .int (nI b), .int (nI c), .float 0, .float 0, .float 0], [.int (if c < T.2.2.1 then 1 else 0)], w, 0, 0) _
    refine ar_if_eq (pc' := 111) hM rfl rfl (fun c108 => ?_) (fun c108 => ?_)
    · refine ar_iconst (x := 0) (pc' := 130) hM rfl (by decide) rfl ?_
      refine ar_istore (pc' := 132) hM rfl rfl rfl rfl ?_
      refine ar_aload_n (pc' := 133) hM rfl rfl rfl ?_
      refine ar_getfield (pc' := 136) hM rfl hm rfl rfl ?_
      refine ar_bipush (x := 39) (pc' := 138) hM rfl (by decide) rfl ?_
      refine ar_dup2 (pc' := 139) hM rfl rfl rfl rfl ?_
      refine ar_ialoadN (j := 39) (pc' := 140) hM rfl h138 (by decide) (by omega) (Nat.le_of_ble_eq_true rfl) rfl ?_
      rw [show (nw 39 : Int32) = S.2.2.2.2.1 from hS.2.1]
      refine ar_iload (pc' := 142) hM rfl rfl rfl ?_
      refine ar_if_eq (pc' := 145) hM rfl rfl (fun _ => ?_) (fun q => absurd rfl q)
      refine ar_iconst (x := 0) (pc' := 152) hM rfl (by decide) rfl ?_
      refine ar_ior (pc' := 153) hM rfl rfl ?_
      refine ar_iastoreN (j := 39) (pc' := 154) hM rfl h138 (by decide) (by omega) (Nat.le_of_ble_eq_true rfl) (by decide) rfl ?_
      refine ar_iload (pc' := 156) hM rfl rfl rfl ?_
      refine ar_ireturn hM rfl (Or.inr (Or.inl rfl)) ?_
      exact ⟨_, _, (am_si (am_gn (by decide) h142)).symm, (fun i hi => pk_un (by omega)), Or.inr ⟨(fun q => am_eq0 c108 q.1.1), rfl⟩⟩
    · refine ar_aload_n (pc' := 112) hM rfl rfl rfl ?_
      refine ar_getfield (pc' := 115) hM rfl hm rfl rfl ?_
      refine ar_bipush (x := 39) (pc' := 117) hM rfl (by decide) rfl ?_
      refine ar_ialoadN (j := 39) (pc' := 118) hM rfl h138 (by decide) (by omega) (Nat.le_of_ble_eq_true rfl) rfl ?_
      rw [show (nw 39 : Int32) = S.2.2.2.2.1 from hS.2.1]
      refine ar_iload_n (pc' := 119) hM rfl rfl rfl ?_
      refine ar_static (pc' := 122) (k3 := 0) (k4 := 0) hM rfl (by decide) rfl rfl (d_has _ _ _) (fun r119 w119 q119 => ?_)
      obtain ⟨rfl, q119w⟩ := q119
      rw [q119w]
      show am_Go 145 (122, [.ref 133, .int 2, .int (nI b), .int (nI c), .float 0, .float 0, .float 0], [.int (if (S.2.2.2.2.1 >>> ((nI c) &&& 31)) &&& 1 = 1 then 1 else 0)], w, 0, 0) _
      refine ar_if_ne (pc' := 125) hM rfl rfl (fun c122 => ?_) (fun c122 => ?_)
      · refine ar_iconst (x := 0) (pc' := 130) hM rfl (by decide) rfl ?_
        refine ar_istore (pc' := 132) hM rfl rfl rfl rfl ?_
        refine ar_aload_n (pc' := 133) hM rfl rfl rfl ?_
        refine ar_getfield (pc' := 136) hM rfl hm rfl rfl ?_
        refine ar_bipush (x := 39) (pc' := 138) hM rfl (by decide) rfl ?_
        refine ar_dup2 (pc' := 139) hM rfl rfl rfl rfl ?_
        refine ar_ialoadN (j := 39) (pc' := 140) hM rfl h138 (by decide) (by omega) (Nat.le_of_ble_eq_true rfl) rfl ?_
        rw [show (nw 39 : Int32) = S.2.2.2.2.1 from hS.2.1]
        refine ar_iload (pc' := 142) hM rfl rfl rfl ?_
        refine ar_if_eq (pc' := 145) hM rfl rfl (fun _ => ?_) (fun q => absurd rfl q)
        refine ar_iconst (x := 0) (pc' := 152) hM rfl (by decide) rfl ?_
        refine ar_ior (pc' := 153) hM rfl rfl ?_
        refine ar_iastoreN (j := 39) (pc' := 154) hM rfl h138 (by decide) (by omega) (Nat.le_of_ble_eq_true rfl) (by decide) rfl ?_
        refine ar_iload (pc' := 156) hM rfl rfl rfl ?_
        refine ar_ireturn hM rfl (Or.inr (Or.inl rfl)) ?_
        exact ⟨_, _, (am_si (am_gn (by decide) h142)).symm, (fun i hi => pk_un (by omega)), Or.inr ⟨(fun q => q.2 (am_ne0 c122)), rfl⟩⟩
      · refine ar_iconst (x := 1) (pc' := 126) hM rfl (by decide) rfl ?_
        refine ar_goto hM rfl ?_
        refine ar_istore (pc' := 132) hM rfl rfl rfl rfl ?_
        refine ar_aload_n (pc' := 133) hM rfl rfl rfl ?_
        refine ar_getfield (pc' := 136) hM rfl hm rfl rfl ?_
        refine ar_bipush (x := 39) (pc' := 138) hM rfl (by decide) rfl ?_
        refine ar_dup2 (pc' := 139) hM rfl rfl rfl rfl ?_
        refine ar_ialoadN (j := 39) (pc' := 140) hM rfl h138 (by decide) (by omega) (Nat.le_of_ble_eq_true rfl) rfl ?_
        rw [show (nw 39 : Int32) = S.2.2.2.2.1 from hS.2.1]
        refine ar_iload (pc' := 142) hM rfl rfl rfl ?_
        refine ar_if_eq (pc' := 145) hM rfl rfl (fun q => absurd q (by decide)) (fun _ => ?_)
        refine ar_iconst (x := 1) (pc' := 146) hM rfl (by decide) rfl ?_
        refine ar_iload_n (pc' := 147) hM rfl rfl rfl ?_
        refine ar_ishl (pc' := 148) hM rfl rfl ?_
        refine ar_goto hM rfl ?_
        refine ar_ior (pc' := 153) hM rfl rfl ?_
        refine ar_iastoreN (j := 39) (pc' := 154) hM rfl h138 (by decide) (by omega) (Nat.le_of_ble_eq_true rfl) (by decide) rfl ?_
        refine ar_iload (pc' := 156) hM rfl rfl rfl ?_
        refine ar_ireturn hM rfl (Or.inr (Or.inr rfl)) ?_
        exact ⟨_, _, (am_si (am_gn (by decide) h142)).symm, (fun i hi => pk_un (by omega)), Or.inl ⟨(show (c < T.2.2.1 ∧ b = 0) ∧ ¬ (S.2.2.2.2.1 >>> (nI c &&& 31)) &&& 1 = 1 from ⟨⟨am_ne0 c108, ((nI_eq (b := 0) (by omega) (by omega)).mp c100)⟩, am_eq0 c122⟩), rfl, (d_S_b18 (b := 21 * 1) hn6 hS (S.2.2.2.2.1 ||| 1 <<< (nI c &&& 31)))⟩⟩
set_option maxRecDepth 100000 in
set_option maxHeartbeats 4000000 in
theorem d_try3 {w : am_W} (T : p_D) {rh rk wh fa gu : Int32} {tl ac nx sc : Nat} {sd : Int64} {ne ki ba he nw td : Nat → Int32} (hm : w[133]? = some (d_O T rh rk tl wh fa gu ac nx sc sd)) (h134 : w[134]? = some (.inl (0, 6, .inl ne))) (h135 : w[135]? = some (.inl (0, 6, .inl ki))) (h136 : w[136]? = some (.inl (0, 6, .inl ba))) (h137 : w[137]? = some (.inl (0, 5, .inl he))) (h138 : w[138]? = some (.inl (0, 42, .inl nw))) (h142 : w[142]? = some (.inl (0, 36, .inl td))) (hT : d_T ne ki ba he T) (hg : gu = 0) (S : s_S) (hvT : v_T T) (hvS : v_S T.2.2.1 S) (hS : d_S nw (21 * 1) T.2.2.1 S) (b c : Nat) (hb : b < 10) (hc : c < 10) : am_Go 145 (0, [.ref 133, .int 3, .int (nI b), .int (nI c), .float 0, .float 0, .float 0], [], w, 0, 0) (fun res w' => ∃ td' nw', w' = (w.set 138 (.inl (0, 42, .inl nw'))).set 142 (.inl (0, 36, .inl td')) ∧ (∀ k, k < 21 → nw' k = nw k) ∧ ((m_can T S 3 b c ∧ res = some (.int 1) ∧ d_S nw' (21 * 1) T.2.2.1 (m_do T S 3 b c)) ∨ (¬ m_can T S 3 b c ∧ res = some (.int 0)))) := by
  have hM : am_P[145]? = some zm_X11_tryThing := rfl
  have hn6 : T.2.2.1 ≤ 6 := hvT.1
  subst hg
  refine ar_iload_n (pc' := 1) hM rfl rfl rfl ?_
  refine ar_tableIn (off := 156) (t := 157) hM rfl (by decide) (by decide) (by decide) ?_
  refine ar_iload_n (pc' := 158) hM rfl rfl rfl ?_
  refine ar_if_ne (pc' := 161) hM rfl rfl (fun c158 => ?_) (fun c158 => ?_)
  · refine ar_iconst (x := 0) (pc' := 174) hM rfl (by decide) rfl ?_
    refine ar_istore (pc' := 176) hM rfl rfl rfl rfl ?_
    refine ar_aload_n (pc' := 177) hM rfl rfl rfl ?_
    refine ar_getfield (pc' := 180) hM rfl hm rfl rfl ?_
    refine ar_bipush (x := 40) (pc' := 182) hM rfl (by decide) rfl ?_
    refine ar_dup2 (pc' := 183) hM rfl rfl rfl rfl ?_
    refine ar_ialoadN (j := 40) (pc' := 184) hM rfl h138 (by decide) (by omega) (Nat.le_of_ble_eq_true rfl) rfl ?_
    rw [show (nw 40 : Int32) = S.2.2.2.2.2.1 from hS.2.2.1]
    refine ar_iload (pc' := 186) hM rfl rfl rfl ?_
    refine ar_if_eq (pc' := 189) hM rfl rfl (fun _ => ?_) (fun q => absurd rfl q)
    refine ar_iconst (x := 0) (pc' := 196) hM rfl (by decide) rfl ?_
    refine ar_ixor (pc' := 197) hM rfl rfl ?_
    refine ar_iastoreN (j := 40) (pc' := 198) hM rfl h138 (by decide) (by omega) (Nat.le_of_ble_eq_true rfl) (by decide) rfl ?_
    refine ar_iload (pc' := 200) hM rfl rfl rfl ?_
    refine ar_ireturn hM rfl (Or.inr (Or.inl rfl)) ?_
    exact ⟨_, _, (am_si (am_gn (by decide) h142)).symm, (fun i hi => pk_un (by omega)), Or.inr ⟨(fun q => c158 (congrArg nI q.2)), rfl⟩⟩
  · refine ar_aload_n (pc' := 162) hM rfl rfl rfl ?_
    refine ar_iload_n (pc' := 163) hM rfl rfl rfl ?_
    refine ar_virtual (pc' := 166) (k3 := 0) (k4 := 0) hM rfl rfl hm ⟨rfl, (by decide)⟩ rfl rfl (d_isHn hn6 c (by omega) (d_isH T hm (nI c))) (fun r163 w163 q163 => ?_)
    obtain ⟨rfl, q163w⟩ := q163
    rw [q163w]
    show am_Go 145 (166, [.ref 133, .int 3, .int (nI b), .int (nI c), .float 0, .float 0, .float 0], [.int (if c < T.2.2.1 then 1 else 0)], w, 0, 0) _
    refine ar_if_eq (pc' := 169) hM rfl rfl (fun c166 => ?_) (fun c166 => ?_)
    · refine ar_iconst (x := 0) (pc' := 174) hM rfl (by decide) rfl ?_
      refine ar_istore (pc' := 176) hM rfl rfl rfl rfl ?_
      refine ar_aload_n (pc' := 177) hM rfl rfl rfl ?_
      refine ar_getfield (pc' := 180) hM rfl hm rfl rfl ?_
      refine ar_bipush (x := 40) (pc' := 182) hM rfl (by decide) rfl ?_
      refine ar_dup2 (pc' := 183) hM rfl rfl rfl rfl ?_
      refine ar_ialoadN (j := 40) (pc' := 184) hM rfl h138 (by decide) (by omega) (Nat.le_of_ble_eq_true rfl) rfl ?_
      rw [show (nw 40 : Int32) = S.2.2.2.2.2.1 from hS.2.2.1]
      refine ar_iload (pc' := 186) hM rfl rfl rfl ?_
      refine ar_if_eq (pc' := 189) hM rfl rfl (fun _ => ?_) (fun q => absurd rfl q)
      refine ar_iconst (x := 0) (pc' := 196) hM rfl (by decide) rfl ?_
      refine ar_ixor (pc' := 197) hM rfl rfl ?_
      refine ar_iastoreN (j := 40) (pc' := 198) hM rfl h138 (by decide) (by omega) (Nat.le_of_ble_eq_true rfl) (by decide) rfl ?_
      refine ar_iload (pc' := 200) hM rfl rfl rfl ?_
      refine ar_ireturn hM rfl (Or.inr (Or.inl rfl)) ?_
      exact ⟨_, _, (am_si (am_gn (by decide) h142)).symm, (fun i hi => pk_un (by omega)), Or.inr ⟨(fun q => am_eq0 c166 q.1), rfl⟩⟩
    · refine ar_iconst (x := 1) (pc' := 170) hM rfl (by decide) rfl ?_
      refine ar_goto hM rfl ?_
      refine ar_istore (pc' := 176) hM rfl rfl rfl rfl ?_
      refine ar_aload_n (pc' := 177) hM rfl rfl rfl ?_
      refine ar_getfield (pc' := 180) hM rfl hm rfl rfl ?_
      refine ar_bipush (x := 40) (pc' := 182) hM rfl (by decide) rfl ?_
      refine ar_dup2 (pc' := 183) hM rfl rfl rfl rfl ?_
      refine ar_ialoadN (j := 40) (pc' := 184) hM rfl h138 (by decide) (by omega) (Nat.le_of_ble_eq_true rfl) rfl ?_
      rw [show (nw 40 : Int32) = S.2.2.2.2.2.1 from hS.2.2.1]
      refine ar_iload (pc' := 186) hM rfl rfl rfl ?_
      refine ar_if_eq (pc' := 189) hM rfl rfl (fun q => absurd q (by decide)) (fun _ => ?_)
      refine ar_iconst (x := 1) (pc' := 190) hM rfl (by decide) rfl ?_
      refine ar_iload_n (pc' := 191) hM rfl rfl rfl ?_
      refine ar_ishl (pc' := 192) hM rfl rfl ?_
      refine ar_goto hM rfl ?_
      refine ar_ixor (pc' := 197) hM rfl rfl ?_
      refine ar_iastoreN (j := 40) (pc' := 198) hM rfl h138 (by decide) (by omega) (Nat.le_of_ble_eq_true rfl) (by decide) rfl ?_
      refine ar_iload (pc' := 200) hM rfl rfl rfl ?_
      refine ar_ireturn hM rfl (Or.inr (Or.inr rfl)) ?_
      exact ⟨_, _, (am_si (am_gn (by decide) h142)).symm, (fun i hi => pk_un (by omega)), Or.inl ⟨(show c < T.2.2.1 ∧ b = 0 from ⟨am_ne0 c166, ((nI_eq (b := 0) (by omega) (by omega)).mp c158)⟩), rfl, (d_S_b19 (b := 21 * 1) hn6 hS (S.2.2.2.2.2.1 ^^^ 1 <<< (nI c &&& 31)))⟩⟩
set_option maxRecDepth 100000 in
set_option maxHeartbeats 4000000 in
theorem d_try4 {w : am_W} (T : p_D) {rh rk wh fa gu : Int32} {tl ac nx sc : Nat} {sd : Int64} {ne ki ba he nw td : Nat → Int32} (hm : w[133]? = some (d_O T rh rk tl wh fa gu ac nx sc sd)) (h134 : w[134]? = some (.inl (0, 6, .inl ne))) (h135 : w[135]? = some (.inl (0, 6, .inl ki))) (h136 : w[136]? = some (.inl (0, 6, .inl ba))) (h137 : w[137]? = some (.inl (0, 5, .inl he))) (h138 : w[138]? = some (.inl (0, 42, .inl nw))) (h142 : w[142]? = some (.inl (0, 36, .inl td))) (hT : d_T ne ki ba he T) (hg : gu = 0) (S : s_S) (hvT : v_T T) (hvS : v_S T.2.2.1 S) (hS : d_S nw (21 * 1) T.2.2.1 S) (b c : Nat) (hb : b < 10) (hc : c < 10) : am_Go 145 (0, [.ref 133, .int 4, .int (nI b), .int (nI c), .float 0, .float 0, .float 0], [], w, 0, 0) (fun res w' => ∃ td' nw', w' = (w.set 138 (.inl (0, 42, .inl nw'))).set 142 (.inl (0, 36, .inl td')) ∧ (∀ k, k < 21 → nw' k = nw k) ∧ ((m_can T S 4 b c ∧ res = some (.int 1) ∧ d_S nw' (21 * 1) T.2.2.1 (m_do T S 4 b c)) ∨ (¬ m_can T S 4 b c ∧ res = some (.int 0)))) := by
  have hM : am_P[145]? = some zm_X11_tryThing := rfl
  have hn6 : T.2.2.1 ≤ 6 := hvT.1
  subst hg
  refine ar_iload_n (pc' := 1) hM rfl rfl rfl ?_
  refine ar_tableIn (off := 200) (t := 201) hM rfl (by decide) (by decide) (by decide) ?_
  refine ar_aload_n (pc' := 202) hM rfl rfl rfl ?_
  refine ar_iconst (x := 1) (pc' := 203) hM rfl (by decide) rfl ?_
  refine ar_virtual (pc' := 206) (k3 := 0) (k4 := 0) hM rfl rfl hm ⟨rfl, (by decide)⟩ rfl rfl (d_lay T hm h134 h135 h136 h137 h138 h142 hT 1 (by omega) S hvT hvS hS) (fun r203 w203 q203 => ?_)
  obtain ⟨td8, rfl, q203w, hY8⟩ := q203
  rw [q203w]
  show am_Go 145 (206, [.ref 133, .int 4, .int (nI b), .int (nI c), .float 0, .float 0, .float 0], [], (w.set 142 (.inl (0, 36, .inl td8))), 0, 0) _
  refine ar_aload_n (pc' := 207) hM rfl rfl rfl ?_
  refine ar_iload_n (pc' := 208) hM rfl rfl rfl ?_
  refine ar_virtual (pc' := 211) (k3 := 0) (k4 := 0) hM rfl rfl (am_gn (by decide) hm) ⟨rfl, (by decide)⟩ rfl rfl (d_isHn hn6 c (by omega) (d_isH T (am_gn (by decide) hm) (nI c))) (fun r208 w208 q208 => ?_)
  obtain ⟨rfl, q208w⟩ := q208
  rw [q208w]
  show am_Go 145 (211, [.ref 133, .int 4, .int (nI b), .int (nI c), .float 0, .float 0, .float 0], [.int (if c < T.2.2.1 then 1 else 0)], (w.set 142 (.inl (0, 36, .inl td8))), 0, 0) _
  refine ar_if_eq (pc' := 214) hM rfl rfl (fun c211 => ?_) (fun c211 => ?_)
  · refine ar_iconst (x := 0) (pc' := 232) hM rfl (by decide) rfl ?_
    refine ar_ireturn hM rfl (Or.inr (Or.inl rfl)) ?_
    exact ⟨_, _, (by rw [am_si h138]), (fun _ _ => rfl), Or.inr ⟨(fun q => am_eq0 c211 q.1), rfl⟩⟩
  · have hcc := am_ne0 c211
    refine ar_aload_n (pc' := 215) hM rfl rfl rfl ?_
    refine ar_getfield (pc' := 218) hM rfl (am_gn (by decide) hm) rfl rfl ?_
    refine ar_bipush (x := 24) (pc' := 220) hM rfl (by decide) rfl ?_
    refine ar_iload_n (pc' := 221) hM rfl rfl rfl ?_
    refine ar_iadd (pc' := 222) hM rfl rfl ?_
    rw [show (24 + (nI c) : Int32) = nI (24 + c) from nI_add 24 c]
    refine ar_ialoadN (j := (24 + c)) (pc' := 223) hM rfl (am_gs h142) rfl (by omega) (Nat.le_of_ble_eq_true rfl) rfl ?_
    rw [show (td8 (24 + c) : Int32) = m_lk T S 0 c from (hY8 c hcc).2.2.2.2.1]
    refine ar_iload_n (pc' := 224) hM rfl rfl rfl ?_
    refine ar_icmp_gt (pc' := 227) hM rfl rfl (fun c224 => ?_) (fun c224 => ?_)
    · refine ar_iconst (x := 0) (pc' := 232) hM rfl (by decide) rfl ?_
      refine ar_ireturn hM rfl (Or.inr (Or.inl rfl)) ?_
      exact ⟨_, _, (by rw [am_si h138]), (fun _ _ => rfl), Or.inr ⟨(fun q => absurd q.2 (Int32.not_le.mpr c224)), rfl⟩⟩
    · refine ar_iconst (x := 1) (pc' := 228) hM rfl (by decide) rfl ?_
      refine ar_goto hM rfl ?_
      refine ar_ireturn hM rfl (Or.inr (Or.inr rfl)) ?_
      exact ⟨_, _, (by rw [am_si h138]), (fun _ _ => rfl), Or.inl ⟨(show c < T.2.2.1 ∧ m_lk T S 0 c ≤ nI b from ⟨am_ne0 c211, Int32.not_lt.mp c224⟩), rfl, hS⟩⟩
set_option maxRecDepth 100000 in
set_option maxHeartbeats 4000000 in
theorem d_try5 {w : am_W} (T : p_D) {rh rk wh fa gu : Int32} {tl ac nx sc : Nat} {sd : Int64} {ne ki ba he nw td : Nat → Int32} (hm : w[133]? = some (d_O T rh rk tl wh fa gu ac nx sc sd)) (h134 : w[134]? = some (.inl (0, 6, .inl ne))) (h135 : w[135]? = some (.inl (0, 6, .inl ki))) (h136 : w[136]? = some (.inl (0, 6, .inl ba))) (h137 : w[137]? = some (.inl (0, 5, .inl he))) (h138 : w[138]? = some (.inl (0, 42, .inl nw))) (h142 : w[142]? = some (.inl (0, 36, .inl td))) (hT : d_T ne ki ba he T) (hg : gu = 0) (S : s_S) (hvT : v_T T) (hvS : v_S T.2.2.1 S) (hS : d_S nw (21 * 1) T.2.2.1 S) (b c : Nat) (hb : b < 10) (hc : c < 10) : am_Go 145 (0, [.ref 133, .int 5, .int (nI b), .int (nI c), .float 0, .float 0, .float 0], [], w, 0, 0) (fun res w' => ∃ td' nw', w' = (w.set 138 (.inl (0, 42, .inl nw'))).set 142 (.inl (0, 36, .inl td')) ∧ (∀ k, k < 21 → nw' k = nw k) ∧ ((m_can T S 5 b c ∧ res = some (.int 1) ∧ d_S nw' (21 * 1) T.2.2.1 (m_do T S 5 b c)) ∨ (¬ m_can T S 5 b c ∧ res = some (.int 0)))) := by
  have hM : am_P[145]? = some zm_X11_tryThing := rfl
  have hn6 : T.2.2.1 ≤ 6 := hvT.1
  subst hg
  refine ar_iload_n (pc' := 1) hM rfl rfl rfl ?_
  refine ar_tableOut (t := 233) hM rfl (by decide) (by decide) ?_
  refine ar_iconst (x := 0) (pc' := 234) hM rfl (by decide) rfl ?_
  refine ar_ireturn hM rfl (Or.inr (Or.inl rfl)) ?_
  exact ⟨_, _, (by rw [am_si h138, am_si h142]), (fun _ _ => rfl), Or.inr ⟨(fun q => q), rfl⟩⟩
set_option maxRecDepth 100000 in
set_option maxHeartbeats 4000000 in
theorem d_try6 {w : am_W} (T : p_D) {rh rk wh fa gu : Int32} {tl ac nx sc : Nat} {sd : Int64} {ne ki ba he nw td : Nat → Int32} (hm : w[133]? = some (d_O T rh rk tl wh fa gu ac nx sc sd)) (h134 : w[134]? = some (.inl (0, 6, .inl ne))) (h135 : w[135]? = some (.inl (0, 6, .inl ki))) (h136 : w[136]? = some (.inl (0, 6, .inl ba))) (h137 : w[137]? = some (.inl (0, 5, .inl he))) (h138 : w[138]? = some (.inl (0, 42, .inl nw))) (h142 : w[142]? = some (.inl (0, 36, .inl td))) (hT : d_T ne ki ba he T) (hg : gu = 0) (S : s_S) (hvT : v_T T) (hvS : v_S T.2.2.1 S) (hS : d_S nw (21 * 1) T.2.2.1 S) (b c : Nat) (hb : b < 10) (hc : c < 10) : am_Go 145 (0, [.ref 133, .int 6, .int (nI b), .int (nI c), .float 0, .float 0, .float 0], [], w, 0, 0) (fun res w' => ∃ td' nw', w' = (w.set 138 (.inl (0, 42, .inl nw'))).set 142 (.inl (0, 36, .inl td')) ∧ (∀ k, k < 21 → nw' k = nw k) ∧ ((m_can T S 6 b c ∧ res = some (.int 1) ∧ d_S nw' (21 * 1) T.2.2.1 (m_do T S 6 b c)) ∨ (¬ m_can T S 6 b c ∧ res = some (.int 0)))) := by
  have hM : am_P[145]? = some zm_X11_tryThing := rfl
  have hn6 : T.2.2.1 ≤ 6 := hvT.1
  subst hg
  refine ar_iload_n (pc' := 1) hM rfl rfl rfl ?_
  refine ar_tableOut (t := 233) hM rfl (by decide) (by decide) ?_
  refine ar_iconst (x := 0) (pc' := 234) hM rfl (by decide) rfl ?_
  refine ar_ireturn hM rfl (Or.inr (Or.inl rfl)) ?_
  exact ⟨_, _, (by rw [am_si h138, am_si h142]), (fun _ _ => rfl), Or.inr ⟨(fun q => q), rfl⟩⟩
set_option maxRecDepth 100000 in
set_option maxHeartbeats 4000000 in
theorem d_try7 {w : am_W} (T : p_D) {rh rk wh fa gu : Int32} {tl ac nx sc : Nat} {sd : Int64} {ne ki ba he nw td : Nat → Int32} (hm : w[133]? = some (d_O T rh rk tl wh fa gu ac nx sc sd)) (h134 : w[134]? = some (.inl (0, 6, .inl ne))) (h135 : w[135]? = some (.inl (0, 6, .inl ki))) (h136 : w[136]? = some (.inl (0, 6, .inl ba))) (h137 : w[137]? = some (.inl (0, 5, .inl he))) (h138 : w[138]? = some (.inl (0, 42, .inl nw))) (h142 : w[142]? = some (.inl (0, 36, .inl td))) (hT : d_T ne ki ba he T) (hg : gu = 0) (S : s_S) (hvT : v_T T) (hvS : v_S T.2.2.1 S) (hS : d_S nw (21 * 1) T.2.2.1 S) (b c : Nat) (hb : b < 10) (hc : c < 10) : am_Go 145 (0, [.ref 133, .int 7, .int (nI b), .int (nI c), .float 0, .float 0, .float 0], [], w, 0, 0) (fun res w' => ∃ td' nw', w' = (w.set 138 (.inl (0, 42, .inl nw'))).set 142 (.inl (0, 36, .inl td')) ∧ (∀ k, k < 21 → nw' k = nw k) ∧ ((m_can T S 7 b c ∧ res = some (.int 1) ∧ d_S nw' (21 * 1) T.2.2.1 (m_do T S 7 b c)) ∨ (¬ m_can T S 7 b c ∧ res = some (.int 0)))) := by
  have hM : am_P[145]? = some zm_X11_tryThing := rfl
  have hn6 : T.2.2.1 ≤ 6 := hvT.1
  subst hg
  refine ar_iload_n (pc' := 1) hM rfl rfl rfl ?_
  refine ar_tableOut (t := 233) hM rfl (by decide) (by decide) ?_
  refine ar_iconst (x := 0) (pc' := 234) hM rfl (by decide) rfl ?_
  refine ar_ireturn hM rfl (Or.inr (Or.inl rfl)) ?_
  exact ⟨_, _, (by rw [am_si h138, am_si h142]), (fun _ _ => rfl), Or.inr ⟨(fun q => q), rfl⟩⟩
set_option maxRecDepth 100000 in
set_option maxHeartbeats 4000000 in
theorem d_try8 {w : am_W} (T : p_D) {rh rk wh fa gu : Int32} {tl ac nx sc : Nat} {sd : Int64} {ne ki ba he nw td : Nat → Int32} (hm : w[133]? = some (d_O T rh rk tl wh fa gu ac nx sc sd)) (h134 : w[134]? = some (.inl (0, 6, .inl ne))) (h135 : w[135]? = some (.inl (0, 6, .inl ki))) (h136 : w[136]? = some (.inl (0, 6, .inl ba))) (h137 : w[137]? = some (.inl (0, 5, .inl he))) (h138 : w[138]? = some (.inl (0, 42, .inl nw))) (h142 : w[142]? = some (.inl (0, 36, .inl td))) (hT : d_T ne ki ba he T) (hg : gu = 0) (S : s_S) (hvT : v_T T) (hvS : v_S T.2.2.1 S) (hS : d_S nw (21 * 1) T.2.2.1 S) (b c : Nat) (hb : b < 10) (hc : c < 10) : am_Go 145 (0, [.ref 133, .int 8, .int (nI b), .int (nI c), .float 0, .float 0, .float 0], [], w, 0, 0) (fun res w' => ∃ td' nw', w' = (w.set 138 (.inl (0, 42, .inl nw'))).set 142 (.inl (0, 36, .inl td')) ∧ (∀ k, k < 21 → nw' k = nw k) ∧ ((m_can T S 8 b c ∧ res = some (.int 1) ∧ d_S nw' (21 * 1) T.2.2.1 (m_do T S 8 b c)) ∨ (¬ m_can T S 8 b c ∧ res = some (.int 0)))) := by
  have hM : am_P[145]? = some zm_X11_tryThing := rfl
  have hn6 : T.2.2.1 ≤ 6 := hvT.1
  subst hg
  refine ar_iload_n (pc' := 1) hM rfl rfl rfl ?_
  refine ar_tableOut (t := 233) hM rfl (by decide) (by decide) ?_
  refine ar_iconst (x := 0) (pc' := 234) hM rfl (by decide) rfl ?_
  refine ar_ireturn hM rfl (Or.inr (Or.inl rfl)) ?_
  exact ⟨_, _, (by rw [am_si h138, am_si h142]), (fun _ _ => rfl), Or.inr ⟨(fun q => q), rfl⟩⟩
set_option maxRecDepth 100000 in
set_option maxHeartbeats 4000000 in
theorem d_try9 {w : am_W} (T : p_D) {rh rk wh fa gu : Int32} {tl ac nx sc : Nat} {sd : Int64} {ne ki ba he nw td : Nat → Int32} (hm : w[133]? = some (d_O T rh rk tl wh fa gu ac nx sc sd)) (h134 : w[134]? = some (.inl (0, 6, .inl ne))) (h135 : w[135]? = some (.inl (0, 6, .inl ki))) (h136 : w[136]? = some (.inl (0, 6, .inl ba))) (h137 : w[137]? = some (.inl (0, 5, .inl he))) (h138 : w[138]? = some (.inl (0, 42, .inl nw))) (h142 : w[142]? = some (.inl (0, 36, .inl td))) (hT : d_T ne ki ba he T) (hg : gu = 0) (S : s_S) (hvT : v_T T) (hvS : v_S T.2.2.1 S) (hS : d_S nw (21 * 1) T.2.2.1 S) (b c : Nat) (hb : b < 10) (hc : c < 10) : am_Go 145 (0, [.ref 133, .int 9, .int (nI b), .int (nI c), .float 0, .float 0, .float 0], [], w, 0, 0) (fun res w' => ∃ td' nw', w' = (w.set 138 (.inl (0, 42, .inl nw'))).set 142 (.inl (0, 36, .inl td')) ∧ (∀ k, k < 21 → nw' k = nw k) ∧ ((m_can T S 9 b c ∧ res = some (.int 1) ∧ d_S nw' (21 * 1) T.2.2.1 (m_do T S 9 b c)) ∨ (¬ m_can T S 9 b c ∧ res = some (.int 0)))) := by
  have hM : am_P[145]? = some zm_X11_tryThing := rfl
  have hn6 : T.2.2.1 ≤ 6 := hvT.1
  subst hg
  refine ar_iload_n (pc' := 1) hM rfl rfl rfl ?_
  refine ar_tableOut (t := 233) hM rfl (by decide) (by decide) ?_
  refine ar_iconst (x := 0) (pc' := 234) hM rfl (by decide) rfl ?_
  refine ar_ireturn hM rfl (Or.inr (Or.inl rfl)) ?_
  exact ⟨_, _, (by rw [am_si h138, am_si h142]), (fun _ _ => rfl), Or.inr ⟨(fun q => q), rfl⟩⟩
theorem d_try {w : am_W} (T : p_D) {rh rk wh fa gu : Int32} {tl ac nx sc : Nat} {sd : Int64} {ne ki ba he nw td : Nat → Int32} (hm : w[133]? = some (d_O T rh rk tl wh fa gu ac nx sc sd)) (h134 : w[134]? = some (.inl (0, 6, .inl ne))) (h135 : w[135]? = some (.inl (0, 6, .inl ki))) (h136 : w[136]? = some (.inl (0, 6, .inl ba))) (h137 : w[137]? = some (.inl (0, 5, .inl he))) (h138 : w[138]? = some (.inl (0, 42, .inl nw))) (h142 : w[142]? = some (.inl (0, 36, .inl td))) (hT : d_T ne ki ba he T) (hg : gu = 0) (S : s_S) (hvT : v_T T) (hvS : v_S T.2.2.1 S) (hS : d_S nw (21 * 1) T.2.2.1 S) (a b c : Nat) (ha : a < 10) (hb : b < 10) (hc : c < 10) : am_Go 145 (0, [.ref 133, .int (nI a), .int (nI b), .int (nI c), .float 0, .float 0, .float 0], [], w, 0, 0) (fun res w' => ∃ td' nw', w' = (w.set 138 (.inl (0, 42, .inl nw'))).set 142 (.inl (0, 36, .inl td')) ∧ (∀ k, k < 21 → nw' k = nw k) ∧ ((m_can T S a b c ∧ res = some (.int 1) ∧ d_S nw' (21 * 1) T.2.2.1 (m_do T S a b c)) ∨ (¬ m_can T S a b c ∧ res = some (.int 0)))) := by
  match a, ha with
  | 0, _ => exact d_try0 T hm h134 h135 h136 h137 h138 h142 hT hg S hvT hvS hS b c hb hc
  | 1, _ => exact d_try1 T hm h134 h135 h136 h137 h138 h142 hT hg S hvT hvS hS b c hb hc
  | 2, _ => exact d_try2 T hm h134 h135 h136 h137 h138 h142 hT hg S hvT hvS hS b c hb hc
  | 3, _ => exact d_try3 T hm h134 h135 h136 h137 h138 h142 hT hg S hvT hvS hS b c hb hc
  | 4, _ => exact d_try4 T hm h134 h135 h136 h137 h138 h142 hT hg S hvT hvS hS b c hb hc
  | 5, _ => exact d_try5 T hm h134 h135 h136 h137 h138 h142 hT hg S hvT hvS hS b c hb hc
  | 6, _ => exact d_try6 T hm h134 h135 h136 h137 h138 h142 hT hg S hvT hvS hS b c hb hc
  | 7, _ => exact d_try7 T hm h134 h135 h136 h137 h138 h142 hT hg S hvT hvS hS b c hb hc
  | 8, _ => exact d_try8 T hm h134 h135 h136 h137 h138 h142 hT hg S hvT hvS hS b c hb hc
  | 9, _ => exact d_try9 T hm h134 h135 h136 h137 h138 h142 hT hg S hvT hvS hS b c hb hc
  | a + 10, h => omega
set_option maxRecDepth 100000 in
set_option maxHeartbeats 4000000 in
theorem e_judgeO (w : am_W) (t : Nat × (Nat → Int32)) (T : p_D) (S : s_S) (A : List s_S) (K : Nat → Option s_S) (N : x_N) (sd : Int64) (d : Nat) (hd : d ≤ 1000) (hv : v_W d T S A K) (hW : d_W w t T S A K N sd) (a : Int32) (r : Int64) (hno : ¬ (1 ≤ a ∧ a ≤ 4)) : am_Go 147 (0, [.ref 133, .int a, .long r, .float 0, .float 0, .float 0], [], w, 0, 0) (fun res w' => res = some (.int (-2)) ∧ d_W w' t T S A K N sd ∧ am_same (rg 133 17) w w') := by
  have hM : am_P[147]? = some zm_X11_judge := rfl
  have hn6 : T.2.2.1 ≤ 6 := hv.1.1.1
  have hvT := hv.1.1
  have hvS := hv.2.1.1
  have hdy := hv.2.1.2.1
  obtain ⟨rh, rk, wh, fa, nx, ne, ki, ba, he, nw, rH, rT, tx, td, rw_, oo, s1, s2, s3, ik, kp, hm, h134, h135, h136, h137, h138, h139, h140, h141, h142, h143, h144, h145, h146, h147, h148, h149, ⟨ht40, hN6⟩, hT, hS, htx, hA, hK, hN⟩ := hW
  have hnx := hA.1
  have hal := hA.2.1
  refine ar_iload_n (pc' := 1) hM rfl rfl rfl ?_
  refine ar_i2l (pc' := 2) hM rfl rfl ?_
  refine ar_lconst (x := 1) (pc' := 3) hM rfl (by decide) rfl ?_
  refine ar_ldc2_w (x := 4) (pc' := 6) hM rfl (by decide) rfl ?_
  refine ar_static (pc' := 9) (k3 := 0) (k4 := 0) hM rfl (by decide) rfl rfl (by have h0 := d_in w a 1 4 1 4 (by decide) (by decide); rw [if_neg hno] at h0; exact h0) (fun r6 w6 q6 => ?_)
  obtain ⟨rfl, q6w⟩ := q6
  rw [q6w]
  show am_Go 147 (9, [.ref 133, .int a, .long r, .float 0, .float 0, .float 0], [.int 0], w, 0, 0) _
  refine ar_if_eq (pc' := 12) hM rfl rfl (fun _ => ?_) (fun q => absurd (by decide) q)
  refine ar_bipush (x := (-2)) (pc' := 31) hM rfl (by decide) rfl ?_
  refine ar_ireturn hM rfl (Or.inl rfl) ?_
  exact ⟨rfl, ⟨_, _, _, _, _, _, _, _, _, _, _, _, _, _, _, _, _, _, _, _, _, hm, h134, h135, h136, h137, h138, h139, h140, h141, h142, h143, h144, h145, h146, h147, h148, h149, ⟨ht40, hN6⟩, hT, hS, htx, hA, hK, hN⟩, am_same.rf⟩
set_option maxRecDepth 100000 in
set_option maxHeartbeats 4000000 in
theorem e_judgeM (w : am_W) (t : Nat × (Nat → Int32)) (T : p_D) (S : s_S) (A : List s_S) (K : Nat → Option s_S) (N : x_N) (sd : Int64) (d : Nat) (hd : d ≤ 1000) (hv : v_W d T S A K) (hW : d_W w t T S A K N sd) (k : Nat) (h1k : 1 ≤ k) (hk : k ≤ 4) (r : Int64) (hr : r < 0) : am_Go 147 (0, [.ref 133, .int (nI k), .long r, .float 0, .float 0, .float 0], [], w, 0, 0) (fun res w' => res = some (.int (-2)) ∧ d_W w' t T S A K N sd ∧ am_same (rg 133 17) w w') := by
  have hM : am_P[147]? = some zm_X11_judge := rfl
  have hn6 : T.2.2.1 ≤ 6 := hv.1.1.1
  have hvT := hv.1.1
  have hvS := hv.2.1.1
  have hdy := hv.2.1.2.1
  obtain ⟨rh, rk, wh, fa, nx, ne, ki, ba, he, nw, rH, rT, tx, td, rw_, oo, s1, s2, s3, ik, kp, hm, h134, h135, h136, h137, h138, h139, h140, h141, h142, h143, h144, h145, h146, h147, h148, h149, ⟨ht40, hN6⟩, hT, hS, htx, hA, hK, hN⟩ := hW
  have hnx := hA.1
  have hal := hA.2.1
  have hpw : 1000 ^ k ≤ 1000000000000 := by have := Nat.pow_le_pow_right (show 0 < 1000 by decide) hk; omega
  have hpw0 : 0 < 1000 ^ k := Nat.pow_pos (by decide)
  refine ar_iload_n (pc' := 1) hM rfl rfl rfl ?_
  refine ar_i2l (pc' := 2) hM rfl rfl ?_
  refine ar_lconst (x := 1) (pc' := 3) hM rfl (by decide) rfl ?_
  refine ar_ldc2_w (x := 4) (pc' := 6) hM rfl (by decide) rfl ?_
  refine ar_static (pc' := 9) (k3 := 0) (k4 := 0) hM rfl (by decide) rfl rfl (by have h0 := d_in w (nI k) 1 4 1 4 (by decide) (by decide); rw [if_pos ⟨nI_le (a := 1) (by omega) (by omega), nI_le (b := 4) (by omega) (by omega)⟩] at h0; exact h0) (fun r6 w6 q6 => ?_)
  obtain ⟨rfl, q6w⟩ := q6
  rw [q6w]
  show am_Go 147 (9, [.ref 133, .int (nI k), .long r, .float 0, .float 0, .float 0], [.int 1], w, 0, 0) _
  refine ar_if_eq (pc' := 12) hM rfl rfl (fun q => absurd q (by decide)) (fun _ => ?_)
  refine ar_lload_n (pc' := 13) hM rfl rfl rfl ?_
  refine ar_lconst (x := 0) (pc' := 14) hM rfl (by decide) rfl ?_
  refine ar_ldc2_w (x := 1000) (pc' := 17) hM rfl (by decide) rfl ?_
  refine ar_iload_n (pc' := 18) hM rfl rfl rfl ?_
  refine ar_static (pc' := 21) (k3 := 0) (k4 := 0) hM rfl (by decide) rfl rfl (d_pow _ 1000 k (by omega)) (fun r18 w18 q18 => ?_)
  obtain ⟨rfl, q18w⟩ := q18
  rw [q18w]
  show am_Go 147 (21, [.ref 133, .int (nI k), .long r, .float 0, .float 0, .float 0], [.long (lN (1000 ^ k)), .long 0, .long r], w, 0, 0) _
  refine ar_lconst (x := 1) (pc' := 22) hM rfl (by decide) rfl ?_
  refine ar_lsub (pc' := 23) hM rfl rfl ?_
  rw [show ((lN (1000 ^ k)) - 1 : Int64) = lN (1000 ^ k - 1) from (lN_sub (b := 1) (by omega))]
  refine ar_static (pc' := 26) (k3 := 0) (k4 := 0) hM rfl (by decide) rfl rfl (by have h0 := d_inL w r 0 (lN (1000 ^ k - 1)); rw [if_neg (fun q => absurd hr (Int64.not_lt.mpr q.1))] at h0; exact h0) (fun r23 w23 q23 => ?_)
  obtain ⟨rfl, q23w⟩ := q23
  rw [q23w]
  show am_Go 147 (26, [.ref 133, .int (nI k), .long r, .float 0, .float 0, .float 0], [.int 0], w, 0, 0) _
  refine ar_if_ne (pc' := 29) hM rfl rfl (fun q => absurd (by decide) q) (fun _ => ?_)
  refine ar_bipush (x := (-2)) (pc' := 31) hM rfl (by decide) rfl ?_
  refine ar_ireturn hM rfl (Or.inl rfl) ?_
  exact ⟨rfl, ⟨_, _, _, _, _, _, _, _, _, _, _, _, _, _, _, _, _, _, _, _, _, hm, h134, h135, h136, h137, h138, h139, h140, h141, h142, h143, h144, h145, h146, h147, h148, h149, ⟨ht40, hN6⟩, hT, hS, htx, hA, hK, hN⟩, am_same.rf⟩
set_option maxRecDepth 100000 in
set_option maxHeartbeats 4000000 in
theorem e_judgeL (w : am_W) (t : Nat × (Nat → Int32)) (T : p_D) (S : s_S) (A : List s_S) (K : Nat → Option s_S) (N : x_N) (sd : Int64) (d : Nat) (hd : d ≤ 1000) (hv : v_W d T S A K) (hW : d_W w t T S A K N sd) (k : Nat) (h1k : 1 ≤ k) (hk : k ≤ 4) (R : Nat) (hR : R < 2 ^ 63) (hL : R / 1000 ^ k ≠ 0) : am_Go 147 (0, [.ref 133, .int (nI k), .long (lN R), .float 0, .float 0, .float 0], [], w, 0, 0) (fun res w' => res = some (.int (-2)) ∧ d_W w' t T S A K N sd ∧ am_same (rg 133 17) w w') := by
  have hM : am_P[147]? = some zm_X11_judge := rfl
  have hn6 : T.2.2.1 ≤ 6 := hv.1.1.1
  have hvT := hv.1.1
  have hvS := hv.2.1.1
  have hdy := hv.2.1.2.1
  obtain ⟨rh, rk, wh, fa, nx, ne, ki, ba, he, nw, rH, rT, tx, td, rw_, oo, s1, s2, s3, ik, kp, hm, h134, h135, h136, h137, h138, h139, h140, h141, h142, h143, h144, h145, h146, h147, h148, h149, ⟨ht40, hN6⟩, hT, hS, htx, hA, hK, hN⟩ := hW
  have hnx := hA.1
  have hal := hA.2.1
  have hpw : 1000 ^ k ≤ 1000000000000 := by have := Nat.pow_le_pow_right (show 0 < 1000 by decide) hk; omega
  have hpw0 : 0 < 1000 ^ k := Nat.pow_pos (by decide)
  have hle : 1000 ^ k ≤ R := by rcases Nat.lt_or_ge R (1000 ^ k) with q | q; exact absurd (Nat.div_eq_of_lt q) hL; exact q
  refine ar_iload_n (pc' := 1) hM rfl rfl rfl ?_
  refine ar_i2l (pc' := 2) hM rfl rfl ?_
  refine ar_lconst (x := 1) (pc' := 3) hM rfl (by decide) rfl ?_
  refine ar_ldc2_w (x := 4) (pc' := 6) hM rfl (by decide) rfl ?_
  refine ar_static (pc' := 9) (k3 := 0) (k4 := 0) hM rfl (by decide) rfl rfl (by have h0 := d_in w (nI k) 1 4 1 4 (by decide) (by decide); rw [if_pos ⟨nI_le (a := 1) (by omega) (by omega), nI_le (b := 4) (by omega) (by omega)⟩] at h0; exact h0) (fun r6 w6 q6 => ?_)
  obtain ⟨rfl, q6w⟩ := q6
  rw [q6w]
  show am_Go 147 (9, [.ref 133, .int (nI k), .long (lN R), .float 0, .float 0, .float 0], [.int 1], w, 0, 0) _
  refine ar_if_eq (pc' := 12) hM rfl rfl (fun q => absurd q (by decide)) (fun _ => ?_)
  refine ar_lload_n (pc' := 13) hM rfl rfl rfl ?_
  refine ar_lconst (x := 0) (pc' := 14) hM rfl (by decide) rfl ?_
  refine ar_ldc2_w (x := 1000) (pc' := 17) hM rfl (by decide) rfl ?_
  refine ar_iload_n (pc' := 18) hM rfl rfl rfl ?_
  refine ar_static (pc' := 21) (k3 := 0) (k4 := 0) hM rfl (by decide) rfl rfl (d_pow _ 1000 k (by omega)) (fun r18 w18 q18 => ?_)
  obtain ⟨rfl, q18w⟩ := q18
  rw [q18w]
  show am_Go 147 (21, [.ref 133, .int (nI k), .long (lN R), .float 0, .float 0, .float 0], [.long (lN (1000 ^ k)), .long 0, .long (lN R)], w, 0, 0) _
  refine ar_lconst (x := 1) (pc' := 22) hM rfl (by decide) rfl ?_
  refine ar_lsub (pc' := 23) hM rfl rfl ?_
  rw [show ((lN (1000 ^ k)) - 1 : Int64) = lN (1000 ^ k - 1) from (lN_sub (b := 1) (by omega))]
  refine ar_static (pc' := 26) (k3 := 0) (k4 := 0) hM rfl (by decide) rfl rfl (by have h0 := d_inL w (lN R) 0 (lN (1000 ^ k - 1)); rw [if_neg (fun q => by have := (pk_lLE (by omega) (by omega)).mp q.2; omega)] at h0; exact h0) (fun r23 w23 q23 => ?_)
  obtain ⟨rfl, q23w⟩ := q23
  rw [q23w]
  show am_Go 147 (26, [.ref 133, .int (nI k), .long (lN R), .float 0, .float 0, .float 0], [.int 0], w, 0, 0) _
  refine ar_if_ne (pc' := 29) hM rfl rfl (fun q => absurd (by decide) q) (fun _ => ?_)
  refine ar_bipush (x := (-2)) (pc' := 31) hM rfl (by decide) rfl ?_
  refine ar_ireturn hM rfl (Or.inl rfl) ?_
  exact ⟨rfl, ⟨_, _, _, _, _, _, _, _, _, _, _, _, _, _, _, _, _, _, _, _, _, hm, h134, h135, h136, h137, h138, h139, h140, h141, h142, h143, h144, h145, h146, h147, h148, h149, ⟨ht40, hN6⟩, hT, hS, htx, hA, hK, hN⟩, am_same.rf⟩
set_option maxRecDepth 100000 in
set_option maxHeartbeats 4000000 in
theorem e_judge (w : am_W) (t : Nat × (Nat → Int32)) (T : p_D) (S : s_S) (A : List s_S) (K : Nat → Option s_S) (N : x_N) (sd : Int64) (d : Nat) (hd : d ≤ 1000) (hv : v_W d T S A K) (hW : d_W w t T S A K N sd) (k : Nat) (h1k : 1 ≤ k) (hk : k ≤ 4) (R : Nat) (hR : R < 2 ^ 63) (hL : R / 1000 ^ k = 0) : am_Go 147 (0, [.ref 133, .int (nI k), .long (lN R), .float 0, .float 0, .float 0], [], w, 0, 0) (fun res w' => ∃ rr, res = some (.int rr) ∧ m_jr T S k R (some (.int rr)) ∧ d_W w' t T S A K N sd ∧ am_same (rg 133 17) w w') := by
  have hM : am_P[147]? = some zm_X11_judge := rfl
  have hn6 : T.2.2.1 ≤ 6 := hv.1.1.1
  have hvT := hv.1.1
  have hvS := hv.2.1.1
  have hdy := hv.2.1.2.1
  obtain ⟨rh, rk, wh, fa, nx, ne, ki, ba, he, nw, rH, rT, tx, td, rw_, oo, s1, s2, s3, ik, kp, hm, h134, h135, h136, h137, h138, h139, h140, h141, h142, h143, h144, h145, h146, h147, h148, h149, ⟨ht40, hN6⟩, hT, hS, htx, hA, hK, hN⟩ := hW
  have hnx := hA.1
  have hal := hA.2.1
  have hpw : 1000 ^ k ≤ 1000000000000 := by have := Nat.pow_le_pow_right (show 0 < 1000 by decide) hk; omega
  have hpw0 : 0 < 1000 ^ k := Nat.pow_pos (by decide)
  have hlt : R < 1000 ^ k := by rcases Nat.lt_or_ge R (1000 ^ k) with q | q; exact q; have := Nat.div_pos q hpw0; omega
  refine ar_iload_n (pc' := 1) hM rfl rfl rfl ?_
  refine ar_i2l (pc' := 2) hM rfl rfl ?_
  refine ar_lconst (x := 1) (pc' := 3) hM rfl (by decide) rfl ?_
  refine ar_ldc2_w (x := 4) (pc' := 6) hM rfl (by decide) rfl ?_
  refine ar_static (pc' := 9) (k3 := 0) (k4 := 0) hM rfl (by decide) rfl rfl (by have h0 := d_in w (nI k) 1 4 1 4 (by decide) (by decide); rw [if_pos ⟨nI_le (a := 1) (by omega) (by omega), nI_le (b := 4) (by omega) (by omega)⟩] at h0; exact h0) (fun r6 w6 q6 => ?_)
  obtain ⟨rfl, q6w⟩ := q6
  rw [q6w]
  show am_Go 147 (9, [.ref 133, .int (nI k), .long (lN R), .float 0, .float 0, .float 0], [.int 1], w, 0, 0) _
  refine ar_if_eq (pc' := 12) hM rfl rfl (fun q => absurd q (by decide)) (fun _ => ?_)
  refine ar_lload_n (pc' := 13) hM rfl rfl rfl ?_
  refine ar_lconst (x := 0) (pc' := 14) hM rfl (by decide) rfl ?_
  refine ar_ldc2_w (x := 1000) (pc' := 17) hM rfl (by decide) rfl ?_
  refine ar_iload_n (pc' := 18) hM rfl rfl rfl ?_
  refine ar_static (pc' := 21) (k3 := 0) (k4 := 0) hM rfl (by decide) rfl rfl (d_pow _ 1000 k (by omega)) (fun r18 w18 q18 => ?_)
  obtain ⟨rfl, q18w⟩ := q18
  rw [q18w]
  show am_Go 147 (21, [.ref 133, .int (nI k), .long (lN R), .float 0, .float 0, .float 0], [.long (lN (1000 ^ k)), .long 0, .long (lN R)], w, 0, 0) _
  refine ar_lconst (x := 1) (pc' := 22) hM rfl (by decide) rfl ?_
  refine ar_lsub (pc' := 23) hM rfl rfl ?_
  rw [show ((lN (1000 ^ k)) - 1 : Int64) = lN (1000 ^ k - 1) from (lN_sub (b := 1) (by omega))]
  refine ar_static (pc' := 26) (k3 := 0) (k4 := 0) hM rfl (by decide) rfl rfl (by have h0 := d_inL w (lN R) 0 (lN (1000 ^ k - 1)); rw [if_pos ⟨(pk_lLE (a := 0) (by omega) (by omega)).mpr (Nat.zero_le _), (pk_lLE (by omega) (by omega)).mpr (by omega)⟩] at h0; exact h0) (fun r23 w23 q23 => ?_)
  obtain ⟨rfl, q23w⟩ := q23
  rw [q23w]
  show am_Go 147 (26, [.ref 133, .int (nI k), .long (lN R), .float 0, .float 0, .float 0], [.int 1], w, 0, 0) _
  refine ar_if_ne (pc' := 29) hM rfl rfl (fun _ => ?_) (fun q => absurd q (by decide))
  refine ar_aload_n (pc' := 33) hM rfl rfl rfl ?_
  refine ar_virtual (pc' := 36) (k3 := 0) (k4 := 0) hM rfl rfl hm ⟨rfl, (by decide)⟩ rfl rfl (d_trial T hm h138) (fun r33 w33 q33 => ?_)
  obtain ⟨nw1, rfl, q33w, hl1, hh1⟩ := q33
  rw [q33w]
  show am_Go 147 (36, [.ref 133, .int (nI k), .long (lN R), .float 0, .float 0, .float 0], [], (w.set 138 (.inl (0, 42, .inl nw1))), 0, 0) _
  refine ar_iconst (x := 0) (pc' := 37) hM rfl (by decide) rfl ?_
  refine ar_istore (pc' := 39) hM rfl rfl rfl rfl ?_
  have loop : ∀ (dj j : Nat) (g : Nat → Int32) (f : Nat → Int32) (z5 : Value), dj + j = k → (∀ i, i < 21 → g i = nw i) → (d_S g (21 * 1) T.2.2.1 (m_jd T S k R j)) → (∀ i, i < j → m_ok T S k R i) → am_Go 147 (39, [.ref 133, .int (nI k), .long (lN R), .float 0, .int (nI j), z5], [], ((w.set 138 (.inl (0, 42, .inl g))).set 142 (.inl (0, 36, .inl f))), 0, 0) (fun res w' => ∃ rr, res = some (.int rr) ∧ m_jr T S k R (some (.int rr)) ∧ d_W w' t T S A K N sd ∧ am_same (rg 133 17) w w') := by
    intro dj
    induction dj with
    | zero =>
      intro j g f z5 hj q1 q2 hok
      refine ar_iload (pc' := 41) hM rfl rfl rfl ?_
      refine ar_iload_n (pc' := 42) hM rfl rfl rfl ?_
      refine ar_icmp_ge (pc' := 45) hM rfl rfl (fun _ => ?_) (fun q => absurd (nI_le (a := k) (b := j) (by omega) (by omega)) q)
      refine ar_bipush (x := (-9)) (pc' := 102) hM rfl (by decide) rfl ?_
      refine ar_ireturn hM rfl (Or.inl rfl) ?_
      exact ⟨_, rfl, Or.inr ⟨fun i hi => hok i (by omega), rfl⟩, ⟨_, _, _, _, _, _, _, _, _, _, _, _, _, _, _, _, _, _, _, _, _, (am_gn (by decide) (am_gn (by decide) hm)), (am_gn (by decide) (am_gn (by decide) h134)), (am_gn (by decide) (am_gn (by decide) h135)), (am_gn (by decide) (am_gn (by decide) h136)), (am_gn (by decide) (am_gn (by decide) h137)), (am_gn (by decide) (am_gs h138)), (am_gn (by decide) (am_gn (by decide) h139)), (am_gn (by decide) (am_gn (by decide) h140)), (am_gn (by decide) (am_gn (by decide) h141)), (am_gs (am_gn (by decide) h142)), (am_gn (by decide) (am_gn (by decide) h143)), (am_gn (by decide) (am_gn (by decide) h144)), (am_gn (by decide) (am_gn (by decide) h145)), (am_gn (by decide) (am_gn (by decide) h146)), (am_gn (by decide) (am_gn (by decide) h147)), (am_gn (by decide) (am_gn (by decide) h148)), (am_gn (by decide) (am_gn (by decide) h149)), ⟨ht40, hN6⟩, hT, (hS.cg hn6 (fun i hi => by rw [Nat.zero_add]; exact q1 i hi)), htx, hA, hK, hN⟩, (am_same.set (am_same.set am_same.rf (by unfold rg; omega)) (by unfold rg; omega))⟩
    | succ dj ih =>
      intro j g f z5 hj q1 q2 hok
      refine ar_iload (pc' := 41) hM rfl rfl rfl ?_
      refine ar_iload_n (pc' := 42) hM rfl rfl rfl ?_
      refine ar_icmp_ge (pc' := 45) hM rfl rfl (fun q => absurd q (nI_ge (a := j) (b := k) (by omega) (by omega))) (fun _ => ?_)
      have hpe : 1000 ^ (k - 1 - j) ≤ 1000000000000 := by have := Nat.pow_le_pow_right (show 0 < 1000 by decide) (show k - 1 - j ≤ 4 by omega); omega
      have hpe0 : 0 < 1000 ^ (k - 1 - j) := Nat.pow_pos (by decide)
      have hdg : m_dg k R j < 1000 := Nat.mod_lt _ (by decide)
      refine ar_lload_n (pc' := 46) hM rfl rfl rfl ?_
      refine ar_ldc2_w (x := 1000) (pc' := 49) hM rfl (by decide) rfl ?_
      refine ar_iload_n (pc' := 50) hM rfl rfl rfl ?_
      refine ar_iconst (x := 1) (pc' := 51) hM rfl (by decide) rfl ?_
      refine ar_isub (pc' := 52) hM rfl rfl ?_
      rw [show ((nI k) - 1 : Int32) = nI (k - 1) from (pk_sub (b := 1) (by omega))]
      refine ar_iload (pc' := 54) hM rfl rfl rfl ?_
      refine ar_isub (pc' := 55) hM rfl rfl ?_
      rw [show ((nI (k - 1)) - (nI j) : Int32) = nI (k - 1 - j) from (pk_sub (by omega))]
      refine ar_static (pc' := 58) (k3 := 0) (k4 := 0) hM rfl (by decide) rfl rfl (d_pow _ 1000 (k - 1 - j) (by omega)) (fun r55 w55 q55 => ?_)
      obtain ⟨rfl, q55w⟩ := q55
      rw [q55w]
      show am_Go 147 (58, [.ref 133, .int (nI k), .long (lN R), .float 0, .int (nI j), z5], [.long (lN (1000 ^ (k - 1 - j))), .long (lN R)], ((w.set 138 (.inl (0, 42, .inl g))).set 142 (.inl (0, 36, .inl f))), 0, 0) _
      refine ar_ldiv (pc' := 59) hM rfl (fun q => by have := (pk_lEQ (b := 0) (by omega) (by omega)).mp q; omega) rfl ?_
      rw [show ((lN R) / (lN (1000 ^ (k - 1 - j))) : Int64) = lN (R / 1000 ^ (k - 1 - j)) from (pk_lDiv hR hpe0 (by omega))]
      refine ar_ldc2_w (x := 1000) (pc' := 62) hM rfl (by decide) rfl ?_
      refine ar_lrem (pc' := 63) hM rfl (by decide) rfl ?_
      rw [show ((lN (R / 1000 ^ (k - 1 - j))) - (lN (R / 1000 ^ (k - 1 - j))) / 1000 * 1000 : Int64) = lN (m_dg k R j) from (pk_lRem (b := 1000) (Nat.lt_of_le_of_lt (Nat.div_le_self _ _) hR) (by decide) (by decide))]
      refine ar_l2i (pc' := 64) hM rfl rfl ?_
      rw [show (Int64.toInt32 (lN (m_dg k R j)) : Int32) = nI (m_dg k R j) from (lN_i _)]
      refine ar_istore (pc' := 66) hM rfl rfl rfl rfl ?_
      refine ar_aload_n (pc' := 67) hM rfl rfl rfl ?_
      refine ar_iload (pc' := 69) hM rfl rfl rfl ?_
      refine ar_bipush (x := 100) (pc' := 71) hM rfl (by decide) rfl ?_
      refine ar_idiv (pc' := 72) hM rfl (by decide) rfl ?_
      rw [show ((nI (m_dg k R j)) / 100 : Int32) = nI (m_dg k R j / 100) from (pk_div (d := 100) (by omega) (by decide) (by decide))]
      refine ar_iload (pc' := 74) hM rfl rfl rfl ?_
      refine ar_bipush (x := 10) (pc' := 76) hM rfl (by decide) rfl ?_
      refine ar_idiv (pc' := 77) hM rfl (by decide) rfl ?_
      rw [show ((nI (m_dg k R j)) / 10 : Int32) = nI (m_dg k R j / 10) from (pk_div (d := 10) (by omega) (by decide) (by decide))]
      refine ar_bipush (x := 10) (pc' := 79) hM rfl (by decide) rfl ?_
      refine ar_irem (pc' := 80) hM rfl (by decide) rfl ?_
      rw [show ((nI (m_dg k R j / 10)) - (nI (m_dg k R j / 10)) / 10 * 10 : Int32) = nI (m_dg k R j / 10 % 10) from (pk_rem (d := 10) (by omega) (by decide) (by decide))]
      refine ar_iload (pc' := 82) hM rfl rfl rfl ?_
      refine ar_bipush (x := 10) (pc' := 84) hM rfl (by decide) rfl ?_
      refine ar_irem (pc' := 85) hM rfl (by decide) rfl ?_
      rw [show ((nI (m_dg k R j)) - (nI (m_dg k R j)) / 10 * 10 : Int32) = nI (m_dg k R j % 10) from (pk_rem (d := 10) (by omega) (by decide) (by decide))]
      refine ar_virtual (pc' := 88) (k3 := 0) (k4 := 0) hM rfl rfl (am_gn (by decide) (am_gn (by decide) hm)) ⟨rfl, (by decide)⟩ rfl rfl (d_try T (am_gn (by decide) (am_gn (by decide) hm)) (am_gn (by decide) (am_gn (by decide) h134)) (am_gn (by decide) (am_gn (by decide) h135)) (am_gn (by decide) (am_gn (by decide) h136)) (am_gn (by decide) (am_gn (by decide) h137)) (am_gn (by decide) (am_gs h138)) (am_gs (am_gn (by decide) h142)) hT rfl (m_jd T S k R j) hvT (m_jd_v hn6 hvS j (by omega) hok).1 q2 (m_dg k R j / 100) (m_dg k R j / 10 % 10) (m_dg k R j % 10) (by omega) (by omega) (by omega)) (fun r85 w85 q85 => ?_)
      obtain ⟨td1, nw1, q85w, hl1, hcase⟩ := q85
      rw [q85w]
      rcases hcase with ⟨hcan, rfl, hS1⟩ | ⟨hcan, rfl⟩
      · show am_Go 147 (88, [.ref 133, .int (nI k), .long (lN R), .float 0, .int (nI j), .int (nI (m_dg k R j))], [.int 1], ((((w.set 138 (.inl (0, 42, .inl g))).set 142 (.inl (0, 36, .inl f))).set 138 (.inl (0, 42, .inl nw1))).set 142 (.inl (0, 36, .inl td1))), 0, 0) _
        refine ar_if_ne (pc' := 91) hM rfl rfl (fun _ => ?_) (fun q => absurd q (by decide))
        refine ar_iinc (z := nI (j + 1)) (pc' := 97) hM rfl rfl (nI_1 _) rfl rfl rfl ?_
        refine ar_goto hM rfl ?_
        rw [show (((w.set 138 (.inl (0, 42, .inl g))).set 142 (.inl (0, 36, .inl f))).set 138 (.inl (0, 42, .inl nw1))) = ((w.set 138 (.inl (0, 42, .inl nw1))).set 142 (.inl (0, 36, .inl f))) from by rw [List.set_comm _ _ (show 142 ≠ 138 by decide), List.set_set]]
        rw [show (((w.set 138 (.inl (0, 42, .inl nw1))).set 142 (.inl (0, 36, .inl f))).set 142 (.inl (0, 36, .inl td1))) = ((w.set 138 (.inl (0, 42, .inl nw1))).set 142 (.inl (0, 36, .inl td1))) from by rw [List.set_set]]
        exact ih (j + 1) nw1 td1 (.int (nI (m_dg k R j))) (by omega) (fun i hi => (hl1 i hi).trans (q1 i hi)) hS1 (fun i hi => by rcases Nat.lt_or_ge i j with q | q; exact hok i q; rw [show i = j by omega]; exact hcan)
      · show am_Go 147 (88, [.ref 133, .int (nI k), .long (lN R), .float 0, .int (nI j), .int (nI (m_dg k R j))], [.int 0], ((((w.set 138 (.inl (0, 42, .inl g))).set 142 (.inl (0, 36, .inl f))).set 138 (.inl (0, 42, .inl nw1))).set 142 (.inl (0, 36, .inl td1))), 0, 0) _
        refine ar_if_ne (pc' := 91) hM rfl rfl (fun q => absurd rfl q) (fun _ => ?_)
        refine ar_iload (pc' := 93) hM rfl rfl rfl ?_
        refine ar_ireturn hM rfl (Or.inl rfl) ?_
        exact ⟨_, rfl, Or.inl ⟨j, by omega, hcan, hok, rfl⟩, ⟨_, _, _, _, _, _, _, _, _, _, _, _, _, _, _, _, _, _, _, _, _, (am_gn (by decide) (am_gn (by decide) (am_gn (by decide) (am_gn (by decide) hm)))), (am_gn (by decide) (am_gn (by decide) (am_gn (by decide) (am_gn (by decide) h134)))), (am_gn (by decide) (am_gn (by decide) (am_gn (by decide) (am_gn (by decide) h135)))), (am_gn (by decide) (am_gn (by decide) (am_gn (by decide) (am_gn (by decide) h136)))), (am_gn (by decide) (am_gn (by decide) (am_gn (by decide) (am_gn (by decide) h137)))), (am_gn (by decide) (am_gs (am_gn (by decide) (am_gs h138)))), (am_gn (by decide) (am_gn (by decide) (am_gn (by decide) (am_gn (by decide) h139)))), (am_gn (by decide) (am_gn (by decide) (am_gn (by decide) (am_gn (by decide) h140)))), (am_gn (by decide) (am_gn (by decide) (am_gn (by decide) (am_gn (by decide) h141)))), (am_gs (am_gn (by decide) (am_gs (am_gn (by decide) h142)))), (am_gn (by decide) (am_gn (by decide) (am_gn (by decide) (am_gn (by decide) h143)))), (am_gn (by decide) (am_gn (by decide) (am_gn (by decide) (am_gn (by decide) h144)))), (am_gn (by decide) (am_gn (by decide) (am_gn (by decide) (am_gn (by decide) h145)))), (am_gn (by decide) (am_gn (by decide) (am_gn (by decide) (am_gn (by decide) h146)))), (am_gn (by decide) (am_gn (by decide) (am_gn (by decide) (am_gn (by decide) h147)))), (am_gn (by decide) (am_gn (by decide) (am_gn (by decide) (am_gn (by decide) h148)))), (am_gn (by decide) (am_gn (by decide) (am_gn (by decide) (am_gn (by decide) h149)))), ⟨ht40, hN6⟩, hT, (hS.cg hn6 (fun i hi => by rw [Nat.zero_add]; exact (hl1 i hi).trans (q1 i hi))), htx, hA, hK, hN⟩, (am_same.set (am_same.set (am_same.set (am_same.set am_same.rf (by unfold rg; omega)) (by unfold rg; omega)) (by unfold rg; omega)) (by unfold rg; omega))⟩
  have hl0 := loop (k) 0 nw1 td (.float 0) (by omega) hl1 (hS.cg hn6 (fun i hi => by rw [Nat.zero_add]; exact hh1 i hi)) (fun i hi => absurd hi (by omega))
  rw [am_si (am_gn (by decide) h142)] at hl0
  exact hl0
