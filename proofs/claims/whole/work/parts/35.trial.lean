/-! the reference: a day, acts, a trial -/
theorem d_S.cg {nw nw' : Nat → Int32} {b b' n : Nat} {S : s_S} (h : d_S nw b n S) (hn : n ≤ 6) (hk : ∀ k, k < 21 → nw' (b' + k) = nw (b + k)) : d_S nw' b' n S := by
  refine ⟨fun k hh => ⟨?_, ?_, ?_⟩, ?_, ?_, ?_⟩
  · rw [hk k (by omega)]; exact (h.1 k hh).1
  · rw [Nat.add_assoc, hk (6 + k) (by omega), ← Nat.add_assoc]; exact (h.1 k hh).2.1
  · rw [Nat.add_assoc, hk (12 + k) (by omega), ← Nat.add_assoc]; exact (h.1 k hh).2.2
  · rw [hk 18 (by omega)]; exact h.2.1
  · rw [hk 19 (by omega)]; exact h.2.2.1
  · rw [hk 20 (by omega)]; exact h.2.2.2
/-- acts in the reference's ring, the last one first -/
def d_A (rw' : Nat → Int32) (nx n : Nat) (A : List s_S) : Prop := nx < 14 ∧ A.length ≤ 14 ∧ ∀ i S, A[i]? = some S → d_S rw' (21 * ((nx + 13 - i) % 14)) n S
def d_K (ik kp : Nat → Int32) (n : Nat) (K : Nat → Option s_S) : Prop := ∀ i, i < 2 → (K i = none ∧ ik i = 0) ∨ ∃ S, K i = some S ∧ ik i = 1 ∧ d_S kp (21 * i) n S
theorem d_A_push {f g nw : Nat → Int32} {nx n : Nat} {A : List s_S} {S : s_S} (hn : n ≤ 6) (h : d_A f nx n A) (hS : d_S nw 0 n S) (h1 : ∀ k, k < 21 → g (21 * nx + k) = nw k) (h2 : ∀ k, (k < 21 * nx ∨ 21 * nx + 21 ≤ k) → g k = f k) : d_A g ((nx + 1) % 14) n ((S :: A).take 14) := by
  obtain ⟨hx, hl, hA⟩ := h
  refine ⟨Nat.mod_lt _ (by decide), by simp; omega, fun i S' hi => ?_⟩
  have hi14 : i < 14 := by
    have := (List.getElem?_eq_some_iff.mp hi).1
    simp at this
    omega
  rw [List.getElem?_take_of_lt hi14] at hi
  match i, hi with
  | 0, hi =>
    have : S = S' := by simpa using hi
    subst this
    rw [show ((nx + 1) % 14 + 13 - 0) % 14 = nx by omega]
    exact hS.cg hn (fun k hk => by rw [h1 k hk, Nat.zero_add])
  | i + 1, hi =>
    have hi : A[i]? = some S' := by simpa using hi
    rw [show ((nx + 1) % 14 + 13 - (i + 1)) % 14 = (nx + 13 - i) % 14 by omega]
    exact (hA i S' hi).cg hn (fun k hk => h2 _ (by omega))
theorem d_A_pop {f : Nat → Int32} {nx n : Nat} {A : List s_S} {S : s_S} (h : d_A f nx n (S :: A)) : d_A f ((nx + 13) % 14) n A ∧ d_S f (21 * ((nx + 13) % 14)) n S := by
  obtain ⟨hx, hl, hA⟩ := h
  refine ⟨⟨Nat.mod_lt _ (by decide), by simp at hl; omega, fun i S' hi => ?_⟩, ?_⟩
  · have h0 := hA (i + 1) S' (by simpa using hi)
    have : i < A.length := (List.getElem?_eq_some_iff.mp hi).1
    have : A.length + 1 ≤ 14 := hl
    rw [show ((nx + 13) % 14 + 13 - i) % 14 = (nx + 13 - (i + 1)) % 14 by omega]
    exact h0
  · exact hA 0 S rfl
set_option maxRecDepth 100000 in
set_option maxHeartbeats 4000000 in
theorem d_pass {w : am_W} (T : p_D) {rh rk wh fa gu : Int32} {tl ac nx sc : Nat} {sd : Int64} {ne ki ba he nw td : Nat → Int32} (hm : w[133]? = some (d_O T rh rk tl wh fa gu ac nx sc sd)) (h134 : w[134]? = some (.inl (0, 6, .inl ne))) (h135 : w[135]? = some (.inl (0, 6, .inl ki))) (h136 : w[136]? = some (.inl (0, 6, .inl ba))) (h137 : w[137]? = some (.inl (0, 5, .inl he))) (h138 : w[138]? = some (.inl (0, 42, .inl nw))) (h142 : w[142]? = some (.inl (0, 36, .inl td))) (hT : d_T ne ki ba he T) (lv : Nat) (hlv : lv ≤ 1) (S : s_S) (hvT : v_T T) (hvS : v_S T.2.2.1 S) (hS : d_S nw (21 * lv) T.2.2.1 S) : am_Go 122 (0, [.ref 133, .int (nI lv), .float 0, .float 0], [], w, 0, 0) (fun res w' => ∃ td' nw', res = some (.int (i_sum (m_lk T S gu) T.2.2.1)) ∧ w' = (w.set 142 (.inl (0, 36, .inl td'))).set 138 (.inl (0, 42, .inl nw')) ∧ d_Y td' T S gu ∧ (gu = 0 → d_S nw' (21 * lv) T.2.2.1 (m_pass T S)) ∧ ∀ k, (k < 21 * lv ∨ 21 * lv + 21 ≤ k) → nw' k = nw k) := by
  have hM : am_P[122]? = some zm_X11_passOn := rfl
  have hn6 : T.2.2.1 ≤ 6 := hvT.1
  refine ar_bipush (x := 21) (pc' := 2) hM rfl (by decide) rfl ?_
  refine ar_iload_n (pc' := 3) hM rfl rfl rfl ?_
  refine ar_imul (pc' := 4) hM rfl rfl ?_
  rw [show (21 * (nI lv) : Int32) = nI (21 * lv) from pk_mul 21 lv]
  refine ar_istore_n (pc' := 5) hM rfl rfl rfl rfl ?_
  refine ar_aload_n (pc' := 6) hM rfl rfl rfl ?_
  refine ar_iload_n (pc' := 7) hM rfl rfl rfl ?_
  refine ar_virtual (pc' := 10) (k3 := 0) (k4 := 0) hM rfl rfl hm ⟨rfl, (by decide)⟩ rfl rfl (d_lay T hm h134 h135 h136 h137 h138 h142 hT lv hlv S hvT hvS hS) (fun r7 w7 q7 => ?_)
  obtain ⟨td1, rfl, q7w, hY1⟩ := q7
  rw [q7w]
  show am_Go 122 (10, [.ref 133, .int (nI lv), .int (nI (21 * lv)), .float 0], [], (w.set 142 (.inl (0, 36, .inl td1))), 0, 0) _
  refine ar_iconst (x := 0) (pc' := 11) hM rfl (by decide) rfl ?_
  refine ar_istore_n (pc' := 12) hM rfl rfl rfl rfl ?_
  have loop : ∀ (dj j : Nat) (g : Nat → Int32), dj + j = T.2.2.1 → (∀ h, h < j → g (21 * lv + 12 + h) = S.2.2.2.1 h + m_lk T S gu h) → (∀ h, h < j → g (21 * lv + 6 + h) = m_lf T S gu h) → (∀ k, (¬ (21 * lv + 6 ≤ k ∧ k < 21 * lv + 6 + j) ∧ ¬ (21 * lv + 12 ≤ k ∧ k < 21 * lv + 12 + j)) → g k = nw k) → am_Go 122 (12, [.ref 133, .int (nI lv), .int (nI (21 * lv)), .int (nI j)], [], ((w.set 142 (.inl (0, 36, .inl td1))).set 138 (.inl (0, 42, .inl g))), 0, 0) (fun res w' => ∃ td' nw', res = some (.int (i_sum (m_lk T S gu) T.2.2.1)) ∧ w' = (w.set 142 (.inl (0, 36, .inl td'))).set 138 (.inl (0, 42, .inl nw')) ∧ d_Y td' T S gu ∧ (gu = 0 → d_S nw' (21 * lv) T.2.2.1 (m_pass T S)) ∧ ∀ k, (k < 21 * lv ∨ 21 * lv + 21 ≤ k) → nw' k = nw k) := by
    intro dj
    induction dj with
    | zero =>
      intro j g hj p1 p2 p3
      refine ar_iload_n (pc' := 13) hM rfl rfl rfl ?_
      refine ar_aload_n (pc' := 14) hM rfl rfl rfl ?_
      refine ar_getfield (pc' := 17) hM rfl (am_gn (by decide) (am_gn (by decide) hm)) rfl rfl ?_
      refine ar_icmp_ge (pc' := 20) hM rfl rfl (fun _ => ?_) (fun q => absurd (nI_le (a := T.2.2.1) (b := j) (by omega) (by omega)) q)
      refine ar_aload_n (pc' := 93) hM rfl rfl rfl ?_
      refine ar_getfield (pc' := 96) hM rfl (am_gn (by decide) (am_gn (by decide) hm)) rfl rfl ?_
      refine ar_iload_n (pc' := 97) hM rfl rfl rfl ?_
      refine ar_bipush (x := 18) (pc' := 99) hM rfl (by decide) rfl ?_
      refine ar_iadd (pc' := 100) hM rfl rfl ?_
      rw [show ((nI (21 * lv)) + 18 : Int32) = nI (21 * lv + 18) from nI_add (21 * lv) 18]
      refine ar_iconst (x := 0) (pc' := 101) hM rfl (by decide) rfl ?_
      refine ar_iastoreN (j := (21 * lv + 18)) (pc' := 102) hM rfl (am_gs (am_gn (by decide) h138)) rfl (by omega) (Nat.le_of_ble_eq_true rfl) (by decide) rfl ?_
      refine ar_aload_n (pc' := 103) hM rfl rfl rfl ?_
      refine ar_getfield (pc' := 106) hM rfl (am_gn (by decide) (am_gn (by decide) (am_gn (by decide) hm))) rfl rfl ?_
      refine ar_iload_n (pc' := 107) hM rfl rfl rfl ?_
      refine ar_bipush (x := 20) (pc' := 109) hM rfl (by decide) rfl ?_
      refine ar_iadd (pc' := 110) hM rfl rfl ?_
      rw [show ((nI (21 * lv)) + 20 : Int32) = nI (21 * lv + 20) from nI_add (21 * lv) 20]
      refine ar_dup2 (pc' := 111) hM rfl rfl rfl rfl ?_
      refine ar_ialoadN (j := (21 * lv + 20)) (pc' := 112) hM rfl (am_gs (am_gs (am_gn (by decide) h138))) rfl (by omega) (Nat.le_of_ble_eq_true rfl) rfl ?_
      rw [show ((upd g (21 * lv + 18) 0) (21 * lv + 20) : Int32) = nI S.2.2.2.2.2.2 from (by rw [pk_un (by omega), p3 _ (by omega)]; exact hS.2.2.2)]
      refine ar_iconst (x := 1) (pc' := 113) hM rfl (by decide) rfl ?_
      refine ar_iadd (pc' := 114) hM rfl rfl ?_
      rw [show ((nI S.2.2.2.2.2.2) + 1 : Int32) = nI (S.2.2.2.2.2.2 + 1) from nI_add S.2.2.2.2.2.2 1]
      refine ar_iastoreN (j := (21 * lv + 20)) (pc' := 115) hM rfl (am_gs (am_gs (am_gn (by decide) h138))) rfl (by omega) (Nat.le_of_ble_eq_true rfl) (by decide) rfl ?_
      refine ar_aload_n (pc' := 116) hM rfl rfl rfl ?_
      refine ar_iconst (x := 4) (pc' := 117) hM rfl (by decide) rfl ?_
      refine ar_virtual (pc' := 120) (k3 := 0) (k4 := 0) hM rfl rfl (am_gn (by decide) (am_gn (by decide) (am_gn (by decide) (am_gn (by decide) hm)))) ⟨rfl, (by decide)⟩ rfl rfl (by have h0 := d_sumOf (w := ((((w.set 142 (.inl (0, 36, .inl td1))).set 138 (.inl (0, 42, .inl g))).set 138 (.inl (0, 42, .inl (upd g (21 * lv + 18) 0)))).set 138 (.inl (0, 42, .inl (upd (upd g (21 * lv + 18) 0) (21 * lv + 20) (nI (S.2.2.2.2.2.2 + 1))))))) T (am_gn (by decide) (am_gn (by decide) (am_gn (by decide) (am_gn (by decide) hm)))) (am_gn (by decide) (am_gn (by decide) (am_gn (by decide) (am_gs h142)))) 4 (by omega) hn6; rw [i_sum_congr (fun h hh => (hY1 h hh).2.2.2.2.1)] at h0; exact h0) (fun r117 w117 q117 => ?_)
      obtain ⟨rfl, q117w⟩ := q117
      rw [q117w]
      show am_Go 122 (120, [.ref 133, .int (nI lv), .int (nI (21 * lv)), .int (nI j)], [.int (i_sum (m_lk T S gu) T.2.2.1)], ((((w.set 142 (.inl (0, 36, .inl td1))).set 138 (.inl (0, 42, .inl g))).set 138 (.inl (0, 42, .inl (upd g (21 * lv + 18) 0)))).set 138 (.inl (0, 42, .inl (upd (upd g (21 * lv + 18) 0) (21 * lv + 20) (nI (S.2.2.2.2.2.2 + 1)))))), 0, 0) _
      refine ar_ireturn hM rfl (Or.inl rfl) ?_
      rw [show (((w.set 142 (.inl (0, 36, .inl td1))).set 138 (.inl (0, 42, .inl g))).set 138 (.inl (0, 42, .inl (upd g (21 * lv + 18) 0)))) = ((w.set 142 (.inl (0, 36, .inl td1))).set 138 (.inl (0, 42, .inl (upd g (21 * lv + 18) 0)))) from by rw [List.set_set]]
      rw [show (((w.set 142 (.inl (0, 36, .inl td1))).set 138 (.inl (0, 42, .inl (upd g (21 * lv + 18) 0)))).set 138 (.inl (0, 42, .inl (upd (upd g (21 * lv + 18) 0) (21 * lv + 20) (nI (S.2.2.2.2.2.2 + 1)))))) = ((w.set 142 (.inl (0, 36, .inl td1))).set 138 (.inl (0, 42, .inl (upd (upd g (21 * lv + 18) 0) (21 * lv + 20) (nI (S.2.2.2.2.2.2 + 1)))))) from by rw [List.set_set]]
      exact ⟨_, _, rfl, rfl, hY1, fun hg => ⟨fun h hh => ⟨by rw [pk_un (by omega), pk_un (by omega), p3 _ (by omega)]; exact (hS.1 h hh).1, by rw [pk_un (by omega), pk_un (by omega), p2 h (by omega), hg]; rfl, by rw [pk_un (by omega), pk_un (by omega), p1 h (by omega), hg]; rfl⟩, by rw [pk_un (by omega), pk_us]; rfl, by rw [pk_un (by omega), pk_un (by omega), p3 _ (by omega)]; exact hS.2.2.1, by rw [pk_us]; rfl⟩, fun k hk => by rw [pk_un (by omega), pk_un (by omega), p3 k (by omega)]⟩
    | succ dj ih =>
      intro j g hj p1 p2 p3
      refine ar_iload_n (pc' := 13) hM rfl rfl rfl ?_
      refine ar_aload_n (pc' := 14) hM rfl rfl rfl ?_
      refine ar_getfield (pc' := 17) hM rfl (am_gn (by decide) (am_gn (by decide) hm)) rfl rfl ?_
      refine ar_icmp_ge (pc' := 20) hM rfl rfl (fun q => absurd q (nI_ge (a := j) (b := T.2.2.1) (by omega) (by omega))) (fun _ => ?_)
      refine ar_aload_n (pc' := 21) hM rfl rfl rfl ?_
      refine ar_getfield (pc' := 24) hM rfl (am_gn (by decide) (am_gn (by decide) hm)) rfl rfl ?_
      refine ar_iload_n (pc' := 25) hM rfl rfl rfl ?_
      refine ar_bipush (x := 12) (pc' := 27) hM rfl (by decide) rfl ?_
      refine ar_iadd (pc' := 28) hM rfl rfl ?_
      rw [show ((nI (21 * lv)) + 12 : Int32) = nI (21 * lv + 12) from nI_add (21 * lv) 12]
      refine ar_iload_n (pc' := 29) hM rfl rfl rfl ?_
      refine ar_iadd (pc' := 30) hM rfl rfl ?_
      rw [show ((nI (21 * lv + 12)) + (nI j) : Int32) = nI (21 * lv + 12 + j) from nI_add (21 * lv + 12) j]
      refine ar_dup2 (pc' := 31) hM rfl rfl rfl rfl ?_
      refine ar_ialoadN (j := (21 * lv + 12 + j)) (pc' := 32) hM rfl (am_gs (am_gn (by decide) h138)) rfl (by omega) (Nat.le_of_ble_eq_true rfl) rfl ?_
      rw [show (g (21 * lv + 12 + j) : Int32) = S.2.2.2.1 j from (by rw [p3 _ (by omega)]; exact (hS.1 j (by omega)).2.2)]
      refine ar_aload_n (pc' := 33) hM rfl rfl rfl ?_
      refine ar_getfield (pc' := 36) hM rfl (am_gn (by decide) (am_gn (by decide) hm)) rfl rfl ?_
      refine ar_bipush (x := 24) (pc' := 38) hM rfl (by decide) rfl ?_
      refine ar_iload_n (pc' := 39) hM rfl rfl rfl ?_
      refine ar_iadd (pc' := 40) hM rfl rfl ?_
      rw [show (24 + (nI j) : Int32) = nI (24 + j) from nI_add 24 j]
      refine ar_ialoadN (j := (24 + j)) (pc' := 41) hM rfl (am_gn (by decide) (am_gs h142)) rfl (by omega) (Nat.le_of_ble_eq_true rfl) rfl ?_
      rw [show (td1 (24 + j) : Int32) = m_lk T S gu j from (hY1 j (by omega)).2.2.2.2.1]
      refine ar_iadd (pc' := 42) hM rfl rfl ?_
      refine ar_iastoreN (j := (21 * lv + 12 + j)) (pc' := 43) hM rfl (am_gs (am_gn (by decide) h138)) rfl (by omega) (Nat.le_of_ble_eq_true rfl) (by decide) rfl ?_
      refine ar_aload_n (pc' := 44) hM rfl rfl rfl ?_
      refine ar_getfield (pc' := 47) hM rfl (am_gn (by decide) (am_gn (by decide) (am_gn (by decide) hm))) rfl rfl ?_
      refine ar_iload_n (pc' := 48) hM rfl rfl rfl ?_
      refine ar_bipush (x := 6) (pc' := 50) hM rfl (by decide) rfl ?_
      refine ar_iadd (pc' := 51) hM rfl rfl ?_
      rw [show ((nI (21 * lv)) + 6 : Int32) = nI (21 * lv + 6) from nI_add (21 * lv) 6]
      refine ar_iload_n (pc' := 52) hM rfl rfl rfl ?_
      refine ar_iadd (pc' := 53) hM rfl rfl ?_
      rw [show ((nI (21 * lv + 6)) + (nI j) : Int32) = nI (21 * lv + 6 + j) from nI_add (21 * lv + 6) j]
      refine ar_dup2 (pc' := 54) hM rfl rfl rfl rfl ?_
      refine ar_ialoadN (j := (21 * lv + 6 + j)) (pc' := 55) hM rfl (am_gs (am_gs (am_gn (by decide) h138))) rfl (by omega) (Nat.le_of_ble_eq_true rfl) rfl ?_
      rw [show ((upd g (21 * lv + 12 + j) ((S.2.2.2.1 j) + (m_lk T S gu j))) (21 * lv + 6 + j) : Int32) = S.2.2.1 j from (by rw [pk_un (by omega), p3 _ (by omega)]; exact (hS.1 j (by omega)).2.1)]
      refine ar_aload_n (pc' := 56) hM rfl rfl rfl ?_
      refine ar_getfield (pc' := 59) hM rfl (am_gn (by decide) (am_gn (by decide) (am_gn (by decide) hm))) rfl rfl ?_
      refine ar_bipush (x := 12) (pc' := 61) hM rfl (by decide) rfl ?_
      refine ar_iload_n (pc' := 62) hM rfl rfl rfl ?_
      refine ar_iadd (pc' := 63) hM rfl rfl ?_
      rw [show (12 + (nI j) : Int32) = nI (12 + j) from nI_add 12 j]
      refine ar_ialoadN (j := (12 + j)) (pc' := 64) hM rfl (am_gn (by decide) (am_gn (by decide) (am_gs h142))) rfl (by omega) (Nat.le_of_ble_eq_true rfl) rfl ?_
      rw [show (td1 (12 + j) : Int32) = m_gv T S gu j from (hY1 j (by omega)).2.2.1]
      refine ar_aload_n (pc' := 65) hM rfl rfl rfl ?_
      refine ar_getfield (pc' := 68) hM rfl (am_gn (by decide) (am_gn (by decide) (am_gn (by decide) hm))) rfl rfl ?_
      refine ar_bipush (x := 18) (pc' := 70) hM rfl (by decide) rfl ?_
      refine ar_iload_n (pc' := 71) hM rfl rfl rfl ?_
      refine ar_iadd (pc' := 72) hM rfl rfl ?_
      rw [show (18 + (nI j) : Int32) = nI (18 + j) from nI_add 18 j]
      refine ar_ialoadN (j := (18 + j)) (pc' := 73) hM rfl (am_gn (by decide) (am_gn (by decide) (am_gs h142))) rfl (by omega) (Nat.le_of_ble_eq_true rfl) rfl ?_
      rw [show (td1 (18 + j) : Int32) = m_dr T S gu j from (hY1 j (by omega)).2.2.2.1]
      refine ar_isub (pc' := 74) hM rfl rfl ?_
      refine ar_aload_n (pc' := 75) hM rfl rfl rfl ?_
      refine ar_getfield (pc' := 78) hM rfl (am_gn (by decide) (am_gn (by decide) (am_gn (by decide) hm))) rfl rfl ?_
      refine ar_bipush (x := 30) (pc' := 80) hM rfl (by decide) rfl ?_
      refine ar_iload_n (pc' := 81) hM rfl rfl rfl ?_
      refine ar_iadd (pc' := 82) hM rfl rfl ?_
      rw [show (30 + (nI j) : Int32) = nI (30 + j) from nI_add 30 j]
      refine ar_ialoadN (j := (30 + j)) (pc' := 83) hM rfl (am_gn (by decide) (am_gn (by decide) (am_gs h142))) rfl (by omega) (Nat.le_of_ble_eq_true rfl) rfl ?_
      rw [show (td1 (30 + j) : Int32) = m_sp T S gu j from (hY1 j (by omega)).2.2.2.2.2]
      refine ar_isub (pc' := 84) hM rfl rfl ?_
      refine ar_iadd (pc' := 85) hM rfl rfl ?_
      rw [show ((S.2.2.1 j) + (((m_gv T S gu j) - (m_dr T S gu j)) - (m_sp T S gu j)) : Int32) = m_lf T S gu j from i_lf_eq _ _ _ _]
      refine ar_iastoreN (j := (21 * lv + 6 + j)) (pc' := 86) hM rfl (am_gs (am_gs (am_gn (by decide) h138))) rfl (by omega) (Nat.le_of_ble_eq_true rfl) (by decide) rfl ?_
      refine ar_iinc (z := nI (j + 1)) (pc' := 89) hM rfl rfl (nI_1 _) rfl rfl rfl ?_
      refine ar_goto hM rfl ?_
      rw [show (((w.set 142 (.inl (0, 36, .inl td1))).set 138 (.inl (0, 42, .inl g))).set 138 (.inl (0, 42, .inl (upd g (21 * lv + 12 + j) ((S.2.2.2.1 j) + (m_lk T S gu j)))))) = ((w.set 142 (.inl (0, 36, .inl td1))).set 138 (.inl (0, 42, .inl (upd g (21 * lv + 12 + j) ((S.2.2.2.1 j) + (m_lk T S gu j)))))) from by rw [List.set_set]]
      rw [show (((w.set 142 (.inl (0, 36, .inl td1))).set 138 (.inl (0, 42, .inl (upd g (21 * lv + 12 + j) ((S.2.2.2.1 j) + (m_lk T S gu j)))))).set 138 (.inl (0, 42, .inl (upd (upd g (21 * lv + 12 + j) ((S.2.2.2.1 j) + (m_lk T S gu j))) (21 * lv + 6 + j) (m_lf T S gu j))))) = ((w.set 142 (.inl (0, 36, .inl td1))).set 138 (.inl (0, 42, .inl (upd (upd g (21 * lv + 12 + j) ((S.2.2.2.1 j) + (m_lk T S gu j))) (21 * lv + 6 + j) (m_lf T S gu j))))) from by rw [List.set_set]]
      exact ih (j + 1) (upd (upd g (21 * lv + 12 + j) (S.2.2.2.1 j + m_lk T S gu j)) (21 * lv + 6 + j) (m_lf T S gu j)) (by omega) (fun h hh => by
          rcases Nat.lt_or_ge h j with q | q
          · rw [pk_un (by omega), pk_un (by omega)]; exact p1 h q
          · rw [show h = j by omega, pk_un (by omega), pk_us]) (fun h hh => by
          rcases Nat.lt_or_ge h j with q | q
          · rw [pk_un (by omega), pk_un (by omega)]; exact p2 h q
          · rw [show h = j by omega, pk_us]) (fun k hk => by rw [pk_un (by omega), pk_un (by omega)]; exact p3 k (by omega))
  have hl0 := loop (T.2.2.1) 0 nw (by omega) (fun h hh => absurd hh (by omega)) (fun h hh => absurd hh (by omega)) (fun k hk => rfl)
  rw [am_si (am_gn (by decide) h138)] at hl0
  exact hl0
set_option maxRecDepth 100000 in
set_option maxHeartbeats 4000000 in
theorem d_keepA {w : am_W} (T : p_D) {rh rk wh fa gu : Int32} {tl ac nx sc : Nat} {sd : Int64} {nw rw_ : Nat → Int32} (hm : w[133]? = some (d_O T rh rk tl wh fa gu ac nx sc sd)) (h138 : w[138]? = some (.inl (0, 42, .inl nw))) (h143 : w[143]? = some (.inl (0, 294, .inl rw_))) {A : List s_S} (hac : ac = A.length) (hn6 : T.2.2.1 ≤ 6) (S : s_S) (hS : d_S nw 0 T.2.2.1 S) (hA : d_A rw_ nx T.2.2.1 A) : am_Go 127 (0, [.ref 133, .float 0], [], w, 0, 0) (fun res w' => ∃ rw', res = none ∧ w' = (w.set 143 (.inl (0, 294, .inl rw'))).set 133 (d_O T rh rk tl wh fa gu ((S :: A).take 14).length ((nx + 1) % 14) sc sd) ∧ d_A rw' ((nx + 1) % 14) T.2.2.1 ((S :: A).take 14)) := by
  have hM : am_P[127]? = some zm_X11_keepAct := rfl
  subst hac
  have hnx := hA.1
  have hal := hA.2.1
  refine ar_iconst (x := 0) (pc' := 1) hM rfl (by decide) rfl ?_
  refine ar_istore_n (pc' := 2) hM rfl rfl rfl rfl ?_
  have loop : ∀ (dj j : Nat) (g : Nat → Int32), dj + j = 21 → (∀ k, k < j → g (21 * nx + k) = nw k) → (∀ k, (k < 21 * nx ∨ 21 * nx + 21 ≤ k) → g k = rw_ k) → am_Go 127 (2, [.ref 133, .int (nI j)], [], (w.set 143 (.inl (0, 294, .inl g))), 0, 0) (fun res w' => ∃ rw', res = none ∧ w' = (w.set 143 (.inl (0, 294, .inl rw'))).set 133 (d_O T rh rk tl wh fa gu ((S :: A).take 14).length ((nx + 1) % 14) sc sd) ∧ d_A rw' ((nx + 1) % 14) T.2.2.1 ((S :: A).take 14)) := by
    intro dj
    induction dj with
    | zero =>
      intro j g hj p1 p2
      refine ar_iload_n (pc' := 3) hM rfl rfl rfl ?_
      refine ar_bipush (x := 21) (pc' := 5) hM rfl (by decide) rfl ?_
      refine ar_icmp_ge (pc' := 8) hM rfl rfl (fun _ => ?_) (fun q => absurd (nI_le (a := 21) (b := j) (by omega) (by omega)) q)
      refine ar_aload_n (pc' := 35) hM rfl rfl rfl ?_
      refine ar_aload_n (pc' := 36) hM rfl rfl rfl ?_
      refine ar_getfield (pc' := 39) hM rfl (am_gn (by decide) hm) rfl rfl ?_
      refine ar_iconst (x := 1) (pc' := 40) hM rfl (by decide) rfl ?_
      refine ar_iadd (pc' := 41) hM rfl rfl ?_
      rw [show ((nI nx) + 1 : Int32) = nI (nx + 1) from nI_add nx 1]
      refine ar_bipush (x := 14) (pc' := 43) hM rfl (by decide) rfl ?_
      refine ar_irem (pc' := 44) hM rfl (by decide) rfl ?_
      rw [show ((nI (nx + 1)) - (nI (nx + 1)) / 14 * 14 : Int32) = nI ((nx + 1) % 14) from (pk_rem (d := 14) (by omega) (by decide) (by decide))]
      refine ar_putfield (pc' := 47) hM rfl (am_gn (by decide) hm) (Nat.le_of_ble_eq_true rfl) rfl (by decide) rfl ?_
      show am_Go 127 (47, [.ref 133, .int (nI j)], [], ((w.set 143 (.inl (0, 294, .inl g))).set 133 (.inr (11, [.int (nI T.2.2.1), .int (nI T.2.2.2.1), .int T.1, .int T.2.1, .ref 134, .ref 135, .ref 136, .ref 137, .ref 138, .ref 139, .ref 140, .int rh, .int rk, .ref 141, .int (nI tl), .int wh, .int fa, .ref 142, .int gu, .int (nI A.length), .int (nI ((nx + 1) % 14)), .ref 143, .ref 144, .int (nI sc), .ref 145, .ref 146, .ref 147, .long sd, .ref 148, .ref 149]))), 0, 0) _
      refine ar_aload_n (pc' := 48) hM rfl rfl rfl ?_
      refine ar_aload_n (pc' := 49) hM rfl rfl rfl ?_
      refine ar_getfield (pc' := 52) hM rfl (am_gs (am_gn (by decide) hm)) rfl rfl ?_
      refine ar_bipush (x := 14) (pc' := 54) hM rfl (by decide) rfl ?_
      refine ar_icmp_ge (pc' := 57) hM rfl rfl (fun c54 => ?_) (fun c54 => ?_)
      · refine ar_bipush (x := 14) (pc' := 68) hM rfl (by decide) rfl ?_
        refine ar_putfield (pc' := 71) hM rfl (am_gs (am_gn (by decide) hm)) (Nat.le_of_ble_eq_true rfl) rfl (by decide) rfl ?_
        show am_Go 127 (71, [.ref 133, .int (nI j)], [], (((w.set 143 (.inl (0, 294, .inl g))).set 133 (.inr (11, [.int (nI T.2.2.1), .int (nI T.2.2.2.1), .int T.1, .int T.2.1, .ref 134, .ref 135, .ref 136, .ref 137, .ref 138, .ref 139, .ref 140, .int rh, .int rk, .ref 141, .int (nI tl), .int wh, .int fa, .ref 142, .int gu, .int (nI A.length), .int (nI ((nx + 1) % 14)), .ref 143, .ref 144, .int (nI sc), .ref 145, .ref 146, .ref 147, .long sd, .ref 148, .ref 149]))).set 133 (.inr (11, [.int (nI T.2.2.1), .int (nI T.2.2.2.1), .int T.1, .int T.2.1, .ref 134, .ref 135, .ref 136, .ref 137, .ref 138, .ref 139, .ref 140, .int rh, .int rk, .ref 141, .int (nI tl), .int wh, .int fa, .ref 142, .int gu, .int 14, .int (nI ((nx + 1) % 14)), .ref 143, .ref 144, .int (nI sc), .ref 145, .ref 146, .ref 147, .long sd, .ref 148, .ref 149]))), 0, 0) _
        refine ar_return hM rfl ?_
        rw [show (((w.set 143 (.inl (0, 294, .inl g))).set 133 (.inr (11, [.int (nI T.2.2.1), .int (nI T.2.2.2.1), .int T.1, .int T.2.1, .ref 134, .ref 135, .ref 136, .ref 137, .ref 138, .ref 139, .ref 140, .int rh, .int rk, .ref 141, .int (nI tl), .int wh, .int fa, .ref 142, .int gu, .int (nI A.length), .int (nI ((nx + 1) % 14)), .ref 143, .ref 144, .int (nI sc), .ref 145, .ref 146, .ref 147, .long sd, .ref 148, .ref 149]))).set 133 (.inr (11, [.int (nI T.2.2.1), .int (nI T.2.2.2.1), .int T.1, .int T.2.1, .ref 134, .ref 135, .ref 136, .ref 137, .ref 138, .ref 139, .ref 140, .int rh, .int rk, .ref 141, .int (nI tl), .int wh, .int fa, .ref 142, .int gu, .int 14, .int (nI ((nx + 1) % 14)), .ref 143, .ref 144, .int (nI sc), .ref 145, .ref 146, .ref 147, .long sd, .ref 148, .ref 149]))) = ((w.set 143 (.inl (0, 294, .inl g))).set 133 (.inr (11, [.int (nI T.2.2.1), .int (nI T.2.2.2.1), .int T.1, .int T.2.1, .ref 134, .ref 135, .ref 136, .ref 137, .ref 138, .ref 139, .ref 140, .int rh, .int rk, .ref 141, .int (nI tl), .int wh, .int fa, .ref 142, .int gu, .int 14, .int (nI ((nx + 1) % 14)), .ref 143, .ref 144, .int (nI sc), .ref 145, .ref 146, .ref 147, .long sd, .ref 148, .ref 149]))) from by rw [List.set_set]]
        have e : ((S :: A).take 14).length = 14 := by have := (nI_leI (a := 14) (by omega) (by omega)).mp c54; simp; omega
        rw [e]
        exact ⟨_, rfl, rfl, d_A_push hn6 hA hS (fun k hk => p1 k (by omega)) p2⟩
      · refine ar_aload_n (pc' := 58) hM rfl rfl rfl ?_
        refine ar_getfield (pc' := 61) hM rfl (am_gs (am_gn (by decide) hm)) rfl rfl ?_
        refine ar_iconst (x := 1) (pc' := 62) hM rfl (by decide) rfl ?_
        refine ar_iadd (pc' := 63) hM rfl rfl ?_
        rw [show ((nI A.length) + 1 : Int32) = nI (A.length + 1) from nI_add A.length 1]
        refine ar_goto hM rfl ?_
        refine ar_putfield (pc' := 71) hM rfl (am_gs (am_gn (by decide) hm)) (Nat.le_of_ble_eq_true rfl) rfl (by decide) rfl ?_
        show am_Go 127 (71, [.ref 133, .int (nI j)], [], (((w.set 143 (.inl (0, 294, .inl g))).set 133 (.inr (11, [.int (nI T.2.2.1), .int (nI T.2.2.2.1), .int T.1, .int T.2.1, .ref 134, .ref 135, .ref 136, .ref 137, .ref 138, .ref 139, .ref 140, .int rh, .int rk, .ref 141, .int (nI tl), .int wh, .int fa, .ref 142, .int gu, .int (nI A.length), .int (nI ((nx + 1) % 14)), .ref 143, .ref 144, .int (nI sc), .ref 145, .ref 146, .ref 147, .long sd, .ref 148, .ref 149]))).set 133 (.inr (11, [.int (nI T.2.2.1), .int (nI T.2.2.2.1), .int T.1, .int T.2.1, .ref 134, .ref 135, .ref 136, .ref 137, .ref 138, .ref 139, .ref 140, .int rh, .int rk, .ref 141, .int (nI tl), .int wh, .int fa, .ref 142, .int gu, .int (nI (A.length + 1)), .int (nI ((nx + 1) % 14)), .ref 143, .ref 144, .int (nI sc), .ref 145, .ref 146, .ref 147, .long sd, .ref 148, .ref 149]))), 0, 0) _
        refine ar_return hM rfl ?_
        rw [show (((w.set 143 (.inl (0, 294, .inl g))).set 133 (.inr (11, [.int (nI T.2.2.1), .int (nI T.2.2.2.1), .int T.1, .int T.2.1, .ref 134, .ref 135, .ref 136, .ref 137, .ref 138, .ref 139, .ref 140, .int rh, .int rk, .ref 141, .int (nI tl), .int wh, .int fa, .ref 142, .int gu, .int (nI A.length), .int (nI ((nx + 1) % 14)), .ref 143, .ref 144, .int (nI sc), .ref 145, .ref 146, .ref 147, .long sd, .ref 148, .ref 149]))).set 133 (.inr (11, [.int (nI T.2.2.1), .int (nI T.2.2.2.1), .int T.1, .int T.2.1, .ref 134, .ref 135, .ref 136, .ref 137, .ref 138, .ref 139, .ref 140, .int rh, .int rk, .ref 141, .int (nI tl), .int wh, .int fa, .ref 142, .int gu, .int (nI (A.length + 1)), .int (nI ((nx + 1) % 14)), .ref 143, .ref 144, .int (nI sc), .ref 145, .ref 146, .ref 147, .long sd, .ref 148, .ref 149]))) = ((w.set 143 (.inl (0, 294, .inl g))).set 133 (.inr (11, [.int (nI T.2.2.1), .int (nI T.2.2.2.1), .int T.1, .int T.2.1, .ref 134, .ref 135, .ref 136, .ref 137, .ref 138, .ref 139, .ref 140, .int rh, .int rk, .ref 141, .int (nI tl), .int wh, .int fa, .ref 142, .int gu, .int (nI (A.length + 1)), .int (nI ((nx + 1) % 14)), .ref 143, .ref 144, .int (nI sc), .ref 145, .ref 146, .ref 147, .long sd, .ref 148, .ref 149]))) from by rw [List.set_set]]
        have e : ((S :: A).take 14).length = A.length + 1 := by have := i_nge (b := 14) c54 (by omega); simp; omega
        rw [e]
        exact ⟨_, rfl, rfl, d_A_push hn6 hA hS (fun k hk => p1 k (by omega)) p2⟩
    | succ dj ih =>
      intro j g hj p1 p2
      refine ar_iload_n (pc' := 3) hM rfl rfl rfl ?_
      refine ar_bipush (x := 21) (pc' := 5) hM rfl (by decide) rfl ?_
      refine ar_icmp_ge (pc' := 8) hM rfl rfl (fun q => absurd q (nI_ge (a := j) (b := 21) (by omega) (by omega))) (fun _ => ?_)
      refine ar_aload_n (pc' := 9) hM rfl rfl rfl ?_
      refine ar_getfield (pc' := 12) hM rfl (am_gn (by decide) hm) rfl rfl ?_
      refine ar_bipush (x := 21) (pc' := 14) hM rfl (by decide) rfl ?_
      refine ar_aload_n (pc' := 15) hM rfl rfl rfl ?_
      refine ar_getfield (pc' := 18) hM rfl (am_gn (by decide) hm) rfl rfl ?_
      refine ar_imul (pc' := 19) hM rfl rfl ?_
      rw [show (21 * (nI nx) : Int32) = nI (21 * nx) from pk_mul 21 nx]
      refine ar_iload_n (pc' := 20) hM rfl rfl rfl ?_
      refine ar_iadd (pc' := 21) hM rfl rfl ?_
      rw [show ((nI (21 * nx)) + (nI j) : Int32) = nI (21 * nx + j) from nI_add (21 * nx) j]
      refine ar_aload_n (pc' := 22) hM rfl rfl rfl ?_
      refine ar_getfield (pc' := 25) hM rfl (am_gn (by decide) hm) rfl rfl ?_
      refine ar_iload_n (pc' := 26) hM rfl rfl rfl ?_
      refine ar_ialoadN (j := j) (pc' := 27) hM rfl (am_gn (by decide) h138) rfl (by omega) (Nat.le_of_ble_eq_true rfl) rfl ?_
      refine ar_iastoreN (j := (21 * nx + j)) (pc' := 28) hM rfl (am_gs h143) rfl (by omega) (Nat.le_of_ble_eq_true rfl) (by decide) rfl ?_
      refine ar_iinc (z := nI (j + 1)) (pc' := 31) hM rfl rfl (nI_1 _) rfl rfl rfl ?_
      refine ar_goto hM rfl ?_
      rw [show ((w.set 143 (.inl (0, 294, .inl g))).set 143 (.inl (0, 294, .inl (upd g (21 * nx + j) (nw j))))) = (w.set 143 (.inl (0, 294, .inl (upd g (21 * nx + j) (nw j))))) from by rw [List.set_set]]
      exact ih (j + 1) (upd g (21 * nx + j) (nw j)) (by omega) (fun k hk => by
          rcases Nat.lt_or_ge k j with q | q
          · rw [pk_un (by omega)]; exact p1 k q
          · rw [show k = j by omega, pk_us]) (fun k hk => by rw [pk_un (by omega)]; exact p2 k hk)
  have hl0 := loop (21) 0 rw_ (by omega) (fun k hk => absurd hk (by omega)) (fun k hk => rfl)
  rw [am_si h143] at hl0
  exact hl0
set_option maxRecDepth 100000 in
set_option maxHeartbeats 4000000 in
theorem d_trial {w : am_W} (T : p_D) {rh rk wh fa gu : Int32} {tl ac nx sc : Nat} {sd : Int64} {nw : Nat → Int32} (hm : w[133]? = some (d_O T rh rk tl wh fa gu ac nx sc sd)) (h138 : w[138]? = some (.inl (0, 42, .inl nw)))  : am_Go 134 (0, [.ref 133, .float 0], [], w, 0, 0) (fun res w' => ∃ nw', res = none ∧ w' = w.set 138 (.inl (0, 42, .inl nw')) ∧ (∀ k, k < 21 → nw' k = nw k) ∧ ∀ k, k < 21 → nw' (21 + k) = nw k) := by
  have hM : am_P[134]? = some zm_X11_layTrial := rfl
  refine ar_iconst (x := 0) (pc' := 1) hM rfl (by decide) rfl ?_
  refine ar_istore_n (pc' := 2) hM rfl rfl rfl rfl ?_
  have loop : ∀ (dj j : Nat) (g : Nat → Int32), dj + j = 21 → (∀ k, k < 21 → g k = nw k) → (∀ k, k < j → g (21 + k) = nw k) → am_Go 134 (2, [.ref 133, .int (nI j)], [], (w.set 138 (.inl (0, 42, .inl g))), 0, 0) (fun res w' => ∃ nw', res = none ∧ w' = w.set 138 (.inl (0, 42, .inl nw')) ∧ (∀ k, k < 21 → nw' k = nw k) ∧ ∀ k, k < 21 → nw' (21 + k) = nw k) := by
    intro dj
    induction dj with
    | zero =>
      intro j g hj p1 p2
      refine ar_iload_n (pc' := 3) hM rfl rfl rfl ?_
      refine ar_bipush (x := 21) (pc' := 5) hM rfl (by decide) rfl ?_
      refine ar_icmp_ge (pc' := 8) hM rfl rfl (fun _ => ?_) (fun q => absurd (nI_le (a := 21) (b := j) (by omega) (by omega)) q)
      refine ar_return hM rfl ?_
      exact ⟨g, rfl, rfl, p1, fun k hk => p2 k (by omega)⟩
    | succ dj ih =>
      intro j g hj p1 p2
      refine ar_iload_n (pc' := 3) hM rfl rfl rfl ?_
      refine ar_bipush (x := 21) (pc' := 5) hM rfl (by decide) rfl ?_
      refine ar_icmp_ge (pc' := 8) hM rfl rfl (fun q => absurd q (nI_ge (a := j) (b := 21) (by omega) (by omega))) (fun _ => ?_)
      refine ar_aload_n (pc' := 9) hM rfl rfl rfl ?_
      refine ar_getfield (pc' := 12) hM rfl (am_gn (by decide) hm) rfl rfl ?_
      refine ar_bipush (x := 21) (pc' := 14) hM rfl (by decide) rfl ?_
      refine ar_iload_n (pc' := 15) hM rfl rfl rfl ?_
      refine ar_iadd (pc' := 16) hM rfl rfl ?_
      rw [show (21 + (nI j) : Int32) = nI (21 + j) from nI_add 21 j]
      refine ar_aload_n (pc' := 17) hM rfl rfl rfl ?_
      refine ar_getfield (pc' := 20) hM rfl (am_gn (by decide) hm) rfl rfl ?_
      refine ar_iload_n (pc' := 21) hM rfl rfl rfl ?_
      refine ar_ialoadN (j := j) (pc' := 22) hM rfl (am_gs h138) rfl (by omega) (Nat.le_of_ble_eq_true rfl) rfl ?_
      rw [show (g j : Int32) = nw j from (p1 j (by omega))]
      refine ar_iastoreN (j := (21 + j)) (pc' := 23) hM rfl (am_gs h138) rfl (by omega) (Nat.le_of_ble_eq_true rfl) (by decide) rfl ?_
      refine ar_iinc (z := nI (j + 1)) (pc' := 26) hM rfl rfl (nI_1 _) rfl rfl rfl ?_
      refine ar_goto hM rfl ?_
      rw [show ((w.set 138 (.inl (0, 42, .inl g))).set 138 (.inl (0, 42, .inl (upd g (21 + j) (nw j))))) = (w.set 138 (.inl (0, 42, .inl (upd g (21 + j) (nw j))))) from by rw [List.set_set]]
      exact ih (j + 1) (upd g (21 + j) (nw j)) (by omega) (fun k hk => by rw [pk_un (by omega)]; exact p1 k hk) (fun k hk => by
          rcases Nat.lt_or_ge k j with q | q
          · rw [pk_un (by omega)]; exact p2 k q
          · rw [show k = j by omega, pk_us])
  have hl0 := loop (21) 0 nw (by omega) (fun k hk => rfl) (fun k hk => absurd hk (by omega))
  rw [am_si h138] at hl0
  exact hl0
set_option maxRecDepth 100000 in
set_option maxHeartbeats 4000000 in
theorem d_swap {w : am_W} (T : p_D) {rh rk wh fa gu : Int32} {tl ac nx sc : Nat} {sd : Int64} {nw : Nat → Int32} (hm : w[133]? = some (d_O T rh rk tl wh fa gu ac nx sc sd)) (h138 : w[138]? = some (.inl (0, 42, .inl nw))) (lv : Nat) (hlv : lv ≤ 1) (S : s_S) (hn6 : T.2.2.1 ≤ 6) (hS : d_S nw (21 * lv) T.2.2.1 S) (a b : Nat) (ha : a < T.2.2.1) (hb : b < T.2.2.1) : am_Go 129 (0, [.ref 133, .int (nI lv), .int (nI a), .int (nI b), .float 0, .float 0], [], w, 0, 0) (fun res w' => ∃ nw', res = none ∧ w' = w.set 138 (.inl (0, 42, .inl nw')) ∧ d_S nw' (21 * lv) T.2.2.1 (m_swap S a b) ∧ ∀ k, (k < 21 * lv ∨ 21 * lv + 21 ≤ k) → nw' k = nw k) := by
  have hM : am_P[129]? = some zm_X11_swapOn := rfl
  refine ar_bipush (x := 21) (pc' := 2) hM rfl (by decide) rfl ?_
  refine ar_iload_n (pc' := 3) hM rfl rfl rfl ?_
  refine ar_imul (pc' := 4) hM rfl rfl ?_
  rw [show (21 * (nI lv) : Int32) = nI (21 * lv) from pk_mul 21 lv]
  refine ar_istore (pc' := 6) hM rfl rfl rfl rfl ?_
  refine ar_aload_n (pc' := 7) hM rfl rfl rfl ?_
  refine ar_getfield (pc' := 10) hM rfl hm rfl rfl ?_
  refine ar_iload (pc' := 12) hM rfl rfl rfl ?_
  refine ar_iload_n (pc' := 13) hM rfl rfl rfl ?_
  refine ar_iadd (pc' := 14) hM rfl rfl ?_
  rw [show ((nI (21 * lv)) + (nI a) : Int32) = nI (21 * lv + a) from nI_add (21 * lv) a]
  refine ar_ialoadN (j := (21 * lv + a)) (pc' := 15) hM rfl h138 rfl (by omega) (Nat.le_of_ble_eq_true rfl) rfl ?_
  rw [show (nw (21 * lv + a) : Int32) = nI (S.2.1 a) from (hS.1 a ha).1]
  refine ar_istore (pc' := 17) hM rfl rfl rfl rfl ?_
  refine ar_aload_n (pc' := 18) hM rfl rfl rfl ?_
  refine ar_getfield (pc' := 21) hM rfl hm rfl rfl ?_
  refine ar_iload (pc' := 23) hM rfl rfl rfl ?_
  refine ar_iload_n (pc' := 24) hM rfl rfl rfl ?_
  refine ar_iadd (pc' := 25) hM rfl rfl ?_
  rw [show ((nI (21 * lv)) + (nI a) : Int32) = nI (21 * lv + a) from nI_add (21 * lv) a]
  refine ar_aload_n (pc' := 26) hM rfl rfl rfl ?_
  refine ar_getfield (pc' := 29) hM rfl hm rfl rfl ?_
  refine ar_iload (pc' := 31) hM rfl rfl rfl ?_
  refine ar_iload_n (pc' := 32) hM rfl rfl rfl ?_
  refine ar_iadd (pc' := 33) hM rfl rfl ?_
  rw [show ((nI (21 * lv)) + (nI b) : Int32) = nI (21 * lv + b) from nI_add (21 * lv) b]
  refine ar_ialoadN (j := (21 * lv + b)) (pc' := 34) hM rfl h138 rfl (by omega) (Nat.le_of_ble_eq_true rfl) rfl ?_
  rw [show (nw (21 * lv + b) : Int32) = nI (S.2.1 b) from (hS.1 b hb).1]
  refine ar_iastoreN (j := (21 * lv + a)) (pc' := 35) hM rfl h138 rfl (by omega) (Nat.le_of_ble_eq_true rfl) (by decide) rfl ?_
  refine ar_aload_n (pc' := 36) hM rfl rfl rfl ?_
  refine ar_getfield (pc' := 39) hM rfl (am_gn (by decide) hm) rfl rfl ?_
  refine ar_iload (pc' := 41) hM rfl rfl rfl ?_
  refine ar_iload_n (pc' := 42) hM rfl rfl rfl ?_
  refine ar_iadd (pc' := 43) hM rfl rfl ?_
  rw [show ((nI (21 * lv)) + (nI b) : Int32) = nI (21 * lv + b) from nI_add (21 * lv) b]
  refine ar_iload (pc' := 45) hM rfl rfl rfl ?_
  refine ar_iastoreN (j := (21 * lv + b)) (pc' := 46) hM rfl (am_gs h138) rfl (by omega) (Nat.le_of_ble_eq_true rfl) (by decide) rfl ?_
  refine ar_return hM rfl ?_
  rw [show ((w.set 138 (.inl (0, 42, .inl (upd nw (21 * lv + a) (nI (S.2.1 b)))))).set 138 (.inl (0, 42, .inl (upd (upd nw (21 * lv + a) (nI (S.2.1 b))) (21 * lv + b) (nI (S.2.1 a)))))) = (w.set 138 (.inl (0, 42, .inl (upd (upd nw (21 * lv + a) (nI (S.2.1 b))) (21 * lv + b) (nI (S.2.1 a)))))) from by rw [List.set_set]]
  refine ⟨_, rfl, rfl, ⟨fun h hh => ⟨?_, ?_, ?_⟩, ?_, ?_, ?_⟩, fun k hk => ?_⟩
  · show _ = nI (S.2.1 (if h = a then b else if h = b then a else h))
    by_cases e2 : h = b
    · rw [e2, pk_us]
      by_cases e1 : b = a
      · rw [if_pos e1, e1]
      · rw [if_neg e1, if_pos rfl]
    · rw [pk_un (by omega)]
      by_cases e1 : h = a
      · rw [if_pos e1, e1, pk_us]
      · rw [pk_un (by omega), if_neg e1, if_neg e2]; exact (hS.1 h hh).1
  · rw [pk_un (by omega), pk_un (by omega)]; exact (hS.1 h hh).2.1
  · rw [pk_un (by omega), pk_un (by omega)]; exact (hS.1 h hh).2.2
  · rw [pk_un (by omega), pk_un (by omega)]; exact hS.2.1
  · rw [pk_un (by omega), pk_un (by omega)]; exact hS.2.2.1
  · rw [pk_un (by omega), pk_un (by omega)]; exact hS.2.2.2
  · rw [pk_un (by omega), pk_un (by omega)]
