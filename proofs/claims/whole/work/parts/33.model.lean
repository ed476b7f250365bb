/-! the reference: its cells, its small methods -/
def d_O (T : p_D) (rh rk : Int32) (tl : Nat) (wh fa gu : Int32) (ac nx sc : Nat) (sd : Int64) : am_E := (.inr (11, [.int (nI T.2.2.1), .int (nI T.2.2.2.1), .int T.1, .int T.2.1, .ref 134, .ref 135, .ref 136, .ref 137, .ref 138, .ref 139, .ref 140, .int rh, .int rk, .ref 141, .int (nI tl), .int wh, .int fa, .ref 142, .int gu, .int (nI ac), .int (nI nx), .ref 143, .ref 144, .int (nI sc), .ref 145, .ref 146, .ref 147, .long sd, .ref 148, .ref 149]))
/-- THE ROW in the reference's rows -/
def d_T (ne ki ba he : Nat → Int32) (T : p_D) : Prop := (∀ h, h < T.2.2.1 → ne h = T.2.2.2.2.1 h ∧ ki h = T.2.2.2.2.2.1 h ∧ ba h = T.2.2.2.2.2.2.1 h) ∧ ∀ i, i < T.2.2.2.1 → he i = T.2.2.2.2.2.2.2 i
/-- a standing from the place b on -/
def d_S (nw : Nat → Int32) (b n : Nat) (S : s_S) : Prop := (∀ h, h < n → nw (b + h) = nI (S.2.1 h) ∧ nw (b + 6 + h) = S.2.2.1 h ∧ nw (b + 12 + h) = S.2.2.2.1 h) ∧ nw (b + 18) = S.2.2.2.2.1 ∧ nw (b + 19) = S.2.2.2.2.2.1 ∧ nw (b + 20) = nI S.2.2.2.2.2.2
/-- a look of T and S -/
def d_Y (td : Nat → Int32) (T : p_D) (S : s_S) (g : Int32) : Prop := ∀ h, h < T.2.2.1 → td h = m_wt T S g h ∧ td (6 + h) = m_sy T S g h ∧ td (12 + h) = m_gv T S g h ∧ td (18 + h) = m_dr T S g h ∧ td (24 + h) = m_lk T S g h ∧ td (30 + h) = m_sp T S g h
set_option maxRecDepth 100000 in
set_option maxHeartbeats 4000000 in
theorem d_inL (w : am_W) (x l m : Int64) : am_Go 106 (0, [.long x, .float 0, .long l, .float 0, .long m, .float 0], [], w, 0, 0) (fun res w' => res = some (.int (if l ≤ x ∧ x ≤ m then 1 else 0)) ∧ w' = w) := by
  have hM : am_P[106]? = some zm_X11_in := rfl
  refine ar_lload_n (pc' := 1) hM rfl rfl rfl ?_
  refine ar_lload_n (pc' := 2) hM rfl rfl rfl ?_
  refine ar_lcmp (pc' := 3) hM rfl rfl ?_
  refine ar_if_lt (pc' := 6) hM rfl rfl (fun c3 => ?_) (fun c3 => ?_)
  · refine ar_iconst (x := 0) (pc' := 18) hM rfl (by decide) rfl ?_
    refine ar_ireturn hM rfl (Or.inr (Or.inl rfl)) ?_
    exact ⟨by rw [if_neg (fun q => absurd ((lg_cmp_lt _ _).mp c3) (Int64.not_lt.mpr q.1))], rfl⟩
  · refine ar_lload_n (pc' := 7) hM rfl rfl rfl ?_
    refine ar_lload (pc' := 9) hM rfl rfl rfl ?_
    refine ar_lcmp (pc' := 10) hM rfl rfl ?_
    refine ar_if_gt (pc' := 13) hM rfl rfl (fun c10 => ?_) (fun c10 => ?_)
    · refine ar_iconst (x := 0) (pc' := 18) hM rfl (by decide) rfl ?_
      refine ar_ireturn hM rfl (Or.inr (Or.inl rfl)) ?_
      exact ⟨by rw [if_neg (fun q => absurd ((lg_cmp_gt _ _).mp c10) (Int64.not_lt.mpr q.2))], rfl⟩
    · refine ar_iconst (x := 1) (pc' := 14) hM rfl (by decide) rfl ?_
      refine ar_goto hM rfl ?_
      refine ar_ireturn hM rfl (Or.inr (Or.inr rfl)) ?_
      exact ⟨by rw [if_pos ⟨Int64.not_lt.mp (fun q => c3 ((lg_cmp_lt _ _).mpr q)), Int64.not_lt.mp (fun q => c10 ((lg_cmp_gt _ _).mpr q))⟩], rfl⟩
theorem d_in (w : am_W) (x l m : Int32) (L M : Int64) (hL : L = l.toInt64) (hM : M = m.toInt64) : am_Go 106 (0, [.long x.toInt64, .float 0, .long L, .float 0, .long M, .float 0], [], w, 0, 0) (fun res w' => res = some (.int (if l ≤ x ∧ x ≤ m then 1 else 0)) ∧ w' = w) := by
  refine (d_inL w x.toInt64 L M).mono ?_
  rintro res w' ⟨rfl, rfl⟩
  refine ⟨?_, rfl⟩
  by_cases q : l ≤ x ∧ x ≤ m
  · rw [if_pos q, if_pos (by rw [hL, hM]; exact ⟨Int32.toInt64_le.mpr q.1, Int32.toInt64_le.mpr q.2⟩)]
  · rw [if_neg q, if_neg (by rw [hL, hM]; exact fun e => q ⟨Int32.toInt64_le.mp e.1, Int32.toInt64_le.mp e.2⟩)]
set_option maxRecDepth 100000 in
set_option maxHeartbeats 4000000 in
theorem d_has (w : am_W) (x k : Int32) : am_Go 107 (0, [.int x, .int k], [], w, 0, 0) (fun res w' => res = some (.int (if (x >>> (k &&& 31)) &&& 1 = 1 then 1 else 0)) ∧ w' = w) := by
  have hM : am_P[107]? = some zm_X11_has := rfl
  refine ar_iload_n (pc' := 1) hM rfl rfl rfl ?_
  refine ar_iload_n (pc' := 2) hM rfl rfl rfl ?_
  refine ar_ishr (pc' := 3) hM rfl rfl ?_
  refine ar_iconst (x := 1) (pc' := 4) hM rfl (by decide) rfl ?_
  refine ar_iand (pc' := 5) hM rfl rfl ?_
  refine ar_iconst (x := 1) (pc' := 6) hM rfl (by decide) rfl ?_
  refine ar_icmp_ne (pc' := 9) hM rfl rfl (fun c6 => ?_) (fun c6 => ?_)
  · refine ar_iconst (x := 0) (pc' := 14) hM rfl (by decide) rfl ?_
    refine ar_ireturn hM rfl (Or.inr (Or.inl rfl)) ?_
    exact ⟨by simp [c6], rfl⟩
  · refine ar_iconst (x := 1) (pc' := 10) hM rfl (by decide) rfl ?_
    refine ar_goto hM rfl ?_
    refine ar_ireturn hM rfl (Or.inr (Or.inr rfl)) ?_
    exact ⟨by simp [c6], rfl⟩
def i_ons (x : Int32) : Nat → Int32
  | 0 => 0
  | j + 1 => i_ons x j + ((x >>> (nI j &&& 31)) &&& 1)
theorem i_ons_tab : ∀ m, m < 64 → i_ons (nI m) 6 = nI (n_pop m) := by decide +kernel
set_option maxRecDepth 100000 in
set_option maxHeartbeats 4000000 in
theorem d_ones0 (w : am_W) (x : Int32) : am_Go 108 (0, [.int x, .float 0, .float 0], [], w, 0, 0) (fun res w' => res = some (.int (i_ons x 6)) ∧ w' = w) := by
  have hM : am_P[108]? = some zm_X11_ones := rfl
  refine ar_iconst (x := 0) (pc' := 1) hM rfl (by decide) rfl ?_
  refine ar_istore_n (pc' := 2) hM rfl rfl rfl rfl ?_
  refine ar_iconst (x := 0) (pc' := 3) hM rfl (by decide) rfl ?_
  refine ar_istore_n (pc' := 4) hM rfl rfl rfl rfl ?_
  have loop : ∀ (dj j : Nat) (y : Int32), dj + j = 6 → (y = i_ons x j) → am_Go 108 (4, [.int x, .int y, .int (nI j)], [], w, 0, 0) (fun res w' => res = some (.int (i_ons x 6)) ∧ w' = w) := by
    intro dj
    induction dj with
    | zero =>
      intro j y hj hy
      refine ar_iload_n (pc' := 5) hM rfl rfl rfl ?_
      refine ar_bipush (x := 6) (pc' := 7) hM rfl (by decide) rfl ?_
      refine ar_icmp_ge (pc' := 10) hM rfl rfl (fun _ => ?_) (fun q => absurd (nI_le (a := 6) (b := j) (by omega) (by omega)) q)
      refine ar_iload_n (pc' := 25) hM rfl rfl rfl ?_
      refine ar_ireturn hM rfl (Or.inl rfl) ?_
      exact ⟨by rw [hy, show j = 6 by omega], rfl⟩
    | succ dj ih =>
      intro j y hj hy
      refine ar_iload_n (pc' := 5) hM rfl rfl rfl ?_
      refine ar_bipush (x := 6) (pc' := 7) hM rfl (by decide) rfl ?_
      refine ar_icmp_ge (pc' := 10) hM rfl rfl (fun q => absurd q (nI_ge (a := j) (b := 6) (by omega) (by omega))) (fun _ => ?_)
      refine ar_iload_n (pc' := 11) hM rfl rfl rfl ?_
      refine ar_iload_n (pc' := 12) hM rfl rfl rfl ?_
      refine ar_iload_n (pc' := 13) hM rfl rfl rfl ?_
      refine ar_ishr (pc' := 14) hM rfl rfl ?_
      refine ar_iconst (x := 1) (pc' := 15) hM rfl (by decide) rfl ?_
      refine ar_iand (pc' := 16) hM rfl rfl ?_
      refine ar_iadd (pc' := 17) hM rfl rfl ?_
      refine ar_istore_n (pc' := 18) hM rfl rfl rfl rfl ?_
      refine ar_iinc (z := nI (j + 1)) (pc' := 21) hM rfl rfl (nI_1 _) rfl rfl rfl ?_
      refine ar_goto hM rfl ?_
      exact ih (j + 1) (y + ((x >>> ((nI j) &&& 31)) &&& 1)) (by omega) (by rw [hy]; rfl)
  exact loop (6) 0 0 (by omega) rfl
theorem d_ones (w : am_W) (m : Nat) (hm : m < 64) : am_Go 108 (0, [.int (nI m), .float 0, .float 0], [], w, 0, 0) (fun res w' => res = some (.int (nI (n_pop m))) ∧ w' = w) := by
  rw [← i_ons_tab m hm]
  exact d_ones0 w (nI m)
set_option maxRecDepth 100000 in
set_option maxHeartbeats 4000000 in
theorem d_isH {w : am_W} (T : p_D) {rh rk wh fa gu : Int32} {tl ac nx sc : Nat} {sd : Int64} (hm : w[133]? = some (d_O T rh rk tl wh fa gu ac nx sc sd)) (h : Int32) : am_Go 115 (0, [.ref 133, .int h], [], w, 0, 0) (fun res w' => res = some (.int (if 0 ≤ h ∧ h ≤ nI T.2.2.1 - 1 then 1 else 0)) ∧ w' = w) := by
  have hM : am_P[115]? = some zm_X11_isHouse := rfl
  refine ar_iload_n (pc' := 1) hM rfl rfl rfl ?_
  refine ar_i2l (pc' := 2) hM rfl rfl ?_
  refine ar_lconst (x := 0) (pc' := 3) hM rfl (by decide) rfl ?_
  refine ar_aload_n (pc' := 4) hM rfl rfl rfl ?_
  refine ar_getfield (pc' := 7) hM rfl hm rfl rfl ?_
  refine ar_iconst (x := 1) (pc' := 8) hM rfl (by decide) rfl ?_
  refine ar_isub (pc' := 9) hM rfl rfl ?_
  refine ar_i2l (pc' := 10) hM rfl rfl ?_
  refine ar_static (pc' := 13) (k3 := 0) (k4 := 0) hM rfl (by decide) rfl rfl (d_in _ h 0 ((nI T.2.2.1) - 1) _ _ (by decide) rfl) (fun r10 w10 q10 => ?_)
  obtain ⟨rfl, q10w⟩ := q10
  rw [q10w]
  show am_Go 115 (13, [.ref 133, .int h], [.int (if 0 ≤ h ∧ h ≤ ((nI T.2.2.1) - 1) then 1 else 0)], w, 0, 0) _
  refine ar_ireturn hM rfl (Or.inr am_b01) ?_
  exact ⟨rfl, rfl⟩
set_option maxRecDepth 100000 in
set_option maxHeartbeats 4000000 in
theorem d_every {w : am_W} (T : p_D) {rh rk wh fa gu : Int32} {tl ac nx sc : Nat} {sd : Int64} (hm : w[133]? = some (d_O T rh rk tl wh fa gu ac nx sc sd)) (hn6 : T.2.2.1 ≤ 6) : am_Go 116 (0, [.ref 133], [], w, 0, 0) (fun res w' => res = some (.int (nI (2 ^ T.2.2.1) - 1)) ∧ w' = w) := by
  have hM : am_P[116]? = some zm_X11_every := rfl
  refine ar_iconst (x := 1) (pc' := 1) hM rfl (by decide) rfl ?_
  refine ar_aload_n (pc' := 2) hM rfl rfl rfl ?_
  refine ar_getfield (pc' := 5) hM rfl hm rfl rfl ?_
  refine ar_ishl (pc' := 6) hM rfl rfl ?_
  rw [show (1 <<< ((nI T.2.2.1) &&& 31) : Int32) = nI (2 ^ T.2.2.1) from i_shl1 _ hn6]
  refine ar_iconst (x := 1) (pc' := 7) hM rfl (by decide) rfl ?_
  refine ar_isub (pc' := 8) hM rfl rfl ?_
  refine ar_ireturn hM rfl (Or.inl rfl) ?_
  exact ⟨rfl, rfl⟩
theorem nI_ne {n : Nat} (h : ¬ nI n = 0) : 0 < n := by
  rcases Nat.eq_zero_or_pos n with rfl | h0
  · exact absurd rfl h
  · exact h0
set_option maxRecDepth 100000 in
set_option maxHeartbeats 4000000 in
theorem d_heatOn {w : am_W} (T : p_D) {rh rk wh fa gu : Int32} {tl ac nx sc : Nat} {sd : Int64} (hm : w[133]? = some (d_O T rh rk tl wh fa gu ac nx sc sd)) {he nw : Nat → Int32} (h137 : w[137]? = some (.inl (0, 5, .inl he))) (h138 : w[138]? = some (.inl (0, 42, .inl nw))) (lv dy : Nat) (hlv : lv ≤ 1) (hkk : T.2.2.2.1 ≤ 5) (hdy : dy < 2 ^ 31) (hd : nw (21 * lv + 20) = nI dy) : am_Go 117 (0, [.ref 133, .int (nI lv)], [], w, 0, 0) (fun res w' => res = some (.int (i_heat T.2.2.2.1 he dy)) ∧ w' = w) := by
  have hM : am_P[117]? = some zm_X11_heatOn := rfl
  refine ar_aload_n (pc' := 1) hM rfl rfl rfl ?_
  refine ar_getfield (pc' := 4) hM rfl hm rfl rfl ?_
  refine ar_if_ne (pc' := 7) hM rfl rfl (fun c4 => ?_) (fun c4 => ?_)
  · refine ar_aload_n (pc' := 12) hM rfl rfl rfl ?_
    refine ar_getfield (pc' := 15) hM rfl hm rfl rfl ?_
    refine ar_aload_n (pc' := 16) hM rfl rfl rfl ?_
    refine ar_getfield (pc' := 19) hM rfl hm rfl rfl ?_
    refine ar_bipush (x := 21) (pc' := 21) hM rfl (by decide) rfl ?_
    refine ar_iload_n (pc' := 22) hM rfl rfl rfl ?_
    refine ar_imul (pc' := 23) hM rfl rfl ?_
    rw [show (21 * (nI lv) : Int32) = nI (21 * lv) from pk_mul 21 lv]
    refine ar_bipush (x := 20) (pc' := 25) hM rfl (by decide) rfl ?_
    refine ar_iadd (pc' := 26) hM rfl rfl ?_
    rw [show ((nI (21 * lv)) + 20 : Int32) = nI (21 * lv + 20) from nI_add (21 * lv) 20]
    refine ar_ialoadN (j := (21 * lv + 20)) (pc' := 27) hM rfl h138 rfl (by omega) (Nat.le_of_ble_eq_true rfl) rfl ?_
    rw [show (nw (21 * lv + 20) : Int32) = nI dy from hd]
    refine ar_aload_n (pc' := 28) hM rfl rfl rfl ?_
    refine ar_getfield (pc' := 31) hM rfl hm rfl rfl ?_
    refine ar_irem (pc' := 32) hM rfl (nI_ne0 (nI_ne c4) (by omega)) rfl ?_
    rw [show ((nI dy) - (nI dy) / (nI T.2.2.2.1) * (nI T.2.2.2.1) : Int32) = nI (dy % T.2.2.2.1) from pk_rem hdy (nI_ne c4) (by omega)]
    refine ar_ialoadN (j := dy % T.2.2.2.1) (pc' := 33) hM rfl h137 rfl (Nat.lt_of_lt_of_le (Nat.mod_lt _ (nI_ne c4)) hkk) (Nat.le_of_ble_eq_true rfl) rfl ?_
    refine ar_ireturn hM rfl (Or.inl rfl) ?_
    exact ⟨by unfold i_heat; rw [if_neg (by have := nI_ne c4; omega)], rfl⟩
  · refine ar_iconst (x := 0) (pc' := 8) hM rfl (by decide) rfl ?_
    refine ar_goto hM rfl ?_
    refine ar_ireturn hM rfl (Or.inl rfl) ?_
    exact ⟨by unfold i_heat; rw [if_pos ((nI_eq (b := 0) (by omega) (by omega)).mp c4)], rfl⟩
theorem i_two (x : Int32) : x + x = 2 * x := by
  rw [show (2 : Int32) = 1 + 1 from by decide, Int32.add_mul, Int32.one_mul]
set_option maxRecDepth 100000 in
set_option maxHeartbeats 4000000 in
theorem d_wantBy (w : am_W) (k x : Int32) : am_Go 118 (0, [.int k, .int x], [], w, 0, 0) (fun res w' => res = some (.int (i_wbk x k)) ∧ w' = w) := by
  have hM : am_P[118]? = some zm_X11_wantBy := rfl
  refine ar_iload_n (pc' := 1) hM rfl rfl rfl ?_
  refine ar_iconst (x := 1) (pc' := 2) hM rfl (by decide) rfl ?_
  refine ar_icmp_ne (pc' := 5) hM rfl rfl (fun c2 => ?_) (fun c2 => ?_)
  · refine ar_iload_n (pc' := 12) hM rfl rfl rfl ?_
    refine ar_iconst (x := 2) (pc' := 13) hM rfl (by decide) rfl ?_
    refine ar_icmp_ne (pc' := 16) hM rfl rfl (fun c13 => ?_) (fun c13 => ?_)
    · refine ar_iload_n (pc' := 23) hM rfl rfl rfl ?_
      refine ar_ireturn hM rfl (Or.inl rfl) ?_
      exact ⟨by unfold i_wbk; simp [c2, c13, i_two], rfl⟩
    · refine ar_iload_n (pc' := 17) hM rfl rfl rfl ?_
      refine ar_iload_n (pc' := 18) hM rfl rfl rfl ?_
      refine ar_iadd (pc' := 19) hM rfl rfl ?_
      refine ar_goto hM rfl ?_
      refine ar_ireturn hM rfl (Or.inl rfl) ?_
      exact ⟨by unfold i_wbk; simp [c2, c13, i_two], rfl⟩
  · refine ar_iload_n (pc' := 6) hM rfl rfl rfl ?_
    refine ar_iconst (x := 3) (pc' := 7) hM rfl (by decide) rfl ?_
    refine ar_iadd (pc' := 8) hM rfl rfl ?_
    refine ar_goto hM rfl ?_
    refine ar_ireturn hM rfl (Or.inl rfl) ?_
    exact ⟨by unfold i_wbk; simp [c2, i_two], rfl⟩
set_option maxRecDepth 100000 in
set_option maxHeartbeats 4000000 in
theorem d_houseAt {w : am_W} (T : p_D) {rh rk wh fa gu : Int32} {tl ac nx sc : Nat} {sd : Int64} (hm : w[133]? = some (d_O T rh rk tl wh fa gu ac nx sc sd)) {nw : Nat → Int32} (h138 : w[138]? = some (.inl (0, 42, .inl nw))) (lv : Nat) (hlv : lv ≤ 1) (S : s_S) (hn6 : T.2.2.1 ≤ 6) (hvS : v_S T.2.2.1 S) (hS : d_S nw (21 * lv) T.2.2.1 S) (p : Nat) (hp : p < T.2.2.1) : am_Go 119 (0, [.ref 133, .int (nI lv), .int (nI p), .float 0], [], w, 0, 0) (fun res w' => res = some (.int (nI (S.1 p))) ∧ w' = w) := by
  have hM : am_P[119]? = some zm_X11_houseAt := rfl
  refine ar_iconst (x := 0) (pc' := 1) hM rfl (by decide) rfl ?_
  refine ar_istore_n (pc' := 2) hM rfl rfl rfl rfl ?_
  have loop : ∀ (dj j : Nat) , dj + j = T.2.2.1 → (∀ i, i < j → ¬ S.2.1 i = p) → am_Go 119 (2, [.ref 133, .int (nI lv), .int (nI p), .int (nI j)], [], w, 0, 0) (fun res w' => res = some (.int (nI (S.1 p))) ∧ w' = w) := by
    intro dj
    induction dj with
    | zero =>
      intro j  hj hne
      exact absurd (hvS.1 p hp).2 (hne _ (by have := (hvS.1 p hp).1; omega))
    | succ dj ih =>
      intro j  hj hne
      refine ar_iload_n (pc' := 3) hM rfl rfl rfl ?_
      refine ar_aload_n (pc' := 4) hM rfl rfl rfl ?_
      refine ar_getfield (pc' := 7) hM rfl hm rfl rfl ?_
      refine ar_icmp_ge (pc' := 10) hM rfl rfl (fun q => absurd q (nI_ge (a := j) (b := T.2.2.1) (by omega) (by omega))) (fun _ => ?_)
      refine ar_aload_n (pc' := 11) hM rfl rfl rfl ?_
      refine ar_getfield (pc' := 14) hM rfl hm rfl rfl ?_
      refine ar_bipush (x := 21) (pc' := 16) hM rfl (by decide) rfl ?_
      refine ar_iload_n (pc' := 17) hM rfl rfl rfl ?_
      refine ar_imul (pc' := 18) hM rfl rfl ?_
      rw [show (21 * (nI lv) : Int32) = nI (21 * lv) from pk_mul 21 lv]
      refine ar_iload_n (pc' := 19) hM rfl rfl rfl ?_
      refine ar_iadd (pc' := 20) hM rfl rfl ?_
      rw [show ((nI (21 * lv)) + (nI j) : Int32) = nI (21 * lv + j) from nI_add (21 * lv) j]
      refine ar_ialoadN (j := (21 * lv + j)) (pc' := 21) hM rfl h138 rfl (by omega) (Nat.le_of_ble_eq_true rfl) rfl ?_
      rw [show (nw (21 * lv + j) : Int32) = nI (S.2.1 j) from (hS.1 j (by omega)).1]
      refine ar_iload_n (pc' := 22) hM rfl rfl rfl ?_
      refine ar_icmp_ne (pc' := 25) hM rfl rfl (fun c22 => ?_) (fun c22 => ?_)
      · refine ar_iinc (z := nI (j + 1)) (pc' := 30) hM rfl rfl (nI_1 _) rfl rfl rfl ?_
        refine ar_goto hM rfl ?_
        exact ih (j + 1) (by omega) (fun i hi => by rcases Nat.lt_or_ge i j with q | q; exact hne i q; rw [show i = j by omega]; exact fun e => c22 (by rw [e]))
      · refine ar_iload_n (pc' := 26) hM rfl rfl rfl ?_
        refine ar_ireturn hM rfl (Or.inl rfl) ?_
        have e := (nI_eq (by have := (hvS.2.1 j (by omega)).1; omega) (by omega)).mp c22
        exact ⟨by rw [← e, (hvS.2.1 j (by omega)).2], rfl⟩
  exact loop (T.2.2.1) 0  (by omega) (fun i hi => absurd hi (by omega))
set_option maxRecDepth 100000 in
set_option maxHeartbeats 4000000 in
theorem d_houseAtN {w : am_W} (T : p_D) {rh rk wh fa gu : Int32} {tl ac nx sc : Nat} {sd : Int64} (hm : w[133]? = some (d_O T rh rk tl wh fa gu ac nx sc sd)) {nw : Nat → Int32} (h138 : w[138]? = some (.inl (0, 42, .inl nw))) (lv : Nat) (hlv : lv ≤ 1) (S : s_S) (hn6 : T.2.2.1 ≤ 6) (hvS : v_S T.2.2.1 S) (hS : d_S nw (21 * lv) T.2.2.1 S) (x : Int32) (hx : ¬ i_H T.2.2.1 x) : am_Go 119 (0, [.ref 133, .int (nI lv), .int x, .float 0], [], w, 0, 0) (fun res w' => res = some (.int (-9)) ∧ w' = w) := by
  have hM : am_P[119]? = some zm_X11_houseAt := rfl
  refine ar_iconst (x := 0) (pc' := 1) hM rfl (by decide) rfl ?_
  refine ar_istore_n (pc' := 2) hM rfl rfl rfl rfl ?_
  have loop : ∀ (dj j : Nat) , dj + j = T.2.2.1 → am_Go 119 (2, [.ref 133, .int (nI lv), .int x, .int (nI j)], [], w, 0, 0) (fun res w' => res = some (.int (-9)) ∧ w' = w) := by
    intro dj
    induction dj with
    | zero =>
      intro j  hj 
      refine ar_iload_n (pc' := 3) hM rfl rfl rfl ?_
      refine ar_aload_n (pc' := 4) hM rfl rfl rfl ?_
      refine ar_getfield (pc' := 7) hM rfl hm rfl rfl ?_
      refine ar_icmp_ge (pc' := 10) hM rfl rfl (fun _ => ?_) (fun q => absurd (nI_le (a := T.2.2.1) (b := j) (by omega) (by omega)) q)
      refine ar_bipush (x := (-9)) (pc' := 35) hM rfl (by decide) rfl ?_
      refine ar_ireturn hM rfl (Or.inl rfl) ?_
      exact ⟨rfl, rfl⟩
    | succ dj ih =>
      intro j  hj 
      refine ar_iload_n (pc' := 3) hM rfl rfl rfl ?_
      refine ar_aload_n (pc' := 4) hM rfl rfl rfl ?_
      refine ar_getfield (pc' := 7) hM rfl hm rfl rfl ?_
      refine ar_icmp_ge (pc' := 10) hM rfl rfl (fun q => absurd q (nI_ge (a := j) (b := T.2.2.1) (by omega) (by omega))) (fun _ => ?_)
      refine ar_aload_n (pc' := 11) hM rfl rfl rfl ?_
      refine ar_getfield (pc' := 14) hM rfl hm rfl rfl ?_
      refine ar_bipush (x := 21) (pc' := 16) hM rfl (by decide) rfl ?_
      refine ar_iload_n (pc' := 17) hM rfl rfl rfl ?_
      refine ar_imul (pc' := 18) hM rfl rfl ?_
      rw [show (21 * (nI lv) : Int32) = nI (21 * lv) from pk_mul 21 lv]
      refine ar_iload_n (pc' := 19) hM rfl rfl rfl ?_
      refine ar_iadd (pc' := 20) hM rfl rfl ?_
      rw [show ((nI (21 * lv)) + (nI j) : Int32) = nI (21 * lv + j) from nI_add (21 * lv) j]
      refine ar_ialoadN (j := (21 * lv + j)) (pc' := 21) hM rfl h138 rfl (by omega) (Nat.le_of_ble_eq_true rfl) rfl ?_
      rw [show (nw (21 * lv + j) : Int32) = nI (S.2.1 j) from (hS.1 j (by omega)).1]
      refine ar_iload_n (pc' := 22) hM rfl rfl rfl ?_
      refine ar_icmp_ne (pc' := 25) hM rfl rfl (fun _ => ?_) (fun q => absurd q (fun e => hx ⟨_, (hvS.2.1 j (by omega)).1, e.symm⟩))
      refine ar_iinc (z := nI (j + 1)) (pc' := 30) hM rfl rfl (nI_1 _) rfl rfl rfl ?_
      refine ar_goto hM rfl ?_
      exact ih (j + 1) (by omega)
  exact loop (T.2.2.1) 0  (by omega) 
set_option maxRecDepth 100000 in
set_option maxHeartbeats 4000000 in
theorem d_sumOf {w : am_W} (T : p_D) {rh rk wh fa gu : Int32} {tl ac nx sc : Nat} {sd : Int64} {td : Nat → Int32} (hm : w[133]? = some (d_O T rh rk tl wh fa gu ac nx sc sd)) (h142 : w[142]? = some (.inl (0, 36, .inl td))) (c : Nat) (hc : c ≤ 5) (hn6 : T.2.2.1 ≤ 6) : am_Go 121 (0, [.ref 133, .int (nI c), .float 0, .float 0], [], w, 0, 0) (fun res w' => res = some (.int (i_sum (fun h => td (6 * c + h)) T.2.2.1)) ∧ w' = w) := by
  have hM : am_P[121]? = some zm_X11_sumOf := rfl
  refine ar_iconst (x := 0) (pc' := 1) hM rfl (by decide) rfl ?_
  refine ar_istore_n (pc' := 2) hM rfl rfl rfl rfl ?_
  refine ar_iconst (x := 0) (pc' := 3) hM rfl (by decide) rfl ?_
  refine ar_istore_n (pc' := 4) hM rfl rfl rfl rfl ?_
  have loop : ∀ (dj j : Nat) (y : Int32), dj + j = T.2.2.1 → (y = i_sum (fun h => td (6 * c + h)) j) → am_Go 121 (4, [.ref 133, .int (nI c), .int y, .int (nI j)], [], w, 0, 0) (fun res w' => res = some (.int (i_sum (fun h => td (6 * c + h)) T.2.2.1)) ∧ w' = w) := by
    intro dj
    induction dj with
    | zero =>
      intro j y hj hy
      refine ar_iload_n (pc' := 5) hM rfl rfl rfl ?_
      refine ar_aload_n (pc' := 6) hM rfl rfl rfl ?_
      refine ar_getfield (pc' := 9) hM rfl hm rfl rfl ?_
      refine ar_icmp_ge (pc' := 12) hM rfl rfl (fun _ => ?_) (fun q => absurd (nI_le (a := T.2.2.1) (b := j) (by omega) (by omega)) q)
      refine ar_iload_n (pc' := 33) hM rfl rfl rfl ?_
      refine ar_ireturn hM rfl (Or.inl rfl) ?_
      exact ⟨by rw [hy, show j = T.2.2.1 by omega], rfl⟩
    | succ dj ih =>
      intro j y hj hy
      refine ar_iload_n (pc' := 5) hM rfl rfl rfl ?_
      refine ar_aload_n (pc' := 6) hM rfl rfl rfl ?_
      refine ar_getfield (pc' := 9) hM rfl hm rfl rfl ?_
      refine ar_icmp_ge (pc' := 12) hM rfl rfl (fun q => absurd q (nI_ge (a := j) (b := T.2.2.1) (by omega) (by omega))) (fun _ => ?_)
      refine ar_iload_n (pc' := 13) hM rfl rfl rfl ?_
      refine ar_aload_n (pc' := 14) hM rfl rfl rfl ?_
      refine ar_getfield (pc' := 17) hM rfl hm rfl rfl ?_
      refine ar_bipush (x := 6) (pc' := 19) hM rfl (by decide) rfl ?_
      refine ar_iload_n (pc' := 20) hM rfl rfl rfl ?_
      refine ar_imul (pc' := 21) hM rfl rfl ?_
      rw [show (6 * (nI c) : Int32) = nI (6 * c) from pk_mul 6 c]
      refine ar_iload_n (pc' := 22) hM rfl rfl rfl ?_
      refine ar_iadd (pc' := 23) hM rfl rfl ?_
      rw [show ((nI (6 * c)) + (nI j) : Int32) = nI (6 * c + j) from nI_add (6 * c) j]
      refine ar_ialoadN (j := (6 * c + j)) (pc' := 24) hM rfl h142 rfl (by omega) (Nat.le_of_ble_eq_true rfl) rfl ?_
      refine ar_iadd (pc' := 25) hM rfl rfl ?_
      refine ar_istore_n (pc' := 26) hM rfl rfl rfl rfl ?_
      refine ar_iinc (z := nI (j + 1)) (pc' := 29) hM rfl rfl (nI_1 _) rfl rfl rfl ?_
      refine ar_goto hM rfl ?_
      exact ih (j + 1) (y + (td (6 * c + j))) (by omega) (by rw [hy]; rfl)
  exact loop (T.2.2.1) 0 0 (by omega) rfl
set_option maxRecDepth 100000 in
set_option maxHeartbeats 4000000 in
theorem d_lackedOn {w : am_W} (T : p_D) {rh rk wh fa gu : Int32} {tl ac nx sc : Nat} {sd : Int64} (hm : w[133]? = some (d_O T rh rk tl wh fa gu ac nx sc sd)) {nw : Nat → Int32} (h138 : w[138]? = some (.inl (0, 42, .inl nw))) (lv : Nat) (hlv : lv ≤ 1) (S : s_S) (hn6 : T.2.2.1 ≤ 6) (hvS : v_S T.2.2.1 S) (hS : d_S nw (21 * lv) T.2.2.1 S) : am_Go 123 (0, [.ref 133, .int (nI lv), .float 0, .float 0], [], w, 0, 0) (fun res w' => res = some (.int (i_sum S.2.2.2.1 T.2.2.1)) ∧ w' = w) := by
  have hM : am_P[123]? = some zm_X11_lackedOn := rfl
  refine ar_iconst (x := 0) (pc' := 1) hM rfl (by decide) rfl ?_
  refine ar_istore_n (pc' := 2) hM rfl rfl rfl rfl ?_
  refine ar_iconst (x := 0) (pc' := 3) hM rfl (by decide) rfl ?_
  refine ar_istore_n (pc' := 4) hM rfl rfl rfl rfl ?_
  have loop : ∀ (dj j : Nat) (y : Int32), dj + j = T.2.2.1 → (y = i_sum S.2.2.2.1 j) → am_Go 123 (4, [.ref 133, .int (nI lv), .int y, .int (nI j)], [], w, 0, 0) (fun res w' => res = some (.int (i_sum S.2.2.2.1 T.2.2.1)) ∧ w' = w) := by
    intro dj
    induction dj with
    | zero =>
      intro j y hj hy
      refine ar_iload_n (pc' := 5) hM rfl rfl rfl ?_
      refine ar_aload_n (pc' := 6) hM rfl rfl rfl ?_
      refine ar_getfield (pc' := 9) hM rfl hm rfl rfl ?_
      refine ar_icmp_ge (pc' := 12) hM rfl rfl (fun _ => ?_) (fun q => absurd (nI_le (a := T.2.2.1) (b := j) (by omega) (by omega)) q)
      refine ar_iload_n (pc' := 36) hM rfl rfl rfl ?_
      refine ar_ireturn hM rfl (Or.inl rfl) ?_
      exact ⟨by rw [hy, show j = T.2.2.1 by omega], rfl⟩
    | succ dj ih =>
      intro j y hj hy
      refine ar_iload_n (pc' := 5) hM rfl rfl rfl ?_
      refine ar_aload_n (pc' := 6) hM rfl rfl rfl ?_
      refine ar_getfield (pc' := 9) hM rfl hm rfl rfl ?_
      refine ar_icmp_ge (pc' := 12) hM rfl rfl (fun q => absurd q (nI_ge (a := j) (b := T.2.2.1) (by omega) (by omega))) (fun _ => ?_)
      refine ar_iload_n (pc' := 13) hM rfl rfl rfl ?_
      refine ar_aload_n (pc' := 14) hM rfl rfl rfl ?_
      refine ar_getfield (pc' := 17) hM rfl hm rfl rfl ?_
      refine ar_bipush (x := 21) (pc' := 19) hM rfl (by decide) rfl ?_
      refine ar_iload_n (pc' := 20) hM rfl rfl rfl ?_
      refine ar_imul (pc' := 21) hM rfl rfl ?_
      rw [show (21 * (nI lv) : Int32) = nI (21 * lv) from pk_mul 21 lv]
      refine ar_bipush (x := 12) (pc' := 23) hM rfl (by decide) rfl ?_
      refine ar_iadd (pc' := 24) hM rfl rfl ?_
      rw [show ((nI (21 * lv)) + 12 : Int32) = nI (21 * lv + 12) from nI_add (21 * lv) 12]
      refine ar_iload_n (pc' := 25) hM rfl rfl rfl ?_
      refine ar_iadd (pc' := 26) hM rfl rfl ?_
      rw [show ((nI (21 * lv + 12)) + (nI j) : Int32) = nI (21 * lv + 12 + j) from nI_add (21 * lv + 12) j]
      refine ar_ialoadN (j := (21 * lv + 12 + j)) (pc' := 27) hM rfl h138 rfl (by omega) (Nat.le_of_ble_eq_true rfl) rfl ?_
      rw [show (nw (21 * lv + 12 + j) : Int32) = S.2.2.2.1 j from (hS.1 j (by omega)).2.2]
      refine ar_iadd (pc' := 28) hM rfl rfl ?_
      refine ar_istore_n (pc' := 29) hM rfl rfl rfl rfl ?_
      refine ar_iinc (z := nI (j + 1)) (pc' := 32) hM rfl rfl (nI_1 _) rfl rfl rfl ?_
      refine ar_goto hM rfl ?_
      exact ih (j + 1) (y + (S.2.2.2.1 j)) (by omega) (by rw [hy]; rfl)
  exact loop (T.2.2.1) 0 0 (by omega) rfl
