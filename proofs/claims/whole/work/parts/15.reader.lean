/-! the reader -/
abbrev p_D : Type := Int32 × Int32 × Nat × Nat × (Nat → Int32) × (Nat → Int32) × (Nat → Int32) × (Nat → Int32)
def p_step (st : Nat) (D : p_D) (c : Int32) : Option (Nat × p_D) := match D with
  | (tr, ri, n, kk, wa, ki, ba, he) => match st with
    | 0 => if c = 84 then some (1, D) else none
    | 1 => if 0 ≤ c - 48 ∧ c - 48 ≤ 9 then some (2, (c - 48, ri, n, kk, wa, ki, ba, he)) else none
    | 2 => if 0 ≤ c - 48 ∧ c - 48 ≤ 1 then some (3, (tr, (if c - 48 = 1 then 1 else 0), n, kk, wa, ki, ba, he)) else none
    | 3 => if c = 72 ∧ n < 6 then some (4, (tr, ri, n + 1, kk, wa, ki, ba, he)) else if c = 68 ∧ kk < 5 then some (7, (tr, ri, n, kk + 1, wa, ki, ba, he)) else none
    | 4 => if 0 ≤ c - 48 ∧ c - 48 ≤ 9 then some (5, (tr, ri, n, kk, upd wa (n - 1) (c - 48), ki, ba, he)) else none
    | 5 => if 0 ≤ c - 48 ∧ c - 48 ≤ 3 then some (6, (tr, ri, n, kk, wa, upd ki (n - 1) (c - 48), ba, he)) else none
    | 6 => if 0 ≤ c - 48 ∧ c - 48 ≤ 9 then some (3, (tr, ri, n, kk, wa, ki, upd ba (n - 1) (c - 48), he)) else none
    | 7 => if 0 ≤ c - 48 ∧ c - 48 ≤ 3 then some (3, (tr, ri, n, kk, wa, ki, ba, upd he (kk - 1) (c - 48))) else none
    | _ => none
def p_is (w : am_W) (D : p_D) : Prop := match D with
  | (tr, ri, n, kk, wa, ki, ba, he) => w[6]? = some (.inr (9, [.int tr, .int ri, .int (nI n), .int (nI kk), .ref 7, .ref 8, .ref 9, .ref 10])) ∧ w[7]? = some (.inl (0, 6, .inl wa)) ∧ w[8]? = some (.inl (0, 6, .inl ki)) ∧ w[9]? = some (.inl (0, 6, .inl ba)) ∧ w[10]? = some (.inl (0, 5, .inl he))
def p_X : Nat → Prop := fun b => 6 ≤ b ∧ b ≤ 10
/-- what a stage says of the draft -/
def p_ok (st : Nat) (D : p_D) : Prop := st ≤ 7 ∧ D.2.2.1 ≤ 6 ∧ D.2.2.2.1 ≤ 5 ∧ (st = 4 ∨ st = 5 ∨ st = 6 → 0 < D.2.2.1) ∧ (st = 7 → 0 < D.2.2.2.1) ∧ (D.2.1 = 0 ∨ D.2.1 = 1)
def p_post (w : am_W) (st : Nat) (D : p_D) (c : Int32) (res : Option Value) (w' : am_W) : Prop := match p_step st D c with
  | some q => res = some (.int (nI q.1)) ∧ p_is w' q.2 ∧ am_same p_X w w'
  | none => res = some (.int (-9)) ∧ w' = w
theorem p_post_s {w : am_W} {st : Nat} {D : p_D} {c : Int32} {res : Option Value} {w' : am_W} {q : Nat × p_D} (h : p_step st D c = some q) (h2 : res = some (.int (nI q.1)) ∧ p_is w' q.2 ∧ am_same p_X w w') : p_post w st D c res w' := by unfold p_post; rw [h]; exact h2
theorem p_post_n {w : am_W} {st : Nat} {D : p_D} {c : Int32} {res : Option Value} {w' : am_W} (h : p_step st D c = none) (h2 : res = some (.int (-9)) ∧ w' = w) : p_post w st D c res w' := by unfold p_post; rw [h]; exact h2
set_option maxRecDepth 100000 in
set_option maxHeartbeats 4000000 in
theorem c_putLast6 (w : am_W) (q : Nat) (h2q : 2 ≤ q) (f : Nat → Int32) (hq : w[q]? = some (.inl (0, 6, .inl f))) (m : Nat) (hm : 0 < m) (hm6 : m ≤ 6) (x nx : Int32) : am_Go 29 (0, [.ref q, .int (nI m), .int x, .int nx], [], w, 0, 0) (fun res w' => res = some (.int nx) ∧ w' = w.set q (.inl (0, 6, .inl (upd f (m - 1) x)))) := by
  have hM : am_P[29]? = some zm_X3_putLast := rfl
  refine ar_iload_n (pc' := 1) hM rfl rfl rfl ?_
  refine ar_iconst (x := 1) (pc' := 2) hM rfl (by decide) rfl ?_
  refine ar_aload_n (pc' := 3) hM rfl rfl rfl ?_
  refine ar_arraylength (x := nI 6) (pc' := 4) hM rfl hq rfl rfl ?_
  refine ar_static (pc' := 7) (k3 := 0) (k4 := 0) hM rfl (by decide) rfl rfl (c_within _ _ _ _) (fun r4 w4 q4 => ?_)
  obtain ⟨rfl, q4w⟩ := q4
  rw [q4w]
  show am_Go 29 (7, [.ref q, .int (nI m), .int x, .int nx], [.int (if 1 ≤ (nI m) ∧ (nI m) ≤ (nI 6) then 1 else 0)], w, 0, 0) _
  refine ar_if_ne (pc' := 10) hM rfl rfl (fun _ => ?_) (fun q => absurd q (by rw [if_pos ⟨nI_le (a := 1) hm (by omega), nI_le (b := 6) hm6 (by omega)⟩]; decide))
  refine ar_aload_n (pc' := 14) hM rfl rfl rfl ?_
  refine ar_iload_n (pc' := 15) hM rfl rfl rfl ?_
  refine ar_iconst (x := 1) (pc' := 16) hM rfl (by decide) rfl ?_
  refine ar_isub (pc' := 17) hM rfl rfl ?_
  rw [show ((nI m) - 1 : Int32) = nI (m - 1) from i_pred hm]
  refine ar_iload_n (pc' := 18) hM rfl rfl rfl ?_
  refine ar_iastoreN (j := (m - 1)) (pc' := 19) hM rfl hq rfl (by omega) (Nat.le_of_ble_eq_true rfl) (by omega) rfl ?_
  refine ar_iload_n (pc' := 20) hM rfl rfl rfl ?_
  refine ar_ireturn hM rfl (Or.inl rfl) ?_
  exact ⟨rfl, rfl⟩
set_option maxRecDepth 100000 in
set_option maxHeartbeats 4000000 in
theorem c_putLast5 (w : am_W) (q : Nat) (h2q : 2 ≤ q) (f : Nat → Int32) (hq : w[q]? = some (.inl (0, 5, .inl f))) (m : Nat) (hm : 0 < m) (hm6 : m ≤ 5) (x nx : Int32) : am_Go 29 (0, [.ref q, .int (nI m), .int x, .int nx], [], w, 0, 0) (fun res w' => res = some (.int nx) ∧ w' = w.set q (.inl (0, 5, .inl (upd f (m - 1) x)))) := by
  have hM : am_P[29]? = some zm_X3_putLast := rfl
  refine ar_iload_n (pc' := 1) hM rfl rfl rfl ?_
  refine ar_iconst (x := 1) (pc' := 2) hM rfl (by decide) rfl ?_
  refine ar_aload_n (pc' := 3) hM rfl rfl rfl ?_
  refine ar_arraylength (x := nI 5) (pc' := 4) hM rfl hq rfl rfl ?_
  refine ar_static (pc' := 7) (k3 := 0) (k4 := 0) hM rfl (by decide) rfl rfl (c_within _ _ _ _) (fun r4 w4 q4 => ?_)
  obtain ⟨rfl, q4w⟩ := q4
  rw [q4w]
  show am_Go 29 (7, [.ref q, .int (nI m), .int x, .int nx], [.int (if 1 ≤ (nI m) ∧ (nI m) ≤ (nI 5) then 1 else 0)], w, 0, 0) _
  refine ar_if_ne (pc' := 10) hM rfl rfl (fun _ => ?_) (fun q => absurd q (by rw [if_pos ⟨nI_le (a := 1) hm (by omega), nI_le (b := 5) hm6 (by omega)⟩]; decide))
  refine ar_aload_n (pc' := 14) hM rfl rfl rfl ?_
  refine ar_iload_n (pc' := 15) hM rfl rfl rfl ?_
  refine ar_iconst (x := 1) (pc' := 16) hM rfl (by decide) rfl ?_
  refine ar_isub (pc' := 17) hM rfl rfl ?_
  rw [show ((nI m) - 1 : Int32) = nI (m - 1) from i_pred hm]
  refine ar_iload_n (pc' := 18) hM rfl rfl rfl ?_
  refine ar_iastoreN (j := (m - 1)) (pc' := 19) hM rfl hq rfl (by omega) (Nat.le_of_ble_eq_true rfl) (by omega) rfl ?_
  refine ar_iload_n (pc' := 20) hM rfl rfl rfl ?_
  refine ar_ireturn hM rfl (Or.inl rfl) ?_
  exact ⟨rfl, rfl⟩
set_option maxRecDepth 100000 in
set_option maxHeartbeats 4000000 in
theorem c_tf1 (w : am_W) (tr ri : Int32) (n kk : Nat) (hn : n ≤ 6) (hkk : kk ≤ 5) (wa ki ba he : Nat → Int32) (hr0 : w[6]? = some (.inr (9, [.int tr, .int ri, .int (nI n), .int (nI kk), .ref 7, .ref 8, .ref 9, .ref 10]))) (hr1 : w[7]? = some (.inl (0, 6, .inl wa))) (hr2 : w[8]? = some (.inl (0, 6, .inl ki))) (hr3 : w[9]? = some (.inl (0, 6, .inl ba))) (hr4 : w[10]? = some (.inl (0, 5, .inl he))) (hr9 : w[5]? = some (.inr (3, [.ref 6]))) (c : Int32) : am_Go 28 (0, [.ref 5, .int 1, .int (c - 48), .int 9], [], w, 0, 0) (fun res w' => p_post w 1 (tr, ri, n, kk, wa, ki, ba, he) c res w') := by
  have hM : am_P[28]? = some zm_X3_takeFigure := rfl
  refine ar_iload_n (pc' := 1) hM rfl rfl rfl ?_
  refine ar_iconst (x := 0) (pc' := 2) hM rfl (by decide) rfl ?_
  refine ar_iload_n (pc' := 3) hM rfl rfl rfl ?_
  refine ar_static (pc' := 6) (k3 := 0) (k4 := 0) hM rfl (by decide) rfl rfl (c_within _ _ _ _) (fun r3 w3 q3 => ?_)
  obtain ⟨rfl, q3w⟩ := q3
  rw [q3w]
  show am_Go 28 (6, [.ref 5, .int 1, .int (c - 48), .int 9], [.int (if 0 ≤ (c - 48) ∧ (c - 48) ≤ 9 then 1 else 0)], w, 0, 0) _
  refine ar_if_ne (pc' := 9) hM rfl rfl (fun c6 => ?_) (fun c6 => ?_)
  · refine ar_iload_n (pc' := 13) hM rfl rfl rfl ?_
    refine ar_tableIn (off := 43) (t := 56) hM rfl (by decide) (by decide) (by decide) ?_
    refine ar_aload_n (pc' := 57) hM rfl rfl rfl ?_
    refine ar_getfield (pc' := 60) hM rfl hr9 rfl rfl ?_
    refine ar_iload_n (pc' := 61) hM rfl rfl rfl ?_
    refine ar_putfield (pc' := 64) hM rfl hr0 (Nat.le_of_ble_eq_true rfl) rfl (by decide) rfl ?_
    show am_Go 28 (64, [.ref 5, .int 1, .int (c - 48), .int 9], [], (w.set 6 (.inr (9, [.int (c - 48), .int ri, .int (nI n), .int (nI kk), .ref 7, .ref 8, .ref 9, .ref 10]))), 0, 0) _
    refine ar_iconst (x := 2) (pc' := 65) hM rfl (by decide) rfl ?_
    refine ar_ireturn hM rfl (Or.inl rfl) ?_
    exact p_post_s (by simp only [p_step]; rw [if_pos (am_ne0 c6)]) ⟨rfl, ⟨(am_gs hr0), (am_gn (by decide) hr1), (am_gn (by decide) hr2), (am_gn (by decide) hr3), (am_gn (by decide) hr4)⟩, (am_same.set am_same.rf (by unfold p_X; omega))⟩
  · refine ar_bipush (x := (-9)) (pc' := 11) hM rfl (by decide) rfl ?_
    refine ar_ireturn hM rfl (Or.inl rfl) ?_
    exact p_post_n (by simp only [p_step]; rw [if_neg (am_eq0 c6)]) ⟨rfl, rfl⟩
set_option maxRecDepth 100000 in
set_option maxHeartbeats 4000000 in
theorem c_tf2 (w : am_W) (tr ri : Int32) (n kk : Nat) (hn : n ≤ 6) (hkk : kk ≤ 5) (wa ki ba he : Nat → Int32) (hr0 : w[6]? = some (.inr (9, [.int tr, .int ri, .int (nI n), .int (nI kk), .ref 7, .ref 8, .ref 9, .ref 10]))) (hr1 : w[7]? = some (.inl (0, 6, .inl wa))) (hr2 : w[8]? = some (.inl (0, 6, .inl ki))) (hr3 : w[9]? = some (.inl (0, 6, .inl ba))) (hr4 : w[10]? = some (.inl (0, 5, .inl he))) (hr9 : w[5]? = some (.inr (3, [.ref 6]))) (c : Int32) : am_Go 28 (0, [.ref 5, .int 2, .int (c - 48), .int 1], [], w, 0, 0) (fun res w' => p_post w 2 (tr, ri, n, kk, wa, ki, ba, he) c res w') := by
  have hM : am_P[28]? = some zm_X3_takeFigure := rfl
  refine ar_iload_n (pc' := 1) hM rfl rfl rfl ?_
  refine ar_iconst (x := 0) (pc' := 2) hM rfl (by decide) rfl ?_
  refine ar_iload_n (pc' := 3) hM rfl rfl rfl ?_
  refine ar_static (pc' := 6) (k3 := 0) (k4 := 0) hM rfl (by decide) rfl rfl (c_within _ _ _ _) (fun r3 w3 q3 => ?_)
  obtain ⟨rfl, q3w⟩ := q3
  rw [q3w]
  show am_Go 28 (6, [.ref 5, .int 2, .int (c - 48), .int 1], [.int (if 0 ≤ (c - 48) ∧ (c - 48) ≤ 1 then 1 else 0)], w, 0, 0) _
  refine ar_if_ne (pc' := 9) hM rfl rfl (fun c6 => ?_) (fun c6 => ?_)
  · refine ar_iload_n (pc' := 13) hM rfl rfl rfl ?_
    refine ar_tableIn (off := 53) (t := 66) hM rfl (by decide) (by decide) (by decide) ?_
    refine ar_aload_n (pc' := 67) hM rfl rfl rfl ?_
    refine ar_getfield (pc' := 70) hM rfl hr9 rfl rfl ?_
    refine ar_iload_n (pc' := 71) hM rfl rfl rfl ?_
    refine ar_iconst (x := 1) (pc' := 72) hM rfl (by decide) rfl ?_
    suffices hj72 : ∀ z_72 : Int32, z_72 = (if (c - 48) = (1 : Int32) then 1 else 0) → am_Go 28 (80, [.ref 5, .int 2, .int (c - 48), .int 1], [.int z_72, .ref 6], w, 0, 0) _ by
      refine ar_icmp_ne (pc' := 75) hM rfl rfl (fun c => ?_) (fun c => ?_)
      · refine ar_iconst (x := 0) (pc' := 80) hM rfl (by decide) rfl ?_
        exact hj72 _ (if_neg c).symm
      · refine ar_iconst (x := 1) (pc' := 76) hM rfl (by decide) rfl ?_
        refine ar_goto hM rfl ?_
        exact hj72 _ (if_pos c).symm
    rintro _ rfl
    refine ar_putfield (pc' := 83) hM rfl hr0 (Nat.le_of_ble_eq_true rfl) (i_fit1 (am_b01)) (by decide) rfl ?_
    show am_Go 28 (83, [.ref 5, .int 2, .int (c - 48), .int 1], [], (w.set 6 (.inr (9, [.int tr, .int (if (c - 48) = (1 : Int32) then 1 else 0), .int (nI n), .int (nI kk), .ref 7, .ref 8, .ref 9, .ref 10]))), 0, 0) _
    refine ar_iconst (x := 3) (pc' := 84) hM rfl (by decide) rfl ?_
    refine ar_ireturn hM rfl (Or.inl rfl) ?_
    exact p_post_s (by simp only [p_step]; rw [if_pos (am_ne0 c6)]) ⟨rfl, ⟨(am_gs hr0), (am_gn (by decide) hr1), (am_gn (by decide) hr2), (am_gn (by decide) hr3), (am_gn (by decide) hr4)⟩, (am_same.set am_same.rf (by unfold p_X; omega))⟩
  · refine ar_bipush (x := (-9)) (pc' := 11) hM rfl (by decide) rfl ?_
    refine ar_ireturn hM rfl (Or.inl rfl) ?_
    exact p_post_n (by simp only [p_step]; rw [if_neg (am_eq0 c6)]) ⟨rfl, rfl⟩
set_option maxRecDepth 100000 in
set_option maxHeartbeats 4000000 in
theorem c_tf4 (w : am_W) (tr ri : Int32) (n kk : Nat) (hn : n ≤ 6) (hkk : kk ≤ 5) (wa ki ba he : Nat → Int32) (hr0 : w[6]? = some (.inr (9, [.int tr, .int ri, .int (nI n), .int (nI kk), .ref 7, .ref 8, .ref 9, .ref 10]))) (hr1 : w[7]? = some (.inl (0, 6, .inl wa))) (hr2 : w[8]? = some (.inl (0, 6, .inl ki))) (hr3 : w[9]? = some (.inl (0, 6, .inl ba))) (hr4 : w[10]? = some (.inl (0, 5, .inl he))) (hr9 : w[5]? = some (.inr (3, [.ref 6]))) (hpos : 0 < n) (c : Int32) : am_Go 28 (0, [.ref 5, .int 4, .int (c - 48), .int 9], [], w, 0, 0) (fun res w' => p_post w 4 (tr, ri, n, kk, wa, ki, ba, he) c res w') := by
  have hM : am_P[28]? = some zm_X3_takeFigure := rfl
  refine ar_iload_n (pc' := 1) hM rfl rfl rfl ?_
  refine ar_iconst (x := 0) (pc' := 2) hM rfl (by decide) rfl ?_
  refine ar_iload_n (pc' := 3) hM rfl rfl rfl ?_
  refine ar_static (pc' := 6) (k3 := 0) (k4 := 0) hM rfl (by decide) rfl rfl (c_within _ _ _ _) (fun r3 w3 q3 => ?_)
  obtain ⟨rfl, q3w⟩ := q3
  rw [q3w]
  show am_Go 28 (6, [.ref 5, .int 4, .int (c - 48), .int 9], [.int (if 0 ≤ (c - 48) ∧ (c - 48) ≤ 9 then 1 else 0)], w, 0, 0) _
  refine ar_if_ne (pc' := 9) hM rfl rfl (fun c6 => ?_) (fun c6 => ?_)
  · refine ar_iload_n (pc' := 13) hM rfl rfl rfl ?_
    refine ar_tableIn (off := 92) (t := 105) hM rfl (by decide) (by decide) (by decide) ?_
    refine ar_aload_n (pc' := 106) hM rfl rfl rfl ?_
    refine ar_getfield (pc' := 109) hM rfl hr9 rfl rfl ?_
    refine ar_getfield (pc' := 112) hM rfl hr0 rfl rfl ?_
    refine ar_aload_n (pc' := 113) hM rfl rfl rfl ?_
    refine ar_getfield (pc' := 116) hM rfl hr9 rfl rfl ?_
    refine ar_getfield (pc' := 119) hM rfl hr0 rfl rfl ?_
    refine ar_iload_n (pc' := 120) hM rfl rfl rfl ?_
    refine ar_iconst (x := 5) (pc' := 121) hM rfl (by decide) rfl ?_
    refine ar_static (pc' := 124) (k3 := 0) (k4 := 0) hM rfl (by decide) rfl rfl (c_putLast6 _ 7 (by decide) _ hr1 n hpos (by omega) _ _) (fun r121 w121 q121 => ?_)
    obtain ⟨rfl, q121w⟩ := q121
    rw [q121w]
    show am_Go 28 (124, [.ref 5, .int 4, .int (c - 48), .int 9], [.int 5], (w.set 7 (.inl (0, 6, .inl (upd wa (n - 1) (c - 48))))), 0, 0) _
    refine ar_ireturn hM rfl (Or.inl rfl) ?_
    exact p_post_s (by simp only [p_step]; rw [if_pos (am_ne0 c6)]) ⟨rfl, ⟨(am_gn (by decide) hr0), (am_gs hr1), (am_gn (by decide) hr2), (am_gn (by decide) hr3), (am_gn (by decide) hr4)⟩, (am_same.set am_same.rf (by unfold p_X; omega))⟩
  · refine ar_bipush (x := (-9)) (pc' := 11) hM rfl (by decide) rfl ?_
    refine ar_ireturn hM rfl (Or.inl rfl) ?_
    exact p_post_n (by simp only [p_step]; rw [if_neg (am_eq0 c6)]) ⟨rfl, rfl⟩
set_option maxRecDepth 100000 in
set_option maxHeartbeats 4000000 in
theorem c_tf5 (w : am_W) (tr ri : Int32) (n kk : Nat) (hn : n ≤ 6) (hkk : kk ≤ 5) (wa ki ba he : Nat → Int32) (hr0 : w[6]? = some (.inr (9, [.int tr, .int ri, .int (nI n), .int (nI kk), .ref 7, .ref 8, .ref 9, .ref 10]))) (hr1 : w[7]? = some (.inl (0, 6, .inl wa))) (hr2 : w[8]? = some (.inl (0, 6, .inl ki))) (hr3 : w[9]? = some (.inl (0, 6, .inl ba))) (hr4 : w[10]? = some (.inl (0, 5, .inl he))) (hr9 : w[5]? = some (.inr (3, [.ref 6]))) (hpos : 0 < n) (c : Int32) : am_Go 28 (0, [.ref 5, .int 5, .int (c - 48), .int 3], [], w, 0, 0) (fun res w' => p_post w 5 (tr, ri, n, kk, wa, ki, ba, he) c res w') := by
  have hM : am_P[28]? = some zm_X3_takeFigure := rfl
  refine ar_iload_n (pc' := 1) hM rfl rfl rfl ?_
  refine ar_iconst (x := 0) (pc' := 2) hM rfl (by decide) rfl ?_
  refine ar_iload_n (pc' := 3) hM rfl rfl rfl ?_
  refine ar_static (pc' := 6) (k3 := 0) (k4 := 0) hM rfl (by decide) rfl rfl (c_within _ _ _ _) (fun r3 w3 q3 => ?_)
  obtain ⟨rfl, q3w⟩ := q3
  rw [q3w]
  show am_Go 28 (6, [.ref 5, .int 5, .int (c - 48), .int 3], [.int (if 0 ≤ (c - 48) ∧ (c - 48) ≤ 3 then 1 else 0)], w, 0, 0) _
  refine ar_if_ne (pc' := 9) hM rfl rfl (fun c6 => ?_) (fun c6 => ?_)
  · refine ar_iload_n (pc' := 13) hM rfl rfl rfl ?_
    refine ar_tableIn (off := 112) (t := 125) hM rfl (by decide) (by decide) (by decide) ?_
    refine ar_aload_n (pc' := 126) hM rfl rfl rfl ?_
    refine ar_getfield (pc' := 129) hM rfl hr9 rfl rfl ?_
    refine ar_getfield (pc' := 132) hM rfl hr0 rfl rfl ?_
    refine ar_aload_n (pc' := 133) hM rfl rfl rfl ?_
    refine ar_getfield (pc' := 136) hM rfl hr9 rfl rfl ?_
    refine ar_getfield (pc' := 139) hM rfl hr0 rfl rfl ?_
    refine ar_iload_n (pc' := 140) hM rfl rfl rfl ?_
    refine ar_bipush (x := 6) (pc' := 142) hM rfl (by decide) rfl ?_
    refine ar_static (pc' := 145) (k3 := 0) (k4 := 0) hM rfl (by decide) rfl rfl (c_putLast6 _ 8 (by decide) _ hr2 n hpos (by omega) _ _) (fun r142 w142 q142 => ?_)
    obtain ⟨rfl, q142w⟩ := q142
    rw [q142w]
    show am_Go 28 (145, [.ref 5, .int 5, .int (c - 48), .int 3], [.int 6], (w.set 8 (.inl (0, 6, .inl (upd ki (n - 1) (c - 48))))), 0, 0) _
    refine ar_ireturn hM rfl (Or.inl rfl) ?_
    exact p_post_s (by simp only [p_step]; rw [if_pos (am_ne0 c6)]) ⟨rfl, ⟨(am_gn (by decide) hr0), (am_gn (by decide) hr1), (am_gs hr2), (am_gn (by decide) hr3), (am_gn (by decide) hr4)⟩, (am_same.set am_same.rf (by unfold p_X; omega))⟩
  · refine ar_bipush (x := (-9)) (pc' := 11) hM rfl (by decide) rfl ?_
    refine ar_ireturn hM rfl (Or.inl rfl) ?_
    exact p_post_n (by simp only [p_step]; rw [if_neg (am_eq0 c6)]) ⟨rfl, rfl⟩
set_option maxRecDepth 100000 in
set_option maxHeartbeats 4000000 in
theorem c_tf6 (w : am_W) (tr ri : Int32) (n kk : Nat) (hn : n ≤ 6) (hkk : kk ≤ 5) (wa ki ba he : Nat → Int32) (hr0 : w[6]? = some (.inr (9, [.int tr, .int ri, .int (nI n), .int (nI kk), .ref 7, .ref 8, .ref 9, .ref 10]))) (hr1 : w[7]? = some (.inl (0, 6, .inl wa))) (hr2 : w[8]? = some (.inl (0, 6, .inl ki))) (hr3 : w[9]? = some (.inl (0, 6, .inl ba))) (hr4 : w[10]? = some (.inl (0, 5, .inl he))) (hr9 : w[5]? = some (.inr (3, [.ref 6]))) (hpos : 0 < n) (c : Int32) : am_Go 28 (0, [.ref 5, .int 6, .int (c - 48), .int 9], [], w, 0, 0) (fun res w' => p_post w 6 (tr, ri, n, kk, wa, ki, ba, he) c res w') := by
  have hM : am_P[28]? = some zm_X3_takeFigure := rfl
  refine ar_iload_n (pc' := 1) hM rfl rfl rfl ?_
  refine ar_iconst (x := 0) (pc' := 2) hM rfl (by decide) rfl ?_
  refine ar_iload_n (pc' := 3) hM rfl rfl rfl ?_
  refine ar_static (pc' := 6) (k3 := 0) (k4 := 0) hM rfl (by decide) rfl rfl (c_within _ _ _ _) (fun r3 w3 q3 => ?_)
  obtain ⟨rfl, q3w⟩ := q3
  rw [q3w]
  show am_Go 28 (6, [.ref 5, .int 6, .int (c - 48), .int 9], [.int (if 0 ≤ (c - 48) ∧ (c - 48) ≤ 9 then 1 else 0)], w, 0, 0) _
  refine ar_if_ne (pc' := 9) hM rfl rfl (fun c6 => ?_) (fun c6 => ?_)
  · refine ar_iload_n (pc' := 13) hM rfl rfl rfl ?_
    refine ar_tableIn (off := 133) (t := 146) hM rfl (by decide) (by decide) (by decide) ?_
    refine ar_aload_n (pc' := 147) hM rfl rfl rfl ?_
    refine ar_getfield (pc' := 150) hM rfl hr9 rfl rfl ?_
    refine ar_getfield (pc' := 153) hM rfl hr0 rfl rfl ?_
    refine ar_aload_n (pc' := 154) hM rfl rfl rfl ?_
    refine ar_getfield (pc' := 157) hM rfl hr9 rfl rfl ?_
    refine ar_getfield (pc' := 160) hM rfl hr0 rfl rfl ?_
    refine ar_iload_n (pc' := 161) hM rfl rfl rfl ?_
    refine ar_iconst (x := 3) (pc' := 162) hM rfl (by decide) rfl ?_
    refine ar_static (pc' := 165) (k3 := 0) (k4 := 0) hM rfl (by decide) rfl rfl (c_putLast6 _ 9 (by decide) _ hr3 n hpos (by omega) _ _) (fun r162 w162 q162 => ?_)
    obtain ⟨rfl, q162w⟩ := q162
    rw [q162w]
    show am_Go 28 (165, [.ref 5, .int 6, .int (c - 48), .int 9], [.int 3], (w.set 9 (.inl (0, 6, .inl (upd ba (n - 1) (c - 48))))), 0, 0) _
    refine ar_ireturn hM rfl (Or.inl rfl) ?_
    exact p_post_s (by simp only [p_step]; rw [if_pos (am_ne0 c6)]) ⟨rfl, ⟨(am_gn (by decide) hr0), (am_gn (by decide) hr1), (am_gn (by decide) hr2), (am_gs hr3), (am_gn (by decide) hr4)⟩, (am_same.set am_same.rf (by unfold p_X; omega))⟩
  · refine ar_bipush (x := (-9)) (pc' := 11) hM rfl (by decide) rfl ?_
    refine ar_ireturn hM rfl (Or.inl rfl) ?_
    exact p_post_n (by simp only [p_step]; rw [if_neg (am_eq0 c6)]) ⟨rfl, rfl⟩
set_option maxRecDepth 100000 in
set_option maxHeartbeats 4000000 in
theorem c_tf7 (w : am_W) (tr ri : Int32) (n kk : Nat) (hn : n ≤ 6) (hkk : kk ≤ 5) (wa ki ba he : Nat → Int32) (hr0 : w[6]? = some (.inr (9, [.int tr, .int ri, .int (nI n), .int (nI kk), .ref 7, .ref 8, .ref 9, .ref 10]))) (hr1 : w[7]? = some (.inl (0, 6, .inl wa))) (hr2 : w[8]? = some (.inl (0, 6, .inl ki))) (hr3 : w[9]? = some (.inl (0, 6, .inl ba))) (hr4 : w[10]? = some (.inl (0, 5, .inl he))) (hr9 : w[5]? = some (.inr (3, [.ref 6]))) (hpos : 0 < kk) (c : Int32) : am_Go 28 (0, [.ref 5, .int 7, .int (c - 48), .int 3], [], w, 0, 0) (fun res w' => p_post w 7 (tr, ri, n, kk, wa, ki, ba, he) c res w') := by
  have hM : am_P[28]? = some zm_X3_takeFigure := rfl
  refine ar_iload_n (pc' := 1) hM rfl rfl rfl ?_
  refine ar_iconst (x := 0) (pc' := 2) hM rfl (by decide) rfl ?_
  refine ar_iload_n (pc' := 3) hM rfl rfl rfl ?_
  refine ar_static (pc' := 6) (k3 := 0) (k4 := 0) hM rfl (by decide) rfl rfl (c_within _ _ _ _) (fun r3 w3 q3 => ?_)
  obtain ⟨rfl, q3w⟩ := q3
  rw [q3w]
  show am_Go 28 (6, [.ref 5, .int 7, .int (c - 48), .int 3], [.int (if 0 ≤ (c - 48) ∧ (c - 48) ≤ 3 then 1 else 0)], w, 0, 0) _
  refine ar_if_ne (pc' := 9) hM rfl rfl (fun c6 => ?_) (fun c6 => ?_)
  · refine ar_iload_n (pc' := 13) hM rfl rfl rfl ?_
    refine ar_tableIn (off := 72) (t := 85) hM rfl (by decide) (by decide) (by decide) ?_
    refine ar_aload_n (pc' := 86) hM rfl rfl rfl ?_
    refine ar_getfield (pc' := 89) hM rfl hr9 rfl rfl ?_
    refine ar_getfield (pc' := 92) hM rfl hr0 rfl rfl ?_
    refine ar_aload_n (pc' := 93) hM rfl rfl rfl ?_
    refine ar_getfield (pc' := 96) hM rfl hr9 rfl rfl ?_
    refine ar_getfield (pc' := 99) hM rfl hr0 rfl rfl ?_
    refine ar_iload_n (pc' := 100) hM rfl rfl rfl ?_
    refine ar_iconst (x := 3) (pc' := 101) hM rfl (by decide) rfl ?_
    refine ar_static (pc' := 104) (k3 := 0) (k4 := 0) hM rfl (by decide) rfl rfl (c_putLast5 _ 10 (by decide) _ hr4 kk hpos (by omega) _ _) (fun r101 w101 q101 => ?_)
    obtain ⟨rfl, q101w⟩ := q101
    rw [q101w]
    show am_Go 28 (104, [.ref 5, .int 7, .int (c - 48), .int 3], [.int 3], (w.set 10 (.inl (0, 5, .inl (upd he (kk - 1) (c - 48))))), 0, 0) _
    refine ar_ireturn hM rfl (Or.inl rfl) ?_
    exact p_post_s (by simp only [p_step]; rw [if_pos (am_ne0 c6)]) ⟨rfl, ⟨(am_gn (by decide) hr0), (am_gn (by decide) hr1), (am_gn (by decide) hr2), (am_gn (by decide) hr3), (am_gs hr4)⟩, (am_same.set am_same.rf (by unfold p_X; omega))⟩
  · refine ar_bipush (x := (-9)) (pc' := 11) hM rfl (by decide) rfl ?_
    refine ar_ireturn hM rfl (Or.inl rfl) ?_
    exact p_post_n (by simp only [p_step]; rw [if_neg (am_eq0 c6)]) ⟨rfl, rfl⟩
theorem i_nge {a b : Nat} (h : ¬ nI b ≤ nI a) (ha : a < 2 ^ 31) : a < b := by
  rcases Nat.lt_or_ge a b with q | q
  · exact q
  · exact absurd (nI_le q ha) h
set_option maxRecDepth 100000 in
set_option maxHeartbeats 4000000 in
theorem c_takePart (w : am_W) (tr ri : Int32) (n kk : Nat) (hn : n ≤ 6) (hkk : kk ≤ 5) (wa ki ba he : Nat → Int32) (hr0 : w[6]? = some (.inr (9, [.int tr, .int ri, .int (nI n), .int (nI kk), .ref 7, .ref 8, .ref 9, .ref 10]))) (hr1 : w[7]? = some (.inl (0, 6, .inl wa))) (hr2 : w[8]? = some (.inl (0, 6, .inl ki))) (hr3 : w[9]? = some (.inl (0, 6, .inl ba))) (hr4 : w[10]? = some (.inl (0, 5, .inl he))) (hr9 : w[5]? = some (.inr (3, [.ref 6]))) (c : Int32) : am_Go 27 (0, [.ref 5, .int c], [], w, 0, 0) (fun res w' => p_post w 3 (tr, ri, n, kk, wa, ki, ba, he) c res w') := by
  have hM : am_P[27]? = some zm_X3_takePart := rfl
  refine ar_iload_n (pc' := 1) hM rfl rfl rfl ?_
  refine ar_bipush (x := 72) (pc' := 3) hM rfl (by decide) rfl ?_
  refine ar_icmp_ne (pc' := 6) hM rfl rfl (fun c3 => ?_) (fun c3 => ?_)
  · refine ar_iload_n (pc' := 34) hM rfl rfl rfl ?_
    refine ar_bipush (x := 68) (pc' := 36) hM rfl (by decide) rfl ?_
    refine ar_icmp_ne (pc' := 39) hM rfl rfl (fun c36 => ?_) (fun c36 => ?_)
    · refine ar_bipush (x := (-9)) (pc' := 68) hM rfl (by decide) rfl ?_
      refine ar_ireturn hM rfl (Or.inl rfl) ?_
      exact p_post_n (by simp only [p_step]; rw [if_neg (fun h => c3 h.1), if_neg (fun h => c36 h.1)]) ⟨rfl, rfl⟩
    · refine ar_aload_n (pc' := 40) hM rfl rfl rfl ?_
      refine ar_getfield (pc' := 43) hM rfl hr9 rfl rfl ?_
      refine ar_getfield (pc' := 46) hM rfl hr0 rfl rfl ?_
      refine ar_iconst (x := 5) (pc' := 47) hM rfl (by decide) rfl ?_
      refine ar_icmp_ge (pc' := 50) hM rfl rfl (fun c47 => ?_) (fun c47 => ?_)
      · refine ar_bipush (x := (-9)) (pc' := 68) hM rfl (by decide) rfl ?_
        refine ar_ireturn hM rfl (Or.inl rfl) ?_
        exact p_post_n (by simp only [p_step]; rw [if_neg (fun h => c3 h.1), if_neg (fun h => absurd c47 (nI_ge (a := kk) (b := 5) h.2 (by omega)))]) ⟨rfl, rfl⟩
      · refine ar_aload_n (pc' := 51) hM rfl rfl rfl ?_
        refine ar_getfield (pc' := 54) hM rfl hr9 rfl rfl ?_
        refine ar_dup (pc' := 55) hM rfl rfl rfl ?_
        refine ar_getfield (pc' := 58) hM rfl hr0 rfl rfl ?_
        refine ar_iconst (x := 1) (pc' := 59) hM rfl (by decide) rfl ?_
        refine ar_iadd (pc' := 60) hM rfl rfl ?_
        rw [show ((nI kk) + 1 : Int32) = nI (kk + 1) from nI_1 kk]
        refine ar_putfield (pc' := 63) hM rfl hr0 (Nat.le_of_ble_eq_true rfl) rfl (by decide) rfl ?_
        show am_Go 27 (63, [.ref 5, .int c], [], (w.set 6 (.inr (9, [.int tr, .int ri, .int (nI n), .int (nI (kk + 1)), .ref 7, .ref 8, .ref 9, .ref 10]))), 0, 0) _
        refine ar_bipush (x := 7) (pc' := 65) hM rfl (by decide) rfl ?_
        refine ar_ireturn hM rfl (Or.inl rfl) ?_
        exact p_post_s (by simp only [p_step]; rw [if_neg (fun h => c3 h.1), if_pos ⟨c36, i_nge c47 (by omega)⟩]) ⟨rfl, ⟨(am_gs hr0), (am_gn (by decide) hr1), (am_gn (by decide) hr2), (am_gn (by decide) hr3), (am_gn (by decide) hr4)⟩, (am_same.set am_same.rf (by unfold p_X; omega))⟩
  · refine ar_aload_n (pc' := 7) hM rfl rfl rfl ?_
    refine ar_getfield (pc' := 10) hM rfl hr9 rfl rfl ?_
    refine ar_getfield (pc' := 13) hM rfl hr0 rfl rfl ?_
    refine ar_bipush (x := 6) (pc' := 15) hM rfl (by decide) rfl ?_
    refine ar_icmp_ge (pc' := 18) hM rfl rfl (fun c15 => ?_) (fun c15 => ?_)
    · refine ar_iload_n (pc' := 34) hM rfl rfl rfl ?_
      refine ar_bipush (x := 68) (pc' := 36) hM rfl (by decide) rfl ?_
      refine ar_icmp_ne (pc' := 39) hM rfl rfl (fun c36 => ?_) (fun c36 => ?_)
      · refine ar_bipush (x := (-9)) (pc' := 68) hM rfl (by decide) rfl ?_
        refine ar_ireturn hM rfl (Or.inl rfl) ?_
        exact p_post_n (by simp only [p_step]; rw [if_neg (fun h => absurd c15 (nI_ge (a := n) (b := 6) h.2 (by omega))), if_neg (fun h => c36 h.1)]) ⟨rfl, rfl⟩
      · refine ar_aload_n (pc' := 40) hM rfl rfl rfl ?_
        refine ar_getfield (pc' := 43) hM rfl hr9 rfl rfl ?_
        refine ar_getfield (pc' := 46) hM rfl hr0 rfl rfl ?_
        refine ar_iconst (x := 5) (pc' := 47) hM rfl (by decide) rfl ?_
        refine ar_icmp_ge (pc' := 50) hM rfl rfl (fun c47 => ?_) (fun c47 => ?_)
        · refine ar_bipush (x := (-9)) (pc' := 68) hM rfl (by decide) rfl ?_
          refine ar_ireturn hM rfl (Or.inl rfl) ?_
          exact p_post_n (by simp only [p_step]; rw [if_neg (fun h => absurd c15 (nI_ge (a := n) (b := 6) h.2 (by omega))), if_neg (fun h => absurd c47 (nI_ge (a := kk) (b := 5) h.2 (by omega)))]) ⟨rfl, rfl⟩
        · refine ar_aload_n (pc' := 51) hM rfl rfl rfl ?_
          refine ar_getfield (pc' := 54) hM rfl hr9 rfl rfl ?_
          refine ar_dup (pc' := 55) hM rfl rfl rfl ?_
          refine ar_getfield (pc' := 58) hM rfl hr0 rfl rfl ?_
          refine ar_iconst (x := 1) (pc' := 59) hM rfl (by decide) rfl ?_
          refine ar_iadd (pc' := 60) hM rfl rfl ?_
          rw [show ((nI kk) + 1 : Int32) = nI (kk + 1) from nI_1 kk]
          refine ar_putfield (pc' := 63) hM rfl hr0 (Nat.le_of_ble_eq_true rfl) rfl (by decide) rfl ?_
          show am_Go 27 (63, [.ref 5, .int c], [], (w.set 6 (.inr (9, [.int tr, .int ri, .int (nI n), .int (nI (kk + 1)), .ref 7, .ref 8, .ref 9, .ref 10]))), 0, 0) _
          refine ar_bipush (x := 7) (pc' := 65) hM rfl (by decide) rfl ?_
          refine ar_ireturn hM rfl (Or.inl rfl) ?_
          exact p_post_s (by simp only [p_step]; rw [if_neg (fun h => absurd c15 (nI_ge (a := n) (b := 6) h.2 (by omega))), if_pos ⟨c36, i_nge c47 (by omega)⟩]) ⟨rfl, ⟨(am_gs hr0), (am_gn (by decide) hr1), (am_gn (by decide) hr2), (am_gn (by decide) hr3), (am_gn (by decide) hr4)⟩, (am_same.set am_same.rf (by unfold p_X; omega))⟩
    · refine ar_aload_n (pc' := 19) hM rfl rfl rfl ?_
      refine ar_getfield (pc' := 22) hM rfl hr9 rfl rfl ?_
      refine ar_dup (pc' := 23) hM rfl rfl rfl ?_
      refine ar_getfield (pc' := 26) hM rfl hr0 rfl rfl ?_
      refine ar_iconst (x := 1) (pc' := 27) hM rfl (by decide) rfl ?_
      refine ar_iadd (pc' := 28) hM rfl rfl ?_
      rw [show ((nI n) + 1 : Int32) = nI (n + 1) from nI_1 n]
      refine ar_putfield (pc' := 31) hM rfl hr0 (Nat.le_of_ble_eq_true rfl) rfl (by decide) rfl ?_
      show am_Go 27 (31, [.ref 5, .int c], [], (w.set 6 (.inr (9, [.int tr, .int ri, .int (nI (n + 1)), .int (nI kk), .ref 7, .ref 8, .ref 9, .ref 10]))), 0, 0) _
      refine ar_iconst (x := 4) (pc' := 32) hM rfl (by decide) rfl ?_
      refine ar_ireturn hM rfl (Or.inl rfl) ?_
      exact p_post_s (by simp only [p_step]; rw [if_pos ⟨c3, i_nge c15 (by omega)⟩]) ⟨rfl, ⟨(am_gs hr0), (am_gn (by decide) hr1), (am_gn (by decide) hr2), (am_gn (by decide) hr3), (am_gn (by decide) hr4)⟩, (am_same.set am_same.rf (by unfold p_X; omega))⟩
theorem p_post_int {w : am_W} {st : Nat} {D : p_D} {c : Int32} {res : Option Value} {w' : am_W} (h : p_post w st D c res w') : ∃ z, res = some (.int z) := by
  unfold p_post at h
  split at h
  · exact ⟨_, h.1⟩
  · exact ⟨_, h.1⟩
set_option maxRecDepth 100000 in
set_option maxHeartbeats 4000000 in
theorem c_take0 (w : am_W) (tr ri : Int32) (n kk : Nat) (hn : n ≤ 6) (hkk : kk ≤ 5) (wa ki ba he : Nat → Int32) (hr0 : w[6]? = some (.inr (9, [.int tr, .int ri, .int (nI n), .int (nI kk), .ref 7, .ref 8, .ref 9, .ref 10]))) (hr1 : w[7]? = some (.inl (0, 6, .inl wa))) (hr2 : w[8]? = some (.inl (0, 6, .inl ki))) (hr3 : w[9]? = some (.inl (0, 6, .inl ba))) (hr4 : w[10]? = some (.inl (0, 5, .inl he))) (hr9 : w[5]? = some (.inr (3, [.ref 6]))) (c : Int32) : am_Go 26 (0, [.ref 5, .int 0, .int c], [], w, 0, 0) (fun res w' => p_post w 0 (tr, ri, n, kk, wa, ki, ba, he) c res w') := by
  have hM : am_P[26]? = some zm_X3_take := rfl
  refine ar_iload_n (pc' := 1) hM rfl rfl rfl ?_
  refine ar_tableIn (off := 47) (t := 48) hM rfl (by decide) (by decide) (by decide) ?_
  refine ar_iload_n (pc' := 49) hM rfl rfl rfl ?_
  refine ar_bipush (x := 84) (pc' := 51) hM rfl (by decide) rfl ?_
  refine ar_icmp_ne (pc' := 54) hM rfl rfl (fun c51 => ?_) (fun c51 => ?_)
  · refine ar_bipush (x := (-9)) (pc' := 60) hM rfl (by decide) rfl ?_
    refine ar_ireturn hM rfl (Or.inl rfl) ?_
    exact p_post_n (by simp only [p_step]; rw [if_neg c51]) ⟨rfl, rfl⟩
  · refine ar_iconst (x := 1) (pc' := 55) hM rfl (by decide) rfl ?_
    refine ar_goto hM rfl ?_
    refine ar_ireturn hM rfl (Or.inl rfl) ?_
    exact p_post_s (by simp only [p_step]; rw [if_pos c51]) ⟨rfl, ⟨hr0, hr1, hr2, hr3, hr4⟩, am_same.rf⟩
set_option maxRecDepth 100000 in
set_option maxHeartbeats 4000000 in
theorem c_take1 (w : am_W) (tr ri : Int32) (n kk : Nat) (hn : n ≤ 6) (hkk : kk ≤ 5) (wa ki ba he : Nat → Int32) (hr0 : w[6]? = some (.inr (9, [.int tr, .int ri, .int (nI n), .int (nI kk), .ref 7, .ref 8, .ref 9, .ref 10]))) (hr1 : w[7]? = some (.inl (0, 6, .inl wa))) (hr2 : w[8]? = some (.inl (0, 6, .inl ki))) (hr3 : w[9]? = some (.inl (0, 6, .inl ba))) (hr4 : w[10]? = some (.inl (0, 5, .inl he))) (hr9 : w[5]? = some (.inr (3, [.ref 6]))) (c : Int32) : am_Go 26 (0, [.ref 5, .int 1, .int c], [], w, 0, 0) (fun res w' => p_post w 1 (tr, ri, n, kk, wa, ki, ba, he) c res w') := by
  have hM : am_P[26]? = some zm_X3_take := rfl
  refine ar_iload_n (pc' := 1) hM rfl rfl rfl ?_
  refine ar_tableIn (off := 66) (t := 67) hM rfl (by decide) (by decide) (by decide) ?_
  refine ar_aload_n (pc' := 68) hM rfl rfl rfl ?_
  refine ar_iload_n (pc' := 69) hM rfl rfl rfl ?_
  refine ar_iload_n (pc' := 70) hM rfl rfl rfl ?_
  refine ar_bipush (x := 48) (pc' := 72) hM rfl (by decide) rfl ?_
  refine ar_isub (pc' := 73) hM rfl rfl ?_
  refine ar_bipush (x := 9) (pc' := 75) hM rfl (by decide) rfl ?_
  refine ar_virtual (pc' := 78) (k3 := 0) (k4 := 0) hM rfl rfl hr9 ⟨rfl, (by decide)⟩ rfl rfl (c_tf1 _ tr ri n kk hn hkk wa ki ba he hr0 hr1 hr2 hr3 hr4 hr9 c) (fun r75 w75 q75 => ?_)
  obtain ⟨z, rfl⟩ := p_post_int q75
  show am_Go 26 (78, [.ref 5, .int 1, .int c], [.int z], w75, 0, 0) _
  refine ar_ireturn hM rfl (Or.inl rfl) ?_
  exact q75
set_option maxRecDepth 100000 in
set_option maxHeartbeats 4000000 in
theorem c_take2 (w : am_W) (tr ri : Int32) (n kk : Nat) (hn : n ≤ 6) (hkk : kk ≤ 5) (wa ki ba he : Nat → Int32) (hr0 : w[6]? = some (.inr (9, [.int tr, .int ri, .int (nI n), .int (nI kk), .ref 7, .ref 8, .ref 9, .ref 10]))) (hr1 : w[7]? = some (.inl (0, 6, .inl wa))) (hr2 : w[8]? = some (.inl (0, 6, .inl ki))) (hr3 : w[9]? = some (.inl (0, 6, .inl ba))) (hr4 : w[10]? = some (.inl (0, 5, .inl he))) (hr9 : w[5]? = some (.inr (3, [.ref 6]))) (c : Int32) : am_Go 26 (0, [.ref 5, .int 2, .int c], [], w, 0, 0) (fun res w' => p_post w 2 (tr, ri, n, kk, wa, ki, ba, he) c res w') := by
  have hM : am_P[26]? = some zm_X3_take := rfl
  refine ar_iload_n (pc' := 1) hM rfl rfl rfl ?_
  refine ar_tableIn (off := 78) (t := 79) hM rfl (by decide) (by decide) (by decide) ?_
  refine ar_aload_n (pc' := 80) hM rfl rfl rfl ?_
  refine ar_iload_n (pc' := 81) hM rfl rfl rfl ?_
  refine ar_iload_n (pc' := 82) hM rfl rfl rfl ?_
  refine ar_bipush (x := 48) (pc' := 84) hM rfl (by decide) rfl ?_
  refine ar_isub (pc' := 85) hM rfl rfl ?_
  refine ar_iconst (x := 1) (pc' := 86) hM rfl (by decide) rfl ?_
  refine ar_virtual (pc' := 89) (k3 := 0) (k4 := 0) hM rfl rfl hr9 ⟨rfl, (by decide)⟩ rfl rfl (c_tf2 _ tr ri n kk hn hkk wa ki ba he hr0 hr1 hr2 hr3 hr4 hr9 c) (fun r86 w86 q86 => ?_)
  obtain ⟨z, rfl⟩ := p_post_int q86
  show am_Go 26 (89, [.ref 5, .int 2, .int c], [.int z], w86, 0, 0) _
  refine ar_ireturn hM rfl (Or.inl rfl) ?_
  exact q86
set_option maxRecDepth 100000 in
set_option maxHeartbeats 4000000 in
theorem c_take3 (w : am_W) (tr ri : Int32) (n kk : Nat) (hn : n ≤ 6) (hkk : kk ≤ 5) (wa ki ba he : Nat → Int32) (hr0 : w[6]? = some (.inr (9, [.int tr, .int ri, .int (nI n), .int (nI kk), .ref 7, .ref 8, .ref 9, .ref 10]))) (hr1 : w[7]? = some (.inl (0, 6, .inl wa))) (hr2 : w[8]? = some (.inl (0, 6, .inl ki))) (hr3 : w[9]? = some (.inl (0, 6, .inl ba))) (hr4 : w[10]? = some (.inl (0, 5, .inl he))) (hr9 : w[5]? = some (.inr (3, [.ref 6]))) (c : Int32) : am_Go 26 (0, [.ref 5, .int 3, .int c], [], w, 0, 0) (fun res w' => p_post w 3 (tr, ri, n, kk, wa, ki, ba, he) c res w') := by
  have hM : am_P[26]? = some zm_X3_take := rfl
  refine ar_iload_n (pc' := 1) hM rfl rfl rfl ?_
  refine ar_tableIn (off := 60) (t := 61) hM rfl (by decide) (by decide) (by decide) ?_
  refine ar_aload_n (pc' := 62) hM rfl rfl rfl ?_
  refine ar_iload_n (pc' := 63) hM rfl rfl rfl ?_
  refine ar_virtual (pc' := 66) (k3 := 0) (k4 := 0) hM rfl rfl hr9 ⟨rfl, (by decide)⟩ rfl rfl (c_takePart _ tr ri n kk hn hkk wa ki ba he hr0 hr1 hr2 hr3 hr4 hr9 c) (fun r63 w63 q63 => ?_)
  obtain ⟨z, rfl⟩ := p_post_int q63
  show am_Go 26 (66, [.ref 5, .int 3, .int c], [.int z], w63, 0, 0) _
  refine ar_ireturn hM rfl (Or.inl rfl) ?_
  exact q63
set_option maxRecDepth 100000 in
set_option maxHeartbeats 4000000 in
theorem c_take4 (w : am_W) (tr ri : Int32) (n kk : Nat) (hn : n ≤ 6) (hkk : kk ≤ 5) (wa ki ba he : Nat → Int32) (hr0 : w[6]? = some (.inr (9, [.int tr, .int ri, .int (nI n), .int (nI kk), .ref 7, .ref 8, .ref 9, .ref 10]))) (hr1 : w[7]? = some (.inl (0, 6, .inl wa))) (hr2 : w[8]? = some (.inl (0, 6, .inl ki))) (hr3 : w[9]? = some (.inl (0, 6, .inl ba))) (hr4 : w[10]? = some (.inl (0, 5, .inl he))) (hr9 : w[5]? = some (.inr (3, [.ref 6]))) (hpos : 0 < n) (c : Int32) : am_Go 26 (0, [.ref 5, .int 4, .int c], [], w, 0, 0) (fun res w' => p_post w 4 (tr, ri, n, kk, wa, ki, ba, he) c res w') := by
  have hM : am_P[26]? = some zm_X3_take := rfl
  refine ar_iload_n (pc' := 1) hM rfl rfl rfl ?_
  refine ar_tableIn (off := 66) (t := 67) hM rfl (by decide) (by decide) (by decide) ?_
  refine ar_aload_n (pc' := 68) hM rfl rfl rfl ?_
  refine ar_iload_n (pc' := 69) hM rfl rfl rfl ?_
  refine ar_iload_n (pc' := 70) hM rfl rfl rfl ?_
  refine ar_bipush (x := 48) (pc' := 72) hM rfl (by decide) rfl ?_
  refine ar_isub (pc' := 73) hM rfl rfl ?_
  refine ar_bipush (x := 9) (pc' := 75) hM rfl (by decide) rfl ?_
  refine ar_virtual (pc' := 78) (k3 := 0) (k4 := 0) hM rfl rfl hr9 ⟨rfl, (by decide)⟩ rfl rfl (c_tf4 _ tr ri n kk hn hkk wa ki ba he hr0 hr1 hr2 hr3 hr4 hr9 hpos c) (fun r75 w75 q75 => ?_)
  obtain ⟨z, rfl⟩ := p_post_int q75
  show am_Go 26 (78, [.ref 5, .int 4, .int c], [.int z], w75, 0, 0) _
  refine ar_ireturn hM rfl (Or.inl rfl) ?_
  exact q75
set_option maxRecDepth 100000 in
set_option maxHeartbeats 4000000 in
theorem c_take5 (w : am_W) (tr ri : Int32) (n kk : Nat) (hn : n ≤ 6) (hkk : kk ≤ 5) (wa ki ba he : Nat → Int32) (hr0 : w[6]? = some (.inr (9, [.int tr, .int ri, .int (nI n), .int (nI kk), .ref 7, .ref 8, .ref 9, .ref 10]))) (hr1 : w[7]? = some (.inl (0, 6, .inl wa))) (hr2 : w[8]? = some (.inl (0, 6, .inl ki))) (hr3 : w[9]? = some (.inl (0, 6, .inl ba))) (hr4 : w[10]? = some (.inl (0, 5, .inl he))) (hr9 : w[5]? = some (.inr (3, [.ref 6]))) (hpos : 0 < n) (c : Int32) : am_Go 26 (0, [.ref 5, .int 5, .int c], [], w, 0, 0) (fun res w' => p_post w 5 (tr, ri, n, kk, wa, ki, ba, he) c res w') := by
  have hM : am_P[26]? = some zm_X3_take := rfl
  refine ar_iload_n (pc' := 1) hM rfl rfl rfl ?_
  refine ar_tableIn (off := 89) (t := 90) hM rfl (by decide) (by decide) (by decide) ?_
  refine ar_aload_n (pc' := 91) hM rfl rfl rfl ?_
  refine ar_iload_n (pc' := 92) hM rfl rfl rfl ?_
  refine ar_iload_n (pc' := 93) hM rfl rfl rfl ?_
  refine ar_bipush (x := 48) (pc' := 95) hM rfl (by decide) rfl ?_
  refine ar_isub (pc' := 96) hM rfl rfl ?_
  refine ar_iconst (x := 3) (pc' := 97) hM rfl (by decide) rfl ?_
  refine ar_virtual (pc' := 100) (k3 := 0) (k4 := 0) hM rfl rfl hr9 ⟨rfl, (by decide)⟩ rfl rfl (c_tf5 _ tr ri n kk hn hkk wa ki ba he hr0 hr1 hr2 hr3 hr4 hr9 hpos c) (fun r97 w97 q97 => ?_)
  obtain ⟨z, rfl⟩ := p_post_int q97
  show am_Go 26 (100, [.ref 5, .int 5, .int c], [.int z], w97, 0, 0) _
  refine ar_ireturn hM rfl (Or.inl rfl) ?_
  exact q97
set_option maxRecDepth 100000 in
set_option maxHeartbeats 4000000 in
theorem c_take6 (w : am_W) (tr ri : Int32) (n kk : Nat) (hn : n ≤ 6) (hkk : kk ≤ 5) (wa ki ba he : Nat → Int32) (hr0 : w[6]? = some (.inr (9, [.int tr, .int ri, .int (nI n), .int (nI kk), .ref 7, .ref 8, .ref 9, .ref 10]))) (hr1 : w[7]? = some (.inl (0, 6, .inl wa))) (hr2 : w[8]? = some (.inl (0, 6, .inl ki))) (hr3 : w[9]? = some (.inl (0, 6, .inl ba))) (hr4 : w[10]? = some (.inl (0, 5, .inl he))) (hr9 : w[5]? = some (.inr (3, [.ref 6]))) (hpos : 0 < n) (c : Int32) : am_Go 26 (0, [.ref 5, .int 6, .int c], [], w, 0, 0) (fun res w' => p_post w 6 (tr, ri, n, kk, wa, ki, ba, he) c res w') := by
  have hM : am_P[26]? = some zm_X3_take := rfl
  refine ar_iload_n (pc' := 1) hM rfl rfl rfl ?_
  refine ar_tableIn (off := 66) (t := 67) hM rfl (by decide) (by decide) (by decide) ?_
  refine ar_aload_n (pc' := 68) hM rfl rfl rfl ?_
  refine ar_iload_n (pc' := 69) hM rfl rfl rfl ?_
  refine ar_iload_n (pc' := 70) hM rfl rfl rfl ?_
  refine ar_bipush (x := 48) (pc' := 72) hM rfl (by decide) rfl ?_
  refine ar_isub (pc' := 73) hM rfl rfl ?_
  refine ar_bipush (x := 9) (pc' := 75) hM rfl (by decide) rfl ?_
  refine ar_virtual (pc' := 78) (k3 := 0) (k4 := 0) hM rfl rfl hr9 ⟨rfl, (by decide)⟩ rfl rfl (c_tf6 _ tr ri n kk hn hkk wa ki ba he hr0 hr1 hr2 hr3 hr4 hr9 hpos c) (fun r75 w75 q75 => ?_)
  obtain ⟨z, rfl⟩ := p_post_int q75
  show am_Go 26 (78, [.ref 5, .int 6, .int c], [.int z], w75, 0, 0) _
  refine ar_ireturn hM rfl (Or.inl rfl) ?_
  exact q75
set_option maxRecDepth 100000 in
set_option maxHeartbeats 4000000 in
theorem c_take7 (w : am_W) (tr ri : Int32) (n kk : Nat) (hn : n ≤ 6) (hkk : kk ≤ 5) (wa ki ba he : Nat → Int32) (hr0 : w[6]? = some (.inr (9, [.int tr, .int ri, .int (nI n), .int (nI kk), .ref 7, .ref 8, .ref 9, .ref 10]))) (hr1 : w[7]? = some (.inl (0, 6, .inl wa))) (hr2 : w[8]? = some (.inl (0, 6, .inl ki))) (hr3 : w[9]? = some (.inl (0, 6, .inl ba))) (hr4 : w[10]? = some (.inl (0, 5, .inl he))) (hr9 : w[5]? = some (.inr (3, [.ref 6]))) (hpos : 0 < kk) (c : Int32) : am_Go 26 (0, [.ref 5, .int 7, .int c], [], w, 0, 0) (fun res w' => p_post w 7 (tr, ri, n, kk, wa, ki, ba, he) c res w') := by
  have hM : am_P[26]? = some zm_X3_take := rfl
  refine ar_iload_n (pc' := 1) hM rfl rfl rfl ?_
  refine ar_tableIn (off := 100) (t := 101) hM rfl (by decide) (by decide) (by decide) ?_
  refine ar_aload_n (pc' := 102) hM rfl rfl rfl ?_
  refine ar_iload_n (pc' := 103) hM rfl rfl rfl ?_
  refine ar_iload_n (pc' := 104) hM rfl rfl rfl ?_
  refine ar_bipush (x := 48) (pc' := 106) hM rfl (by decide) rfl ?_
  refine ar_isub (pc' := 107) hM rfl rfl ?_
  refine ar_iconst (x := 3) (pc' := 108) hM rfl (by decide) rfl ?_
  refine ar_virtual (pc' := 111) (k3 := 0) (k4 := 0) hM rfl rfl hr9 ⟨rfl, (by decide)⟩ rfl rfl (c_tf7 _ tr ri n kk hn hkk wa ki ba he hr0 hr1 hr2 hr3 hr4 hr9 hpos c) (fun r108 w108 q108 => ?_)
  obtain ⟨z, rfl⟩ := p_post_int q108
  show am_Go 26 (111, [.ref 5, .int 7, .int c], [.int z], w108, 0, 0) _
  refine ar_ireturn hM rfl (Or.inl rfl) ?_
  exact q108
theorem c_take (w : am_W) (st : Nat) (D : p_D) (hok : p_ok st D) (his : p_is w D) (hr9 : w[5]? = some (.inr (3, [.ref 6]))) (c : Int32) : am_Go 26 (0, [.ref 5, .int (nI st), .int c], [], w, 0, 0) (fun res w' => p_post w st D c res w') := by
  obtain ⟨tr, ri, n, kk, wa, ki, ba, he⟩ := D
  obtain ⟨hr0, hr1, hr2, hr3, hr4⟩ := his
  obtain ⟨h7, hn, hkk, hp1, hp2, -⟩ := hok
  match st, h7, hp1, hp2 with
  | 0, _, _, _ => exact c_take0 w tr ri n kk hn hkk wa ki ba he hr0 hr1 hr2 hr3 hr4 hr9 c
  | 1, _, _, _ => exact c_take1 w tr ri n kk hn hkk wa ki ba he hr0 hr1 hr2 hr3 hr4 hr9 c
  | 2, _, _, _ => exact c_take2 w tr ri n kk hn hkk wa ki ba he hr0 hr1 hr2 hr3 hr4 hr9 c
  | 3, _, _, _ => exact c_take3 w tr ri n kk hn hkk wa ki ba he hr0 hr1 hr2 hr3 hr4 hr9 c
  | 4, _, hp1, _ => exact c_take4 w tr ri n kk hn hkk wa ki ba he hr0 hr1 hr2 hr3 hr4 hr9 (hp1 (Or.inl rfl)) c
  | 5, _, hp1, _ => exact c_take5 w tr ri n kk hn hkk wa ki ba he hr0 hr1 hr2 hr3 hr4 hr9 (hp1 (Or.inr (Or.inl rfl))) c
  | 6, _, hp1, _ => exact c_take6 w tr ri n kk hn hkk wa ki ba he hr0 hr1 hr2 hr3 hr4 hr9 (hp1 (Or.inr (Or.inr rfl))) c
  | 7, _, _, hp2 => exact c_take7 w tr ri n kk hn hkk wa ki ba he hr0 hr1 hr2 hr3 hr4 hr9 (hp2 rfl) c
  | k + 8, h7, _, _ => omega
theorem p_step_ok {st : Nat} {D : p_D} {c : Int32} {q : Nat × p_D} (hok : p_ok st D) (h : p_step st D c = some q) : p_ok q.1 q.2 := by
  obtain ⟨tr, ri, n, kk, wa, ki, ba, he⟩ := D
  obtain ⟨h7, hn, hkk, hp1, hp2, hb⟩ := hok
  simp only at hn hkk hp1 hp2 hb
  match st, h7, hp1, hp2, h with
  | 0, _, _, _, h => simp only [p_step] at h; split at h <;> cases h; refine ⟨?_, hn, hkk, ?_, ?_, hb⟩ <;> simp
  | 1, _, _, _, h => simp only [p_step] at h; split at h <;> cases h; refine ⟨?_, hn, hkk, ?_, ?_, hb⟩ <;> simp
  | 2, _, _, _, h => simp only [p_step] at h; split at h <;> cases h; refine ⟨by simp, hn, hkk, by simp, by simp, ?_⟩; exact am_b01
  | 3, _, _, _, h =>
    simp only [p_step] at h
    split at h
    · next q => cases h; refine ⟨by simp, ?_, hkk, ?_, ?_, hb⟩ <;> simp <;> omega
    · split at h
      · next q => cases h; refine ⟨by simp, hn, ?_, ?_, ?_, hb⟩ <;> simp <;> omega
      · cases h
  | 4, _, hp1, _, h => simp only [p_step] at h; split at h <;> cases h; refine ⟨by simp, hn, hkk, fun _ => hp1 (Or.inl rfl), by simp, hb⟩
  | 5, _, hp1, _, h => simp only [p_step] at h; split at h <;> cases h; refine ⟨by simp, hn, hkk, fun _ => hp1 (Or.inr (Or.inl rfl)), by simp, hb⟩
  | 6, _, _, _, h => simp only [p_step] at h; split at h <;> cases h; refine ⟨?_, hn, hkk, ?_, ?_, hb⟩ <;> simp
  | 7, _, _, _, h => simp only [p_step] at h; split at h <;> cases h; refine ⟨?_, hn, hkk, ?_, ?_, hb⟩ <;> simp
  | k + 8, h7, _, _, _ => omega
def p_run (tx : Nat → Int32) (D0 : p_D) : Nat → Option (Nat × p_D)
  | 0 => some (0, D0)
  | i + 1 => match p_run tx D0 i with
    | none => none
    | some q => p_step q.1 q.2 (tx i)
theorem p_run_s {tx : Nat → Int32} {D0 : p_D} {i : Nat} {q : Nat × p_D} (h : p_run tx D0 i = some q) : p_run tx D0 (i + 1) = p_step q.1 q.2 (tx i) := by show (match p_run tx D0 i with | none => none | some q => p_step q.1 q.2 (tx i)) = _; rw [h]
def p_read (tx : Nat → Int32) (D0 : p_D) (tl : Nat) (res : Option Value) (w' : am_W) : Prop := (∃ st D, p_run tx D0 tl = some (st, D) ∧ res = some (.int (if st = 3 then -9 else nI tl)) ∧ p_is w' D ∧ p_ok st D) ∨ (∃ f st D, f < tl ∧ p_run tx D0 f = some (st, D) ∧ p_run tx D0 (f + 1) = none ∧ res = some (.int (nI f)) ∧ p_is w' D ∧ p_ok st D)
theorem i_nm9 : ∀ st, st ≤ 7 → ¬ nI st = -9 := by decide
theorem i_nI3 {st : Nat} (h : st ≤ 7) (e : nI st = 3) : st = 3 := (nI_eq (b := 3) (by omega) (by omega)).mp e
set_option maxRecDepth 100000 in
set_option maxHeartbeats 4000000 in
theorem c_read (w : am_W) (tr ri : Int32) (n kk : Nat) (hn : n ≤ 6) (hkk : kk ≤ 5) (wa ki ba he : Nat → Int32) (hr0 : w[6]? = some (.inr (9, [.int tr, .int ri, .int (nI n), .int (nI kk), .ref 7, .ref 8, .ref 9, .ref 10]))) (hr1 : w[7]? = some (.inl (0, 6, .inl wa))) (hr2 : w[8]? = some (.inl (0, 6, .inl ki))) (hr3 : w[9]? = some (.inl (0, 6, .inl ba))) (hr4 : w[10]? = some (.inl (0, 5, .inl he))) (hr9 : w[5]? = some (.inr (3, [.ref 6]))) (tl : Nat) (htl : tl ≤ 40) (tx : Nat → Int32) (hx0 : w[3]? = some (.inr (7, [.ref 4, .int (nI tl)]))) (hx1 : w[4]? = some (.inl (0, 40, .inl tx))) : am_Go 25 (0, [.ref 5, .ref 3, .float 0, .float 0], [], w, 0, 0) (fun res w' => p_read tx (0, 0, 0, 0, wa, ki, ba, he) tl res w' ∧ am_same p_X w w') := by
  have hM : am_P[25]? = some zm_X3_read := rfl
  refine ar_aload_n (pc' := 1) hM rfl rfl rfl ?_
  refine ar_getfield (pc' := 4) hM rfl hr9 rfl rfl ?_
  refine ar_virtual (pc' := 7) (k3 := 0) (k4 := 0) hM rfl rfl hr0 ⟨rfl, (by decide)⟩ rfl rfl (c_dclear _ 6 (by decide) _ _ _ _ _ _ _ _ hr0 hr1 hr2 hr3 hr4) (fun r4 w4 q4 => ?_)
  obtain ⟨rfl, q4w⟩ := q4
  rw [q4w]
  show am_Go 25 (7, [.ref 5, .ref 3, .float 0, .float 0], [], (w.set 6 (.inr (9, [.int 0, .int 0, .int 0, .int 0, .ref 7, .ref 8, .ref 9, .ref 10]))), 0, 0) _
  refine ar_iconst (x := 0) (pc' := 8) hM rfl (by decide) rfl ?_
  refine ar_istore_n (pc' := 9) hM rfl rfl rfl rfl ?_
  refine ar_iconst (x := 0) (pc' := 10) hM rfl (by decide) rfl ?_
  refine ar_istore_n (pc' := 11) hM rfl rfl rfl rfl ?_
  have loop : ∀ (dj j : Nat) (st : Nat) (D : p_D) (wj : am_W), dj + j = tl → (p_run tx (0, 0, 0, 0, wa, ki, ba, he) j = some (st, D)) → (p_is wj D) → (p_ok st D) → (am_same p_X w wj) → am_Go 25 (11, [.ref 5, .ref 3, .int (nI st), .int (nI j)], [], wj, 0, 0) (fun res w' => p_read tx (0, 0, 0, 0, wa, ki, ba, he) tl res w' ∧ am_same p_X w w') := by
    intro dj
    induction dj with
    | zero =>
      intro j st D wj hj hrun his hok hsm
      refine ar_iload_n (pc' := 12) hM rfl rfl rfl ?_
      refine ar_aload_n (pc' := 13) hM rfl rfl rfl ?_
      refine ar_getfield (pc' := 16) hM rfl (hsm.at (by unfold p_X; omega) hx0) rfl rfl ?_
      refine ar_icmp_ge (pc' := 19) hM rfl rfl (fun _ => ?_) (fun q => absurd (nI_le (a := tl) (b := j) (by omega) (by omega)) q)
      refine ar_iload_n (pc' := 46) hM rfl rfl rfl ?_
      refine ar_iconst (x := 3) (pc' := 47) hM rfl (by decide) rfl ?_
      refine ar_icmp_ne (pc' := 50) hM rfl rfl (fun c47 => ?_) (fun c47 => ?_)
      · refine ar_aload_n (pc' := 56) hM rfl rfl rfl ?_
        refine ar_getfield (pc' := 59) hM rfl (hsm.at (by unfold p_X; omega) hx0) rfl rfl ?_
        refine ar_ireturn hM rfl (Or.inl rfl) ?_
        exact ⟨Or.inl ⟨st, D, (by rw [show j = tl by omega] at hrun; exact hrun), (by rw [if_neg (fun h3 => c47 (by rw [h3]; rfl))]), his, hok⟩, hsm⟩
      · refine ar_bipush (x := (-9)) (pc' := 52) hM rfl (by decide) rfl ?_
        refine ar_goto hM rfl ?_
        refine ar_ireturn hM rfl (Or.inl rfl) ?_
        exact ⟨Or.inl ⟨st, D, (by rw [show j = tl by omega] at hrun; exact hrun), (by have h3 : st = 3 := i_nI3 hok.1 c47; rw [if_pos h3]), his, hok⟩, hsm⟩
    | succ dj ih =>
      intro j st D wj hj hrun his hok hsm
      refine ar_iload_n (pc' := 12) hM rfl rfl rfl ?_
      refine ar_aload_n (pc' := 13) hM rfl rfl rfl ?_
      refine ar_getfield (pc' := 16) hM rfl (hsm.at (by unfold p_X; omega) hx0) rfl rfl ?_
      refine ar_icmp_ge (pc' := 19) hM rfl rfl (fun q => absurd q (nI_ge (a := j) (b := tl) (by omega) (by omega))) (fun _ => ?_)
      refine ar_aload_n (pc' := 20) hM rfl rfl rfl ?_
      refine ar_iload_n (pc' := 21) hM rfl rfl rfl ?_
      refine ar_aload_n (pc' := 22) hM rfl rfl rfl ?_
      refine ar_getfield (pc' := 25) hM rfl (hsm.at (by unfold p_X; omega) hx0) rfl rfl ?_
      refine ar_iload_n (pc' := 26) hM rfl rfl rfl ?_
      refine ar_ialoadN (j := j) (pc' := 27) hM rfl (hsm.at (by unfold p_X; omega) hx1) rfl (by omega) (Nat.le_of_ble_eq_true rfl) rfl ?_
      refine ar_virtual (pc' := 30) (k3 := 0) (k4 := 0) hM rfl rfl (hsm.at (by unfold p_X; omega) hr9) ⟨rfl, (by decide)⟩ rfl rfl (c_take _ st D hok his (hsm.at (by unfold p_X; omega) hr9) _) (fun r27 w27 q27 => ?_)
      obtain ⟨z, rfl⟩ := p_post_int q27
      show am_Go 25 (30, [.ref 5, .ref 3, .int (nI st), .int (nI j)], [.int z], w27, 0, 0) _
      refine ar_istore_n (pc' := 31) hM rfl rfl rfl rfl ?_
      refine ar_iload_n (pc' := 32) hM rfl rfl rfl ?_
      refine ar_bipush (x := (-9)) (pc' := 34) hM rfl (by decide) rfl ?_
      unfold p_post at q27
      split at q27
      · next qq hq =>
          obtain ⟨hz, his2, q27s⟩ := q27
          cases hz
          have hok2 := p_step_ok hok hq
          refine ar_icmp_ne (pc' := 37) hM rfl rfl (fun _ => ?_) (fun q => absurd q (i_nm9 _ hok2.1))
          refine ar_iinc (z := nI (j + 1)) (pc' := 42) hM rfl rfl (nI_1 _) rfl rfl rfl ?_
          refine ar_goto hM rfl ?_
          exact ih (j + 1) qq.1 qq.2 w27 (by omega) (by rw [p_run_s hrun]; exact hq) his2 hok2 (hsm.tr q27s)
      · next hq =>
          obtain ⟨hz, hw9⟩ := q27
          cases hz
          refine ar_icmp_ne (pc' := 37) hM rfl rfl (fun q => absurd rfl q) (fun _ => ?_)
          refine ar_iload_n (pc' := 38) hM rfl rfl rfl ?_
          refine ar_ireturn hM rfl (Or.inl rfl) ?_
          exact ⟨Or.inr ⟨j, st, D, by omega, hrun, by rw [p_run_s hrun]; exact hq, rfl, by rw [hw9]; exact his, hok⟩, by rw [hw9]; exact hsm⟩
  exact loop (tl) 0 0 (0, 0, 0, 0, wa, ki, ba, he) (w.set 6 (.inr (9, [.int 0, .int 0, .int 0, .int 0, .ref 7, .ref 8, .ref 9, .ref 10]))) (by omega) rfl ⟨am_gs hr0, am_gn (by decide) hr1, am_gn (by decide) hr2, am_gn (by decide) hr3, am_gn (by decide) hr4⟩ ⟨Nat.zero_le _, Nat.zero_le _, Nat.zero_le _, by simp, by simp, Or.inl rfl⟩ (am_same.set am_same.rf (by unfold p_X; omega))
