/-! Standing, Text, Told -/
theorem am_si {w : am_W} {a : Nat} {e : am_E} (h : w[a]? = some e) : w.set a e = w := by
  apply List.ext_getElem?
  intro i
  by_cases q : a = i
  · subst q; rw [am_gs h, h]
  · rw [List.getElem?_set_ne q]
theorem i_pred {n : Nat} (h : 0 < n) : nI n - 1 = nI (n - 1) := by
  obtain ⟨m, rfl⟩ : ∃ m, n = m + 1 := ⟨n - 1, by omega⟩
  exact nI_pred m
theorem am_fs {f F : Nat → Int32} {j : Nat} {x : Int32} (h : ∀ p, p < j → f p = F p) (hx : x = F j) : ∀ p, p < j + 1 → upd f j x p = F p := by
  intro p hp
  by_cases q : p = j
  · subst q; rw [pk_us]; exact hx
  · rw [pk_un q]; exact h p (by omega)
theorem am_fs0 {f F : Nat → Int32} {j : Nat} (h : ∀ p, p < j → f p = F p) (hx : f j = F j) : ∀ p, p < j + 1 → f p = F p := by
  intro p hp
  by_cases q : p = j
  · subst q; exact hx
  · exact h p (by omega)
theorem am_ft {f g : Nat → Int32} {j : Nat} {x : Int32} (h : ∀ p, j ≤ p → f p = g p) : ∀ p, j + 1 ≤ p → upd f j x p = g p := fun p hp => by rw [pk_un (by omega)]; exact h p (by omega)
theorem am_ft0 {f g : Nat → Int32} {j : Nat} (h : ∀ p, j ≤ p → f p = g p) : ∀ p, j + 1 ≤ p → f p = g p := fun p hp => h p (by omega)
theorem i_fit1 {x : Int32} (h : x = 0 ∨ x = 1) : am_fit 1 (.int x) = true := by rcases h with rfl | rfl <;> rfl
theorem i_pos {n : Nat} (h : 0 < nI n) : 0 < n := by
  rcases Nat.eq_zero_or_pos n with q | q
  · subst q; exact absurd h (by decide)
  · exact q
theorem i_npos {n : Nat} (h : ¬ 0 < nI n) (hn : n < 2 ^ 31) : n = 0 := by
  rcases Nat.eq_zero_or_pos n with q | q
  · exact q
  · exact absurd (nI_lt (a := 0) q hn) h
def i_heat (kk : Nat) (he : Nat → Int32) (d : Nat) : Int32 := if kk = 0 then 0 else he (d % kk)
set_option maxRecDepth 100000 in
set_option maxHeartbeats 4000000 in
theorem c_standAsTold (w : am_W) (s : Nat) (h2s : 2 ≤ s) (so ss sl : Nat → Int32) (sa sw sd : Int32) (hs0 : w[s]? = some (.inr (6, [.ref (s + 1), .ref (s + 2), .ref (s + 3), .int sa, .int sw, .int sd]))) (hs1 : w[s + 1]? = some (.inl (0, 6, .inl so))) (hs2 : w[s + 2]? = some (.inl (0, 6, .inl ss))) (hs3 : w[s + 3]? = some (.inl (0, 6, .inl sl))) : am_Go 41 (0, [.ref s, .float 0], [], w, 0, 0) (fun res w' => ∃ f, res = none ∧ w' = w.set (s + 1) (.inl (0, 6, .inl f)) ∧ ∀ p, p < 6 → f p = nI p) := by
  have hM : am_P[41]? = some zm_X6_standAsTold := rfl
  refine ar_iconst (x := 0) (pc' := 1) hM rfl (by decide) rfl ?_
  refine ar_istore_n (pc' := 2) hM rfl rfl rfl rfl ?_
  have loop : ∀ (dj j : Nat) (f : Nat → Int32), dj + j = 6 → (∀ p, p < j → f p = nI p) → am_Go 41 (2, [.ref s, .int (nI j)], [], (w.set (s + 1) (.inl (0, 6, .inl f))), 0, 0) (fun res w' => ∃ f, res = none ∧ w' = w.set (s + 1) (.inl (0, 6, .inl f)) ∧ ∀ p, p < 6 → f p = nI p) := by
    intro dj
    induction dj with
    | zero =>
      intro j f hj hf
      refine ar_iload_n (pc' := 3) hM rfl rfl rfl ?_
      refine ar_bipush (x := 6) (pc' := 5) hM rfl (by decide) rfl ?_
      refine ar_icmp_ge (pc' := 8) hM rfl rfl (fun _ => ?_) (fun q => absurd (nI_le (a := 6) (b := j) (by omega) (by omega)) q)
      refine ar_return hM rfl ?_
      exact ⟨f, rfl, rfl, fun p hp => hf p (by omega)⟩
    | succ dj ih =>
      intro j f hj hf
      refine ar_iload_n (pc' := 3) hM rfl rfl rfl ?_
      refine ar_bipush (x := 6) (pc' := 5) hM rfl (by decide) rfl ?_
      refine ar_icmp_ge (pc' := 8) hM rfl rfl (fun q => absurd q (nI_ge (a := j) (b := 6) (by omega) (by omega))) (fun _ => ?_)
      refine ar_aload_n (pc' := 9) hM rfl rfl rfl ?_
      refine ar_getfield (pc' := 12) hM rfl (am_gn (by omega) hs0) rfl rfl ?_
      refine ar_iload_n (pc' := 13) hM rfl rfl rfl ?_
      refine ar_iload_n (pc' := 14) hM rfl rfl rfl ?_
      refine ar_iastoreN (j := j) (pc' := 15) hM rfl (am_gs hs1) rfl (by omega) (Nat.le_of_ble_eq_true rfl) (by omega) rfl ?_
      refine ar_iinc (z := nI (j + 1)) (pc' := 18) hM rfl rfl (nI_1 _) rfl rfl rfl ?_
      refine ar_goto hM rfl ?_
      rw [show ((w.set (s + 1) (.inl (0, 6, .inl f))).set (s + 1) (.inl (0, 6, .inl (upd f j (nI j))))) = (w.set (s + 1) (.inl (0, 6, .inl (upd f j (nI j))))) from by rw [List.set_set]]
      exact ih (j + 1) (upd f j (nI j)) (by omega) (am_fs hf rfl)
  have hl0 := loop (6) 0 so (by omega) (fun p hp => by omega)
  rw [am_si hs1] at hl0
  exact hl0
set_option maxRecDepth 100000 in
set_option maxHeartbeats 4000000 in
theorem c_sclear (w : am_W) (s : Nat) (h2s : 2 ≤ s) (so ss sl : Nat → Int32) (sa sw sd : Int32) (hs0 : w[s]? = some (.inr (6, [.ref (s + 1), .ref (s + 2), .ref (s + 3), .int sa, .int sw, .int sd]))) (hs1 : w[s + 1]? = some (.inl (0, 6, .inl so))) (hs2 : w[s + 2]? = some (.inl (0, 6, .inl ss))) (hs3 : w[s + 3]? = some (.inl (0, 6, .inl sl))) : am_Go 40 (0, [.ref s, .float 0], [], w, 0, 0) (fun res w' => ∃ f g l, res = none ∧ w' = (((w.set (s + 1) (.inl (0, 6, .inl f))).set (s + 2) (.inl (0, 6, .inl g))).set (s + 3) (.inl (0, 6, .inl l))).set s (.inr (6, [.ref (s + 1), .ref (s + 2), .ref (s + 3), .int 0, .int 0, .int 0])) ∧ (∀ p, p < 6 → f p = nI p) ∧ (∀ p, p < 6 → g p = 0) ∧ (∀ p, p < 6 → l p = 0)) := by
  have hM : am_P[40]? = some zm_X6_clear := rfl
  refine ar_aload_n (pc' := 1) hM rfl rfl rfl ?_
  refine ar_virtual (pc' := 4) (k3 := 0) (k4 := 0) hM rfl rfl hs0 ⟨rfl, (by omega)⟩ rfl rfl (c_standAsTold _ s h2s _ _ _ _ _ _ hs0 hs1 hs2 hs3) (fun r1 w1 q1 => ?_)
  obtain ⟨f0, rfl, hw, hf0⟩ := q1
  rw [hw]
  show am_Go 40 (4, [.ref s, .float 0], [], (w.set (s + 1) (.inl (0, 6, .inl f0))), 0, 0) _
  refine ar_iconst (x := 0) (pc' := 5) hM rfl (by decide) rfl ?_
  refine ar_istore_n (pc' := 6) hM rfl rfl rfl rfl ?_
  have loop : ∀ (dj j : Nat) (g : Nat → Int32) (l : Nat → Int32), dj + j = 6 → (∀ p, p < j → g p = (fun _ => 0) p) → (∀ p, p < j → l p = (fun _ => 0) p) → am_Go 40 (6, [.ref s, .int (nI j)], [], (((w.set (s + 1) (.inl (0, 6, .inl f0))).set (s + 2) (.inl (0, 6, .inl g))).set (s + 3) (.inl (0, 6, .inl l))), 0, 0) (fun res w' => ∃ f g l, res = none ∧ w' = (((w.set (s + 1) (.inl (0, 6, .inl f))).set (s + 2) (.inl (0, 6, .inl g))).set (s + 3) (.inl (0, 6, .inl l))).set s (.inr (6, [.ref (s + 1), .ref (s + 2), .ref (s + 3), .int 0, .int 0, .int 0])) ∧ (∀ p, p < 6 → f p = nI p) ∧ (∀ p, p < 6 → g p = 0) ∧ (∀ p, p < 6 → l p = 0)) := by
    intro dj
    induction dj with
    | zero =>
      intro j g l hj hg hl
      refine ar_iload_n (pc' := 7) hM rfl rfl rfl ?_
      refine ar_bipush (x := 6) (pc' := 9) hM rfl (by decide) rfl ?_
      refine ar_icmp_ge (pc' := 12) hM rfl rfl (fun _ => ?_) (fun q => absurd (nI_le (a := 6) (b := j) (by omega) (by omega)) q)
      refine ar_aload_n (pc' := 33) hM rfl rfl rfl ?_
      refine ar_iconst (x := 0) (pc' := 34) hM rfl (by decide) rfl ?_
      refine ar_putfield (pc' := 37) hM rfl (am_gn (by omega) (am_gn (by omega) (am_gn (by omega) hs0))) (Nat.le_of_ble_eq_true rfl) rfl (by omega) rfl ?_
      show am_Go 40 (37, [.ref s, .int (nI j)], [], ((((w.set (s + 1) (.inl (0, 6, .inl f0))).set (s + 2) (.inl (0, 6, .inl g))).set (s + 3) (.inl (0, 6, .inl l))).set s (.inr (6, [.ref (s + 1), .ref (s + 2), .ref (s + 3), .int 0, .int sw, .int sd]))), 0, 0) _
      refine ar_aload_n (pc' := 38) hM rfl rfl rfl ?_
      refine ar_iconst (x := 0) (pc' := 39) hM rfl (by decide) rfl ?_
      refine ar_putfield (pc' := 42) hM rfl (am_gs (am_gn (by omega) (am_gn (by omega) (am_gn (by omega) hs0)))) (Nat.le_of_ble_eq_true rfl) rfl (by omega) rfl ?_
      show am_Go 40 (42, [.ref s, .int (nI j)], [], (((((w.set (s + 1) (.inl (0, 6, .inl f0))).set (s + 2) (.inl (0, 6, .inl g))).set (s + 3) (.inl (0, 6, .inl l))).set s (.inr (6, [.ref (s + 1), .ref (s + 2), .ref (s + 3), .int 0, .int sw, .int sd]))).set s (.inr (6, [.ref (s + 1), .ref (s + 2), .ref (s + 3), .int 0, .int 0, .int sd]))), 0, 0) _
      refine ar_aload_n (pc' := 43) hM rfl rfl rfl ?_
      refine ar_iconst (x := 0) (pc' := 44) hM rfl (by decide) rfl ?_
      refine ar_putfield (pc' := 47) hM rfl (am_gs (am_gs (am_gn (by omega) (am_gn (by omega) (am_gn (by omega) hs0))))) (Nat.le_of_ble_eq_true rfl) rfl (by omega) rfl ?_
      show am_Go 40 (47, [.ref s, .int (nI j)], [], ((((((w.set (s + 1) (.inl (0, 6, .inl f0))).set (s + 2) (.inl (0, 6, .inl g))).set (s + 3) (.inl (0, 6, .inl l))).set s (.inr (6, [.ref (s + 1), .ref (s + 2), .ref (s + 3), .int 0, .int sw, .int sd]))).set s (.inr (6, [.ref (s + 1), .ref (s + 2), .ref (s + 3), .int 0, .int 0, .int sd]))).set s (.inr (6, [.ref (s + 1), .ref (s + 2), .ref (s + 3), .int 0, .int 0, .int 0]))), 0, 0) _
      refine ar_return hM rfl ?_
      rw [show (((((w.set (s + 1) (.inl (0, 6, .inl f0))).set (s + 2) (.inl (0, 6, .inl g))).set (s + 3) (.inl (0, 6, .inl l))).set s (.inr (6, [.ref (s + 1), .ref (s + 2), .ref (s + 3), .int 0, .int sw, .int sd]))).set s (.inr (6, [.ref (s + 1), .ref (s + 2), .ref (s + 3), .int 0, .int 0, .int sd]))) = ((((w.set (s + 1) (.inl (0, 6, .inl f0))).set (s + 2) (.inl (0, 6, .inl g))).set (s + 3) (.inl (0, 6, .inl l))).set s (.inr (6, [.ref (s + 1), .ref (s + 2), .ref (s + 3), .int 0, .int 0, .int sd]))) from by rw [List.set_set]]
      rw [show (((((w.set (s + 1) (.inl (0, 6, .inl f0))).set (s + 2) (.inl (0, 6, .inl g))).set (s + 3) (.inl (0, 6, .inl l))).set s (.inr (6, [.ref (s + 1), .ref (s + 2), .ref (s + 3), .int 0, .int 0, .int sd]))).set s (.inr (6, [.ref (s + 1), .ref (s + 2), .ref (s + 3), .int 0, .int 0, .int 0]))) = ((((w.set (s + 1) (.inl (0, 6, .inl f0))).set (s + 2) (.inl (0, 6, .inl g))).set (s + 3) (.inl (0, 6, .inl l))).set s (.inr (6, [.ref (s + 1), .ref (s + 2), .ref (s + 3), .int 0, .int 0, .int 0]))) from by rw [List.set_set]]
      exact ⟨f0, g, l, rfl, rfl, hf0, fun p hp => hg p (by omega), fun p hp => hl p (by omega)⟩
    | succ dj ih =>
      intro j g l hj hg hl
      refine ar_iload_n (pc' := 7) hM rfl rfl rfl ?_
      refine ar_bipush (x := 6) (pc' := 9) hM rfl (by decide) rfl ?_
      refine ar_icmp_ge (pc' := 12) hM rfl rfl (fun q => absurd q (nI_ge (a := j) (b := 6) (by omega) (by omega))) (fun _ => ?_)
      refine ar_aload_n (pc' := 13) hM rfl rfl rfl ?_
      refine ar_getfield (pc' := 16) hM rfl (am_gn (by omega) (am_gn (by omega) (am_gn (by omega) hs0))) rfl rfl ?_
      refine ar_iload_n (pc' := 17) hM rfl rfl rfl ?_
      refine ar_iconst (x := 0) (pc' := 18) hM rfl (by decide) rfl ?_
      refine ar_iastoreN (j := j) (pc' := 19) hM rfl (am_gn (by omega) (am_gs (am_gn (by omega) hs2))) rfl (by omega) (Nat.le_of_ble_eq_true rfl) (by omega) rfl ?_
      refine ar_aload_n (pc' := 20) hM rfl rfl rfl ?_
      refine ar_getfield (pc' := 23) hM rfl (am_gn (by omega) (am_gn (by omega) (am_gn (by omega) (am_gn (by omega) hs0)))) rfl rfl ?_
      refine ar_iload_n (pc' := 24) hM rfl rfl rfl ?_
      refine ar_iconst (x := 0) (pc' := 25) hM rfl (by decide) rfl ?_
      refine ar_iastoreN (j := j) (pc' := 26) hM rfl (am_gn (by omega) (am_gs (am_gn (by omega) (am_gn (by omega) hs3)))) rfl (by omega) (Nat.le_of_ble_eq_true rfl) (by omega) rfl ?_
      refine ar_iinc (z := nI (j + 1)) (pc' := 29) hM rfl rfl (nI_1 _) rfl rfl rfl ?_
      refine ar_goto hM rfl ?_
      rw [show ((((w.set (s + 1) (.inl (0, 6, .inl f0))).set (s + 2) (.inl (0, 6, .inl g))).set (s + 3) (.inl (0, 6, .inl l))).set (s + 2) (.inl (0, 6, .inl (upd g j 0)))) = (((w.set (s + 1) (.inl (0, 6, .inl f0))).set (s + 2) (.inl (0, 6, .inl (upd g j 0)))).set (s + 3) (.inl (0, 6, .inl l))) from by rw [List.set_comm _ _ (show s + 3 ≠ s + 2 by omega), List.set_set]]
      rw [show ((((w.set (s + 1) (.inl (0, 6, .inl f0))).set (s + 2) (.inl (0, 6, .inl (upd g j 0)))).set (s + 3) (.inl (0, 6, .inl l))).set (s + 3) (.inl (0, 6, .inl (upd l j 0)))) = (((w.set (s + 1) (.inl (0, 6, .inl f0))).set (s + 2) (.inl (0, 6, .inl (upd g j 0)))).set (s + 3) (.inl (0, 6, .inl (upd l j 0)))) from by rw [List.set_set]]
      exact ih (j + 1) (upd g j 0) (upd l j 0) (by omega) (am_fs hg rfl) (am_fs hl rfl)
  have hl0 := loop (6) 0 ss sl (by omega) (fun p hp => by omega) (fun p hp => by omega)
  rw [am_si (am_gn (by omega) hs2), am_si (am_gn (by omega) hs3)] at hl0
  exact hl0
set_option maxRecDepth 100000 in
set_option maxHeartbeats 4000000 in
theorem c_placeOf (w : am_W) (s : Nat) (h2s : 2 ≤ s) (so ss sl : Nat → Int32) (sa sw sd : Int32) (hs0 : w[s]? = some (.inr (6, [.ref (s + 1), .ref (s + 2), .ref (s + 3), .int sa, .int sw, .int sd]))) (hs1 : w[s + 1]? = some (.inl (0, 6, .inl so))) (hs2 : w[s + 2]? = some (.inl (0, 6, .inl ss))) (hs3 : w[s + 3]? = some (.inl (0, 6, .inl sl))) (h : Int32) (p : Nat) (hp : p < 6) (hp1 : so p = h) (hp2 : ∀ i, i < p → ¬ so i = h) : am_Go 43 (0, [.ref s, .int h, .float 0], [], w, 0, 0) (fun res w' => res = some (.int (nI p)) ∧ w' = w) := by
  have hM : am_P[43]? = some zm_X6_placeOf := rfl
  refine ar_iconst (x := 0) (pc' := 1) hM rfl (by decide) rfl ?_
  refine ar_istore_n (pc' := 2) hM rfl rfl rfl rfl ?_
  have loop : ∀ (dj j : Nat) , dj + j = p → am_Go 43 (2, [.ref s, .int h, .int (nI j)], [], w, 0, 0) (fun res w' => res = some (.int (nI p)) ∧ w' = w) := by
    intro dj
    induction dj with
    | zero =>
      intro j  hj 
      refine ar_iload_n (pc' := 3) hM rfl rfl rfl ?_
      refine ar_bipush (x := 6) (pc' := 5) hM rfl (by decide) rfl ?_
      refine ar_icmp_ge (pc' := 8) hM rfl rfl (fun q => absurd q (nI_ge (a := j) (b := 6) (by omega) (by omega))) (fun _ => ?_)
      refine ar_aload_n (pc' := 9) hM rfl rfl rfl ?_
      refine ar_getfield (pc' := 12) hM rfl hs0 rfl rfl ?_
      refine ar_iload_n (pc' := 13) hM rfl rfl rfl ?_
      refine ar_ialoadN (j := j) (pc' := 14) hM rfl hs1 rfl (by omega) (Nat.le_of_ble_eq_true rfl) rfl ?_
      refine ar_iload_n (pc' := 15) hM rfl rfl rfl ?_
      refine ar_icmp_ne (pc' := 18) hM rfl rfl (fun q => absurd (show so j = h by rw [show j = p by omega]; exact hp1) q) (fun _ => ?_)
      refine ar_iload_n (pc' := 19) hM rfl rfl rfl ?_
      refine ar_ireturn hM rfl (Or.inl rfl) ?_
      exact ⟨by rw [show j = p by omega], rfl⟩
    | succ dj ih =>
      intro j  hj 
      refine ar_iload_n (pc' := 3) hM rfl rfl rfl ?_
      refine ar_bipush (x := 6) (pc' := 5) hM rfl (by decide) rfl ?_
      refine ar_icmp_ge (pc' := 8) hM rfl rfl (fun q => absurd q (nI_ge (a := j) (b := 6) (by omega) (by omega))) (fun _ => ?_)
      refine ar_aload_n (pc' := 9) hM rfl rfl rfl ?_
      refine ar_getfield (pc' := 12) hM rfl hs0 rfl rfl ?_
      refine ar_iload_n (pc' := 13) hM rfl rfl rfl ?_
      refine ar_ialoadN (j := j) (pc' := 14) hM rfl hs1 rfl (by omega) (Nat.le_of_ble_eq_true rfl) rfl ?_
      refine ar_iload_n (pc' := 15) hM rfl rfl rfl ?_
      refine ar_icmp_ne (pc' := 18) hM rfl rfl (fun _ => ?_) (fun q => absurd q (hp2 j (by omega)))
      refine ar_iinc (z := nI (j + 1)) (pc' := 23) hM rfl rfl (nI_1 _) rfl rfl rfl ?_
      refine ar_goto hM rfl ?_
      exact ih (j + 1) (by omega)
  exact loop (p) 0  (by omega) 
set_option maxRecDepth 100000 in
set_option maxHeartbeats 4000000 in
theorem c_exchange (w : am_W) (s : Nat) (h2s : 2 ≤ s) (so ss sl : Nat → Int32) (sa sw sd : Int32) (hs0 : w[s]? = some (.inr (6, [.ref (s + 1), .ref (s + 2), .ref (s + 3), .int sa, .int sw, .int sd]))) (hs1 : w[s + 1]? = some (.inl (0, 6, .inl so))) (hs2 : w[s + 2]? = some (.inl (0, 6, .inl ss))) (hs3 : w[s + 3]? = some (.inl (0, 6, .inl sl))) (a b : Int32) : am_Go 44 (0, [.ref s, .int a, .int b, .float 0], [], w, 0, 0) (fun res w' => ∃ f, res = none ∧ w' = w.set (s + 1) (.inl (0, 6, .inl f)) ∧ ∀ p, p < 6 → f p = if so p = a then b else if so p = b then a else so p) := by
  have hM : am_P[44]? = some zm_X6_exchange := rfl
  refine ar_iconst (x := 0) (pc' := 1) hM rfl (by decide) rfl ?_
  refine ar_istore_n (pc' := 2) hM rfl rfl rfl rfl ?_
  have loop : ∀ (dj j : Nat) (f : Nat → Int32), dj + j = 6 → (∀ p, p < j → f p = (fun p => if so p = a then b else if so p = b then a else so p) p) → (∀ p, j ≤ p → f p = so p) → am_Go 44 (2, [.ref s, .int a, .int b, .int (nI j)], [], (w.set (s + 1) (.inl (0, 6, .inl f))), 0, 0) (fun res w' => ∃ f, res = none ∧ w' = w.set (s + 1) (.inl (0, 6, .inl f)) ∧ ∀ p, p < 6 → f p = if so p = a then b else if so p = b then a else so p) := by
    intro dj
    induction dj with
    | zero =>
      intro j f hj hf hg
      refine ar_iload_n (pc' := 3) hM rfl rfl rfl ?_
      refine ar_bipush (x := 6) (pc' := 5) hM rfl (by decide) rfl ?_
      refine ar_icmp_ge (pc' := 8) hM rfl rfl (fun _ => ?_) (fun q => absurd (nI_le (a := 6) (b := j) (by omega) (by omega)) q)
      refine ar_return hM rfl ?_
      exact ⟨f, rfl, rfl, fun p hp => hf p (by omega)⟩
    | succ dj ih =>
      intro j f hj hf hg
      refine ar_iload_n (pc' := 3) hM rfl rfl rfl ?_
      refine ar_bipush (x := 6) (pc' := 5) hM rfl (by decide) rfl ?_
      refine ar_icmp_ge (pc' := 8) hM rfl rfl (fun q => absurd q (nI_ge (a := j) (b := 6) (by omega) (by omega))) (fun _ => ?_)
      refine ar_aload_n (pc' := 9) hM rfl rfl rfl ?_
      refine ar_getfield (pc' := 12) hM rfl (am_gn (by omega) hs0) rfl rfl ?_
      refine ar_iload_n (pc' := 13) hM rfl rfl rfl ?_
      refine ar_ialoadN (j := j) (pc' := 14) hM rfl (am_gs hs1) rfl (by omega) (Nat.le_of_ble_eq_true rfl) rfl ?_
      refine ar_iload_n (pc' := 15) hM rfl rfl rfl ?_
      refine ar_icmp_ne (pc' := 18) hM rfl rfl (fun c15 => ?_) (fun c15 => ?_)
      · refine ar_aload_n (pc' := 29) hM rfl rfl rfl ?_
        refine ar_getfield (pc' := 32) hM rfl (am_gn (by omega) hs0) rfl rfl ?_
        refine ar_iload_n (pc' := 33) hM rfl rfl rfl ?_
        refine ar_ialoadN (j := j) (pc' := 34) hM rfl (am_gs hs1) rfl (by omega) (Nat.le_of_ble_eq_true rfl) rfl ?_
        refine ar_iload_n (pc' := 35) hM rfl rfl rfl ?_
        refine ar_icmp_ne (pc' := 38) hM rfl rfl (fun c35 => ?_) (fun c35 => ?_)
        · refine ar_iinc (z := nI (j + 1)) (pc' := 48) hM rfl rfl (nI_1 _) rfl rfl rfl ?_
          refine ar_goto hM rfl ?_
          exact ih (j + 1) f (by omega) (am_fs0 (F := fun p => if so p = a then b else if so p = b then a else so p) hf (by have e := hg j (by omega); rw [e] at c15 c35; simp only [e, if_neg c15, if_neg c35])) (am_ft0 hg)
        · refine ar_aload_n (pc' := 39) hM rfl rfl rfl ?_
          refine ar_getfield (pc' := 42) hM rfl (am_gn (by omega) hs0) rfl rfl ?_
          refine ar_iload_n (pc' := 43) hM rfl rfl rfl ?_
          refine ar_iload_n (pc' := 44) hM rfl rfl rfl ?_
          refine ar_iastoreN (j := j) (pc' := 45) hM rfl (am_gs hs1) rfl (by omega) (Nat.le_of_ble_eq_true rfl) (by omega) rfl ?_
          refine ar_iinc (z := nI (j + 1)) (pc' := 48) hM rfl rfl (nI_1 _) rfl rfl rfl ?_
          refine ar_goto hM rfl ?_
          rw [show ((w.set (s + 1) (.inl (0, 6, .inl f))).set (s + 1) (.inl (0, 6, .inl (upd f j a)))) = (w.set (s + 1) (.inl (0, 6, .inl (upd f j a)))) from by rw [List.set_set]]
          exact ih (j + 1) (upd f j a) (by omega) (am_fs (F := fun p => if so p = a then b else if so p = b then a else so p) hf (by have e := hg j (by omega); rw [e] at c15 c35; simp only [if_neg c15, if_pos c35])) (am_ft hg)
      · refine ar_aload_n (pc' := 19) hM rfl rfl rfl ?_
        refine ar_getfield (pc' := 22) hM rfl (am_gn (by omega) hs0) rfl rfl ?_
        refine ar_iload_n (pc' := 23) hM rfl rfl rfl ?_
        refine ar_iload_n (pc' := 24) hM rfl rfl rfl ?_
        refine ar_iastoreN (j := j) (pc' := 25) hM rfl (am_gs hs1) rfl (by omega) (Nat.le_of_ble_eq_true rfl) (by omega) rfl ?_
        refine ar_goto hM rfl ?_
        refine ar_iinc (z := nI (j + 1)) (pc' := 48) hM rfl rfl (nI_1 _) rfl rfl rfl ?_
        refine ar_goto hM rfl ?_
        rw [show ((w.set (s + 1) (.inl (0, 6, .inl f))).set (s + 1) (.inl (0, 6, .inl (upd f j b)))) = (w.set (s + 1) (.inl (0, 6, .inl (upd f j b)))) from by rw [List.set_set]]
        exact ih (j + 1) (upd f j b) (by omega) (am_fs (F := fun p => if so p = a then b else if so p = b then a else so p) hf (by have e := hg j (by omega); rw [e] at c15; simp only [if_pos c15])) (am_ft hg)
  have hl0 := loop (6) 0 so (by omega) (fun p hp => by omega) (fun p hp => rfl)
  rw [am_si hs1] at hl0
  exact hl0
set_option maxRecDepth 100000 in
set_option maxHeartbeats 4000000 in
theorem c_append (w : am_W) (tl : Nat) (htl : tl ≤ 40) (tx : Nat → Int32) (hx0 : w[3]? = some (.inr (7, [.ref 4, .int (nI tl)]))) (hx1 : w[4]? = some (.inl (0, 40, .inl tx))) (c : Int32) (hc : tl < 40) : am_Go 51 (0, [.ref 3, .int c], [], w, 0, 0) (fun res w' => res = some (.int (nI (tl + 1))) ∧ w' = (w.set 4 (.inl (0, 40, .inl (upd tx tl c)))).set 3 (.inr (7, [.ref 4, .int (nI (tl + 1))]))) := by
  have hM : am_P[51]? = some zm_X7_append := rfl
  refine ar_aload_n (pc' := 1) hM rfl rfl rfl ?_
  refine ar_getfield (pc' := 4) hM rfl hx0 rfl rfl ?_
  refine ar_bipush (x := 40) (pc' := 6) hM rfl (by decide) rfl ?_
  refine ar_icmp_lt (pc' := 9) hM rfl rfl (fun _ => ?_) (fun q => absurd (nI_lt (a := tl) (b := 40) (by omega) (by omega)) q)
  refine ar_aload_n (pc' := 13) hM rfl rfl rfl ?_
  refine ar_getfield (pc' := 16) hM rfl hx0 rfl rfl ?_
  refine ar_aload_n (pc' := 17) hM rfl rfl rfl ?_
  refine ar_getfield (pc' := 20) hM rfl hx0 rfl rfl ?_
  refine ar_iload_n (pc' := 21) hM rfl rfl rfl ?_
  refine ar_iastoreN (j := tl) (pc' := 22) hM rfl hx1 rfl (by omega) (Nat.le_of_ble_eq_true rfl) (by decide) rfl ?_
  refine ar_aload_n (pc' := 23) hM rfl rfl rfl ?_
  refine ar_dup (pc' := 24) hM rfl rfl rfl ?_
  refine ar_getfield (pc' := 27) hM rfl (am_gn (by decide) hx0) rfl rfl ?_
  refine ar_iconst (x := 1) (pc' := 28) hM rfl (by decide) rfl ?_
  refine ar_iadd (pc' := 29) hM rfl rfl ?_
  rw [show ((nI tl) + 1 : Int32) = nI (tl + 1) from nI_1 tl]
  refine ar_putfield (pc' := 32) hM rfl (am_gn (by decide) hx0) (Nat.le_of_ble_eq_true rfl) rfl (by decide) rfl ?_
  show am_Go 51 (32, [.ref 3, .int c], [], ((w.set 4 (.inl (0, 40, .inl (upd tx tl c)))).set 3 (.inr (7, [.ref 4, .int (nI (tl + 1))]))), 0, 0) _
  refine ar_aload_n (pc' := 33) hM rfl rfl rfl ?_
  refine ar_getfield (pc' := 36) hM rfl (am_gs (am_gn (by decide) hx0)) rfl rfl ?_
  refine ar_ireturn hM rfl (Or.inl rfl) ?_
  exact ⟨rfl, rfl⟩
set_option maxRecDepth 100000 in
set_option maxHeartbeats 4000000 in
theorem c_appendF (w : am_W) (tl : Nat) (htl : tl ≤ 40) (tx : Nat → Int32) (hx0 : w[3]? = some (.inr (7, [.ref 4, .int (nI tl)]))) (hx1 : w[4]? = some (.inl (0, 40, .inl tx))) (c : Int32) (hc : tl = 40) : am_Go 51 (0, [.ref 3, .int c], [], w, 0, 0) (fun res w' => res = some (.int (-4)) ∧ w' = w) := by
  have hM : am_P[51]? = some zm_X7_append := rfl
  refine ar_aload_n (pc' := 1) hM rfl rfl rfl ?_
  refine ar_getfield (pc' := 4) hM rfl hx0 rfl rfl ?_
  refine ar_bipush (x := 40) (pc' := 6) hM rfl (by decide) rfl ?_
  refine ar_icmp_lt (pc' := 9) hM rfl rfl (fun q => absurd q (nI_nlt (a := tl) (b := 40) (by omega) (by omega))) (fun _ => ?_)
  refine ar_bipush (x := (-4)) (pc' := 11) hM rfl (by decide) rfl ?_
  refine ar_ireturn hM rfl (Or.inl rfl) ?_
  exact ⟨rfl, rfl⟩
set_option maxRecDepth 100000 in
set_option maxHeartbeats 4000000 in
theorem c_tclear (w : am_W) (tl : Nat) (htl : tl ≤ 40) (tx : Nat → Int32) (hx0 : w[3]? = some (.inr (7, [.ref 4, .int (nI tl)]))) (hx1 : w[4]? = some (.inl (0, 40, .inl tx))) : am_Go 52 (0, [.ref 3, .float 0], [], w, 0, 0) (fun res w' => res = some (.int (nI tl)) ∧ w' = w.set 3 (.inr (7, [.ref 4, .int 0]))) := by
  have hM : am_P[52]? = some zm_X7_clear := rfl
  refine ar_aload_n (pc' := 1) hM rfl rfl rfl ?_
  refine ar_getfield (pc' := 4) hM rfl hx0 rfl rfl ?_
  refine ar_istore_n (pc' := 5) hM rfl rfl rfl rfl ?_
  refine ar_aload_n (pc' := 6) hM rfl rfl rfl ?_
  refine ar_iconst (x := 0) (pc' := 7) hM rfl (by decide) rfl ?_
  refine ar_putfield (pc' := 10) hM rfl hx0 (Nat.le_of_ble_eq_true rfl) rfl (by decide) rfl ?_
  show am_Go 52 (10, [.ref 3, .int (nI tl)], [], (w.set 3 (.inr (7, [.ref 4, .int 0]))), 0, 0) _
  refine ar_iload_n (pc' := 11) hM rfl rfl rfl ?_
  refine ar_ireturn hM rfl (Or.inl rfl) ?_
  exact ⟨rfl, rfl⟩
set_option maxRecDepth 100000 in
set_option maxHeartbeats 4000000 in
theorem c_dclear (w : am_W) (d : Nat) (h2d : 2 ≤ d) (tr ri : Int32) (n kk : Nat) (wa ki ba he : Nat → Int32) (ht0 : w[d]? = some (.inr (9, [.int tr, .int ri, .int (nI n), .int (nI kk), .ref (d + 1), .ref (d + 2), .ref (d + 3), .ref (d + 4)]))) (ht1 : w[d + 1]? = some (.inl (0, 6, .inl wa))) (ht2 : w[d + 2]? = some (.inl (0, 6, .inl ki))) (ht3 : w[d + 3]? = some (.inl (0, 6, .inl ba))) (ht4 : w[d + 4]? = some (.inl (0, 5, .inl he))) : am_Go 60 (0, [.ref d], [], w, 0, 0) (fun res w' => res = none ∧ w' = w.set d (.inr (9, [.int 0, .int 0, .int 0, .int 0, .ref (d + 1), .ref (d + 2), .ref (d + 3), .ref (d + 4)]))) := by
  have hM : am_P[60]? = some zm_X9_clear := rfl
  refine ar_aload_n (pc' := 1) hM rfl rfl rfl ?_
  refine ar_iconst (x := 0) (pc' := 2) hM rfl (by decide) rfl ?_
  refine ar_putfield (pc' := 5) hM rfl ht0 (Nat.le_of_ble_eq_true rfl) rfl (by omega) rfl ?_
  show am_Go 60 (5, [.ref d], [], (w.set d (.inr (9, [.int 0, .int ri, .int (nI n), .int (nI kk), .ref (d + 1), .ref (d + 2), .ref (d + 3), .ref (d + 4)]))), 0, 0) _
  refine ar_aload_n (pc' := 6) hM rfl rfl rfl ?_
  refine ar_iconst (x := 0) (pc' := 7) hM rfl (by decide) rfl ?_
  refine ar_putfield (pc' := 10) hM rfl (am_gs ht0) (Nat.le_of_ble_eq_true rfl) (by decide) (by omega) rfl ?_
  show am_Go 60 (10, [.ref d], [], ((w.set d (.inr (9, [.int 0, .int ri, .int (nI n), .int (nI kk), .ref (d + 1), .ref (d + 2), .ref (d + 3), .ref (d + 4)]))).set d (.inr (9, [.int 0, .int 0, .int (nI n), .int (nI kk), .ref (d + 1), .ref (d + 2), .ref (d + 3), .ref (d + 4)]))), 0, 0) _
  refine ar_aload_n (pc' := 11) hM rfl rfl rfl ?_
  refine ar_iconst (x := 0) (pc' := 12) hM rfl (by decide) rfl ?_
  refine ar_putfield (pc' := 15) hM rfl (am_gs (am_gs ht0)) (Nat.le_of_ble_eq_true rfl) rfl (by omega) rfl ?_
  show am_Go 60 (15, [.ref d], [], (((w.set d (.inr (9, [.int 0, .int ri, .int (nI n), .int (nI kk), .ref (d + 1), .ref (d + 2), .ref (d + 3), .ref (d + 4)]))).set d (.inr (9, [.int 0, .int 0, .int (nI n), .int (nI kk), .ref (d + 1), .ref (d + 2), .ref (d + 3), .ref (d + 4)]))).set d (.inr (9, [.int 0, .int 0, .int 0, .int (nI kk), .ref (d + 1), .ref (d + 2), .ref (d + 3), .ref (d + 4)]))), 0, 0) _
  refine ar_aload_n (pc' := 16) hM rfl rfl rfl ?_
  refine ar_iconst (x := 0) (pc' := 17) hM rfl (by decide) rfl ?_
  refine ar_putfield (pc' := 20) hM rfl (am_gs (am_gs (am_gs ht0))) (Nat.le_of_ble_eq_true rfl) rfl (by omega) rfl ?_
  show am_Go 60 (20, [.ref d], [], ((((w.set d (.inr (9, [.int 0, .int ri, .int (nI n), .int (nI kk), .ref (d + 1), .ref (d + 2), .ref (d + 3), .ref (d + 4)]))).set d (.inr (9, [.int 0, .int 0, .int (nI n), .int (nI kk), .ref (d + 1), .ref (d + 2), .ref (d + 3), .ref (d + 4)]))).set d (.inr (9, [.int 0, .int 0, .int 0, .int (nI kk), .ref (d + 1), .ref (d + 2), .ref (d + 3), .ref (d + 4)]))).set d (.inr (9, [.int 0, .int 0, .int 0, .int 0, .ref (d + 1), .ref (d + 2), .ref (d + 3), .ref (d + 4)]))), 0, 0) _
  refine ar_return hM rfl ?_
  rw [show ((w.set d (.inr (9, [.int 0, .int ri, .int (nI n), .int (nI kk), .ref (d + 1), .ref (d + 2), .ref (d + 3), .ref (d + 4)]))).set d (.inr (9, [.int 0, .int 0, .int (nI n), .int (nI kk), .ref (d + 1), .ref (d + 2), .ref (d + 3), .ref (d + 4)]))) = (w.set d (.inr (9, [.int 0, .int 0, .int (nI n), .int (nI kk), .ref (d + 1), .ref (d + 2), .ref (d + 3), .ref (d + 4)]))) from by rw [List.set_set]]
  rw [show ((w.set d (.inr (9, [.int 0, .int 0, .int (nI n), .int (nI kk), .ref (d + 1), .ref (d + 2), .ref (d + 3), .ref (d + 4)]))).set d (.inr (9, [.int 0, .int 0, .int 0, .int (nI kk), .ref (d + 1), .ref (d + 2), .ref (d + 3), .ref (d + 4)]))) = (w.set d (.inr (9, [.int 0, .int 0, .int 0, .int (nI kk), .ref (d + 1), .ref (d + 2), .ref (d + 3), .ref (d + 4)]))) from by rw [List.set_set]]
  rw [show ((w.set d (.inr (9, [.int 0, .int 0, .int 0, .int (nI kk), .ref (d + 1), .ref (d + 2), .ref (d + 3), .ref (d + 4)]))).set d (.inr (9, [.int 0, .int 0, .int 0, .int 0, .ref (d + 1), .ref (d + 2), .ref (d + 3), .ref (d + 4)]))) = (w.set d (.inr (9, [.int 0, .int 0, .int 0, .int 0, .ref (d + 1), .ref (d + 2), .ref (d + 3), .ref (d + 4)]))) from by rw [List.set_set]]
  exact ⟨rfl, rfl⟩
set_option maxRecDepth 100000 in
set_option maxHeartbeats 4000000 in
theorem c_dcopy (w : am_W) (d : Nat) (h2d : 2 ≤ d) (tr ri : Int32) (n kk : Nat) (wa ki ba he : Nat → Int32) (ht0 : w[d]? = some (.inr (9, [.int tr, .int ri, .int (nI n), .int (nI kk), .ref (d + 1), .ref (d + 2), .ref (d + 3), .ref (d + 4)]))) (ht1 : w[d + 1]? = some (.inl (0, 6, .inl wa))) (ht2 : w[d + 2]? = some (.inl (0, 6, .inl ki))) (ht3 : w[d + 3]? = some (.inl (0, 6, .inl ba))) (ht4 : w[d + 4]? = some (.inl (0, 5, .inl he))) (o : Nat) (h2o : 2 ≤ o) (hdj : d + 5 ≤ o ∨ o + 5 ≤ d) (otr ori : Int32) (on ok : Nat) (owa oki oba ohe : Nat → Int32) (h01 : ori = 0 ∨ ori = 1) (ho0 : w[o]? = some (.inr (9, [.int otr, .int ori, .int (nI on), .int (nI ok), .ref (o + 1), .ref (o + 2), .ref (o + 3), .ref (o + 4)]))) (ho1 : w[o + 1]? = some (.inl (0, 6, .inl owa))) (ho2 : w[o + 2]? = some (.inl (0, 6, .inl oki))) (ho3 : w[o + 3]? = some (.inl (0, 6, .inl oba))) (ho4 : w[o + 4]? = some (.inl (0, 5, .inl ohe))) : am_Go 61 (0, [.ref d, .ref o], [], w, 0, 0) (fun res w' => res = none ∧ w' = ((((w.set d (.inr (9, [.int otr, .int ori, .int (nI on), .int (nI ok), .ref (d + 1), .ref (d + 2), .ref (d + 3), .ref (d + 4)]))).set (d + 1) (.inl (0, 6, .inl (va_cpy owa wa 0 0 6)))).set (d + 2) (.inl (0, 6, .inl (va_cpy oki ki 0 0 6)))).set (d + 3) (.inl (0, 6, .inl (va_cpy oba ba 0 0 6)))).set (d + 4) (.inl (0, 5, .inl (va_cpy ohe he 0 0 5)))) := by
  have hM : am_P[61]? = some zm_X9_copyFrom := rfl
  refine ar_aload_n (pc' := 1) hM rfl rfl rfl ?_
  refine ar_aload_n (pc' := 2) hM rfl rfl rfl ?_
  refine ar_getfield (pc' := 5) hM rfl ho0 rfl rfl ?_
  refine ar_putfield (pc' := 8) hM rfl ht0 (Nat.le_of_ble_eq_true rfl) rfl (by omega) rfl ?_
  show am_Go 61 (8, [.ref d, .ref o], [], (w.set d (.inr (9, [.int otr, .int ri, .int (nI n), .int (nI kk), .ref (d + 1), .ref (d + 2), .ref (d + 3), .ref (d + 4)]))), 0, 0) _
  refine ar_aload_n (pc' := 9) hM rfl rfl rfl ?_
  refine ar_aload_n (pc' := 10) hM rfl rfl rfl ?_
  refine ar_getfield (pc' := 13) hM rfl (am_gn (by omega) ho0) rfl rfl ?_
  refine ar_putfield (pc' := 16) hM rfl (am_gs ht0) (Nat.le_of_ble_eq_true rfl) (i_fit1 h01) (by omega) rfl ?_
  show am_Go 61 (16, [.ref d, .ref o], [], ((w.set d (.inr (9, [.int otr, .int ri, .int (nI n), .int (nI kk), .ref (d + 1), .ref (d + 2), .ref (d + 3), .ref (d + 4)]))).set d (.inr (9, [.int otr, .int ori, .int (nI n), .int (nI kk), .ref (d + 1), .ref (d + 2), .ref (d + 3), .ref (d + 4)]))), 0, 0) _
  refine ar_aload_n (pc' := 17) hM rfl rfl rfl ?_
  refine ar_aload_n (pc' := 18) hM rfl rfl rfl ?_
  refine ar_getfield (pc' := 21) hM rfl (am_gn (by omega) (am_gn (by omega) ho0)) rfl rfl ?_
  refine ar_putfield (pc' := 24) hM rfl (am_gs (am_gs ht0)) (Nat.le_of_ble_eq_true rfl) rfl (by omega) rfl ?_
  show am_Go 61 (24, [.ref d, .ref o], [], (((w.set d (.inr (9, [.int otr, .int ri, .int (nI n), .int (nI kk), .ref (d + 1), .ref (d + 2), .ref (d + 3), .ref (d + 4)]))).set d (.inr (9, [.int otr, .int ori, .int (nI n), .int (nI kk), .ref (d + 1), .ref (d + 2), .ref (d + 3), .ref (d + 4)]))).set d (.inr (9, [.int otr, .int ori, .int (nI on), .int (nI kk), .ref (d + 1), .ref (d + 2), .ref (d + 3), .ref (d + 4)]))), 0, 0) _
  refine ar_aload_n (pc' := 25) hM rfl rfl rfl ?_
  refine ar_aload_n (pc' := 26) hM rfl rfl rfl ?_
  refine ar_getfield (pc' := 29) hM rfl (am_gn (by omega) (am_gn (by omega) (am_gn (by omega) ho0))) rfl rfl ?_
  refine ar_putfield (pc' := 32) hM rfl (am_gs (am_gs (am_gs ht0))) (Nat.le_of_ble_eq_true rfl) rfl (by omega) rfl ?_
  show am_Go 61 (32, [.ref d, .ref o], [], ((((w.set d (.inr (9, [.int otr, .int ri, .int (nI n), .int (nI kk), .ref (d + 1), .ref (d + 2), .ref (d + 3), .ref (d + 4)]))).set d (.inr (9, [.int otr, .int ori, .int (nI n), .int (nI kk), .ref (d + 1), .ref (d + 2), .ref (d + 3), .ref (d + 4)]))).set d (.inr (9, [.int otr, .int ori, .int (nI on), .int (nI kk), .ref (d + 1), .ref (d + 2), .ref (d + 3), .ref (d + 4)]))).set d (.inr (9, [.int otr, .int ori, .int (nI on), .int (nI ok), .ref (d + 1), .ref (d + 2), .ref (d + 3), .ref (d + 4)]))), 0, 0) _
  refine ar_aload_n (pc' := 33) hM rfl rfl rfl ?_
  refine ar_getfield (pc' := 36) hM rfl (am_gn (by omega) (am_gn (by omega) (am_gn (by omega) (am_gn (by omega) ho0)))) rfl rfl ?_
  refine ar_iconst (x := 0) (pc' := 37) hM rfl (by decide) rfl ?_
  refine ar_aload_n (pc' := 38) hM rfl rfl rfl ?_
  refine ar_getfield (pc' := 41) hM rfl (am_gs (am_gs (am_gs (am_gs ht0)))) rfl rfl ?_
  refine ar_iconst (x := 0) (pc' := 42) hM rfl (by decide) rfl ?_
  refine ar_bipush (x := 6) (pc' := 44) hM rfl (by decide) rfl ?_
  refine ar_arraycopyN (pc' := 47) (m := 6) hM rfl rfl (am_gn (by omega) (am_gn (by omega) (am_gn (by omega) (am_gn (by omega) ho1)))) (am_gn (by omega) (am_gn (by omega) (am_gn (by omega) (am_gn (by omega) ht1)))) (by decide) (Nat.le_of_ble_eq_true rfl) (Nat.le_of_ble_eq_true rfl) (Nat.le_of_ble_eq_true rfl) (by omega) (by omega) (Nat.le_of_ble_eq_true rfl) rfl ?_
  refine ar_aload_n (pc' := 48) hM rfl rfl rfl ?_
  refine ar_getfield (pc' := 51) hM rfl (am_gn (by omega) (am_gn (by omega) (am_gn (by omega) (am_gn (by omega) (am_gn (by omega) ho0))))) rfl rfl ?_
  refine ar_iconst (x := 0) (pc' := 52) hM rfl (by decide) rfl ?_
  refine ar_aload_n (pc' := 53) hM rfl rfl rfl ?_
  refine ar_getfield (pc' := 56) hM rfl (am_gn (by omega) (am_gs (am_gs (am_gs (am_gs ht0))))) rfl rfl ?_
  refine ar_iconst (x := 0) (pc' := 57) hM rfl (by decide) rfl ?_
  refine ar_bipush (x := 6) (pc' := 59) hM rfl (by decide) rfl ?_
  refine ar_arraycopyN (pc' := 62) (m := 6) hM rfl rfl (am_gn (by omega) (am_gn (by omega) (am_gn (by omega) (am_gn (by omega) (am_gn (by omega) ho2))))) (am_gn (by omega) (am_gn (by omega) (am_gn (by omega) (am_gn (by omega) (am_gn (by omega) ht2))))) (by decide) (Nat.le_of_ble_eq_true rfl) (Nat.le_of_ble_eq_true rfl) (Nat.le_of_ble_eq_true rfl) (by omega) (by omega) (Nat.le_of_ble_eq_true rfl) rfl ?_
  refine ar_aload_n (pc' := 63) hM rfl rfl rfl ?_
  refine ar_getfield (pc' := 66) hM rfl (am_gn (by omega) (am_gn (by omega) (am_gn (by omega) (am_gn (by omega) (am_gn (by omega) (am_gn (by omega) ho0)))))) rfl rfl ?_
  refine ar_iconst (x := 0) (pc' := 67) hM rfl (by decide) rfl ?_
  refine ar_aload_n (pc' := 68) hM rfl rfl rfl ?_
  refine ar_getfield (pc' := 71) hM rfl (am_gn (by omega) (am_gn (by omega) (am_gs (am_gs (am_gs (am_gs ht0)))))) rfl rfl ?_
  refine ar_iconst (x := 0) (pc' := 72) hM rfl (by decide) rfl ?_
  refine ar_bipush (x := 6) (pc' := 74) hM rfl (by decide) rfl ?_
  refine ar_arraycopyN (pc' := 77) (m := 6) hM rfl rfl (am_gn (by omega) (am_gn (by omega) (am_gn (by omega) (am_gn (by omega) (am_gn (by omega) (am_gn (by omega) ho3)))))) (am_gn (by omega) (am_gn (by omega) (am_gn (by omega) (am_gn (by omega) (am_gn (by omega) (am_gn (by omega) ht3)))))) (by decide) (Nat.le_of_ble_eq_true rfl) (Nat.le_of_ble_eq_true rfl) (Nat.le_of_ble_eq_true rfl) (by omega) (by omega) (Nat.le_of_ble_eq_true rfl) rfl ?_
  refine ar_aload_n (pc' := 78) hM rfl rfl rfl ?_
  refine ar_getfield (pc' := 81) hM rfl (am_gn (by omega) (am_gn (by omega) (am_gn (by omega) (am_gn (by omega) (am_gn (by omega) (am_gn (by omega) (am_gn (by omega) ho0))))))) rfl rfl ?_
  refine ar_iconst (x := 0) (pc' := 82) hM rfl (by decide) rfl ?_
  refine ar_aload_n (pc' := 83) hM rfl rfl rfl ?_
  refine ar_getfield (pc' := 86) hM rfl (am_gn (by omega) (am_gn (by omega) (am_gn (by omega) (am_gs (am_gs (am_gs (am_gs ht0))))))) rfl rfl ?_
  refine ar_iconst (x := 0) (pc' := 87) hM rfl (by decide) rfl ?_
  refine ar_iconst (x := 5) (pc' := 88) hM rfl (by decide) rfl ?_
  refine ar_arraycopyN (pc' := 91) (m := 5) hM rfl rfl (am_gn (by omega) (am_gn (by omega) (am_gn (by omega) (am_gn (by omega) (am_gn (by omega) (am_gn (by omega) (am_gn (by omega) ho4))))))) (am_gn (by omega) (am_gn (by omega) (am_gn (by omega) (am_gn (by omega) (am_gn (by omega) (am_gn (by omega) (am_gn (by omega) ht4))))))) (by decide) (Nat.le_of_ble_eq_true rfl) (Nat.le_of_ble_eq_true rfl) (Nat.le_of_ble_eq_true rfl) (by omega) (by omega) (Nat.le_of_ble_eq_true rfl) rfl ?_
  refine ar_return hM rfl ?_
  rw [show ((w.set d (.inr (9, [.int otr, .int ri, .int (nI n), .int (nI kk), .ref (d + 1), .ref (d + 2), .ref (d + 3), .ref (d + 4)]))).set d (.inr (9, [.int otr, .int ori, .int (nI n), .int (nI kk), .ref (d + 1), .ref (d + 2), .ref (d + 3), .ref (d + 4)]))) = (w.set d (.inr (9, [.int otr, .int ori, .int (nI n), .int (nI kk), .ref (d + 1), .ref (d + 2), .ref (d + 3), .ref (d + 4)]))) from by rw [List.set_set]]
  rw [show ((w.set d (.inr (9, [.int otr, .int ori, .int (nI n), .int (nI kk), .ref (d + 1), .ref (d + 2), .ref (d + 3), .ref (d + 4)]))).set d (.inr (9, [.int otr, .int ori, .int (nI on), .int (nI kk), .ref (d + 1), .ref (d + 2), .ref (d + 3), .ref (d + 4)]))) = (w.set d (.inr (9, [.int otr, .int ori, .int (nI on), .int (nI kk), .ref (d + 1), .ref (d + 2), .ref (d + 3), .ref (d + 4)]))) from by rw [List.set_set]]
  rw [show ((w.set d (.inr (9, [.int otr, .int ori, .int (nI on), .int (nI kk), .ref (d + 1), .ref (d + 2), .ref (d + 3), .ref (d + 4)]))).set d (.inr (9, [.int otr, .int ori, .int (nI on), .int (nI ok), .ref (d + 1), .ref (d + 2), .ref (d + 3), .ref (d + 4)]))) = (w.set d (.inr (9, [.int otr, .int ori, .int (nI on), .int (nI ok), .ref (d + 1), .ref (d + 2), .ref (d + 3), .ref (d + 4)]))) from by rw [List.set_set]]
  exact ⟨rfl, rfl⟩
set_option maxRecDepth 100000 in
set_option maxHeartbeats 4000000 in
theorem c_heatOn (w : am_W) (d : Nat) (h2d : 2 ≤ d) (tr ri : Int32) (n kk : Nat) (wa ki ba he : Nat → Int32) (ht0 : w[d]? = some (.inr (9, [.int tr, .int ri, .int (nI n), .int (nI kk), .ref (d + 1), .ref (d + 2), .ref (d + 3), .ref (d + 4)]))) (ht1 : w[d + 1]? = some (.inl (0, 6, .inl wa))) (ht2 : w[d + 2]? = some (.inl (0, 6, .inl ki))) (ht3 : w[d + 3]? = some (.inl (0, 6, .inl ba))) (ht4 : w[d + 4]? = some (.inl (0, 5, .inl he))) (dy : Nat) (hdy : dy < 2 ^ 31) (hkk : kk ≤ 5) : am_Go 62 (0, [.ref d, .int (nI dy)], [], w, 0, 0) (fun res w' => res = some (.int (i_heat kk he dy)) ∧ w' = w) := by
  have hM : am_P[62]? = some zm_X9_heatOn := rfl
  refine ar_aload_n (pc' := 1) hM rfl rfl rfl ?_
  refine ar_getfield (pc' := 4) hM rfl ht0 rfl rfl ?_
  refine ar_if_gt (pc' := 7) hM rfl rfl (fun c4 => ?_) (fun c4 => ?_)
  · refine ar_aload_n (pc' := 12) hM rfl rfl rfl ?_
    refine ar_getfield (pc' := 15) hM rfl ht0 rfl rfl ?_
    refine ar_iload_n (pc' := 16) hM rfl rfl rfl ?_
    refine ar_aload_n (pc' := 17) hM rfl rfl rfl ?_
    refine ar_getfield (pc' := 20) hM rfl ht0 rfl rfl ?_
    refine ar_static (pc' := 23) (k3 := 0) (k4 := 0) hM rfl (by decide) rfl rfl (c_floorMod _ dy kk hdy (i_pos c4) (by omega)) (fun r20 w20 q20 => ?_)
    obtain ⟨rfl, q20w⟩ := q20
    rw [q20w]
    show am_Go 62 (23, [.ref d, .int (nI dy)], [.int (nI (dy % kk)), .ref (d + 4)], w, 0, 0) _
    refine ar_ialoadN (j := dy % kk) (pc' := 24) hM rfl ht4 rfl (by have h9 : 0 < kk := (i_pos c4); have := Nat.mod_lt dy h9; omega) (Nat.le_of_ble_eq_true rfl) rfl ?_
    refine ar_ireturn hM rfl (Or.inl rfl) ?_
    exact ⟨by unfold i_heat; rw [if_neg (fun q => by subst q; exact absurd c4 (by decide))], rfl⟩
  · refine ar_iconst (x := 0) (pc' := 8) hM rfl (by decide) rfl ?_
    refine ar_goto hM rfl ?_
    refine ar_ireturn hM rfl (Or.inl rfl) ?_
    exact ⟨by unfold i_heat; rw [if_pos (i_npos c4 (by omega))], rfl⟩
