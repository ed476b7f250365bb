/-! Today: a look, a day; sums, powers, common divisors -/
theorem i_gv_congr {ri tr : Int32} {n : Nat} {fs gs : Nat → Int32} {od : Nat → Nat} (h : ∀ k, k < n → fs k = gs k) (hod : ∀ p, p < n → od p < n) {p : Nat} (hp : p < n) : i_gv ri tr n fs od p = i_gv ri tr n gs od p := by
  unfold i_gv
  rw [h (od (n - 1)) (hod _ (by omega)), h (od (p - 1)) (hod _ (by omega))]
/-- what the rows of a look hold, by places -/
def i_lkp (n : Nat) (od : Nat → Nat) (ri tr : Int32) (ss ba wt sy : Nat → Int32) (a3 a4 a5 a6 a7 : Nat → Int32) : Prop :=
  ∀ p, p < n → a3 (od p) = i_gv ri tr n sy od p ∧ a4 (od p) = i_dr (wt (od p)) (i_gv ri tr n sy od p) (ss (od p)) ∧ a5 (od p) = i_lk (wt (od p)) (i_gv ri tr n sy od p) (ss (od p)) ∧ a6 (od p) = i_lf (wt (od p)) (i_gv ri tr n sy od p) (ss (od p)) (ba (od p)) ∧ a7 (od p) = i_sp (wt (od p)) (i_gv ri tr n sy od p) (ss (od p)) (ba (od p))
theorem i_lkp_of {n : Nat} {od : Nat → Nat} {ri tr : Int32} {ss ba wt sy fw fs a3 a4 a5 a6 a7 : Nat → Int32} (hw : ∀ k, k < n → fw k = wt k) (hs : ∀ k, k < n → fs k = sy k) (hod : ∀ p, p < n → od p < n) (q3 : ∀ p, p < n → a3 (od p) = i_gv ri tr n fs od p) (q4 : ∀ p, p < n → a4 (od p) = i_dr (fw (od p)) (i_gv ri tr n fs od p) (ss (od p))) (q5 : ∀ p, p < n → a5 (od p) = i_lk (fw (od p)) (i_gv ri tr n fs od p) (ss (od p))) (q6 : ∀ p, p < n → a6 (od p) = i_lf (fw (od p)) (i_gv ri tr n fs od p) (ss (od p)) (ba (od p))) (q7 : ∀ p, p < n → a7 (od p) = i_sp (fw (od p)) (i_gv ri tr n fs od p) (ss (od p)) (ba (od p))) : i_lkp n od ri tr ss ba wt sy a3 a4 a5 a6 a7 := by
  intro p hp
  rw [q3 p hp, q4 p hp, q5 p hp, q6 p hp, q7 p hp, i_gv_congr hs hod hp, hw (od p) (hod p hp)]
  exact ⟨rfl, rfl, rfl, rfl, rfl⟩
def i_sum (f : Nat → Int32) : Nat → Int32
  | 0 => 0
  | n + 1 => i_sum f n + f n
def i_grt (f : Nat → Int32) : Nat → Int32
  | 0 => 0
  | n + 1 => i_max (i_grt f n) (f n)
def i_pow (b : Int32) : Nat → Int32
  | 0 => 1
  | n + 1 => i_pow b n * b
def l_wd (r : Int64) : Nat → Int64
  | 0 => r
  | n + 1 => l_wd r n / 1000
def i_eu : Nat → Int32 → Int32 → Int32
  | 0, x, _ => x
  | k + 1, x, y => if y = 0 then x else i_eu k y (x - x / y * y)
set_option maxRecDepth 100000 in
set_option maxHeartbeats 4000000 in
theorem c_lookAt (w : am_W) (d : Nat) (h2d : 2 ≤ d) (tr ri : Int32) (n kk : Nat) (wa ki ba he : Nat → Int32) (ht0 : w[d]? = some (.inr (9, [.int tr, .int ri, .int (nI n), .int (nI kk), .ref (d + 1), .ref (d + 2), .ref (d + 3), .ref (d + 4)]))) (ht1 : w[d + 1]? = some (.inl (0, 6, .inl wa))) (ht2 : w[d + 2]? = some (.inl (0, 6, .inl ki))) (ht3 : w[d + 3]? = some (.inl (0, 6, .inl ba))) (ht4 : w[d + 4]? = some (.inl (0, 5, .inl he))) (hn : n ≤ 6) (hkk : kk ≤ 5) (s : Nat) (h2s : 2 ≤ s) (so ss sl : Nat → Int32) (sa sw : Int32) (dy : Nat) (hdy : dy < 2 ^ 31) (hs0 : w[s]? = some (.inr (6, [.ref (s + 1), .ref (s + 2), .ref (s + 3), .int sa, .int sw, .int (nI dy)]))) (hs1 : w[s + 1]? = some (.inl (0, 6, .inl so))) (hs2 : w[s + 2]? = some (.inl (0, 6, .inl ss))) (hs3 : w[s + 3]? = some (.inl (0, 6, .inl sl))) (t : Nat) (h2t : 2 ≤ t) (dw ds dg dd dl df dv : Nat → Int32) (hd0 : w[t]? = some (.inr (8, [.ref (t + 1), .ref (t + 2), .ref (t + 3), .ref (t + 4), .ref (t + 5), .ref (t + 6), .ref (t + 7)]))) (hd1 : w[t + 1]? = some (.inl (0, 6, .inl dw))) (hd2 : w[t + 2]? = some (.inl (0, 6, .inl ds))) (hd3 : w[t + 3]? = some (.inl (0, 6, .inl dg))) (hd4 : w[t + 4]? = some (.inl (0, 6, .inl dd))) (hd5 : w[t + 5]? = some (.inl (0, 6, .inl dl))) (hd6 : w[t + 6]? = some (.inl (0, 6, .inl df))) (hd7 : w[t + 7]? = some (.inl (0, 6, .inl dv))) (j1 : t + 8 ≤ d ∨ d + 5 ≤ t) (j2 : t + 8 ≤ s ∨ s + 4 ≤ t) (j3 : d + 5 ≤ s ∨ s + 4 ≤ d) (od : Nat → Nat) (hod : ∀ p, p < n → so p = nI (od p) ∧ od p < n) (inj : ∀ p q, p < n → q < n → od p = od q → p = q) : am_Go 54 (0, [.ref t, .ref d, .ref s], [], w, 0, 0) (fun res w' => ∃ fw fs a3 a4 a5 a6 a7, res = none ∧ w' = (((((((w.set (t + 1) (.inl (0, 6, .inl fw))).set (t + 2) (.inl (0, 6, .inl fs))).set (t + 3) (.inl (0, 6, .inl a3))).set (t + 4) (.inl (0, 6, .inl a4))).set (t + 5) (.inl (0, 6, .inl a5))).set (t + 6) (.inl (0, 6, .inl a6))).set (t + 7) (.inl (0, 6, .inl a7))) ∧ (∀ h, h < n → fw h = (i_wnt wa ki (i_heat kk he dy) sa sw 0) h) ∧ (∀ h, h < n → fs h = (i_say wa ki (i_heat kk he dy) sa sw 0) h) ∧ i_lkp n od ri tr ss ba (i_wnt wa ki (i_heat kk he dy) sa sw 0) (i_say wa ki (i_heat kk he dy) sa sw 0) a3 a4 a5 a6 a7) := by
  have hM : am_P[54]? = some zm_X8_lookAt := rfl
  refine ar_aload_n (pc' := 1) hM rfl rfl rfl ?_
  refine ar_aload_n (pc' := 2) hM rfl rfl rfl ?_
  refine ar_aload_n (pc' := 3) hM rfl rfl rfl ?_
  refine ar_iconst (x := 0) (pc' := 4) hM rfl (by decide) rfl ?_
  refine ar_virtual (pc' := 7) (k3 := 0) (k4 := 0) hM rfl rfl hd0 ⟨rfl, (by omega)⟩ rfl rfl (c_hear _ d (by omega) _ _ _ _ _ _ _ _ ht0 ht1 ht2 ht3 ht4 hn hkk s (by omega) _ _ _ _ _ dy hdy hs0 hs1 hs2 hs3 t (by omega) _ _ _ _ _ _ _ hd0 hd1 hd2 hd3 hd4 hd5 hd6 hd7 (by omega) (by omega) (by omega) 0) (fun r4 w4 q4 => ?_)
  obtain ⟨fw, fs, rfl, hw, hfw, hfs⟩ := q4
  rw [hw]
  show am_Go 54 (7, [.ref t, .ref d, .ref s], [], ((w.set (t + 1) (.inl (0, 6, .inl fw))).set (t + 2) (.inl (0, 6, .inl fs))), 0, 0) _
  refine ar_aload_n (pc' := 8) hM rfl rfl rfl ?_
  refine ar_aload_n (pc' := 9) hM rfl rfl rfl ?_
  refine ar_aload_n (pc' := 10) hM rfl rfl rfl ?_
  refine ar_virtual (pc' := 13) (k3 := 0) (k4 := 0) hM rfl rfl (am_gn (by omega) (am_gn (by omega) hd0)) ⟨rfl, (by omega)⟩ rfl rfl (c_pour _ d (by omega) _ _ _ _ _ _ _ _ (am_gn (by omega) (am_gn (by omega) ht0)) (am_gn (by omega) (am_gn (by omega) ht1)) (am_gn (by omega) (am_gn (by omega) ht2)) (am_gn (by omega) (am_gn (by omega) ht3)) (am_gn (by omega) (am_gn (by omega) ht4)) hn hkk s (by omega) _ _ _ _ _ dy hdy (am_gn (by omega) (am_gn (by omega) hs0)) (am_gn (by omega) (am_gn (by omega) hs1)) (am_gn (by omega) (am_gn (by omega) hs2)) (am_gn (by omega) (am_gn (by omega) hs3)) t (by omega) _ _ _ _ _ _ _ (am_gn (by omega) (am_gn (by omega) hd0)) (am_gn (by omega) (am_gs hd1)) (am_gs (am_gn (by omega) hd2)) (am_gn (by omega) (am_gn (by omega) hd3)) (am_gn (by omega) (am_gn (by omega) hd4)) (am_gn (by omega) (am_gn (by omega) hd5)) (am_gn (by omega) (am_gn (by omega) hd6)) (am_gn (by omega) (am_gn (by omega) hd7)) (by omega) (by omega) (by omega) od hod inj) (fun r10 w10 q10 => ?_)
  obtain ⟨a3, a4, a5, a6, a7, rfl, hw2, q3, q4, q5, q6, q7⟩ := q10
  rw [hw2]
  show am_Go 54 (13, [.ref t, .ref d, .ref s], [], (((((((w.set (t + 1) (.inl (0, 6, .inl fw))).set (t + 2) (.inl (0, 6, .inl fs))).set (t + 3) (.inl (0, 6, .inl a3))).set (t + 4) (.inl (0, 6, .inl a4))).set (t + 5) (.inl (0, 6, .inl a5))).set (t + 6) (.inl (0, 6, .inl a6))).set (t + 7) (.inl (0, 6, .inl a7))), 0, 0) _
  refine ar_return hM rfl ?_
  exact ⟨fw, fs, a3, a4, a5, a6, a7, rfl, rfl, hfw, hfs, i_lkp_of hfw hfs (fun p hp => (hod p hp).2) q3 q4 q5 q6 q7⟩
set_option maxRecDepth 100000 in
set_option maxHeartbeats 4000000 in
theorem c_pass (w : am_W) (d : Nat) (h2d : 2 ≤ d) (tr ri : Int32) (n kk : Nat) (wa ki ba he : Nat → Int32) (ht0 : w[d]? = some (.inr (9, [.int tr, .int ri, .int (nI n), .int (nI kk), .ref (d + 1), .ref (d + 2), .ref (d + 3), .ref (d + 4)]))) (ht1 : w[d + 1]? = some (.inl (0, 6, .inl wa))) (ht2 : w[d + 2]? = some (.inl (0, 6, .inl ki))) (ht3 : w[d + 3]? = some (.inl (0, 6, .inl ba))) (ht4 : w[d + 4]? = some (.inl (0, 5, .inl he))) (hn : n ≤ 6) (hkk : kk ≤ 5) (s : Nat) (h2s : 2 ≤ s) (so ss sl : Nat → Int32) (sa sw : Int32) (dy : Nat) (hdy : dy < 2 ^ 31) (hs0 : w[s]? = some (.inr (6, [.ref (s + 1), .ref (s + 2), .ref (s + 3), .int sa, .int sw, .int (nI dy)]))) (hs1 : w[s + 1]? = some (.inl (0, 6, .inl so))) (hs2 : w[s + 2]? = some (.inl (0, 6, .inl ss))) (hs3 : w[s + 3]? = some (.inl (0, 6, .inl sl))) (t : Nat) (h2t : 2 ≤ t) (dw ds dg dd dl df dv : Nat → Int32) (hd0 : w[t]? = some (.inr (8, [.ref (t + 1), .ref (t + 2), .ref (t + 3), .ref (t + 4), .ref (t + 5), .ref (t + 6), .ref (t + 7)]))) (hd1 : w[t + 1]? = some (.inl (0, 6, .inl dw))) (hd2 : w[t + 2]? = some (.inl (0, 6, .inl ds))) (hd3 : w[t + 3]? = some (.inl (0, 6, .inl dg))) (hd4 : w[t + 4]? = some (.inl (0, 6, .inl dd))) (hd5 : w[t + 5]? = some (.inl (0, 6, .inl dl))) (hd6 : w[t + 6]? = some (.inl (0, 6, .inl df))) (hd7 : w[t + 7]? = some (.inl (0, 6, .inl dv))) (j1 : t + 8 ≤ d ∨ d + 5 ≤ t) (j2 : t + 8 ≤ s ∨ s + 4 ≤ t) (j3 : d + 5 ≤ s ∨ s + 4 ≤ d) (od : Nat → Nat) (hod : ∀ p, p < n → so p = nI (od p) ∧ od p < n) (inj : ∀ p q, p < n → q < n → od p = od q → p = q) : am_Go 58 (0, [.ref t, .ref d, .ref s, .float 0], [], w, 0, 0) (fun res w' => ∃ fw fs a3 a4 a5 a6 a7 b2 b3, res = none ∧ w' = (((((((((w.set (t + 1) (.inl (0, 6, .inl fw))).set (t + 2) (.inl (0, 6, .inl fs))).set (t + 3) (.inl (0, 6, .inl a3))).set (t + 4) (.inl (0, 6, .inl a4))).set (t + 5) (.inl (0, 6, .inl a5))).set (t + 6) (.inl (0, 6, .inl a6))).set (t + 7) (.inl (0, 6, .inl a7))).set (s + 2) (.inl (0, 6, .inl b2))).set (s + 3) (.inl (0, 6, .inl b3))).set s (.inr (6, [.ref (s + 1), .ref (s + 2), .ref (s + 3), .int 0, .int sw, .int (nI (dy + 1))])) ∧ (∀ h, h < n → fw h = (i_wnt wa ki (i_heat kk he dy) sa sw 0) h) ∧ (∀ h, h < n → fs h = (i_say wa ki (i_heat kk he dy) sa sw 0) h) ∧ i_lkp n od ri tr ss ba (i_wnt wa ki (i_heat kk he dy) sa sw 0) (i_say wa ki (i_heat kk he dy) sa sw 0) a3 a4 a5 a6 a7 ∧ (∀ h, h < n → b2 h = a6 h) ∧ (∀ h, h < n → b3 h = sl h + a5 h)) := by
  have hM : am_P[58]? = some zm_X8_pass := rfl
  refine ar_aload_n (pc' := 1) hM rfl rfl rfl ?_
  refine ar_aload_n (pc' := 2) hM rfl rfl rfl ?_
  refine ar_aload_n (pc' := 3) hM rfl rfl rfl ?_
  refine ar_virtual (pc' := 6) (k3 := 0) (k4 := 0) hM rfl rfl hd0 ⟨rfl, (by omega)⟩ rfl rfl (c_lookAt _ d (by omega) _ _ _ _ _ _ _ _ ht0 ht1 ht2 ht3 ht4 hn hkk s (by omega) _ _ _ _ _ dy hdy hs0 hs1 hs2 hs3 t (by omega) _ _ _ _ _ _ _ hd0 hd1 hd2 hd3 hd4 hd5 hd6 hd7 (by omega) (by omega) (by omega) od hod inj) (fun r3 w3 q3 => ?_)
  obtain ⟨fw, fs, a3, a4, a5, a6, a7, rfl, hw, hfw, hfs, hlk⟩ := q3
  rw [hw]
  show am_Go 58 (6, [.ref t, .ref d, .ref s, .float 0], [], (((((((w.set (t + 1) (.inl (0, 6, .inl fw))).set (t + 2) (.inl (0, 6, .inl fs))).set (t + 3) (.inl (0, 6, .inl a3))).set (t + 4) (.inl (0, 6, .inl a4))).set (t + 5) (.inl (0, 6, .inl a5))).set (t + 6) (.inl (0, 6, .inl a6))).set (t + 7) (.inl (0, 6, .inl a7))), 0, 0) _
  refine ar_iconst (x := 0) (pc' := 7) hM rfl (by decide) rfl ?_
  refine ar_istore_n (pc' := 8) hM rfl rfl rfl rfl ?_
  have loop : ∀ (dj j : Nat) (b2 : Nat → Int32) (b3 : Nat → Int32), dj + j = n → (∀ p, p < j → b2 p = a6 p) → (∀ p, p < j → b3 p = (fun h => sl h + a5 h) p) → (∀ p, j ≤ p → b3 p = sl p) → am_Go 58 (8, [.ref t, .ref d, .ref s, .int (nI j)], [], (((((((((w.set (t + 1) (.inl (0, 6, .inl fw))).set (t + 2) (.inl (0, 6, .inl fs))).set (t + 3) (.inl (0, 6, .inl a3))).set (t + 4) (.inl (0, 6, .inl a4))).set (t + 5) (.inl (0, 6, .inl a5))).set (t + 6) (.inl (0, 6, .inl a6))).set (t + 7) (.inl (0, 6, .inl a7))).set (s + 2) (.inl (0, 6, .inl b2))).set (s + 3) (.inl (0, 6, .inl b3))), 0, 0) (fun res w' => ∃ fw fs a3 a4 a5 a6 a7 b2 b3, res = none ∧ w' = (((((((((w.set (t + 1) (.inl (0, 6, .inl fw))).set (t + 2) (.inl (0, 6, .inl fs))).set (t + 3) (.inl (0, 6, .inl a3))).set (t + 4) (.inl (0, 6, .inl a4))).set (t + 5) (.inl (0, 6, .inl a5))).set (t + 6) (.inl (0, 6, .inl a6))).set (t + 7) (.inl (0, 6, .inl a7))).set (s + 2) (.inl (0, 6, .inl b2))).set (s + 3) (.inl (0, 6, .inl b3))).set s (.inr (6, [.ref (s + 1), .ref (s + 2), .ref (s + 3), .int 0, .int sw, .int (nI (dy + 1))])) ∧ (∀ h, h < n → fw h = (i_wnt wa ki (i_heat kk he dy) sa sw 0) h) ∧ (∀ h, h < n → fs h = (i_say wa ki (i_heat kk he dy) sa sw 0) h) ∧ i_lkp n od ri tr ss ba (i_wnt wa ki (i_heat kk he dy) sa sw 0) (i_say wa ki (i_heat kk he dy) sa sw 0) a3 a4 a5 a6 a7 ∧ (∀ h, h < n → b2 h = a6 h) ∧ (∀ h, h < n → b3 h = sl h + a5 h)) := by
    intro dj
    induction dj with
    | zero =>
      intro j b2 b3 hj h2 h3 h4
      refine ar_iload_n (pc' := 9) hM rfl rfl rfl ?_
      refine ar_aload_n (pc' := 10) hM rfl rfl rfl ?_
      refine ar_getfield (pc' := 13) hM rfl (am_gn (by omega) (am_gn (by omega) (am_gn (by omega) (am_gn (by omega) (am_gn (by omega) (am_gn (by omega) (am_gn (by omega) (am_gn (by omega) (am_gn (by omega) ht0))))))))) rfl rfl ?_
      refine ar_icmp_ge (pc' := 16) hM rfl rfl (fun _ => ?_) (fun q => absurd (nI_le (a := n) (b := j) (by omega) (by omega)) q)
      refine ar_aload_n (pc' := 50) hM rfl rfl rfl ?_
      refine ar_iconst (x := 0) (pc' := 51) hM rfl (by decide) rfl ?_
      refine ar_putfield (pc' := 54) hM rfl (am_gn (by omega) (am_gn (by omega) (am_gn (by omega) (am_gn (by omega) (am_gn (by omega) (am_gn (by omega) (am_gn (by omega) (am_gn (by omega) (am_gn (by omega) hs0))))))))) (Nat.le_of_ble_eq_true rfl) rfl (by omega) rfl ?_
      show am_Go 58 (54, [.ref t, .ref d, .ref s, .int (nI j)], [], ((((((((((w.set (t + 1) (.inl (0, 6, .inl fw))).set (t + 2) (.inl (0, 6, .inl fs))).set (t + 3) (.inl (0, 6, .inl a3))).set (t + 4) (.inl (0, 6, .inl a4))).set (t + 5) (.inl (0, 6, .inl a5))).set (t + 6) (.inl (0, 6, .inl a6))).set (t + 7) (.inl (0, 6, .inl a7))).set (s + 2) (.inl (0, 6, .inl b2))).set (s + 3) (.inl (0, 6, .inl b3))).set s (.inr (6, [.ref (s + 1), .ref (s + 2), .ref (s + 3), .int 0, .int sw, .int (nI dy)]))), 0, 0) _
      refine ar_aload_n (pc' := 55) hM rfl rfl rfl ?_
      refine ar_dup (pc' := 56) hM rfl rfl rfl ?_
      refine ar_getfield (pc' := 59) hM rfl (am_gs (am_gn (by omega) (am_gn (by omega) (am_gn (by omega) (am_gn (by omega) (am_gn (by omega) (am_gn (by omega) (am_gn (by omega) (am_gn (by omega) (am_gn (by omega) hs0)))))))))) rfl rfl ?_
      refine ar_iconst (x := 1) (pc' := 60) hM rfl (by decide) rfl ?_
      refine ar_iadd (pc' := 61) hM rfl rfl ?_
      rw [show ((nI dy) + 1 : Int32) = nI (dy + 1) from nI_1 dy]
      refine ar_putfield (pc' := 64) hM rfl (am_gs (am_gn (by omega) (am_gn (by omega) (am_gn (by omega) (am_gn (by omega) (am_gn (by omega) (am_gn (by omega) (am_gn (by omega) (am_gn (by omega) (am_gn (by omega) hs0)))))))))) (Nat.le_of_ble_eq_true rfl) rfl (by omega) rfl ?_
      show am_Go 58 (64, [.ref t, .ref d, .ref s, .int (nI j)], [], (((((((((((w.set (t + 1) (.inl (0, 6, .inl fw))).set (t + 2) (.inl (0, 6, .inl fs))).set (t + 3) (.inl (0, 6, .inl a3))).set (t + 4) (.inl (0, 6, .inl a4))).set (t + 5) (.inl (0, 6, .inl a5))).set (t + 6) (.inl (0, 6, .inl a6))).set (t + 7) (.inl (0, 6, .inl a7))).set (s + 2) (.inl (0, 6, .inl b2))).set (s + 3) (.inl (0, 6, .inl b3))).set s (.inr (6, [.ref (s + 1), .ref (s + 2), .ref (s + 3), .int 0, .int sw, .int (nI dy)]))).set s (.inr (6, [.ref (s + 1), .ref (s + 2), .ref (s + 3), .int 0, .int sw, .int (nI (dy + 1))]))), 0, 0) _
      refine ar_return hM rfl ?_
      rw [show (((((((((((w.set (t + 1) (.inl (0, 6, .inl fw))).set (t + 2) (.inl (0, 6, .inl fs))).set (t + 3) (.inl (0, 6, .inl a3))).set (t + 4) (.inl (0, 6, .inl a4))).set (t + 5) (.inl (0, 6, .inl a5))).set (t + 6) (.inl (0, 6, .inl a6))).set (t + 7) (.inl (0, 6, .inl a7))).set (s + 2) (.inl (0, 6, .inl b2))).set (s + 3) (.inl (0, 6, .inl b3))).set s (.inr (6, [.ref (s + 1), .ref (s + 2), .ref (s + 3), .int 0, .int sw, .int (nI dy)]))).set s (.inr (6, [.ref (s + 1), .ref (s + 2), .ref (s + 3), .int 0, .int sw, .int (nI (dy + 1))]))) = ((((((((((w.set (t + 1) (.inl (0, 6, .inl fw))).set (t + 2) (.inl (0, 6, .inl fs))).set (t + 3) (.inl (0, 6, .inl a3))).set (t + 4) (.inl (0, 6, .inl a4))).set (t + 5) (.inl (0, 6, .inl a5))).set (t + 6) (.inl (0, 6, .inl a6))).set (t + 7) (.inl (0, 6, .inl a7))).set (s + 2) (.inl (0, 6, .inl b2))).set (s + 3) (.inl (0, 6, .inl b3))).set s (.inr (6, [.ref (s + 1), .ref (s + 2), .ref (s + 3), .int 0, .int sw, .int (nI (dy + 1))]))) from by rw [List.set_set]]
      exact ⟨fw, fs, a3, a4, a5, a6, a7, b2, b3, rfl, rfl, hfw, hfs, hlk, fun p hp => h2 p (by omega), fun p hp => h3 p (by omega)⟩
    | succ dj ih =>
      intro j b2 b3 hj h2 h3 h4
      refine ar_iload_n (pc' := 9) hM rfl rfl rfl ?_
      refine ar_aload_n (pc' := 10) hM rfl rfl rfl ?_
      refine ar_getfield (pc' := 13) hM rfl (am_gn (by omega) (am_gn (by omega) (am_gn (by omega) (am_gn (by omega) (am_gn (by omega) (am_gn (by omega) (am_gn (by omega) (am_gn (by omega) (am_gn (by omega) ht0))))))))) rfl rfl ?_
      refine ar_icmp_ge (pc' := 16) hM rfl rfl (fun q => absurd q (nI_ge (a := j) (b := n) (by omega) (by omega))) (fun _ => ?_)
      refine ar_aload_n (pc' := 17) hM rfl rfl rfl ?_
      refine ar_getfield (pc' := 20) hM rfl (am_gn (by omega) (am_gn (by omega) (am_gn (by omega) (am_gn (by omega) (am_gn (by omega) (am_gn (by omega) (am_gn (by omega) (am_gn (by omega) (am_gn (by omega) hs0))))))))) rfl rfl ?_
      refine ar_iload_n (pc' := 21) hM rfl rfl rfl ?_
      refine ar_aload_n (pc' := 22) hM rfl rfl rfl ?_
      refine ar_getfield (pc' := 25) hM rfl (am_gn (by omega) (am_gn (by omega) (am_gn (by omega) (am_gn (by omega) (am_gn (by omega) (am_gn (by omega) (am_gn (by omega) (am_gn (by omega) (am_gn (by omega) hd0))))))))) rfl rfl ?_
      refine ar_iload_n (pc' := 26) hM rfl rfl rfl ?_
      refine ar_ialoadN (j := j) (pc' := 27) hM rfl (am_gn (by omega) (am_gn (by omega) (am_gn (by omega) (am_gs (am_gn (by omega) (am_gn (by omega) (am_gn (by omega) (am_gn (by omega) (am_gn (by omega) hd6))))))))) rfl (by omega) (Nat.le_of_ble_eq_true rfl) rfl ?_
      refine ar_iastoreN (j := j) (pc' := 28) hM rfl (am_gn (by omega) (am_gs (am_gn (by omega) (am_gn (by omega) (am_gn (by omega) (am_gn (by omega) (am_gn (by omega) (am_gn (by omega) (am_gn (by omega) hs2))))))))) rfl (by omega) (Nat.le_of_ble_eq_true rfl) (by omega) rfl ?_
      refine ar_aload_n (pc' := 29) hM rfl rfl rfl ?_
      refine ar_getfield (pc' := 32) hM rfl (am_gn (by omega) (am_gn (by omega) (am_gn (by omega) (am_gn (by omega) (am_gn (by omega) (am_gn (by omega) (am_gn (by omega) (am_gn (by omega) (am_gn (by omega) (am_gn (by omega) hs0)))))))))) rfl rfl ?_
      refine ar_iload_n (pc' := 33) hM rfl rfl rfl ?_
      refine ar_dup2 (pc' := 34) hM rfl rfl rfl rfl ?_
      refine ar_ialoadN (j := j) (pc' := 35) hM rfl (am_gn (by omega) (am_gs (am_gn (by omega) (am_gn (by omega) (am_gn (by omega) (am_gn (by omega) (am_gn (by omega) (am_gn (by omega) (am_gn (by omega) (am_gn (by omega) hs3)))))))))) rfl (by omega) (Nat.le_of_ble_eq_true rfl) rfl ?_
      refine ar_aload_n (pc' := 36) hM rfl rfl rfl ?_
      refine ar_getfield (pc' := 39) hM rfl (am_gn (by omega) (am_gn (by omega) (am_gn (by omega) (am_gn (by omega) (am_gn (by omega) (am_gn (by omega) (am_gn (by omega) (am_gn (by omega) (am_gn (by omega) (am_gn (by omega) hd0)))))))))) rfl rfl ?_
      refine ar_iload_n (pc' := 40) hM rfl rfl rfl ?_
      refine ar_ialoadN (j := j) (pc' := 41) hM rfl (am_gn (by omega) (am_gn (by omega) (am_gn (by omega) (am_gn (by omega) (am_gn (by omega) (am_gs (am_gn (by omega) (am_gn (by omega) (am_gn (by omega) (am_gn (by omega) hd5)))))))))) rfl (by omega) (Nat.le_of_ble_eq_true rfl) rfl ?_
      refine ar_iadd (pc' := 42) hM rfl rfl ?_
      refine ar_iastoreN (j := j) (pc' := 43) hM rfl (am_gn (by omega) (am_gs (am_gn (by omega) (am_gn (by omega) (am_gn (by omega) (am_gn (by omega) (am_gn (by omega) (am_gn (by omega) (am_gn (by omega) (am_gn (by omega) hs3)))))))))) rfl (by omega) (Nat.le_of_ble_eq_true rfl) (by omega) rfl ?_
      refine ar_iinc (z := nI (j + 1)) (pc' := 46) hM rfl rfl (nI_1 _) rfl rfl rfl ?_
      refine ar_goto hM rfl ?_
      rw [show ((((((((((w.set (t + 1) (.inl (0, 6, .inl fw))).set (t + 2) (.inl (0, 6, .inl fs))).set (t + 3) (.inl (0, 6, .inl a3))).set (t + 4) (.inl (0, 6, .inl a4))).set (t + 5) (.inl (0, 6, .inl a5))).set (t + 6) (.inl (0, 6, .inl a6))).set (t + 7) (.inl (0, 6, .inl a7))).set (s + 2) (.inl (0, 6, .inl b2))).set (s + 3) (.inl (0, 6, .inl b3))).set (s + 2) (.inl (0, 6, .inl (upd b2 j (a6 j))))) = (((((((((w.set (t + 1) (.inl (0, 6, .inl fw))).set (t + 2) (.inl (0, 6, .inl fs))).set (t + 3) (.inl (0, 6, .inl a3))).set (t + 4) (.inl (0, 6, .inl a4))).set (t + 5) (.inl (0, 6, .inl a5))).set (t + 6) (.inl (0, 6, .inl a6))).set (t + 7) (.inl (0, 6, .inl a7))).set (s + 2) (.inl (0, 6, .inl (upd b2 j (a6 j))))).set (s + 3) (.inl (0, 6, .inl b3))) from by rw [List.set_comm _ _ (show s + 3 ≠ s + 2 by omega), List.set_set]]
      rw [show ((((((((((w.set (t + 1) (.inl (0, 6, .inl fw))).set (t + 2) (.inl (0, 6, .inl fs))).set (t + 3) (.inl (0, 6, .inl a3))).set (t + 4) (.inl (0, 6, .inl a4))).set (t + 5) (.inl (0, 6, .inl a5))).set (t + 6) (.inl (0, 6, .inl a6))).set (t + 7) (.inl (0, 6, .inl a7))).set (s + 2) (.inl (0, 6, .inl (upd b2 j (a6 j))))).set (s + 3) (.inl (0, 6, .inl b3))).set (s + 3) (.inl (0, 6, .inl (upd b3 j ((b3 j) + (a5 j)))))) = (((((((((w.set (t + 1) (.inl (0, 6, .inl fw))).set (t + 2) (.inl (0, 6, .inl fs))).set (t + 3) (.inl (0, 6, .inl a3))).set (t + 4) (.inl (0, 6, .inl a4))).set (t + 5) (.inl (0, 6, .inl a5))).set (t + 6) (.inl (0, 6, .inl a6))).set (t + 7) (.inl (0, 6, .inl a7))).set (s + 2) (.inl (0, 6, .inl (upd b2 j (a6 j))))).set (s + 3) (.inl (0, 6, .inl (upd b3 j ((b3 j) + (a5 j)))))) from by rw [List.set_set]]
      exact ih (j + 1) (upd b2 j (a6 j)) (upd b3 j ((b3 j) + (a5 j))) (by omega) (am_fs h2 rfl) (am_fs (F := fun h => sl h + a5 h) h3 (by rw [h4 j (by omega)])) (am_ft h4)
  have hl0 := loop (n) 0 ss sl (by omega) (fun p hp => by omega) (fun p hp => by omega) (fun p hp => rfl)
  rw [am_si (am_gn (by omega) (am_gn (by omega) (am_gn (by omega) (am_gn (by omega) (am_gn (by omega) (am_gn (by omega) (am_gn (by omega) hs2))))))), am_si (am_gn (by omega) (am_gn (by omega) (am_gn (by omega) (am_gn (by omega) (am_gn (by omega) (am_gn (by omega) (am_gn (by omega) hs3)))))))] at hl0
  exact hl0
set_option maxRecDepth 100000 in
set_option maxHeartbeats 4000000 in
theorem c_sum (w : am_W) (q : Nat) (f : Nat → Int32) (hq : w[q]? = some (.inl (0, 6, .inl f))) (n : Nat) (hn : n ≤ 6) : am_Go 96 (0, [.ref q, .int (nI n), .float 0, .float 0], [], w, 0, 0) (fun res w' => res = some (.int (i_sum f n)) ∧ w' = w) := by
  have hM : am_P[96]? = some zm_X10_sum := rfl
  refine ar_iconst (x := 0) (pc' := 1) hM rfl (by decide) rfl ?_
  refine ar_istore_n (pc' := 2) hM rfl rfl rfl rfl ?_
  refine ar_iconst (x := 0) (pc' := 3) hM rfl (by decide) rfl ?_
  refine ar_istore_n (pc' := 4) hM rfl rfl rfl rfl ?_
  have loop : ∀ (dj j : Nat) (x : Int32), dj + j = n → (x = i_sum f j) → am_Go 96 (4, [.ref q, .int (nI n), .int x, .int (nI j)], [], w, 0, 0) (fun res w' => res = some (.int (i_sum f n)) ∧ w' = w) := by
    intro dj
    induction dj with
    | zero =>
      intro j x hj hx
      refine ar_iload_n (pc' := 5) hM rfl rfl rfl ?_
      refine ar_iload_n (pc' := 6) hM rfl rfl rfl ?_
      refine ar_icmp_ge (pc' := 9) hM rfl rfl (fun _ => ?_) (fun q => absurd (nI_le (a := n) (b := j) (by omega) (by omega)) q)
      refine ar_iload_n (pc' := 28) hM rfl rfl rfl ?_
      refine ar_ireturn hM rfl (Or.inl rfl) ?_
      exact ⟨by rw [hx, show j = n by omega], rfl⟩
    | succ dj ih =>
      intro j x hj hx
      refine ar_iload_n (pc' := 5) hM rfl rfl rfl ?_
      refine ar_iload_n (pc' := 6) hM rfl rfl rfl ?_
      refine ar_icmp_ge (pc' := 9) hM rfl rfl (fun q => absurd q (nI_ge (a := j) (b := n) (by omega) (by omega))) (fun _ => ?_)
      refine ar_iload_n (pc' := 10) hM rfl rfl rfl ?_
      refine ar_aload_n (pc' := 11) hM rfl rfl rfl ?_
      refine ar_arraylength (x := nI 6) (pc' := 12) hM rfl hq rfl rfl ?_
      refine ar_icmp_ge (pc' := 15) hM rfl rfl (fun q => absurd q (nI_ge (a := j) (b := 6) (by omega) (by omega))) (fun _ => ?_)
      refine ar_iload_n (pc' := 16) hM rfl rfl rfl ?_
      refine ar_aload_n (pc' := 17) hM rfl rfl rfl ?_
      refine ar_iload_n (pc' := 18) hM rfl rfl rfl ?_
      refine ar_ialoadN (j := j) (pc' := 19) hM rfl hq rfl (by omega) (Nat.le_of_ble_eq_true rfl) rfl ?_
      refine ar_iadd (pc' := 20) hM rfl rfl ?_
      refine ar_istore_n (pc' := 21) hM rfl rfl rfl rfl ?_
      refine ar_iinc (z := nI (j + 1)) (pc' := 24) hM rfl rfl (nI_1 _) rfl rfl rfl ?_
      refine ar_goto hM rfl ?_
      exact ih (j + 1) (x + (f j)) (by omega) (by rw [hx] <;> rfl)
  exact loop (n) 0 0 (by omega) rfl
set_option maxRecDepth 100000 in
set_option maxHeartbeats 4000000 in
theorem c_greatest (w : am_W) (q : Nat) (f : Nat → Int32) (hq : w[q]? = some (.inl (0, 6, .inl f))) (n : Nat) (hn : n ≤ 6) : am_Go 97 (0, [.ref q, .int (nI n), .float 0, .float 0], [], w, 0, 0) (fun res w' => res = some (.int (i_grt f n)) ∧ w' = w) := by
  have hM : am_P[97]? = some zm_X10_greatest := rfl
  refine ar_iconst (x := 0) (pc' := 1) hM rfl (by decide) rfl ?_
  refine ar_istore_n (pc' := 2) hM rfl rfl rfl rfl ?_
  refine ar_iconst (x := 0) (pc' := 3) hM rfl (by decide) rfl ?_
  refine ar_istore_n (pc' := 4) hM rfl rfl rfl rfl ?_
  have loop : ∀ (dj j : Nat) (x : Int32), dj + j = n → (x = i_grt f j) → am_Go 97 (4, [.ref q, .int (nI n), .int x, .int (nI j)], [], w, 0, 0) (fun res w' => res = some (.int (i_grt f n)) ∧ w' = w) := by
    intro dj
    induction dj with
    | zero =>
      intro j x hj hx
      refine ar_iload_n (pc' := 5) hM rfl rfl rfl ?_
      refine ar_iload_n (pc' := 6) hM rfl rfl rfl ?_
      refine ar_icmp_ge (pc' := 9) hM rfl rfl (fun _ => ?_) (fun q => absurd (nI_le (a := n) (b := j) (by omega) (by omega)) q)
      refine ar_iload_n (pc' := 30) hM rfl rfl rfl ?_
      refine ar_ireturn hM rfl (Or.inl rfl) ?_
      exact ⟨by rw [hx, show j = n by omega], rfl⟩
    | succ dj ih =>
      intro j x hj hx
      refine ar_iload_n (pc' := 5) hM rfl rfl rfl ?_
      refine ar_iload_n (pc' := 6) hM rfl rfl rfl ?_
      refine ar_icmp_ge (pc' := 9) hM rfl rfl (fun q => absurd q (nI_ge (a := j) (b := n) (by omega) (by omega))) (fun _ => ?_)
      refine ar_iload_n (pc' := 10) hM rfl rfl rfl ?_
      refine ar_aload_n (pc' := 11) hM rfl rfl rfl ?_
      refine ar_arraylength (x := nI 6) (pc' := 12) hM rfl hq rfl rfl ?_
      refine ar_icmp_ge (pc' := 15) hM rfl rfl (fun q => absurd q (nI_ge (a := j) (b := 6) (by omega) (by omega))) (fun _ => ?_)
      refine ar_iload_n (pc' := 16) hM rfl rfl rfl ?_
      refine ar_aload_n (pc' := 17) hM rfl rfl rfl ?_
      refine ar_iload_n (pc' := 18) hM rfl rfl rfl ?_
      refine ar_ialoadN (j := j) (pc' := 19) hM rfl hq rfl (by omega) (Nat.le_of_ble_eq_true rfl) rfl ?_
      refine ar_static (pc' := 22) (k3 := 0) (k4 := 0) hM rfl (by decide) rfl rfl (c_max _ _ _) (fun r19 w19 q19 => ?_)
      obtain ⟨rfl, q19w⟩ := q19
      rw [q19w]
      show am_Go 97 (22, [.ref q, .int (nI n), .int x, .int (nI j)], [.int (i_max x (f j))], w, 0, 0) _
      refine ar_istore_n (pc' := 23) hM rfl rfl rfl rfl ?_
      refine ar_iinc (z := nI (j + 1)) (pc' := 26) hM rfl rfl (nI_1 _) rfl rfl rfl ?_
      refine ar_goto hM rfl ?_
      exact ih (j + 1) (i_max x (f j)) (by omega) (by rw [hx] <;> rfl)
  exact loop (n) 0 0 (by omega) rfl
set_option maxRecDepth 100000 in
set_option maxHeartbeats 4000000 in
theorem c_ordersOf (w : am_W) (hq : w[0]? = some (.inl (0, 7, .inl am_fac))) (m : Nat) (hm : m ≤ 6) : am_Go 98 (0, [.int (nI m)], [], w, 0, 0) (fun res w' => res = some (.int (am_fac m)) ∧ w' = w) := by
  have hM : am_P[98]? = some zm_X10_ordersOf := rfl
  refine ar_iload_n (pc' := 1) hM rfl rfl rfl ?_
  refine ar_iconst (x := 0) (pc' := 2) hM rfl (by decide) rfl ?_
  refine ar_getstatic (pc' := 5) hM rfl rfl ?_
  refine ar_arraylength (x := nI 7) (pc' := 6) hM rfl hq rfl rfl ?_
  refine ar_iconst (x := 1) (pc' := 7) hM rfl (by decide) rfl ?_
  refine ar_isub (pc' := 8) hM rfl rfl ?_
  refine ar_static (pc' := 11) (k3 := 0) (k4 := 0) hM rfl (by decide) rfl rfl (c_within _ _ _ _) (fun r8 w8 q8 => ?_)
  obtain ⟨rfl, q8w⟩ := q8
  rw [q8w]
  show am_Go 98 (11, [.int (nI m)], [.int (if 0 ≤ (nI m) ∧ (nI m) ≤ ((nI 7) - 1) then 1 else 0)], w, 0, 0) _
  refine ar_if_eq (pc' := 14) hM rfl rfl (fun q => absurd q (by rw [if_pos ⟨nI_pos' (by omega), (show nI m ≤ nI 7 - 1 from by rw [show nI 7 - 1 = nI 6 by decide]; exact nI_le hm (by omega))⟩]; decide)) (fun _ => ?_)
  refine ar_getstatic (pc' := 17) hM rfl rfl ?_
  refine ar_iload_n (pc' := 18) hM rfl rfl rfl ?_
  refine ar_ialoadN (j := m) (pc' := 19) hM rfl hq rfl (by omega) (Nat.le_of_ble_eq_true rfl) rfl ?_
  refine ar_goto hM rfl ?_
  refine ar_ireturn hM rfl (Or.inl rfl) ?_
  exact ⟨rfl, rfl⟩
set_option maxRecDepth 100000 in
set_option maxHeartbeats 4000000 in
theorem c_power (w : am_W) (b : Int32) (e : Nat) (he : e < 2 ^ 31) : am_Go 99 (0, [.int b, .int (nI e), .float 0, .float 0], [], w, 0, 0) (fun res w' => res = some (.int (i_pow b e)) ∧ w' = w) := by
  have hM : am_P[99]? = some zm_X10_power := rfl
  refine ar_iconst (x := 1) (pc' := 1) hM rfl (by decide) rfl ?_
  refine ar_istore_n (pc' := 2) hM rfl rfl rfl rfl ?_
  refine ar_iconst (x := 0) (pc' := 3) hM rfl (by decide) rfl ?_
  refine ar_istore_n (pc' := 4) hM rfl rfl rfl rfl ?_
  have loop : ∀ (dj j : Nat) (x : Int32), dj + j = e → (x = i_pow b j) → am_Go 99 (4, [.int b, .int (nI e), .int x, .int (nI j)], [], w, 0, 0) (fun res w' => res = some (.int (i_pow b e)) ∧ w' = w) := by
    intro dj
    induction dj with
    | zero =>
      intro j x hj hx
      refine ar_iload_n (pc' := 5) hM rfl rfl rfl ?_
      refine ar_iload_n (pc' := 6) hM rfl rfl rfl ?_
      refine ar_icmp_ge (pc' := 9) hM rfl rfl (fun _ => ?_) (fun q => absurd (nI_le (a := e) (b := j) (by omega) (by omega)) q)
      refine ar_iload_n (pc' := 20) hM rfl rfl rfl ?_
      refine ar_ireturn hM rfl (Or.inl rfl) ?_
      exact ⟨by rw [hx, show j = e by omega], rfl⟩
    | succ dj ih =>
      intro j x hj hx
      refine ar_iload_n (pc' := 5) hM rfl rfl rfl ?_
      refine ar_iload_n (pc' := 6) hM rfl rfl rfl ?_
      refine ar_icmp_ge (pc' := 9) hM rfl rfl (fun q => absurd q (nI_ge (a := j) (b := e) (by omega) (by omega))) (fun _ => ?_)
      refine ar_iload_n (pc' := 10) hM rfl rfl rfl ?_
      refine ar_iload_n (pc' := 11) hM rfl rfl rfl ?_
      refine ar_imul (pc' := 12) hM rfl rfl ?_
      refine ar_istore_n (pc' := 13) hM rfl rfl rfl rfl ?_
      refine ar_iinc (z := nI (j + 1)) (pc' := 16) hM rfl rfl (nI_1 _) rfl rfl rfl ?_
      refine ar_goto hM rfl ?_
      exact ih (j + 1) (x * b) (by omega) (by rw [hx] <;> rfl)
  exact loop (e) 0 1 (by omega) rfl
set_option maxRecDepth 100000 in
set_option maxHeartbeats 4000000 in
theorem c_withoutDoings (w : am_W) (r : Int64) (k : Nat) (hk : k < 2 ^ 31) : am_Go 102 (0, [.long r, .float 0, .int (nI k), .float 0, .float 0, .float 0], [], w, 0, 0) (fun res w' => res = some (.long (l_wd r k)) ∧ w' = w) := by
  have hM : am_P[102]? = some zm_X10_withoutDoings := rfl
  refine ar_lload_n (pc' := 1) hM rfl rfl rfl ?_
  refine ar_lstore_n (pc' := 2) hM rfl rfl rfl rfl ?_
  refine ar_iconst (x := 0) (pc' := 3) hM rfl (by decide) rfl ?_
  refine ar_istore (pc' := 5) hM rfl rfl rfl rfl ?_
  have loop : ∀ (dj j : Nat) (x : Int64), dj + j = k → (x = l_wd r j) → am_Go 102 (5, [.long r, .float 0, .int (nI k), .long x, .float 0, .int (nI j)], [], w, 0, 0) (fun res w' => res = some (.long (l_wd r k)) ∧ w' = w) := by
    intro dj
    induction dj with
    | zero =>
      intro j x hj hx
      refine ar_iload (pc' := 7) hM rfl rfl rfl ?_
      refine ar_iload_n (pc' := 8) hM rfl rfl rfl ?_
      refine ar_icmp_ge (pc' := 11) hM rfl rfl (fun _ => ?_) (fun q => absurd (nI_le (a := k) (b := j) (by omega) (by omega)) q)
      refine ar_lload_n (pc' := 24) hM rfl rfl rfl ?_
      refine ar_lreturn hM rfl ?_
      exact ⟨by rw [hx, show j = k by omega], rfl⟩
    | succ dj ih =>
      intro j x hj hx
      refine ar_iload (pc' := 7) hM rfl rfl rfl ?_
      refine ar_iload_n (pc' := 8) hM rfl rfl rfl ?_
      refine ar_icmp_ge (pc' := 11) hM rfl rfl (fun q => absurd q (nI_ge (a := j) (b := k) (by omega) (by omega))) (fun _ => ?_)
      refine ar_lload_n (pc' := 12) hM rfl rfl rfl ?_
      refine ar_ldc2_w (x := 1000) (pc' := 15) hM rfl (by decide) rfl ?_
      refine ar_ldiv (pc' := 16) hM rfl (by decide) rfl ?_
      refine ar_lstore_n (pc' := 17) hM rfl rfl rfl rfl ?_
      refine ar_iinc (z := nI (j + 1)) (pc' := 20) hM rfl rfl (nI_1 _) rfl rfl rfl ?_
      refine ar_goto hM rfl ?_
      exact ih (j + 1) (x / 1000) (by omega) (by rw [hx] <;> rfl)
  exact loop (k) 0 r (by omega) rfl
set_option maxRecDepth 100000 in
set_option maxHeartbeats 4000000 in
theorem c_commonDivisor (w : am_W) (x y : Int32) : am_Go 104 (0, [.int x, .int y, .float 0, .float 0, .float 0, .float 0], [], w, 0, 0) (fun res w' => res = some (.int (i_eu 64 x y)) ∧ w' = w) := by
  have hM : am_P[104]? = some zm_X10_commonDivisor := rfl
  refine ar_iload_n (pc' := 1) hM rfl rfl rfl ?_
  refine ar_istore_n (pc' := 2) hM rfl rfl rfl rfl ?_
  refine ar_iload_n (pc' := 3) hM rfl rfl rfl ?_
  refine ar_istore_n (pc' := 4) hM rfl rfl rfl rfl ?_
  refine ar_iconst (x := 0) (pc' := 5) hM rfl (by decide) rfl ?_
  refine ar_istore (pc' := 7) hM rfl rfl rfl rfl ?_
  have loop : ∀ (dj j : Nat) (u : Int32) (v : Int32) (z5 : Value), dj + j = 64 → (i_eu dj u v = i_eu 64 x y) → am_Go 104 (7, [.int x, .int y, .int u, .int v, .int (nI j), z5], [], w, 0, 0) (fun res w' => res = some (.int (i_eu 64 x y)) ∧ w' = w) := by
    intro dj
    induction dj with
    | zero =>
      intro j u v z5 hj hx
      refine ar_iload (pc' := 9) hM rfl rfl rfl ?_
      refine ar_bipush (x := 64) (pc' := 11) hM rfl (by decide) rfl ?_
      refine ar_icmp_ge (pc' := 14) hM rfl rfl (fun _ => ?_) (fun q => absurd (nI_le (a := 64) (b := j) (by omega) (by omega)) q)
      refine ar_iload_n (pc' := 35) hM rfl rfl rfl ?_
      refine ar_ireturn hM rfl (Or.inl rfl) ?_
      exact ⟨by rw [← hx]; rfl, rfl⟩
    | succ dj ih =>
      intro j u v z5 hj hx
      refine ar_iload (pc' := 9) hM rfl rfl rfl ?_
      refine ar_bipush (x := 64) (pc' := 11) hM rfl (by decide) rfl ?_
      refine ar_icmp_ge (pc' := 14) hM rfl rfl (fun q => absurd q (nI_ge (a := j) (b := 64) (by omega) (by omega))) (fun _ => ?_)
      refine ar_iload_n (pc' := 15) hM rfl rfl rfl ?_
      refine ar_if_eq (pc' := 18) hM rfl rfl (fun c15 => ?_) (fun c15 => ?_)
      · refine ar_iload_n (pc' := 35) hM rfl rfl rfl ?_
        refine ar_ireturn hM rfl (Or.inl rfl) ?_
        exact ⟨by rw [← hx]; show _ = some (Value.int (if v = 0 then u else _)); rw [if_pos c15], rfl⟩
      · refine ar_iload_n (pc' := 19) hM rfl rfl rfl ?_
        refine ar_iload_n (pc' := 20) hM rfl rfl rfl ?_
        refine ar_irem (pc' := 21) hM rfl c15 rfl ?_
        refine ar_istore (pc' := 23) hM rfl rfl rfl rfl ?_
        refine ar_iload_n (pc' := 24) hM rfl rfl rfl ?_
        refine ar_istore_n (pc' := 25) hM rfl rfl rfl rfl ?_
        refine ar_iload (pc' := 27) hM rfl rfl rfl ?_
        refine ar_istore_n (pc' := 28) hM rfl rfl rfl rfl ?_
        refine ar_iinc (z := nI (j + 1)) (pc' := 31) hM rfl rfl (nI_1 _) rfl rfl rfl ?_
        refine ar_goto hM rfl ?_
        exact ih (j + 1) v (u - u / v * v) (.int (u - u / v * v)) (by omega) (by rw [← hx]; show _ = (if v = 0 then u else _); rw [if_neg c15])
  exact loop (64) 0 x y (.float 0) (by omega) rfl
def i_com (x y : Int32) : Int32 := i_max 1 (i_eu 64 (i_abs x) y)
set_option maxRecDepth 100000 in
set_option maxHeartbeats 4000000 in
theorem c_inLeastTerms (w : am_W) (x y u : Int32) (hz : ¬ i_com x y = 0) : am_Go 103 (0, [.int x, .int y, .int u, .float 0], [], w, 0, 0) (fun res w' => res = some (.int ((if u = 0 then y else x) / i_com x y)) ∧ w' = w) := by
  have hM : am_P[103]? = some zm_X10_inLeastTerms := rfl
  refine ar_iconst (x := 1) (pc' := 1) hM rfl (by decide) rfl ?_
  refine ar_iload_n (pc' := 2) hM rfl rfl rfl ?_
  refine ar_static (pc' := 5) (k3 := 0) (k4 := 0) hM rfl (by decide) rfl rfl (c_abs _ _) (fun r2 w2 q2 => ?_)
  obtain ⟨rfl, q2w⟩ := q2
  rw [q2w]
  show am_Go 103 (5, [.int x, .int y, .int u, .float 0], [.int (i_abs x), .int 1], w, 0, 0) _
  refine ar_iload_n (pc' := 6) hM rfl rfl rfl ?_
  refine ar_static (pc' := 9) (k3 := 0) (k4 := 0) hM rfl (by decide) rfl rfl (c_commonDivisor _ _ _) (fun r6 w6 q6 => ?_)
  obtain ⟨rfl, q6w⟩ := q6
  rw [q6w]
  show am_Go 103 (9, [.int x, .int y, .int u, .float 0], [.int (i_eu 64 (i_abs x) y), .int 1], w, 0, 0) _
  refine ar_static (pc' := 12) (k3 := 0) (k4 := 0) hM rfl (by decide) rfl rfl (c_max _ _ _) (fun r9 w9 q9 => ?_)
  obtain ⟨rfl, q9w⟩ := q9
  rw [q9w]
  show am_Go 103 (12, [.int x, .int y, .int u, .float 0], [.int (i_max 1 (i_eu 64 (i_abs x) y))], w, 0, 0) _
  refine ar_istore_n (pc' := 13) hM rfl rfl rfl rfl ?_
  refine ar_iload_n (pc' := 14) hM rfl rfl rfl ?_
  suffices hj14 : ∀ z_14 : Int32, z_14 = (if u = (0 : Int32) then y else x) → am_Go 103 (22, [.int x, .int y, .int u, .int (i_max 1 (i_eu 64 (i_abs x) y))], [.int z_14], w, 0, 0) _ by
    refine ar_if_eq (pc' := 17) hM rfl rfl (fun c => ?_) (fun c => ?_)
    · refine ar_iload_n (pc' := 22) hM rfl rfl rfl ?_
      exact hj14 _ (if_pos c).symm
    · refine ar_iload_n (pc' := 18) hM rfl rfl rfl ?_
      refine ar_goto hM rfl ?_
      exact hj14 _ (if_neg c).symm
  rintro _ rfl
  refine ar_iload_n (pc' := 23) hM rfl rfl rfl ?_
  refine ar_idiv (pc' := 24) hM rfl hz rfl ?_
  refine ar_ireturn hM rfl (Or.inl rfl) ?_
  exact ⟨rfl, rfl⟩
