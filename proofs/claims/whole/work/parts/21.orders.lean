/-! orders of houses: the next one by figures -/
def m_trn (o : Nat → Nat) : Nat → Nat
  | 0 => 0
  | k + 1 => if o (k + 1) < o k then m_trn o k else k + 1
def m_lgr (o : Nat → Nat) (t : Nat) : Nat → Nat
  | 0 => 0
  | k + 1 => if t < k + 1 ∧ o (k + 1) < o t then m_lgr o t k else k + 1
def m_xc (o : Nat → Nat) (a b : Nat) : Nat → Nat := fun i => if i = b then o a else if i = a then o b else o i
def m_rv : Nat → (Nat → Nat) → Nat → Nat → Nat → Nat
  | 0, o, _, _ => o
  | f + 1, o, lo, hi => if lo < hi then m_rv f (m_xc o lo hi) (lo + 1) (hi - 1) else o
def m_nxt (n : Nat) (o : Nat → Nat) : Nat → Nat := if m_trn o (n - 1) = 0 then o else m_rv n (m_xc o (m_trn o (n - 1) - 1) (m_lgr o (m_trn o (n - 1) - 1) (n - 1))) (m_trn o (n - 1)) (n - 1)
theorem m_trn_le (o : Nat → Nat) : ∀ k, m_trn o k ≤ k
  | 0 => Nat.le_refl _
  | k + 1 => by
    unfold m_trn
    split
    · exact Nat.le_succ_of_le (m_trn_le o k)
    · exact Nat.le_refl _
theorem m_lgr_le (o : Nat → Nat) (t : Nat) : ∀ k, m_lgr o t k ≤ k
  | 0 => Nat.le_refl _
  | k + 1 => by
    unfold m_lgr
    split
    · exact Nat.le_succ_of_le (m_lgr_le o t k)
    · exact Nat.le_refl _
theorem m_xc_lt {o : Nat → Nat} {a b M : Nat} (h : ∀ p, p < 6 → o p < M) (ha : a < 6) (hb : b < 6) : ∀ p, p < 6 → m_xc o a b p < M := by
  intro p hp
  unfold m_xc
  split
  · exact h _ ha
  · split
    · exact h _ hb
    · exact h _ hp
theorem m_xc_upd {f : Nat → Int32} {o : Nat → Nat} {a b : Nat} (h : ∀ p, p < 6 → f p = nI (o p)) (ha : a < 6) (hb : b < 6) : ∀ p, p < 6 → upd (upd f a (f b)) b (f a) p = nI (m_xc o a b p) := by
  intro p hp
  unfold m_xc
  by_cases q : p = b
  · rw [if_pos q, q, pk_us, h a ha]
  · rw [if_neg q, pk_un q]
    by_cases q2 : p = a
    · rw [if_pos q2, q2, pk_us, h b hb]
    · rw [if_neg q2, pk_un q2, h p hp]
def i_fig (f : Nat → Int32) : Nat → Int32
  | 0 => 0
  | k + 1 => 10 * i_fig f k + f k + 1
theorem i_fig_congr {f g : Nat → Int32} : ∀ {n : Nat}, (∀ h, h < n → f h = g h) → i_fig f n = i_fig g n
  | 0, _ => rfl
  | n + 1, h => by show 10 * i_fig f n + f n + 1 = 10 * i_fig g n + g n + 1; rw [i_fig_congr (fun k hk => h k (by omega)), h n (by omega)]
theorem i_m1 (k : Nat) : nI k + -1 = nI k - 1 := by rw [Int32.sub_eq_add_neg]
theorem i_m1' {k : Nat} (h : 0 < k) : nI k + -1 = nI (k - 1) := by rw [i_m1, i_pred h]
set_option maxRecDepth 100000 in
set_option maxHeartbeats 4000000 in
theorem c_xp (w : am_W) (q : Nat) (h2q : 2 ≤ q) (f : Nat → Int32) (hq : w[q]? = some (.inl (0, 6, .inl f))) (a b : Nat) (ha : a < 6) (hb : b < 6) : am_Go 17 (0, [.ref q, .int (nI a), .int (nI b), .float 0], [], w, 0, 0) (fun res w' => res = none ∧ w' = w.set q (.inl (0, 6, .inl (upd (upd f a (f b)) b (f a))))) := by
  have hM : am_P[17]? = some zm_X2_exchangePlaces := rfl
  refine ar_aload_n (pc' := 1) hM rfl rfl rfl ?_
  refine ar_iload_n (pc' := 2) hM rfl rfl rfl ?_
  refine ar_ialoadN (j := a) (pc' := 3) hM rfl hq rfl (by omega) (Nat.le_of_ble_eq_true rfl) rfl ?_
  refine ar_istore_n (pc' := 4) hM rfl rfl rfl rfl ?_
  refine ar_aload_n (pc' := 5) hM rfl rfl rfl ?_
  refine ar_iload_n (pc' := 6) hM rfl rfl rfl ?_
  refine ar_aload_n (pc' := 7) hM rfl rfl rfl ?_
  refine ar_iload_n (pc' := 8) hM rfl rfl rfl ?_
  refine ar_ialoadN (j := b) (pc' := 9) hM rfl hq rfl (by omega) (Nat.le_of_ble_eq_true rfl) rfl ?_
  refine ar_iastoreN (j := a) (pc' := 10) hM rfl hq rfl (by omega) (Nat.le_of_ble_eq_true rfl) (by omega) rfl ?_
  refine ar_aload_n (pc' := 11) hM rfl rfl rfl ?_
  refine ar_iload_n (pc' := 12) hM rfl rfl rfl ?_
  refine ar_iload_n (pc' := 13) hM rfl rfl rfl ?_
  refine ar_iastoreN (j := b) (pc' := 14) hM rfl (am_gs hq) rfl (by omega) (Nat.le_of_ble_eq_true rfl) (by omega) rfl ?_
  refine ar_return hM rfl ?_
  refine ⟨rfl, ?_⟩
  rw [List.set_set]
set_option maxRecDepth 100000 in
set_option maxHeartbeats 4000000 in
theorem c_figures (w : am_W) (bl bo : Int32) (x6 y6 z6 : Int32) (f : Nat → Int32) (ho0 : w[100]? = some (.inr (2, [.ref 101, .ref 106, .ref 110, .int bl, .int bo]))) (hr6 : w[106]? = some (.inr (6, [.ref 107, .ref 108, .ref 109, .int x6, .int y6, .int z6]))) (hf : w[107]? = some (.inl (0, 6, .inl f))) (n : Nat) (hn : n ≤ 6) : am_Go 15 (0, [.ref 100, .int (nI n), .float 0, .float 0], [], w, 0, 0) (fun res w' => res = some (.int (i_fig f n)) ∧ w' = w) := by
  have hM : am_P[15]? = some zm_X2_figures := rfl
  refine ar_iconst (x := 0) (pc' := 1) hM rfl (by decide) rfl ?_
  refine ar_istore_n (pc' := 2) hM rfl rfl rfl rfl ?_
  refine ar_iconst (x := 0) (pc' := 3) hM rfl (by decide) rfl ?_
  refine ar_istore_n (pc' := 4) hM rfl rfl rfl rfl ?_
  have loop : ∀ (dj j : Nat) (x : Int32), dj + j = n → (x = i_fig f j) → am_Go 15 (4, [.ref 100, .int (nI n), .int x, .int (nI j)], [], w, 0, 0) (fun res w' => res = some (.int (i_fig f n)) ∧ w' = w) := by
    intro dj
    induction dj with
    | zero =>
      intro j x hj hx
      refine ar_iload_n (pc' := 5) hM rfl rfl rfl ?_
      refine ar_iload_n (pc' := 6) hM rfl rfl rfl ?_
      refine ar_icmp_ge (pc' := 9) hM rfl rfl (fun _ => ?_) (fun q => absurd (nI_le (a := n) (b := j) (by omega) (by omega)) q)
      refine ar_iload_n (pc' := 33) hM rfl rfl rfl ?_
      refine ar_ireturn hM rfl (Or.inl rfl) ?_
      exact ⟨by rw [hx, show j = n by omega], rfl⟩
    | succ dj ih =>
      intro j x hj hx
      refine ar_iload_n (pc' := 5) hM rfl rfl rfl ?_
      refine ar_iload_n (pc' := 6) hM rfl rfl rfl ?_
      refine ar_icmp_ge (pc' := 9) hM rfl rfl (fun q => absurd q (nI_ge (a := j) (b := n) (by omega) (by omega))) (fun _ => ?_)
      refine ar_bipush (x := 10) (pc' := 11) hM rfl (by decide) rfl ?_
      refine ar_iload_n (pc' := 12) hM rfl rfl rfl ?_
      refine ar_imul (pc' := 13) hM rfl rfl ?_
      refine ar_aload_n (pc' := 14) hM rfl rfl rfl ?_
      refine ar_getfield (pc' := 17) hM rfl ho0 rfl rfl ?_
      refine ar_getfield (pc' := 20) hM rfl hr6 rfl rfl ?_
      refine ar_iload_n (pc' := 21) hM rfl rfl rfl ?_
      refine ar_ialoadN (j := j) (pc' := 22) hM rfl hf rfl (by omega) (Nat.le_of_ble_eq_true rfl) rfl ?_
      refine ar_iadd (pc' := 23) hM rfl rfl ?_
      refine ar_iconst (x := 1) (pc' := 24) hM rfl (by decide) rfl ?_
      refine ar_iadd (pc' := 25) hM rfl rfl ?_
      refine ar_istore_n (pc' := 26) hM rfl rfl rfl rfl ?_
      refine ar_iinc (z := nI (j + 1)) (pc' := 29) hM rfl rfl (nI_1 _) rfl rfl rfl ?_
      refine ar_goto hM rfl ?_
      exact ih (j + 1) (((10 * x) + (f j)) + 1) (by omega) (by show _ = 10 * i_fig f j + f j + 1; rw [hx])
  exact loop (n) 0 0 (by omega) rfl
set_option maxRecDepth 100000 in
set_option maxHeartbeats 4000000 in
theorem c_toNext1 (w : am_W) (bl bo : Int32) (x6 y6 z6 : Int32) (f : Nat → Int32) (ho0 : w[100]? = some (.inr (2, [.ref 101, .ref 106, .ref 110, .int bl, .int bo]))) (hr6 : w[106]? = some (.inr (6, [.ref 107, .ref 108, .ref 109, .int x6, .int y6, .int z6]))) (hf : w[107]? = some (.inl (0, 6, .inl f))) (n : Nat) (hn : n ≤ 6) (h0 : 0 < n) (o : Nat → Nat) (ho : ∀ p, p < 6 → f p = nI (o p)) (hol : ∀ p, p < 6 → o p < 6) : am_Go 16 (0, [.ref 100, .int (nI n), .float 0, .float 0, .float 0, .float 0, .float 0], [], w, 0, 0) (fun res w' => res = some (.int (if m_trn o (n - 1) = 0 then 0 else 1)) ∧ ∃ g, w' = w.set 107 (.inl (0, 6, .inl g)) ∧ ∀ p, p < 6 → g p = nI (m_nxt n o p)) := by
  have hM : am_P[16]? = some zm_X2_toNextOrder := rfl
  have h83 : ∀ (t l : Nat), m_trn o (n - 1) = t + 1 → ∀ (fu lo hi : Nat) (g : Nat → Int32) (u : Nat → Nat), hi - lo ≤ fu → lo < 6 → hi < 6 → (∀ p, p < 6 → g p = nI (u p)) → m_rv fu u lo hi = m_nxt n o → am_Go 16 (83, [.ref 100, .int (nI n), .ref 107, .int (nI t), .int (nI l), .int (nI lo), .int (nI hi)], [], (w.set 107 (.inl (0, 6, .inl g))), 0, 0) (fun res w' => res = some (.int (if m_trn o (n - 1) = 0 then 0 else 1)) ∧ ∃ g, w' = w.set 107 (.inl (0, 6, .inl g)) ∧ ∀ p, p < 6 → g p = nI (m_nxt n o p)) := by
    intro t l ht fu
    induction fu with
    | zero =>
      intro lo hi g u h1 h2 h3 h4 h5
      refine ar_iload (pc' := 85) hM rfl rfl rfl ?_
      refine ar_iload (pc' := 87) hM rfl rfl rfl ?_
      refine ar_icmp_ge (pc' := 90) hM rfl rfl (fun _ => ?_) (fun q => absurd (nI_le (by omega) (by omega)) q)
      refine ar_iconst (x := 1) (pc' := 108) hM rfl (by decide) rfl ?_
      refine ar_ireturn hM rfl (Or.inr (Or.inr rfl)) ?_
      exact ⟨by rw [if_neg (by omega)], g, rfl, fun p hp => by rw [← h5]; exact h4 p hp⟩
    | succ fu ih =>
      intro lo hi g u h1 h2 h3 h4 h5
      by_cases hlh : lo < hi
      · refine ar_iload (pc' := 85) hM rfl rfl rfl ?_
        refine ar_iload (pc' := 87) hM rfl rfl rfl ?_
        refine ar_icmp_ge (pc' := 90) hM rfl rfl (fun q => absurd q (nI_ge hlh (by omega))) (fun _ => ?_)
        refine ar_aload_n (pc' := 91) hM rfl rfl rfl ?_
        refine ar_iload (pc' := 93) hM rfl rfl rfl ?_
        refine ar_iload (pc' := 95) hM rfl rfl rfl ?_
        refine ar_static (pc' := 98) (k3 := 0) (k4 := 0) hM rfl (by decide) rfl rfl (c_xp _ 107 (by decide) _ (am_gs hf) lo hi (by omega) (by omega)) (fun r95 w95 q95 => ?_)
        obtain ⟨rfl, q95w⟩ := q95
        rw [q95w]
        rw [show ((w.set 107 (.inl (0, 6, .inl g))).set 107 (.inl (0, 6, .inl (upd (upd g lo (g hi)) hi (g lo))))) = (w.set 107 (.inl (0, 6, .inl (upd (upd g lo (g hi)) hi (g lo))))) from by rw [List.set_set]]
        show am_Go 16 (98, [.ref 100, .int (nI n), .ref 107, .int (nI t), .int (nI l), .int (nI lo), .int (nI hi)], [], (w.set 107 (.inl (0, 6, .inl (upd (upd g lo (g hi)) hi (g lo))))), 0, 0) _
        refine ar_iinc (z := nI (lo + 1)) (pc' := 101) hM rfl rfl (nI_1 _) rfl rfl rfl ?_
        refine ar_iinc (z := nI (hi - 1)) (pc' := 104) hM rfl rfl (i_m1' (by omega)) rfl rfl rfl ?_
        refine ar_goto hM rfl ?_
        exact ih (lo + 1) (hi - 1) _ (m_xc u lo hi) (by omega) (by omega) (by omega) (m_xc_upd h4 h2 h3) (by rw [← h5]; show _ = if lo < hi then _ else _; rw [if_pos hlh])
      · refine ar_iload (pc' := 85) hM rfl rfl rfl ?_
        refine ar_iload (pc' := 87) hM rfl rfl rfl ?_
        refine ar_icmp_ge (pc' := 90) hM rfl rfl (fun _ => ?_) (fun q => absurd (nI_le (by omega) (by omega)) q)
        refine ar_iconst (x := 1) (pc' := 108) hM rfl (by decide) rfl ?_
        refine ar_ireturn hM rfl (Or.inr (Or.inr rfl)) ?_
        exact ⟨by rw [if_neg (by omega)], g, rfl, fun p hp => by rw [← h5]; show g p = nI ((if lo < hi then _ else u) p); rw [if_neg hlh]; exact h4 p hp⟩
  have h66 : ∀ (t l : Nat) (z5 : Value) (z6 : Value), m_trn o (n - 1) = t + 1 → l = m_lgr o t (n - 1) → am_Go 16 (66, [.ref 100, .int (nI n), .ref 107, .int (nI t), .int (nI l), z5, z6], [], w, 0, 0) (fun res w' => res = some (.int (if m_trn o (n - 1) = 0 then 0 else 1)) ∧ ∃ g, w' = w.set 107 (.inl (0, 6, .inl g)) ∧ ∀ p, p < 6 → g p = nI (m_nxt n o p)) := by
    intro t l z5 z6 ht hl
    have htl := m_trn_le o (n - 1)
    have hll := m_lgr_le o t (n - 1)
    refine ar_aload_n (pc' := 67) hM rfl rfl rfl ?_
    refine ar_iload_n (pc' := 68) hM rfl rfl rfl ?_
    refine ar_iload (pc' := 70) hM rfl rfl rfl ?_
    refine ar_static (pc' := 73) (k3 := 0) (k4 := 0) hM rfl (by decide) rfl rfl (c_xp _ 107 (by decide) _ hf t l (by omega) (by omega)) (fun r70 w70 q70 => ?_)
    obtain ⟨rfl, q70w⟩ := q70
    rw [q70w]
    show am_Go 16 (73, [.ref 100, .int (nI n), .ref 107, .int (nI t), .int (nI l), z5, z6], [], (w.set 107 (.inl (0, 6, .inl (upd (upd f t (f l)) l (f t))))), 0, 0) _
    refine ar_iload_n (pc' := 74) hM rfl rfl rfl ?_
    refine ar_iconst (x := 1) (pc' := 75) hM rfl (by decide) rfl ?_
    refine ar_iadd (pc' := 76) hM rfl rfl ?_
    rw [show ((nI t) + 1 : Int32) = nI (t + 1) from (nI_1 _)]
    refine ar_istore (pc' := 78) hM rfl rfl rfl rfl ?_
    refine ar_iload_n (pc' := 79) hM rfl rfl rfl ?_
    refine ar_iconst (x := 1) (pc' := 80) hM rfl (by decide) rfl ?_
    refine ar_isub (pc' := 81) hM rfl rfl ?_
    rw [show ((nI n) - 1 : Int32) = nI (n - 1) from (i_pred (by omega))]
    refine ar_istore (pc' := 83) hM rfl rfl rfl rfl ?_
    exact h83 t l ht n (t + 1) (n - 1) _ (m_xc o t l) (by omega) (by omega) (by omega) (m_xc_upd ho (by omega) (by omega)) (by unfold m_nxt; rw [if_neg (by omega), ht, show t + 1 - 1 = t by omega, hl])
  have h44 : ∀ (t : Nat) (z5 : Value) (z6 : Value), m_trn o (n - 1) = t + 1 → ∀ k, k ≤ n - 1 → t ≤ k → m_lgr o t k = m_lgr o t (n - 1) → am_Go 16 (44, [.ref 100, .int (nI n), .ref 107, .int (nI t), .int (nI k), z5, z6], [], w, 0, 0) (fun res w' => res = some (.int (if m_trn o (n - 1) = 0 then 0 else 1)) ∧ ∃ g, w' = w.set 107 (.inl (0, 6, .inl g)) ∧ ∀ p, p < 6 → g p = nI (m_nxt n o p)) := by
    intro t z5 z6 ht k
    have htl := m_trn_le o (n - 1)
    induction k with
    | zero =>
      intro h1 h2 h3
      refine ar_iload (pc' := 46) hM rfl rfl rfl ?_
      refine ar_iload_n (pc' := 47) hM rfl rfl rfl ?_
      refine ar_icmp_le (pc' := 50) hM rfl rfl (fun _ => ?_) (fun q => absurd (nI_le (a := 0) (b := t) (by omega) (by omega)) q)
      exact h66 t 0 z5 z6 ht h3
    | succ k ih =>
      intro h1 h2 h3
      by_cases hq : t < k + 1 ∧ o (k + 1) < o t
      · refine ar_iload (pc' := 46) hM rfl rfl rfl ?_
        refine ar_iload_n (pc' := 47) hM rfl rfl rfl ?_
        refine ar_icmp_le (pc' := 50) hM rfl rfl (fun q => absurd q (nI_ge hq.1 (by omega))) (fun _ => ?_)
        refine ar_aload_n (pc' := 51) hM rfl rfl rfl ?_
        refine ar_iload (pc' := 53) hM rfl rfl rfl ?_
        refine ar_ialoadN (j := k + 1) (pc' := 54) hM rfl hf rfl (by omega) (Nat.le_of_ble_eq_true rfl) rfl ?_
        rw [show (f (k + 1) : Int32) = nI (o (k + 1)) from (ho _ (by omega))]
        refine ar_aload_n (pc' := 55) hM rfl rfl rfl ?_
        refine ar_iload_n (pc' := 56) hM rfl rfl rfl ?_
        refine ar_ialoadN (j := t) (pc' := 57) hM rfl hf rfl (by omega) (Nat.le_of_ble_eq_true rfl) rfl ?_
        rw [show (f t : Int32) = nI (o t) from (ho _ (by omega))]
        refine ar_icmp_ge (pc' := 60) hM rfl rfl (fun q => absurd q (nI_ge hq.2 (by have := hol t (by omega); omega))) (fun _ => ?_)
        refine ar_iinc (z := nI k) (pc' := 63) hM rfl rfl (i_m1' (k := k + 1) (by omega)) rfl rfl rfl ?_
        refine ar_goto hM rfl ?_
        exact ih (by omega) (by omega) (by rw [← h3]; show _ = if _ then _ else _; rw [if_pos hq])
      · by_cases hq1 : t < k + 1
        · refine ar_iload (pc' := 46) hM rfl rfl rfl ?_
          refine ar_iload_n (pc' := 47) hM rfl rfl rfl ?_
          refine ar_icmp_le (pc' := 50) hM rfl rfl (fun q => absurd q (nI_ge hq1 (by omega))) (fun _ => ?_)
          refine ar_aload_n (pc' := 51) hM rfl rfl rfl ?_
          refine ar_iload (pc' := 53) hM rfl rfl rfl ?_
          refine ar_ialoadN (j := k + 1) (pc' := 54) hM rfl hf rfl (by omega) (Nat.le_of_ble_eq_true rfl) rfl ?_
          rw [show (f (k + 1) : Int32) = nI (o (k + 1)) from (ho _ (by omega))]
          refine ar_aload_n (pc' := 55) hM rfl rfl rfl ?_
          refine ar_iload_n (pc' := 56) hM rfl rfl rfl ?_
          refine ar_ialoadN (j := t) (pc' := 57) hM rfl hf rfl (by omega) (Nat.le_of_ble_eq_true rfl) rfl ?_
          rw [show (f t : Int32) = nI (o t) from (ho _ (by omega))]
          refine ar_icmp_ge (pc' := 60) hM rfl rfl (fun _ => ?_) (fun q => absurd (nI_le (by rcases Nat.lt_or_ge (o (k + 1)) (o t) with q | q; exact absurd ⟨hq1, q⟩ hq; exact q) (by have := hol (k + 1) (by omega); omega)) q)
          exact h66 t (k + 1) z5 z6 ht (by rw [← h3]; show _ = if _ then _ else _; rw [if_neg hq])
        · refine ar_iload (pc' := 46) hM rfl rfl rfl ?_
          refine ar_iload_n (pc' := 47) hM rfl rfl rfl ?_
          refine ar_icmp_le (pc' := 50) hM rfl rfl (fun _ => ?_) (fun q => absurd (nI_le (by omega) (by omega)) q)
          exact h66 t (k + 1) z5 z6 ht (by rw [← h3]; show _ = if _ then _ else _; rw [if_neg hq])
  have h33 : ∀ (k : Nat) (z4 : Value) (z5 : Value) (z6 : Value), m_trn o (n - 1) = k → am_Go 16 (33, [.ref 100, .int (nI n), .ref 107, .int (nI k - 1), z4, z5, z6], [], w, 0, 0) (fun res w' => res = some (.int (if m_trn o (n - 1) = 0 then 0 else 1)) ∧ ∃ g, w' = w.set 107 (.inl (0, 6, .inl g)) ∧ ∀ p, p < 6 → g p = nI (m_nxt n o p)) := by
    intro k z4 z5 z6 hk
    have htl := m_trn_le o (n - 1)
    match k, hk with
    | 0, hk =>
      refine ar_iload_n (pc' := 34) hM rfl rfl rfl ?_
      refine ar_if_ge (pc' := 37) hM rfl rfl (fun q => absurd q (by decide)) (fun _ => ?_)
      refine ar_iconst (x := 0) (pc' := 38) hM rfl (by decide) rfl ?_
      refine ar_ireturn hM rfl (Or.inr (Or.inl rfl)) ?_
      exact ⟨by rw [if_pos hk], f, (am_si hf).symm, fun p hp => by unfold m_nxt; rw [if_pos hk]; exact ho p hp⟩
    | t + 1, hk =>
      rw [nI_pred]
      refine ar_iload_n (pc' := 34) hM rfl rfl rfl ?_
      refine ar_if_ge (pc' := 37) hM rfl rfl (fun _ => ?_) (fun q => absurd (nI_pos' (by omega)) q)
      refine ar_iload_n (pc' := 40) hM rfl rfl rfl ?_
      refine ar_iconst (x := 1) (pc' := 41) hM rfl (by decide) rfl ?_
      refine ar_isub (pc' := 42) hM rfl rfl ?_
      rw [show ((nI n) - 1 : Int32) = nI (n - 1) from (i_pred (by omega))]
      refine ar_istore (pc' := 44) hM rfl rfl rfl rfl ?_
      exact h44 t z5 z6 hk (n - 1) (by omega) (by omega) rfl
  have h12 : ∀ (z4 : Value) (z5 : Value) (z6 : Value) (k : Nat), k ≤ n - 1 → m_trn o k = m_trn o (n - 1) → am_Go 16 (12, [.ref 100, .int (nI n), .ref 107, .int (nI k - 1), z4, z5, z6], [], w, 0, 0) (fun res w' => res = some (.int (if m_trn o (n - 1) = 0 then 0 else 1)) ∧ ∃ g, w' = w.set 107 (.inl (0, 6, .inl g)) ∧ ∀ p, p < 6 → g p = nI (m_nxt n o p)) := by
    intro z4 z5 z6 k
    induction k with
    | zero =>
      intro h1 h2
      refine ar_iload_n (pc' := 13) hM rfl rfl rfl ?_
      refine ar_if_lt (pc' := 16) hM rfl rfl (fun _ => ?_) (fun q => absurd (by decide) q)
      exact h33 0 z4 z5 z6 h2.symm
    | succ k ih =>
      intro h1 h2
      by_cases hq : o (k + 1) < o k
      · rw [nI_pred]
        refine ar_iload_n (pc' := 13) hM rfl rfl rfl ?_
        refine ar_if_lt (pc' := 16) hM rfl rfl (fun q => absurd q (nI_pos (by omega))) (fun _ => ?_)
        refine ar_aload_n (pc' := 17) hM rfl rfl rfl ?_
        refine ar_iload_n (pc' := 18) hM rfl rfl rfl ?_
        refine ar_ialoadN (j := k) (pc' := 19) hM rfl hf rfl (by omega) (Nat.le_of_ble_eq_true rfl) rfl ?_
        rw [show (f k : Int32) = nI (o k) from (ho _ (by omega))]
        refine ar_aload_n (pc' := 20) hM rfl rfl rfl ?_
        refine ar_iload_n (pc' := 21) hM rfl rfl rfl ?_
        refine ar_iconst (x := 1) (pc' := 22) hM rfl (by decide) rfl ?_
        refine ar_iadd (pc' := 23) hM rfl rfl ?_
        rw [show ((nI k) + 1 : Int32) = nI (k + 1) from (nI_1 _)]
        refine ar_ialoadN (j := (k + 1)) (pc' := 24) hM rfl hf rfl (by omega) (Nat.le_of_ble_eq_true rfl) rfl ?_
        rw [show (f (k + 1) : Int32) = nI (o (k + 1)) from (ho _ (by omega))]
        refine ar_icmp_le (pc' := 27) hM rfl rfl (fun q => absurd q (nI_ge hq (by have := hol k (by omega); omega))) (fun _ => ?_)
        refine ar_iinc (z := nI k - 1) (pc' := 30) hM rfl rfl (i_m1 _) rfl rfl rfl ?_
        refine ar_goto hM rfl ?_
        exact ih (by omega) (by rw [← h2]; show _ = if _ then _ else _; rw [if_pos hq])
      · rw [nI_pred]
        refine ar_iload_n (pc' := 13) hM rfl rfl rfl ?_
        refine ar_if_lt (pc' := 16) hM rfl rfl (fun q => absurd q (nI_pos (by omega))) (fun _ => ?_)
        refine ar_aload_n (pc' := 17) hM rfl rfl rfl ?_
        refine ar_iload_n (pc' := 18) hM rfl rfl rfl ?_
        refine ar_ialoadN (j := k) (pc' := 19) hM rfl hf rfl (by omega) (Nat.le_of_ble_eq_true rfl) rfl ?_
        rw [show (f k : Int32) = nI (o k) from (ho _ (by omega))]
        refine ar_aload_n (pc' := 20) hM rfl rfl rfl ?_
        refine ar_iload_n (pc' := 21) hM rfl rfl rfl ?_
        refine ar_iconst (x := 1) (pc' := 22) hM rfl (by decide) rfl ?_
        refine ar_iadd (pc' := 23) hM rfl rfl ?_
        rw [show ((nI k) + 1 : Int32) = nI (k + 1) from (nI_1 _)]
        refine ar_ialoadN (j := (k + 1)) (pc' := 24) hM rfl hf rfl (by omega) (Nat.le_of_ble_eq_true rfl) rfl ?_
        rw [show (f (k + 1) : Int32) = nI (o (k + 1)) from (ho _ (by omega))]
        refine ar_icmp_le (pc' := 27) hM rfl rfl (fun _ => ?_) (fun q => absurd (nI_le (by omega) (by have := hol (k + 1) (by omega); omega)) q)
        rw [← nI_pred k]
        exact h33 (k + 1) z4 z5 z6 (by rw [← h2]; show (if _ then _ else _) = _; rw [if_neg hq])
  refine ar_aload_n (pc' := 1) hM rfl rfl rfl ?_
  refine ar_getfield (pc' := 4) hM rfl ho0 rfl rfl ?_
  refine ar_getfield (pc' := 7) hM rfl hr6 rfl rfl ?_
  refine ar_astore_n (pc' := 8) hM rfl rfl rfl rfl ?_
  refine ar_iload_n (pc' := 9) hM rfl rfl rfl ?_
  refine ar_iconst (x := 2) (pc' := 10) hM rfl (by decide) rfl ?_
  refine ar_isub (pc' := 11) hM rfl rfl ?_
  rw [show ((nI n) - 2 : Int32) = nI (n - 1) - 1 from (by rw [← i_pred h0, Int32.sub_sub]; rfl)]
  refine ar_istore_n (pc' := 12) hM rfl rfl rfl rfl ?_
  exact h12 _ _ _ (n - 1) (by omega) rfl
set_option maxRecDepth 100000 in
set_option maxHeartbeats 4000000 in
theorem c_toNext0 (w : am_W) (bl bo : Int32) (x6 y6 z6 : Int32) (f : Nat → Int32) (ho0 : w[100]? = some (.inr (2, [.ref 101, .ref 106, .ref 110, .int bl, .int bo]))) (hr6 : w[106]? = some (.inr (6, [.ref 107, .ref 108, .ref 109, .int x6, .int y6, .int z6]))) (hf : w[107]? = some (.inl (0, 6, .inl f))) (o : Nat → Nat) (ho : ∀ p, p < 6 → f p = nI (o p)) : am_Go 16 (0, [.ref 100, .int 0, .float 0, .float 0, .float 0, .float 0, .float 0], [], w, 0, 0) (fun res w' => res = some (.int (if m_trn o (0 - 1) = 0 then 0 else 1)) ∧ ∃ g, w' = w.set 107 (.inl (0, 6, .inl g)) ∧ ∀ p, p < 6 → g p = nI (m_nxt 0 o p)) := by
  have hM : am_P[16]? = some zm_X2_toNextOrder := rfl
  refine ar_aload_n (pc' := 1) hM rfl rfl rfl ?_
  refine ar_getfield (pc' := 4) hM rfl ho0 rfl rfl ?_
  refine ar_getfield (pc' := 7) hM rfl hr6 rfl rfl ?_
  refine ar_astore_n (pc' := 8) hM rfl rfl rfl rfl ?_
  refine ar_iload_n (pc' := 9) hM rfl rfl rfl ?_
  refine ar_iconst (x := 2) (pc' := 10) hM rfl (by decide) rfl ?_
  refine ar_isub (pc' := 11) hM rfl rfl ?_
  rw [show (0 - 2 : Int32) = (-2) from (by decide)]
  refine ar_istore_n (pc' := 12) hM rfl rfl rfl rfl ?_
  refine ar_iload_n (pc' := 13) hM rfl rfl rfl ?_
  refine ar_if_lt (pc' := 16) hM rfl rfl (fun _ => ?_) (fun q => absurd (by decide) q)
  refine ar_iload_n (pc' := 34) hM rfl rfl rfl ?_
  refine ar_if_ge (pc' := 37) hM rfl rfl (fun q => absurd q (by decide)) (fun _ => ?_)
  refine ar_iconst (x := 0) (pc' := 38) hM rfl (by decide) rfl ?_
  refine ar_ireturn hM rfl (Or.inr (Or.inl rfl)) ?_
  exact ⟨rfl, f, (am_si hf).symm, fun p hp => ho p hp⟩
theorem c_toNext (w : am_W) (bl bo : Int32) (x6 y6 z6 : Int32) (f : Nat → Int32) (ho0 : w[100]? = some (.inr (2, [.ref 101, .ref 106, .ref 110, .int bl, .int bo]))) (hr6 : w[106]? = some (.inr (6, [.ref 107, .ref 108, .ref 109, .int x6, .int y6, .int z6]))) (hf : w[107]? = some (.inl (0, 6, .inl f))) (n : Nat) (hn : n ≤ 6) (o : Nat → Nat) (ho : ∀ p, p < 6 → f p = nI (o p)) (hol : ∀ p, p < 6 → o p < 6) : am_Go 16 (0, [.ref 100, .int (nI n), .float 0, .float 0, .float 0, .float 0, .float 0], [], w, 0, 0) (fun res w' => res = some (.int (if m_trn o (n - 1) = 0 then 0 else 1)) ∧ ∃ g, w' = w.set 107 (.inl (0, 6, .inl g)) ∧ ∀ p, p < 6 → g p = nI (m_nxt n o p)) := by
  rcases Nat.eq_zero_or_pos n with q | q
  · subst q; exact c_toNext0 w bl bo x6 y6 z6 f ho0 hr6 hf o ho
  · exact c_toNext1 w bl bo x6 y6 z6 f ho0 hr6 hf n hn q o ho hol
