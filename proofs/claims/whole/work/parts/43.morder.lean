/-! the reference whole: orders -/
theorem m_xc_updN {n : Nat} {f : Nat → Int32} {o : Nat → Nat} {a b : Nat} (h : ∀ p, p < n → f p = nI (o p)) (ha : a < n) (hb : b < n) : ∀ p, p < n → upd (upd f a (f b)) b (f a) p = nI (m_xc o a b p) := by
  intro p hp
  unfold m_xc
  by_cases e1 : p = b
  · rw [e1, pk_us, if_pos rfl]; exact h a ha
  · rw [pk_un e1, if_neg e1]
    by_cases e2 : p = a
    · rw [e2, pk_us, if_pos rfl]; exact h b hb
    · rw [pk_un e2, if_neg e2]; exact h p hp
theorem i_grt_fg {f : Nat → Int32} {m : Nat} (hm : m < 2 ^ 31) : ∀ n, (∀ h, h < n → i_fg m (f h)) → i_fg m (i_grt f n)
  | 0, _ => i_fg_0 _
  | n + 1, h => by
    show i_fg m (i_max (i_grt f n) (f n))
    unfold i_max
    exact i_fg_if (h n (by omega)) (i_grt_fg hm n (fun k hk => h k (by omega)))
theorem v_G_ord {T : p_D} {S : s_S} (hv : v_G T S) {k : Nat} (hk : k < n_fac T.2.2.1) : v_G T (m_ord S (m_ch T.2.2.1 k)) := ⟨hv.1, m_ord_v hv.1.1.1 (m_ch_ok hv.1.1.1 hk).1 hv.2.1.2.2.2, hv.2.2⟩
theorem m_lko_fg {T : p_D} {S : s_S} (hv : v_G T S) (gr : Int32) {k : Nat} (hk : k < n_fac T.2.2.1) : i_fg 156 (m_lko T S gr k) := by
  have h6 := hv.1.1.1
  unfold m_lko
  exact i_fg_if (i_fg_mono (i_sum_fg (m := 26) _ (fun h hh => (m_dl_fg (v_G_ord hv hk) 0 hh).2)) (by omega)) (i_fg_mono (i_grt_fg (m := 26) (by omega) _ (fun h hh => (m_dl_fg (v_G_ord hv hk) 0 hh).2)) (by omega))
theorem m_bst_1 {T : p_D} {S : s_S} (hv : v_G T S) (gr : Int32) : m_bst T S gr 1 = (m_lko T S gr 0, m_fgo T 0) := by
  obtain ⟨a, ha, e⟩ := m_lko_fg hv gr (n_fac_pos T.2.2.1 (by have := hv.1.1.1; omega))
  exact if_pos (by show m_lko T S gr 0 < 1000; rw [e]; exact nI_lt (b := 1000) (by omega) (by omega))
set_option maxRecDepth 100000 in
set_option maxHeartbeats 4000000 in
theorem d_xc {w : am_W} (T : p_D) {rh rk wh fa gu : Int32} {tl ac nx sc : Nat} {sd : Int64} {oo : Nat → Int32} (hm : w[133]? = some (d_O T rh rk tl wh fa gu ac nx sc sd)) (h144 : w[144]? = some (.inl (0, 6, .inl oo))) (hn6 : T.2.2.1 ≤ 6) (a b : Nat) (ha : a < T.2.2.1) (hb : b < T.2.2.1) : am_Go 137 (0, [.ref 133, .int (nI a), .int (nI b), .float 0], [], w, 0, 0) (fun res w' => res = none ∧ w' = w.set 144 (.inl (0, 6, .inl (upd (upd oo a (oo b)) b (oo a))))) := by
  have hM : am_P[137]? = some zm_X11_exchange := rfl
  refine ar_aload_n (pc' := 1) hM rfl rfl rfl ?_
  refine ar_getfield (pc' := 4) hM rfl hm rfl rfl ?_
  refine ar_iload_n (pc' := 5) hM rfl rfl rfl ?_
  refine ar_ialoadN (j := a) (pc' := 6) hM rfl h144 rfl (by omega) (Nat.le_of_ble_eq_true rfl) rfl ?_
  refine ar_istore_n (pc' := 7) hM rfl rfl rfl rfl ?_
  refine ar_aload_n (pc' := 8) hM rfl rfl rfl ?_
  refine ar_getfield (pc' := 11) hM rfl hm rfl rfl ?_
  refine ar_iload_n (pc' := 12) hM rfl rfl rfl ?_
  refine ar_aload_n (pc' := 13) hM rfl rfl rfl ?_
  refine ar_getfield (pc' := 16) hM rfl hm rfl rfl ?_
  refine ar_iload_n (pc' := 17) hM rfl rfl rfl ?_
  refine ar_ialoadN (j := b) (pc' := 18) hM rfl h144 rfl (by omega) (Nat.le_of_ble_eq_true rfl) rfl ?_
  refine ar_iastoreN (j := a) (pc' := 19) hM rfl h144 rfl (by omega) (Nat.le_of_ble_eq_true rfl) (by decide) rfl ?_
  refine ar_aload_n (pc' := 20) hM rfl rfl rfl ?_
  refine ar_getfield (pc' := 23) hM rfl (am_gn (by decide) hm) rfl rfl ?_
  refine ar_iload_n (pc' := 24) hM rfl rfl rfl ?_
  refine ar_iload_n (pc' := 25) hM rfl rfl rfl ?_
  refine ar_iastoreN (j := b) (pc' := 26) hM rfl (am_gs h144) rfl (by omega) (Nat.le_of_ble_eq_true rfl) (by decide) rfl ?_
  refine ar_return hM rfl ?_
  refine ⟨rfl, ?_⟩
  rw [List.set_set]
set_option maxRecDepth 100000 in
set_option maxHeartbeats 4000000 in
theorem d_figs {w : am_W} (T : p_D) {rh rk wh fa gu : Int32} {tl ac nx sc : Nat} {sd : Int64} {oo : Nat → Int32} (hm : w[133]? = some (d_O T rh rk tl wh fa gu ac nx sc sd)) (h144 : w[144]? = some (.inl (0, 6, .inl oo))) (hn6 : T.2.2.1 ≤ 6) : am_Go 139 (0, [.ref 133, .float 0, .float 0], [], w, 0, 0) (fun res w' => res = some (.int (i_fig oo T.2.2.1)) ∧ w' = w) := by
  have hM : am_P[139]? = some zm_X11_figures := rfl
  refine ar_iconst (x := 0) (pc' := 1) hM rfl (by decide) rfl ?_
  refine ar_istore_n (pc' := 2) hM rfl rfl rfl rfl ?_
  refine ar_iconst (x := 0) (pc' := 3) hM rfl (by decide) rfl ?_
  refine ar_istore_n (pc' := 4) hM rfl rfl rfl rfl ?_
  have loop : ∀ (dj j : Nat) (x : Int32), dj + j = T.2.2.1 → (x = i_fig oo j) → am_Go 139 (4, [.ref 133, .int x, .int (nI j)], [], w, 0, 0) (fun res w' => res = some (.int (i_fig oo T.2.2.1)) ∧ w' = w) := by
    intro dj
    induction dj with
    | zero =>
      intro j x hj hx
      refine ar_iload_n (pc' := 5) hM rfl rfl rfl ?_
      refine ar_aload_n (pc' := 6) hM rfl rfl rfl ?_
      refine ar_getfield (pc' := 9) hM rfl hm rfl rfl ?_
      refine ar_icmp_ge (pc' := 12) hM rfl rfl (fun _ => ?_) (fun q => absurd (nI_le (a := T.2.2.1) (b := j) (by omega) (by omega)) q)
      refine ar_iload_n (pc' := 33) hM rfl rfl rfl ?_
      refine ar_ireturn hM rfl (Or.inl rfl) ?_
      exact ⟨by rw [hx, show j = T.2.2.1 by omega], rfl⟩
    | succ dj ih =>
      intro j x hj hx
      refine ar_iload_n (pc' := 5) hM rfl rfl rfl ?_
      refine ar_aload_n (pc' := 6) hM rfl rfl rfl ?_
      refine ar_getfield (pc' := 9) hM rfl hm rfl rfl ?_
      refine ar_icmp_ge (pc' := 12) hM rfl rfl (fun q => absurd q (nI_ge (a := j) (b := T.2.2.1) (by omega) (by omega))) (fun _ => ?_)
      refine ar_bipush (x := 10) (pc' := 14) hM rfl (by decide) rfl ?_
      refine ar_iload_n (pc' := 15) hM rfl rfl rfl ?_
      refine ar_imul (pc' := 16) hM rfl rfl ?_
      refine ar_aload_n (pc' := 17) hM rfl rfl rfl ?_
      refine ar_getfield (pc' := 20) hM rfl hm rfl rfl ?_
      refine ar_iload_n (pc' := 21) hM rfl rfl rfl ?_
      refine ar_ialoadN (j := j) (pc' := 22) hM rfl h144 rfl (by omega) (Nat.le_of_ble_eq_true rfl) rfl ?_
      refine ar_iadd (pc' := 23) hM rfl rfl ?_
      refine ar_iconst (x := 1) (pc' := 24) hM rfl (by decide) rfl ?_
      refine ar_iadd (pc' := 25) hM rfl rfl ?_
      refine ar_istore_n (pc' := 26) hM rfl rfl rfl rfl ?_
      refine ar_iinc (z := nI (j + 1)) (pc' := 29) hM rfl rfl (nI_1 _) rfl rfl rfl ?_
      refine ar_goto hM rfl ?_
      exact ih (j + 1) (((10 * x) + (oo j)) + 1) (by omega) (by show _ = 10 * i_fig oo j + oo j + 1; rw [hx])
  exact loop (T.2.2.1) 0 0 (by omega) rfl
set_option maxRecDepth 100000 in
set_option maxHeartbeats 4000000 in
theorem d_next1 {w : am_W} (T : p_D) {rh rk wh fa gu : Int32} {tl ac nx sc : Nat} {sd : Int64} {oo : Nat → Int32} (hm : w[133]? = some (d_O T rh rk tl wh fa gu ac nx sc sd)) (h144 : w[144]? = some (.inl (0, 6, .inl oo))) (hn6 : T.2.2.1 ≤ 6) (o : Nat → Nat) (ho : ∀ p, p < T.2.2.1 → oo p = nI (o p)) (hol : ∀ p, p < T.2.2.1 → o p < 6) (h0 : 0 < T.2.2.1) : am_Go 136 (0, [.ref 133, .float 0, .float 0, .float 0, .float 0], [], w, 0, 0) (fun res w' => res = some (.int (if m_trn o (T.2.2.1 - 1) = 0 then 0 else 1)) ∧ ∃ g, w' = w.set 144 (.inl (0, 6, .inl g)) ∧ ∀ p, p < T.2.2.1 → g p = nI (m_nxt T.2.2.1 o p)) := by
  have hM : am_P[136]? = some zm_X11_nextOrder := rfl
  have h86 : ∀ (t l : Nat), m_trn o (T.2.2.1 - 1) = t + 1 → ∀ (fu lo hi : Nat) (g : Nat → Int32) (u : Nat → Nat), hi - lo ≤ fu → lo < 7 → hi < T.2.2.1 → (∀ p, p < T.2.2.1 → g p = nI (u p)) → m_rv fu u lo hi = m_nxt T.2.2.1 o → am_Go 136 (86, [.ref 133, .int (nI t), .int (nI l), .int (nI hi), .int (nI lo)], [], (w.set 144 (.inl (0, 6, .inl g))), 0, 0) (fun res w' => res = some (.int (if m_trn o (T.2.2.1 - 1) = 0 then 0 else 1)) ∧ ∃ g, w' = w.set 144 (.inl (0, 6, .inl g)) ∧ ∀ p, p < T.2.2.1 → g p = nI (m_nxt T.2.2.1 o p)) := by
    intro t l ht fu
    induction fu with
    | zero =>
      intro lo hi g u h1 h2 h3 h4 h5
      refine ar_iload (pc' := 88) hM rfl rfl rfl ?_
      refine ar_iload_n (pc' := 89) hM rfl rfl rfl ?_
      refine ar_icmp_ge (pc' := 92) hM rfl rfl (fun _ => ?_) (fun q => absurd (nI_le (by omega) (by omega)) q)
      refine ar_iconst (x := 1) (pc' := 109) hM rfl (by decide) rfl ?_
      refine ar_ireturn hM rfl (Or.inr (Or.inr rfl)) ?_
      exact ⟨by rw [if_neg (by omega)], g, rfl, fun p hp => by rw [← h5]; exact h4 p hp⟩
    | succ fu ih =>
      intro lo hi g u h1 h2 h3 h4 h5
      by_cases hlh : lo < hi
      · refine ar_iload (pc' := 88) hM rfl rfl rfl ?_
        refine ar_iload_n (pc' := 89) hM rfl rfl rfl ?_
        refine ar_icmp_ge (pc' := 92) hM rfl rfl (fun q => absurd q (nI_ge hlh (by omega))) (fun _ => ?_)
        refine ar_aload_n (pc' := 93) hM rfl rfl rfl ?_
        refine ar_iload (pc' := 95) hM rfl rfl rfl ?_
        refine ar_iload_n (pc' := 96) hM rfl rfl rfl ?_
        refine ar_virtual (pc' := 99) (k3 := 0) (k4 := 0) hM rfl rfl (am_gn (by decide) hm) ⟨rfl, (by decide)⟩ rfl rfl (d_xc T (am_gn (by decide) hm) (am_gs h144) hn6 lo hi (by omega) (by omega)) (fun r96 w96 q96 => ?_)
        obtain ⟨rfl, q96w⟩ := q96
        rw [q96w]
        rw [show ((w.set 144 (.inl (0, 6, .inl g))).set 144 (.inl (0, 6, .inl (upd (upd g lo (g hi)) hi (g lo))))) = (w.set 144 (.inl (0, 6, .inl (upd (upd g lo (g hi)) hi (g lo))))) from by rw [List.set_set]]
        show am_Go 136 (99, [.ref 133, .int (nI t), .int (nI l), .int (nI hi), .int (nI lo)], [], (w.set 144 (.inl (0, 6, .inl (upd (upd g lo (g hi)) hi (g lo))))), 0, 0) _
        refine ar_iinc (z := nI (hi - 1)) (pc' := 102) hM rfl rfl (i_m1' (by omega)) rfl rfl rfl ?_
        refine ar_iinc (z := nI (lo + 1)) (pc' := 105) hM rfl rfl (nI_1 _) rfl rfl rfl ?_
        refine ar_goto hM rfl ?_
        exact ih (lo + 1) (hi - 1) _ (m_xc u lo hi) (by omega) (by omega) (by omega) (m_xc_updN h4 (by omega) h3) (by rw [← h5]; show _ = if lo < hi then _ else _; rw [if_pos hlh])
      · refine ar_iload (pc' := 88) hM rfl rfl rfl ?_
        refine ar_iload_n (pc' := 89) hM rfl rfl rfl ?_
        refine ar_icmp_ge (pc' := 92) hM rfl rfl (fun _ => ?_) (fun q => absurd (nI_le (by omega) (by omega)) q)
        refine ar_iconst (x := 1) (pc' := 109) hM rfl (by decide) rfl ?_
        refine ar_ireturn hM rfl (Or.inr (Or.inr rfl)) ?_
        exact ⟨by rw [if_neg (by omega)], g, rfl, fun p hp => by rw [← h5]; show g p = nI ((if lo < hi then _ else u) p); rw [if_neg hlh]; exact h4 p hp⟩
  have h68 : ∀ (t l : Nat) (z3 : Value) (z4 : Value), m_trn o (T.2.2.1 - 1) = t + 1 → l = m_lgr o t (T.2.2.1 - 1) → am_Go 136 (68, [.ref 133, .int (nI t), .int (nI l), z3, z4], [], w, 0, 0) (fun res w' => res = some (.int (if m_trn o (T.2.2.1 - 1) = 0 then 0 else 1)) ∧ ∃ g, w' = w.set 144 (.inl (0, 6, .inl g)) ∧ ∀ p, p < T.2.2.1 → g p = nI (m_nxt T.2.2.1 o p)) := by
    intro t l z3 z4 ht hl
    have htl := m_trn_le o (T.2.2.1 - 1)
    have hll := m_lgr_le o t (T.2.2.1 - 1)
    refine ar_aload_n (pc' := 69) hM rfl rfl rfl ?_
    refine ar_iload_n (pc' := 70) hM rfl rfl rfl ?_
    refine ar_iload_n (pc' := 71) hM rfl rfl rfl ?_
    refine ar_virtual (pc' := 74) (k3 := 0) (k4 := 0) hM rfl rfl hm ⟨rfl, (by decide)⟩ rfl rfl (d_xc T hm h144 hn6 t l (by omega) (by omega)) (fun r71 w71 q71 => ?_)
    obtain ⟨rfl, q71w⟩ := q71
    rw [q71w]
    show am_Go 136 (74, [.ref 133, .int (nI t), .int (nI l), z3, z4], [], (w.set 144 (.inl (0, 6, .inl (upd (upd oo t (oo l)) l (oo t))))), 0, 0) _
    refine ar_aload_n (pc' := 75) hM rfl rfl rfl ?_
    refine ar_getfield (pc' := 78) hM rfl (am_gn (by decide) hm) rfl rfl ?_
    refine ar_iconst (x := 1) (pc' := 79) hM rfl (by decide) rfl ?_
    refine ar_isub (pc' := 80) hM rfl rfl ?_
    rw [show ((nI T.2.2.1) - 1 : Int32) = nI (T.2.2.1 - 1) from (i_pred (by omega))]
    refine ar_istore_n (pc' := 81) hM rfl rfl rfl rfl ?_
    refine ar_iload_n (pc' := 82) hM rfl rfl rfl ?_
    refine ar_iconst (x := 1) (pc' := 83) hM rfl (by decide) rfl ?_
    refine ar_iadd (pc' := 84) hM rfl rfl ?_
    rw [show ((nI t) + 1 : Int32) = nI (t + 1) from (nI_1 _)]
    refine ar_istore (pc' := 86) hM rfl rfl rfl rfl ?_
    exact h86 t l ht T.2.2.1 (t + 1) (T.2.2.1 - 1) _ (m_xc o t l) (by omega) (by omega) (by omega) (m_xc_updN ho (by omega) (by omega)) (by unfold m_nxt; rw [if_neg (by omega), ht, show t + 1 - 1 = t by omega, hl])
  have h47 : ∀ (t : Nat) (z3 : Value) (z4 : Value), m_trn o (T.2.2.1 - 1) = t + 1 → ∀ k, k ≤ T.2.2.1 - 1 → t ≤ k → m_lgr o t k = m_lgr o t (T.2.2.1 - 1) → am_Go 136 (47, [.ref 133, .int (nI t), .int (nI k), z3, z4], [], w, 0, 0) (fun res w' => res = some (.int (if m_trn o (T.2.2.1 - 1) = 0 then 0 else 1)) ∧ ∃ g, w' = w.set 144 (.inl (0, 6, .inl g)) ∧ ∀ p, p < T.2.2.1 → g p = nI (m_nxt T.2.2.1 o p)) := by
    intro t z3 z4 ht k
    have htl := m_trn_le o (T.2.2.1 - 1)
    induction k with
    | zero =>
      intro h1 h2 h3
      refine ar_aload_n (pc' := 48) hM rfl rfl rfl ?_
      refine ar_getfield (pc' := 51) hM rfl hm rfl rfl ?_
      refine ar_iload_n (pc' := 52) hM rfl rfl rfl ?_
      refine ar_ialoadN (j := 0) (pc' := 53) hM rfl h144 rfl (by omega) (Nat.le_of_ble_eq_true rfl) rfl ?_
      rw [show (oo 0 : Int32) = nI (o 0) from (ho _ (by omega))]
      refine ar_aload_n (pc' := 54) hM rfl rfl rfl ?_
      refine ar_getfield (pc' := 57) hM rfl hm rfl rfl ?_
      refine ar_iload_n (pc' := 58) hM rfl rfl rfl ?_
      refine ar_ialoadN (j := t) (pc' := 59) hM rfl h144 rfl (by omega) (Nat.le_of_ble_eq_true rfl) rfl ?_
      rw [show (oo t : Int32) = nI (o t) from (ho _ (by omega))]
      refine ar_icmp_ge (pc' := 62) hM rfl rfl (fun _ => ?_) (fun q => absurd (nI_le (by rw [show t = 0 by omega]; exact Nat.le_refl _) (by have := hol 0 (by omega); omega)) q)
      exact h68 t 0 z3 z4 ht h3
    | succ k ih =>
      intro h1 h2 h3
      by_cases hq : t < k + 1 ∧ o (k + 1) < o t
      · refine ar_aload_n (pc' := 48) hM rfl rfl rfl ?_
        refine ar_getfield (pc' := 51) hM rfl hm rfl rfl ?_
        refine ar_iload_n (pc' := 52) hM rfl rfl rfl ?_
        refine ar_ialoadN (j := k + 1) (pc' := 53) hM rfl h144 rfl (by omega) (Nat.le_of_ble_eq_true rfl) rfl ?_
        rw [show (oo (k + 1) : Int32) = nI (o (k + 1)) from (ho _ (by omega))]
        refine ar_aload_n (pc' := 54) hM rfl rfl rfl ?_
        refine ar_getfield (pc' := 57) hM rfl hm rfl rfl ?_
        refine ar_iload_n (pc' := 58) hM rfl rfl rfl ?_
        refine ar_ialoadN (j := t) (pc' := 59) hM rfl h144 rfl (by omega) (Nat.le_of_ble_eq_true rfl) rfl ?_
        rw [show (oo t : Int32) = nI (o t) from (ho _ (by omega))]
        refine ar_icmp_ge (pc' := 62) hM rfl rfl (fun q => absurd q (nI_ge hq.2 (by have := hol t (by omega); omega))) (fun _ => ?_)
        refine ar_iinc (z := nI k) (pc' := 65) hM rfl rfl (i_m1' (k := k + 1) (by omega)) rfl rfl rfl ?_
        refine ar_goto hM rfl ?_
        exact ih (by omega) (by omega) (by rw [← h3]; show _ = if _ then _ else _; rw [if_pos hq])
      · refine ar_aload_n (pc' := 48) hM rfl rfl rfl ?_
        refine ar_getfield (pc' := 51) hM rfl hm rfl rfl ?_
        refine ar_iload_n (pc' := 52) hM rfl rfl rfl ?_
        refine ar_ialoadN (j := k + 1) (pc' := 53) hM rfl h144 rfl (by omega) (Nat.le_of_ble_eq_true rfl) rfl ?_
        rw [show (oo (k + 1) : Int32) = nI (o (k + 1)) from (ho _ (by omega))]
        refine ar_aload_n (pc' := 54) hM rfl rfl rfl ?_
        refine ar_getfield (pc' := 57) hM rfl hm rfl rfl ?_
        refine ar_iload_n (pc' := 58) hM rfl rfl rfl ?_
        refine ar_ialoadN (j := t) (pc' := 59) hM rfl h144 rfl (by omega) (Nat.le_of_ble_eq_true rfl) rfl ?_
        rw [show (oo t : Int32) = nI (o t) from (ho _ (by omega))]
        refine ar_icmp_ge (pc' := 62) hM rfl rfl (fun _ => ?_) (fun q => absurd (nI_le (by rcases Nat.lt_or_ge (o (k + 1)) (o t) with q | q; rcases Nat.lt_or_ge t (k + 1) with q2 | q2; exact absurd ⟨q2, q⟩ hq; rw [show t = k + 1 by omega]; exact Nat.le_refl _; exact q) (by have := hol (k + 1) (by omega); omega)) q)
        exact h68 t (k + 1) z3 z4 ht (by rw [← h3]; show _ = if _ then _ else _; rw [if_neg hq])
  have h34 : ∀ (k : Nat) (z2 : Value) (z3 : Value) (z4 : Value), m_trn o (T.2.2.1 - 1) = k → am_Go 136 (34, [.ref 133, .int (nI k - 1), z2, z3, z4], [], w, 0, 0) (fun res w' => res = some (.int (if m_trn o (T.2.2.1 - 1) = 0 then 0 else 1)) ∧ ∃ g, w' = w.set 144 (.inl (0, 6, .inl g)) ∧ ∀ p, p < T.2.2.1 → g p = nI (m_nxt T.2.2.1 o p)) := by
    intro k z2 z3 z4 hk
    have htl := m_trn_le o (T.2.2.1 - 1)
    match k, hk with
    | 0, hk =>
      refine ar_iload_n (pc' := 35) hM rfl rfl rfl ?_
      refine ar_if_ge (pc' := 38) hM rfl rfl (fun q => absurd q (by decide)) (fun _ => ?_)
      refine ar_iconst (x := 0) (pc' := 39) hM rfl (by decide) rfl ?_
      refine ar_ireturn hM rfl (Or.inr (Or.inl rfl)) ?_
      exact ⟨by rw [if_pos hk], oo, (am_si h144).symm, fun p hp => by unfold m_nxt; rw [if_pos hk]; exact ho p hp⟩
    | t + 1, hk =>
      rw [nI_pred]
      refine ar_iload_n (pc' := 35) hM rfl rfl rfl ?_
      refine ar_if_ge (pc' := 38) hM rfl rfl (fun _ => ?_) (fun q => absurd (nI_pos' (by omega)) q)
      refine ar_aload_n (pc' := 41) hM rfl rfl rfl ?_
      refine ar_getfield (pc' := 44) hM rfl hm rfl rfl ?_
      refine ar_iconst (x := 1) (pc' := 45) hM rfl (by decide) rfl ?_
      refine ar_isub (pc' := 46) hM rfl rfl ?_
      rw [show ((nI T.2.2.1) - 1 : Int32) = nI (T.2.2.1 - 1) from (i_pred (by omega))]
      refine ar_istore_n (pc' := 47) hM rfl rfl rfl rfl ?_
      exact h47 t z3 z4 hk (T.2.2.1 - 1) (by omega) (by omega) rfl
  have h7 : ∀ (z2 : Value) (z3 : Value) (z4 : Value) (k : Nat), k ≤ T.2.2.1 - 1 → m_trn o k = m_trn o (T.2.2.1 - 1) → am_Go 136 (7, [.ref 133, .int (nI k - 1), z2, z3, z4], [], w, 0, 0) (fun res w' => res = some (.int (if m_trn o (T.2.2.1 - 1) = 0 then 0 else 1)) ∧ ∃ g, w' = w.set 144 (.inl (0, 6, .inl g)) ∧ ∀ p, p < T.2.2.1 → g p = nI (m_nxt T.2.2.1 o p)) := by
    intro z2 z3 z4 k
    induction k with
    | zero =>
      intro h1 h2
      refine ar_iload_n (pc' := 8) hM rfl rfl rfl ?_
      refine ar_if_lt (pc' := 11) hM rfl rfl (fun _ => ?_) (fun q => absurd (by decide) q)
      exact h34 0 z2 z3 z4 h2.symm
    | succ k ih =>
      intro h1 h2
      by_cases hq : o (k + 1) < o k
      · rw [nI_pred]
        refine ar_iload_n (pc' := 8) hM rfl rfl rfl ?_
        refine ar_if_lt (pc' := 11) hM rfl rfl (fun q => absurd q (nI_pos (by omega))) (fun _ => ?_)
        refine ar_aload_n (pc' := 12) hM rfl rfl rfl ?_
        refine ar_getfield (pc' := 15) hM rfl hm rfl rfl ?_
        refine ar_iload_n (pc' := 16) hM rfl rfl rfl ?_
        refine ar_ialoadN (j := k) (pc' := 17) hM rfl h144 rfl (by omega) (Nat.le_of_ble_eq_true rfl) rfl ?_
        rw [show (oo k : Int32) = nI (o k) from (ho _ (by omega))]
        refine ar_aload_n (pc' := 18) hM rfl rfl rfl ?_
        refine ar_getfield (pc' := 21) hM rfl hm rfl rfl ?_
        refine ar_iload_n (pc' := 22) hM rfl rfl rfl ?_
        refine ar_iconst (x := 1) (pc' := 23) hM rfl (by decide) rfl ?_
        refine ar_iadd (pc' := 24) hM rfl rfl ?_
        rw [show ((nI k) + 1 : Int32) = nI (k + 1) from (nI_1 _)]
        refine ar_ialoadN (j := (k + 1)) (pc' := 25) hM rfl h144 rfl (by omega) (Nat.le_of_ble_eq_true rfl) rfl ?_
        rw [show (oo (k + 1) : Int32) = nI (o (k + 1)) from (ho _ (by omega))]
        refine ar_icmp_le (pc' := 28) hM rfl rfl (fun q => absurd q (nI_ge hq (by have := hol k (by omega); omega))) (fun _ => ?_)
        refine ar_iinc (z := nI k - 1) (pc' := 31) hM rfl rfl (i_m1 _) rfl rfl rfl ?_
        refine ar_goto hM rfl ?_
        exact ih (by omega) (by rw [← h2]; show _ = if _ then _ else _; rw [if_pos hq])
      · rw [nI_pred]
        refine ar_iload_n (pc' := 8) hM rfl rfl rfl ?_
        refine ar_if_lt (pc' := 11) hM rfl rfl (fun q => absurd q (nI_pos (by omega))) (fun _ => ?_)
        refine ar_aload_n (pc' := 12) hM rfl rfl rfl ?_
        refine ar_getfield (pc' := 15) hM rfl hm rfl rfl ?_
        refine ar_iload_n (pc' := 16) hM rfl rfl rfl ?_
        refine ar_ialoadN (j := k) (pc' := 17) hM rfl h144 rfl (by omega) (Nat.le_of_ble_eq_true rfl) rfl ?_
        rw [show (oo k : Int32) = nI (o k) from (ho _ (by omega))]
        refine ar_aload_n (pc' := 18) hM rfl rfl rfl ?_
        refine ar_getfield (pc' := 21) hM rfl hm rfl rfl ?_
        refine ar_iload_n (pc' := 22) hM rfl rfl rfl ?_
        refine ar_iconst (x := 1) (pc' := 23) hM rfl (by decide) rfl ?_
        refine ar_iadd (pc' := 24) hM rfl rfl ?_
        rw [show ((nI k) + 1 : Int32) = nI (k + 1) from (nI_1 _)]
        refine ar_ialoadN (j := (k + 1)) (pc' := 25) hM rfl h144 rfl (by omega) (Nat.le_of_ble_eq_true rfl) rfl ?_
        rw [show (oo (k + 1) : Int32) = nI (o (k + 1)) from (ho _ (by omega))]
        refine ar_icmp_le (pc' := 28) hM rfl rfl (fun _ => ?_) (fun q => absurd (nI_le (by omega) (by have := hol (k + 1) (by omega); omega)) q)
        rw [← nI_pred k]
        exact h34 (k + 1) z2 z3 z4 (by rw [← h2]; show (if _ then _ else _) = _; rw [if_neg hq])
  refine ar_aload_n (pc' := 1) hM rfl rfl rfl ?_
  refine ar_getfield (pc' := 4) hM rfl hm rfl rfl ?_
  refine ar_iconst (x := 2) (pc' := 5) hM rfl (by decide) rfl ?_
  refine ar_isub (pc' := 6) hM rfl rfl ?_
  rw [show ((nI T.2.2.1) - 2 : Int32) = nI (T.2.2.1 - 1) - 1 from (by rw [← i_pred h0, Int32.sub_sub]; rfl)]
  refine ar_istore_n (pc' := 7) hM rfl rfl rfl rfl ?_
  exact h7 _ _ _ (T.2.2.1 - 1) (by omega) rfl
set_option maxRecDepth 100000 in
set_option maxHeartbeats 4000000 in
theorem d_next0 {w : am_W} (T : p_D) {rh rk wh fa gu : Int32} {tl ac nx sc : Nat} {sd : Int64} {oo : Nat → Int32} (hm : w[133]? = some (d_O T rh rk tl wh fa gu ac nx sc sd)) (h144 : w[144]? = some (.inl (0, 6, .inl oo))) (hn6 : T.2.2.1 ≤ 6) (o : Nat → Nat) (ho : ∀ p, p < T.2.2.1 → oo p = nI (o p)) (hol : ∀ p, p < T.2.2.1 → o p < 6) (h0 : T.2.2.1 = 0) : am_Go 136 (0, [.ref 133, .float 0, .float 0, .float 0, .float 0], [], w, 0, 0) (fun res w' => res = some (.int (if m_trn o (T.2.2.1 - 1) = 0 then 0 else 1)) ∧ ∃ g, w' = w.set 144 (.inl (0, 6, .inl g)) ∧ ∀ p, p < T.2.2.1 → g p = nI (m_nxt T.2.2.1 o p)) := by
  have hM : am_P[136]? = some zm_X11_nextOrder := rfl
  refine ar_aload_n (pc' := 1) hM rfl rfl rfl ?_
  refine ar_getfield (pc' := 4) hM rfl hm rfl rfl ?_
  refine ar_iconst (x := 2) (pc' := 5) hM rfl (by decide) rfl ?_
  refine ar_isub (pc' := 6) hM rfl rfl ?_
  rw [show ((nI T.2.2.1) - 2 : Int32) = (-2) from (by rw [h0]; decide)]
  refine ar_istore_n (pc' := 7) hM rfl rfl rfl rfl ?_
  refine ar_iload_n (pc' := 8) hM rfl rfl rfl ?_
  refine ar_if_lt (pc' := 11) hM rfl rfl (fun _ => ?_) (fun q => absurd (by decide) q)
  refine ar_iload_n (pc' := 35) hM rfl rfl rfl ?_
  refine ar_if_ge (pc' := 38) hM rfl rfl (fun q => absurd q (by decide)) (fun _ => ?_)
  refine ar_iconst (x := 0) (pc' := 39) hM rfl (by decide) rfl ?_
  refine ar_ireturn hM rfl (Or.inr (Or.inl rfl)) ?_
  exact ⟨by rw [h0]; rfl, oo, (am_si h144).symm, fun p hp => by omega⟩
theorem d_next {w : am_W} (T : p_D) {rh rk wh fa gu : Int32} {tl ac nx sc : Nat} {sd : Int64} {oo : Nat → Int32} (hm : w[133]? = some (d_O T rh rk tl wh fa gu ac nx sc sd)) (h144 : w[144]? = some (.inl (0, 6, .inl oo))) (hn6 : T.2.2.1 ≤ 6) (o : Nat → Nat) (ho : ∀ p, p < T.2.2.1 → oo p = nI (o p)) (hol : ∀ p, p < T.2.2.1 → o p < 6) : am_Go 136 (0, [.ref 133, .float 0, .float 0, .float 0, .float 0], [], w, 0, 0) (fun res w' => res = some (.int (if m_trn o (T.2.2.1 - 1) = 0 then 0 else 1)) ∧ ∃ g, w' = w.set 144 (.inl (0, 6, .inl g)) ∧ ∀ p, p < T.2.2.1 → g p = nI (m_nxt T.2.2.1 o p)) := by
  rcases Nat.eq_zero_or_pos T.2.2.1 with q | q
  · exact d_next0 T hm h144 hn6 o ho hol q
  · exact d_next1 T hm h144 hn6 o ho hol q
set_option maxRecDepth 100000 in
set_option maxHeartbeats 4000000 in
theorem d_lackBy {w : am_W} (T : p_D) {rh rk wh fa gu : Int32} {tl ac nx sc : Nat} {sd : Int64} {ne ki ba he nw td oo : Nat → Int32} (hm : w[133]? = some (d_O T rh rk tl wh fa gu ac nx sc sd)) (h134 : w[134]? = some (.inl (0, 6, .inl ne))) (h135 : w[135]? = some (.inl (0, 6, .inl ki))) (h136 : w[136]? = some (.inl (0, 6, .inl ba))) (h137 : w[137]? = some (.inl (0, 5, .inl he))) (h138 : w[138]? = some (.inl (0, 42, .inl nw))) (h142 : w[142]? = some (.inl (0, 36, .inl td))) (h144 : w[144]? = some (.inl (0, 6, .inl oo))) (hT : d_T ne ki ba he T) (hg : gu = 0) (S : s_S) (hvT : v_T T) (hvS : v_S T.2.2.1 S) (hS : d_S nw 0 T.2.2.1 S) (o : Nat → Nat) (ho : ∀ p, p < T.2.2.1 → oo p = nI (o p)) (hpm : m_pm T.2.2.1 o = true) (gr : Int32) : am_Go 138 (0, [.ref 133, .int gr, .float 0, .float 0], [], w, 0, 0) (fun res w' => ∃ td' nw', res = some (.int (if gr = 0 then i_sum (m_lk T (m_ord S o) 0) T.2.2.1 else i_grt (m_lk T (m_ord S o) 0) T.2.2.1)) ∧ w' = (w.set 138 (.inl (0, 42, .inl nw'))).set 142 (.inl (0, 36, .inl td')) ∧ ∀ k, k < 21 → nw' k = nw k) := by
  have hM : am_P[138]? = some zm_X11_lackBy := rfl
  have hn6 : T.2.2.1 ≤ 6 := hvT.1
  subst hg
  have hpa := fun p (hp : p < T.2.2.1) => (m_pm_at hpm (show p < 6 by omega)).2.1 hp
  refine ar_aload_n (pc' := 1) hM rfl rfl rfl ?_
  refine ar_virtual (pc' := 4) (k3 := 0) (k4 := 0) hM rfl rfl hm ⟨rfl, (by decide)⟩ rfl rfl (d_trial T hm h138) (fun r1 w1 q1 => ?_)
  obtain ⟨nw1, rfl, q1w, hl1, hh1⟩ := q1
  rw [q1w]
  show am_Go 138 (4, [.ref 133, .int gr, .float 0, .float 0], [], (w.set 138 (.inl (0, 42, .inl nw1))), 0, 0) _
  refine ar_iconst (x := 0) (pc' := 5) hM rfl (by decide) rfl ?_
  refine ar_istore_n (pc' := 6) hM rfl rfl rfl rfl ?_
  have loop : ∀ (dj j : Nat) (g : Nat → Int32), dj + j = T.2.2.1 → (∀ i, i < 21 → g i = nw i) → (∀ p, p < j → g (21 + o p) = nI p) → (∀ i, 27 ≤ i → g i = nw1 i) → am_Go 138 (6, [.ref 133, .int gr, .int (nI j), .float 0], [], (w.set 138 (.inl (0, 42, .inl g))), 0, 0) (fun res w' => ∃ td' nw', res = some (.int (if gr = 0 then i_sum (m_lk T (m_ord S o) 0) T.2.2.1 else i_grt (m_lk T (m_ord S o) 0) T.2.2.1)) ∧ w' = (w.set 138 (.inl (0, 42, .inl nw'))).set 142 (.inl (0, 36, .inl td')) ∧ ∀ k, k < 21 → nw' k = nw k) := by
    intro dj
    induction dj with
    | zero =>
      intro j g hj p1 p2 p3
      refine ar_iload_n (pc' := 7) hM rfl rfl rfl ?_
      refine ar_aload_n (pc' := 8) hM rfl rfl rfl ?_
      refine ar_getfield (pc' := 11) hM rfl (am_gn (by decide) hm) rfl rfl ?_
      refine ar_icmp_ge (pc' := 14) hM rfl rfl (fun _ => ?_) (fun q => absurd (nI_le (a := T.2.2.1) (b := j) (by omega) (by omega)) q)
      have hSo : d_S g (21 * 1) T.2.2.1 (m_ord S o) := ⟨fun h hh => ⟨by have h4 := (hpa h hh).2.2; have h5 := p2 (m_inv o h) (by omega); rw [h4.2] at h5; exact h5, by rw [p3 _ (by omega), show 21 * 1 + 6 + h = 21 + (6 + h) by omega, hh1 _ (by omega)]; have h0 := (hS.1 h hh).2.1; rw [Nat.zero_add] at h0; exact h0, by rw [p3 _ (by omega), show 21 * 1 + 12 + h = 21 + (12 + h) by omega, hh1 _ (by omega)]; have h0 := (hS.1 h hh).2.2; rw [Nat.zero_add] at h0; exact h0⟩, (p3 39 (by omega)).trans ((hh1 18 (by omega)).trans (by have h0 := hS.2.1; rw [Nat.zero_add] at h0; exact h0)), (p3 40 (by omega)).trans ((hh1 19 (by omega)).trans (by have h0 := hS.2.2.1; rw [Nat.zero_add] at h0; exact h0)), (p3 41 (by omega)).trans ((hh1 20 (by omega)).trans (by have h0 := hS.2.2.2; rw [Nat.zero_add] at h0; exact h0))⟩
      refine ar_aload_n (pc' := 36) hM rfl rfl rfl ?_
      refine ar_iconst (x := 1) (pc' := 37) hM rfl (by decide) rfl ?_
      refine ar_virtual (pc' := 40) (k3 := 0) (k4 := 0) hM rfl rfl (am_gn (by decide) hm) ⟨rfl, (by decide)⟩ rfl rfl (d_lay T (am_gn (by decide) hm) (am_gn (by decide) h134) (am_gn (by decide) h135) (am_gn (by decide) h136) (am_gn (by decide) h137) (am_gs h138) (am_gn (by decide) h142) hT 1 (by omega) (m_ord S o) hvT (m_ord_v hn6 hpm hvS.2.2.2) hSo) (fun r37 w37 q37 => ?_)
      obtain ⟨td8, rfl, q37w, hY8⟩ := q37
      rw [q37w]
      show am_Go 138 (40, [.ref 133, .int gr, .int (nI j), .float 0], [], ((w.set 138 (.inl (0, 42, .inl g))).set 142 (.inl (0, 36, .inl td8))), 0, 0) _
      refine ar_iconst (x := 0) (pc' := 41) hM rfl (by decide) rfl ?_
      refine ar_istore_n (pc' := 42) hM rfl rfl rfl rfl ?_
      refine ar_iconst (x := 0) (pc' := 43) hM rfl (by decide) rfl ?_
      refine ar_istore_n (pc' := 44) hM rfl rfl rfl rfl ?_
      have loopg : ∀ (dj i : Nat) (y : Int32), dj + i = T.2.2.1 → (y = i_grt (m_lk T (m_ord S o) 0) i) → am_Go 138 (44, [.ref 133, .int gr, .int y, .int (nI i)], [], ((w.set 138 (.inl (0, 42, .inl g))).set 142 (.inl (0, 36, .inl td8))), 0, 0) (fun res w' => ∃ td' nw', res = some (.int (if gr = 0 then i_sum (m_lk T (m_ord S o) 0) T.2.2.1 else i_grt (m_lk T (m_ord S o) 0) T.2.2.1)) ∧ w' = (w.set 138 (.inl (0, 42, .inl nw'))).set 142 (.inl (0, 36, .inl td')) ∧ ∀ k, k < 21 → nw' k = nw k) := by
        intro dj
        induction dj with
        | zero =>
          intro i y hj hy
          refine ar_iload_n (pc' := 45) hM rfl rfl rfl ?_
          refine ar_aload_n (pc' := 46) hM rfl rfl rfl ?_
          refine ar_getfield (pc' := 49) hM rfl (am_gn (by decide) (am_gn (by decide) hm)) rfl rfl ?_
          refine ar_icmp_ge (pc' := 52) hM rfl rfl (fun _ => ?_) (fun q => absurd (nI_le (a := T.2.2.1) (b := i) (by omega) (by omega)) q)
          refine ar_iload_n (pc' := 86) hM rfl rfl rfl ?_
          refine ar_if_eq (pc' := 89) hM rfl rfl (fun c86 => ?_) (fun c86 => ?_)
          · refine ar_aload_n (pc' := 94) hM rfl rfl rfl ?_
            refine ar_iconst (x := 4) (pc' := 95) hM rfl (by decide) rfl ?_
            refine ar_virtual (pc' := 98) (k3 := 0) (k4 := 0) hM rfl rfl (am_gn (by decide) (am_gn (by decide) hm)) ⟨rfl, (by decide)⟩ rfl rfl (by have h0 := d_sumOf (w := ((w.set 138 (.inl (0, 42, .inl g))).set 142 (.inl (0, 36, .inl td8)))) T (am_gn (by decide) (am_gn (by decide) hm)) (am_gs (am_gn (by decide) h142)) 4 (by omega) hn6; rw [i_sum_congr (fun h hh => (hY8 h hh).2.2.2.2.1)] at h0; exact h0) (fun r95 w95 q95 => ?_)
            obtain ⟨rfl, q95w⟩ := q95
            rw [q95w]
            show am_Go 138 (98, [.ref 133, .int gr, .int y, .int (nI i)], [.int (i_sum (m_lk T (m_ord S o) 0) T.2.2.1)], ((w.set 138 (.inl (0, 42, .inl g))).set 142 (.inl (0, 36, .inl td8))), 0, 0) _
            refine ar_ireturn hM rfl (Or.inl rfl) ?_
            exact ⟨_, _, by rw [if_pos c86], rfl, p1⟩
          · refine ar_iload_n (pc' := 90) hM rfl rfl rfl ?_
            refine ar_goto hM rfl ?_
            refine ar_ireturn hM rfl (Or.inl rfl) ?_
            exact ⟨_, _, by rw [if_neg c86, hy, show i = T.2.2.1 by omega], rfl, p1⟩
        | succ dj ih =>
          intro i y hj hy
          refine ar_iload_n (pc' := 45) hM rfl rfl rfl ?_
          refine ar_aload_n (pc' := 46) hM rfl rfl rfl ?_
          refine ar_getfield (pc' := 49) hM rfl (am_gn (by decide) (am_gn (by decide) hm)) rfl rfl ?_
          refine ar_icmp_ge (pc' := 52) hM rfl rfl (fun q => absurd q (nI_ge (a := i) (b := T.2.2.1) (by omega) (by omega))) (fun _ => ?_)
          refine ar_aload_n (pc' := 53) hM rfl rfl rfl ?_
          refine ar_getfield (pc' := 56) hM rfl (am_gn (by decide) (am_gn (by decide) hm)) rfl rfl ?_
          refine ar_bipush (x := 24) (pc' := 58) hM rfl (by decide) rfl ?_
          refine ar_iload_n (pc' := 59) hM rfl rfl rfl ?_
          refine ar_iadd (pc' := 60) hM rfl rfl ?_
          rw [show (24 + (nI i) : Int32) = nI (24 + i) from nI_add 24 i]
          refine ar_ialoadN (j := (24 + i)) (pc' := 61) hM rfl (am_gs (am_gn (by decide) h142)) rfl (by omega) (Nat.le_of_ble_eq_true rfl) rfl ?_
          rw [show (td8 (24 + i) : Int32) = m_lk T (m_ord S o) 0 i from (hY8 i (by omega)).2.2.2.2.1]
          refine ar_iload_n (pc' := 62) hM rfl rfl rfl ?_
          refine ar_icmp_le (pc' := 65) hM rfl rfl (fun c62 => ?_) (fun c62 => ?_)
          · refine ar_iload_n (pc' := 78) hM rfl rfl rfl ?_
            refine ar_istore_n (pc' := 79) hM rfl rfl rfl rfl ?_
            refine ar_iinc (z := nI (i + 1)) (pc' := 82) hM rfl rfl (nI_1 _) rfl rfl rfl ?_
            refine ar_goto hM rfl ?_
            exact ih (i + 1) y (by omega) (by show _ = i_max _ _; unfold i_max; rw [← hy, if_neg (Int32.not_lt.mpr c62)])
          · refine ar_aload_n (pc' := 66) hM rfl rfl rfl ?_
            refine ar_getfield (pc' := 69) hM rfl (am_gn (by decide) (am_gn (by decide) hm)) rfl rfl ?_
            refine ar_bipush (x := 24) (pc' := 71) hM rfl (by decide) rfl ?_
            refine ar_iload_n (pc' := 72) hM rfl rfl rfl ?_
            refine ar_iadd (pc' := 73) hM rfl rfl ?_
            rw [show (24 + (nI i) : Int32) = nI (24 + i) from nI_add 24 i]
            refine ar_ialoadN (j := (24 + i)) (pc' := 74) hM rfl (am_gs (am_gn (by decide) h142)) rfl (by omega) (Nat.le_of_ble_eq_true rfl) rfl ?_
            rw [show (td8 (24 + i) : Int32) = m_lk T (m_ord S o) 0 i from (hY8 i (by omega)).2.2.2.2.1]
            refine ar_goto hM rfl ?_
            refine ar_istore_n (pc' := 79) hM rfl rfl rfl rfl ?_
            refine ar_iinc (z := nI (i + 1)) (pc' := 82) hM rfl rfl (nI_1 _) rfl rfl rfl ?_
            refine ar_goto hM rfl ?_
            exact ih (i + 1) (m_lk T (m_ord S o) 0 i) (by omega) (by show _ = i_max _ _; unfold i_max; rw [← hy, if_pos (Int32.not_le.mp c62)])
      exact loopg (T.2.2.1) 0 0 (by omega) rfl
    | succ dj ih =>
      intro j g hj p1 p2 p3
      refine ar_iload_n (pc' := 7) hM rfl rfl rfl ?_
      refine ar_aload_n (pc' := 8) hM rfl rfl rfl ?_
      refine ar_getfield (pc' := 11) hM rfl (am_gn (by decide) hm) rfl rfl ?_
      refine ar_icmp_ge (pc' := 14) hM rfl rfl (fun q => absurd q (nI_ge (a := j) (b := T.2.2.1) (by omega) (by omega))) (fun _ => ?_)
      refine ar_aload_n (pc' := 15) hM rfl rfl rfl ?_
      refine ar_getfield (pc' := 18) hM rfl (am_gn (by decide) hm) rfl rfl ?_
      refine ar_bipush (x := 21) (pc' := 20) hM rfl (by decide) rfl ?_
      refine ar_aload_n (pc' := 21) hM rfl rfl rfl ?_
      refine ar_getfield (pc' := 24) hM rfl (am_gn (by decide) hm) rfl rfl ?_
      refine ar_iload_n (pc' := 25) hM rfl rfl rfl ?_
      refine ar_ialoadN (j := j) (pc' := 26) hM rfl (am_gn (by decide) h144) rfl (by omega) (Nat.le_of_ble_eq_true rfl) rfl ?_
      rw [show (oo j : Int32) = nI (o j) from (ho j (by omega))]
      refine ar_iadd (pc' := 27) hM rfl rfl ?_
      rw [show (21 + (nI (o j)) : Int32) = nI (21 + o j) from nI_add 21 (o j)]
      refine ar_iload_n (pc' := 28) hM rfl rfl rfl ?_
      refine ar_iastoreN (j := 21 + o j) (pc' := 29) hM rfl (am_gs h138) rfl (by have := (hpa j (by omega)).1; omega) (Nat.le_of_ble_eq_true rfl) (by decide) rfl ?_
      refine ar_iinc (z := nI (j + 1)) (pc' := 32) hM rfl rfl (nI_1 _) rfl rfl rfl ?_
      refine ar_goto hM rfl ?_
      rw [show ((w.set 138 (.inl (0, 42, .inl g))).set 138 (.inl (0, 42, .inl (upd g (21 + o j) (nI j))))) = (w.set 138 (.inl (0, 42, .inl (upd g (21 + o j) (nI j))))) from by rw [List.set_set]]
      exact ih (j + 1) (upd g (21 + o j) (nI j)) (by omega) (fun i hi => by rw [pk_un (by omega)]; exact p1 i hi) (fun p hp => by rcases Nat.lt_or_ge p j with q | q; rw [pk_un (fun e => by have h1 := (hpa p (by omega)).2.1; have h2 := (hpa j (by omega)).2.1; rw [show o p = o j by omega] at h1; omega)]; exact p2 p q; rw [show p = j by omega, pk_us]) (fun i hi => by have := (hpa j (by omega)).1; rw [pk_un (by omega)]; exact p3 i hi)
  exact loop (T.2.2.1) 0 nw1 (by omega) hl1 (fun p hp => absurd hp (by omega)) (fun _ _ => rfl)
theorem m_ch0 {n : Nat} : ∀ p, p < 6 → nI p = nI (m_ch n 0 p)
  | 0, _ => rfl
  | 1, _ => rfl
  | 2, _ => rfl
  | 3, _ => rfl
  | 4, _ => rfl
  | 5, _ => rfl
  | p + 6, h => by omega
set_option maxRecDepth 100000 in
set_option maxHeartbeats 4000000 in
theorem d_best {w : am_W} (T : p_D) {rh rk wh fa gu : Int32} {tl ac nx sc : Nat} {sd : Int64} {ne ki ba he nw td oo : Nat → Int32} (hm : w[133]? = some (d_O T rh rk tl wh fa gu ac nx sc sd)) (h134 : w[134]? = some (.inl (0, 6, .inl ne))) (h135 : w[135]? = some (.inl (0, 6, .inl ki))) (h136 : w[136]? = some (.inl (0, 6, .inl ba))) (h137 : w[137]? = some (.inl (0, 5, .inl he))) (h138 : w[138]? = some (.inl (0, 42, .inl nw))) (h142 : w[142]? = some (.inl (0, 36, .inl td))) (h144 : w[144]? = some (.inl (0, 6, .inl oo))) (hT : d_T ne ki ba he T) (hg : gu = 0) (S : s_S) (hG : v_G T S) (hS : d_S nw 0 T.2.2.1 S) (gr u : Int32) : am_Go 140 (0, [.ref 133, .int gr, .int u, .float 0, .float 0, .float 0], [], w, 0, 0) (fun res w' => ∃ td' nw' oo', res = some (.int (if u = 0 then (m_bst T S gr (n_fac T.2.2.1)).1 else (m_bst T S gr (n_fac T.2.2.1)).2)) ∧ w' = ((w.set 144 (.inl (0, 6, .inl oo'))).set 138 (.inl (0, 42, .inl nw'))).set 142 (.inl (0, 36, .inl td')) ∧ ∀ k, k < 21 → nw' k = nw k) := by
  have hM : am_P[140]? = some zm_X11_bestOrder := rfl
  have hn6 : T.2.2.1 ≤ 6 := hG.1.1.1
  have hvT := hG.1.1
  have hvS := hG.2.1
  subst hg
  have hf0 := n_fac_pos T.2.2.1 (by omega)
  have hf7 := n_fac_le T.2.2.1 (by omega)
  have hch : ∀ j, j < n_fac T.2.2.1 → ∀ p, p < T.2.2.1 → m_ch T.2.2.1 j p < 6 := fun j hj p hp => (m_pm_at (m_ch_ok hn6 hj).1 (by omega)).1
  refine ar_iconst (x := 0) (pc' := 1) hM rfl (by decide) rfl ?_
  refine ar_istore_n (pc' := 2) hM rfl rfl rfl rfl ?_
  have loop0 : ∀ (dj j : Nat) (g0 : Nat → Int32), dj + j = T.2.2.1 → (∀ p, p < j → g0 p = nI p) → am_Go 140 (2, [.ref 133, .int gr, .int u, .int (nI j), .float 0, .float 0], [], (w.set 144 (.inl (0, 6, .inl g0))), 0, 0) (fun res w' => ∃ td' nw' oo', res = some (.int (if u = 0 then (m_bst T S gr (n_fac T.2.2.1)).1 else (m_bst T S gr (n_fac T.2.2.1)).2)) ∧ w' = ((w.set 144 (.inl (0, 6, .inl oo'))).set 138 (.inl (0, 42, .inl nw'))).set 142 (.inl (0, 36, .inl td')) ∧ ∀ k, k < 21 → nw' k = nw k) := by
    intro dj
    induction dj with
    | zero =>
      intro j g0 hj p0
      refine ar_iload_n (pc' := 3) hM rfl rfl rfl ?_
      refine ar_aload_n (pc' := 4) hM rfl rfl rfl ?_
      refine ar_getfield (pc' := 7) hM rfl (am_gn (by decide) hm) rfl rfl ?_
      refine ar_icmp_ge (pc' := 10) hM rfl rfl (fun _ => ?_) (fun q => absurd (nI_le (a := T.2.2.1) (b := j) (by omega) (by omega)) q)
      refine ar_aload_n (pc' := 24) hM rfl rfl rfl ?_
      refine ar_iload_n (pc' := 25) hM rfl rfl rfl ?_
      refine ar_virtual (pc' := 28) (k3 := 0) (k4 := 0) hM rfl rfl (am_gn (by decide) hm) ⟨rfl, (by decide)⟩ rfl rfl (d_lackBy T (am_gn (by decide) hm) (am_gn (by decide) h134) (am_gn (by decide) h135) (am_gn (by decide) h136) (am_gn (by decide) h137) (am_gn (by decide) h138) (am_gn (by decide) h142) (am_gs h144) hT rfl S hvT hvS hS (m_ch T.2.2.1 0) (fun p hp => (p0 p (by omega)).trans (m_ch0 p (by omega))) (m_ch_ok hn6 hf0).1 gr) (fun r25 w25 q25 => ?_)
      obtain ⟨td1, nw1, rfl, q25w, hl1⟩ := q25
      rw [q25w]
      show am_Go 140 (28, [.ref 133, .int gr, .int u, .int (nI j), .float 0, .float 0], [.int (if gr = 0 then i_sum (m_lk T (m_ord S (m_ch T.2.2.1 0)) 0) T.2.2.1 else i_grt (m_lk T (m_ord S (m_ch T.2.2.1 0)) 0) T.2.2.1)], (((w.set 144 (.inl (0, 6, .inl g0))).set 138 (.inl (0, 42, .inl nw1))).set 142 (.inl (0, 36, .inl td1))), 0, 0) _
      rw [show (if gr = 0 then i_sum (m_lk T (m_ord S (m_ch T.2.2.1 0)) 0) T.2.2.1 else i_grt (m_lk T (m_ord S (m_ch T.2.2.1 0)) 0) T.2.2.1 : Int32) = m_lko T S gr 0 from rfl]
      refine ar_istore_n (pc' := 29) hM rfl rfl rfl rfl ?_
      refine ar_aload_n (pc' := 30) hM rfl rfl rfl ?_
      refine ar_virtual (pc' := 33) (k3 := 0) (k4 := 0) hM rfl rfl (am_gn (by decide) (am_gn (by decide) (am_gn (by decide) hm))) ⟨rfl, (by decide)⟩ rfl rfl (by have h0 := d_figs (w := (((w.set 144 (.inl (0, 6, .inl g0))).set 138 (.inl (0, 42, .inl nw1))).set 142 (.inl (0, 36, .inl td1)))) T (am_gn (by decide) (am_gn (by decide) (am_gn (by decide) hm))) (am_gn (by decide) (am_gn (by decide) (am_gs h144))) hn6; rw [show i_fig g0 T.2.2.1 = m_fgo T 0 from i_fig_congr (fun p hp => (p0 p (by omega)).trans (m_ch0 p (by omega)))] at h0; exact h0) (fun r30 w30 q30 => ?_)
      obtain ⟨rfl, q30w⟩ := q30
      rw [q30w]
      show am_Go 140 (33, [.ref 133, .int gr, .int u, .int (m_lko T S gr 0), .float 0, .float 0], [.int (m_fgo T 0)], (((w.set 144 (.inl (0, 6, .inl g0))).set 138 (.inl (0, 42, .inl nw1))).set 142 (.inl (0, 36, .inl td1))), 0, 0) _
      refine ar_istore (pc' := 35) hM rfl rfl rfl rfl ?_
      have loop : ∀ (dj j : Nat) (y3 : Int32) (y4 : Int32) (g : Nat → Int32) (f : Nat → Int32) (e : Nat → Int32) (z5 : Value), dj + j = n_fac T.2.2.1 - 1 → ((y3, y4) = m_bst T S gr (j + 1)) → (∀ i, i < 21 → g i = nw i) → (∀ p, p < T.2.2.1 → e p = nI (m_ch T.2.2.1 j p)) → am_Go 140 (35, [.ref 133, .int gr, .int u, .int y3, .int y4, z5], [], (((w.set 144 (.inl (0, 6, .inl e))).set 138 (.inl (0, 42, .inl g))).set 142 (.inl (0, 36, .inl f))), 0, 0) (fun res w' => ∃ td' nw' oo', res = some (.int (if u = 0 then (m_bst T S gr (n_fac T.2.2.1)).1 else (m_bst T S gr (n_fac T.2.2.1)).2)) ∧ w' = ((w.set 144 (.inl (0, 6, .inl oo'))).set 138 (.inl (0, 42, .inl nw'))).set 142 (.inl (0, 36, .inl td')) ∧ ∀ k, k < 21 → nw' k = nw k) := by
        intro dj
        induction dj with
        | zero =>
          intro j y3 y4 g f e z5 hj hy q1 q3
          refine ar_aload_n (pc' := 36) hM rfl rfl rfl ?_
          refine ar_virtual (pc' := 39) (k3 := 0) (k4 := 0) hM rfl rfl (am_gn (by decide) (am_gn (by decide) (am_gn (by decide) hm))) ⟨rfl, (by decide)⟩ rfl rfl (d_next T (am_gn (by decide) (am_gn (by decide) (am_gn (by decide) hm))) (am_gn (by decide) (am_gn (by decide) (am_gs h144))) hn6 (m_ch T.2.2.1 j) q3 (hch j (by omega))) (fun r36 w36 q36 => ?_)
          obtain ⟨rfl, e1, q36w, he1⟩ := q36
          rw [q36w]
          show am_Go 140 (39, [.ref 133, .int gr, .int u, .int y3, .int y4, z5], [.int (if m_trn (m_ch T.2.2.1 j) (T.2.2.1 - 1) = 0 then 0 else 1)], ((((w.set 144 (.inl (0, 6, .inl e))).set 138 (.inl (0, 42, .inl g))).set 142 (.inl (0, 36, .inl f))).set 144 (.inl (0, 6, .inl e1))), 0, 0) _
          rw [show ((((w.set 144 (.inl (0, 6, .inl e))).set 138 (.inl (0, 42, .inl g))).set 142 (.inl (0, 36, .inl f))).set 144 (.inl (0, 6, .inl e1))) = (((w.set 144 (.inl (0, 6, .inl e1))).set 138 (.inl (0, 42, .inl g))).set 142 (.inl (0, 36, .inl f))) from by rw [List.set_comm _ _ (show 142 ≠ 144 by decide), List.set_comm _ _ (show 138 ≠ 144 by decide), List.set_set]]
          refine ar_if_eq (pc' := 42) hM rfl rfl (fun _ => ?_) (fun q => absurd (if_pos ((m_ch_ok hn6 (k := j) (by omega)).2.mpr (by omega))) q)
          refine ar_iload_n (pc' := 83) hM rfl rfl rfl ?_
          refine ar_if_eq (pc' := 86) hM rfl rfl (fun c83 => ?_) (fun c83 => ?_)
          · refine ar_iload_n (pc' := 92) hM rfl rfl rfl ?_
            refine ar_ireturn hM rfl (Or.inl rfl) ?_
            exact ⟨_, _, _, by have h0 := hy; rw [show j + 1 = n_fac T.2.2.1 by omega] at h0; rw [if_pos c83, ← h0], rfl, q1⟩
          · refine ar_iload (pc' := 88) hM rfl rfl rfl ?_
            refine ar_goto hM rfl ?_
            refine ar_ireturn hM rfl (Or.inl rfl) ?_
            exact ⟨_, _, _, by have h0 := hy; rw [show j + 1 = n_fac T.2.2.1 by omega] at h0; rw [if_neg c83, ← h0], rfl, q1⟩
        | succ dj ih =>
          intro j y3 y4 g f e z5 hj hy q1 q3
          refine ar_aload_n (pc' := 36) hM rfl rfl rfl ?_
          refine ar_virtual (pc' := 39) (k3 := 0) (k4 := 0) hM rfl rfl (am_gn (by decide) (am_gn (by decide) (am_gn (by decide) hm))) ⟨rfl, (by decide)⟩ rfl rfl (d_next T (am_gn (by decide) (am_gn (by decide) (am_gn (by decide) hm))) (am_gn (by decide) (am_gn (by decide) (am_gs h144))) hn6 (m_ch T.2.2.1 j) q3 (hch j (by omega))) (fun r36 w36 q36 => ?_)
          obtain ⟨rfl, e1, q36w, he1⟩ := q36
          rw [q36w]
          show am_Go 140 (39, [.ref 133, .int gr, .int u, .int y3, .int y4, z5], [.int (if m_trn (m_ch T.2.2.1 j) (T.2.2.1 - 1) = 0 then 0 else 1)], ((((w.set 144 (.inl (0, 6, .inl e))).set 138 (.inl (0, 42, .inl g))).set 142 (.inl (0, 36, .inl f))).set 144 (.inl (0, 6, .inl e1))), 0, 0) _
          rw [show ((((w.set 144 (.inl (0, 6, .inl e))).set 138 (.inl (0, 42, .inl g))).set 142 (.inl (0, 36, .inl f))).set 144 (.inl (0, 6, .inl e1))) = (((w.set 144 (.inl (0, 6, .inl e1))).set 138 (.inl (0, 42, .inl g))).set 142 (.inl (0, 36, .inl f))) from by rw [List.set_comm _ _ (show 142 ≠ 144 by decide), List.set_comm _ _ (show 138 ≠ 144 by decide), List.set_set]]
          refine ar_if_eq (pc' := 42) hM rfl rfl (fun q => absurd q (by rw [if_neg (fun q => by have := (m_ch_ok hn6 (k := j) (by omega)).2.mp q; omega)]; decide)) (fun _ => ?_)
          refine ar_aload_n (pc' := 43) hM rfl rfl rfl ?_
          refine ar_iload_n (pc' := 44) hM rfl rfl rfl ?_
          refine ar_virtual (pc' := 47) (k3 := 0) (k4 := 0) hM rfl rfl (am_gn (by decide) (am_gn (by decide) (am_gn (by decide) hm))) ⟨rfl, (by decide)⟩ rfl rfl (d_lackBy T (am_gn (by decide) (am_gn (by decide) (am_gn (by decide) hm))) (am_gn (by decide) (am_gn (by decide) (am_gn (by decide) h134))) (am_gn (by decide) (am_gn (by decide) (am_gn (by decide) h135))) (am_gn (by decide) (am_gn (by decide) (am_gn (by decide) h136))) (am_gn (by decide) (am_gn (by decide) (am_gn (by decide) h137))) (am_gn (by decide) (am_gs (am_gn (by decide) h138))) (am_gs (am_gn (by decide) (am_gn (by decide) h142))) (am_gn (by decide) (am_gn (by decide) (am_gs h144))) hT rfl S hvT hvS (hS.cg hn6 (fun i hi => by rw [Nat.zero_add]; exact q1 i hi)) (m_ch T.2.2.1 (j + 1)) (fun p hp => (he1 p hp).trans (congrArg nI (m_nx_o _ _ p (by omega)).symm)) (m_ch_ok hn6 (show j + 1 < n_fac T.2.2.1 by omega)).1 gr) (fun r44 w44 q44 => ?_)
          obtain ⟨td3, nw3, rfl, q44w, hl3⟩ := q44
          rw [q44w]
          show am_Go 140 (47, [.ref 133, .int gr, .int u, .int y3, .int y4, z5], [.int (if gr = 0 then i_sum (m_lk T (m_ord S (m_ch T.2.2.1 (j + 1))) 0) T.2.2.1 else i_grt (m_lk T (m_ord S (m_ch T.2.2.1 (j + 1))) 0) T.2.2.1)], (((((w.set 144 (.inl (0, 6, .inl e1))).set 138 (.inl (0, 42, .inl g))).set 142 (.inl (0, 36, .inl f))).set 138 (.inl (0, 42, .inl nw3))).set 142 (.inl (0, 36, .inl td3))), 0, 0) _
          rw [show ((((w.set 144 (.inl (0, 6, .inl e1))).set 138 (.inl (0, 42, .inl g))).set 142 (.inl (0, 36, .inl f))).set 138 (.inl (0, 42, .inl nw3))) = (((w.set 144 (.inl (0, 6, .inl e1))).set 138 (.inl (0, 42, .inl nw3))).set 142 (.inl (0, 36, .inl f))) from by rw [List.set_comm _ _ (show 142 ≠ 138 by decide), List.set_set]]
          rw [show ((((w.set 144 (.inl (0, 6, .inl e1))).set 138 (.inl (0, 42, .inl nw3))).set 142 (.inl (0, 36, .inl f))).set 142 (.inl (0, 36, .inl td3))) = (((w.set 144 (.inl (0, 6, .inl e1))).set 138 (.inl (0, 42, .inl nw3))).set 142 (.inl (0, 36, .inl td3))) from by rw [List.set_set]]
          rw [show (if gr = 0 then i_sum (m_lk T (m_ord S (m_ch T.2.2.1 (j + 1))) 0) T.2.2.1 else i_grt (m_lk T (m_ord S (m_ch T.2.2.1 (j + 1))) 0) T.2.2.1 : Int32) = m_lko T S gr (j + 1) from rfl]
          refine ar_istore (pc' := 49) hM rfl rfl rfl rfl ?_
          refine ar_iload (pc' := 51) hM rfl rfl rfl ?_
          refine ar_iload_n (pc' := 52) hM rfl rfl rfl ?_
          refine ar_icmp_ge (pc' := 55) hM rfl rfl (fun c52 => ?_) (fun c52 => ?_)
          · refine ar_iload (pc' := 64) hM rfl rfl rfl ?_
            refine ar_istore (pc' := 66) hM rfl rfl rfl rfl ?_
            refine ar_iload (pc' := 68) hM rfl rfl rfl ?_
            refine ar_iload_n (pc' := 69) hM rfl rfl rfl ?_
            refine ar_icmp_ge (pc' := 72) hM rfl rfl (fun _ => ?_) (fun q => absurd c52 q)
            refine ar_iload_n (pc' := 78) hM rfl rfl rfl ?_
            refine ar_istore_n (pc' := 79) hM rfl rfl rfl rfl ?_
            refine ar_goto hM rfl ?_
            exact ih (j + 1) y3 y4 nw3 td3 e1 (.int (m_lko T S gr (j + 1))) (by omega) (by show _ = if _ then _ else _; rw [← hy, if_neg (Int32.not_lt.mpr c52)]) (fun i hi => (hl3 i hi).trans (q1 i hi)) (fun p hp => (he1 p hp).trans (congrArg nI (m_nx_o _ _ p (by omega)).symm))
          · refine ar_aload_n (pc' := 56) hM rfl rfl rfl ?_
            refine ar_virtual (pc' := 59) (k3 := 0) (k4 := 0) hM rfl rfl (am_gn (by decide) (am_gn (by decide) (am_gn (by decide) hm))) ⟨rfl, (by decide)⟩ rfl rfl (by have h0 := d_figs (w := (((w.set 144 (.inl (0, 6, .inl e1))).set 138 (.inl (0, 42, .inl nw3))).set 142 (.inl (0, 36, .inl td3)))) T (am_gn (by decide) (am_gn (by decide) (am_gn (by decide) hm))) (am_gn (by decide) (am_gn (by decide) (am_gs h144))) hn6; rw [show i_fig e1 T.2.2.1 = m_fgo T (j + 1) from i_fig_congr (fun p hp => (he1 p hp).trans (congrArg nI (m_nx_o _ _ p (by omega)).symm))] at h0; exact h0) (fun r56 w56 q56 => ?_)
            obtain ⟨rfl, q56w⟩ := q56
            rw [q56w]
            show am_Go 140 (59, [.ref 133, .int gr, .int u, .int y3, .int y4, .int (m_lko T S gr (j + 1))], [.int (m_fgo T (j + 1))], (((w.set 144 (.inl (0, 6, .inl e1))).set 138 (.inl (0, 42, .inl nw3))).set 142 (.inl (0, 36, .inl td3))), 0, 0) _
            refine ar_goto hM rfl ?_
            refine ar_istore (pc' := 66) hM rfl rfl rfl rfl ?_
            refine ar_iload (pc' := 68) hM rfl rfl rfl ?_
            refine ar_iload_n (pc' := 69) hM rfl rfl rfl ?_
            refine ar_icmp_ge (pc' := 72) hM rfl rfl (fun q => absurd q c52) (fun _ => ?_)
            refine ar_iload (pc' := 74) hM rfl rfl rfl ?_
            refine ar_goto hM rfl ?_
            refine ar_istore_n (pc' := 79) hM rfl rfl rfl rfl ?_
            refine ar_goto hM rfl ?_
            exact ih (j + 1) (m_lko T S gr (j + 1)) (m_fgo T (j + 1)) nw3 td3 e1 (.int (m_lko T S gr (j + 1))) (by omega) (by show _ = if _ then _ else _; rw [← hy, if_pos (Int32.not_le.mp c52)]) (fun i hi => (hl3 i hi).trans (q1 i hi)) (fun p hp => (he1 p hp).trans (congrArg nI (m_nx_o _ _ p (by omega)).symm))
      exact loop (n_fac T.2.2.1 - 1) 0 (m_lko T S gr 0) (m_fgo T 0) nw1 td1 g0 (.float 0) (by omega) (m_bst_1 hG gr).symm hl1 (fun p hp => (p0 p (by omega)).trans (m_ch0 p (by omega)))
    | succ dj ih =>
      intro j g0 hj p0
      refine ar_iload_n (pc' := 3) hM rfl rfl rfl ?_
      refine ar_aload_n (pc' := 4) hM rfl rfl rfl ?_
      refine ar_getfield (pc' := 7) hM rfl (am_gn (by decide) hm) rfl rfl ?_
      refine ar_icmp_ge (pc' := 10) hM rfl rfl (fun q => absurd q (nI_ge (a := j) (b := T.2.2.1) (by omega) (by omega))) (fun _ => ?_)
      refine ar_aload_n (pc' := 11) hM rfl rfl rfl ?_
      refine ar_getfield (pc' := 14) hM rfl (am_gn (by decide) hm) rfl rfl ?_
      refine ar_iload_n (pc' := 15) hM rfl rfl rfl ?_
      refine ar_iload_n (pc' := 16) hM rfl rfl rfl ?_
      refine ar_iastoreN (j := j) (pc' := 17) hM rfl (am_gs h144) rfl (by omega) (Nat.le_of_ble_eq_true rfl) (by decide) rfl ?_
      refine ar_iinc (z := nI (j + 1)) (pc' := 20) hM rfl rfl (nI_1 _) rfl rfl rfl ?_
      refine ar_goto hM rfl ?_
      rw [show ((w.set 144 (.inl (0, 6, .inl g0))).set 144 (.inl (0, 6, .inl (upd g0 j (nI j))))) = (w.set 144 (.inl (0, 6, .inl (upd g0 j (nI j))))) from by rw [List.set_set]]
      exact ih (j + 1) (upd g0 j (nI j)) (by omega) (fun k hk => by
          rcases Nat.lt_or_ge k j with q | q
          · rw [pk_un (by omega)]; exact p0 k q
          · rw [show k = j by omega, pk_us])
  have hl0 := loop0 (T.2.2.1) 0 oo (by omega) (fun p hp => absurd hp (by omega))
  rw [am_si h144] at hl0
  exact hl0
set_option maxRecDepth 100000 in
set_option maxHeartbeats 4000000 in
theorem e_order0 (w : am_W) (t : Nat × (Nat → Int32)) (T : p_D) (S : s_S) (A : List s_S) (K : Nat → Option s_S) (N : x_N) (sd : Int64) (d : Nat) (hd : d ≤ 1000) (hv : v_W d T S A K) (hW : d_W w t T S A K N sd)  : am_Go 141 (0, [.ref 133, .int 0], [], w, 0, 0) (fun res w' => res = some (.int ((m_bst T S 0 (n_fac T.2.2.1)).1)) ∧ d_W w' t T S A K N sd ∧ am_same (rg 133 17) w w') := by
  have hM : am_P[141]? = some zm_X11_order := rfl
  have hn6 : T.2.2.1 ≤ 6 := hv.1.1.1
  have hvT := hv.1.1
  have hvS := hv.2.1.1
  have hdy := hv.2.1.2.1
  obtain ⟨rh, rk, wh, fa, nx, ne, ki, ba, he, nw, rH, rT, tx, td, rw_, oo, s1, s2, s3, ik, kp, hm, h134, h135, h136, h137, h138, h139, h140, h141, h142, h143, h144, h145, h146, h147, h148, h149, ⟨ht40, hN6⟩, hT, hS, htx, hA, hK, hN⟩ := hW
  have hnx := hA.1
  have hal := hA.2.1
  refine ar_aload_n (pc' := 1) hM rfl rfl rfl ?_
  refine ar_iconst (x := 0) (pc' := 2) hM rfl (by decide) rfl ?_
  refine ar_iload_n (pc' := 3) hM rfl rfl rfl ?_
  refine ar_virtual (pc' := 6) (k3 := 0) (k4 := 0) hM rfl rfl hm ⟨rfl, (by decide)⟩ rfl rfl (d_best T hm h134 h135 h136 h137 h138 h142 h144 hT rfl S ⟨hv.1, hvS, hv.2.1.2.2.2.2⟩ hS 0 0) (fun r3 w3 q3 => ?_)
  obtain ⟨td1, nw1, oo1, rfl, q3w, hl1⟩ := q3
  rw [q3w]
  show am_Go 141 (6, [.ref 133, .int 0], [.int (if (0 : Int32) = 0 then (m_bst T S 0 (n_fac T.2.2.1)).1 else (m_bst T S 0 (n_fac T.2.2.1)).2)], (((w.set 144 (.inl (0, 6, .inl oo1))).set 138 (.inl (0, 42, .inl nw1))).set 142 (.inl (0, 36, .inl td1))), 0, 0) _
  refine ar_ireturn hM rfl (Or.inl rfl) ?_
  exact ⟨by rw [if_pos rfl], ⟨_, _, _, _, _, _, _, _, _, _, _, _, _, _, _, _, _, _, _, _, _, (am_gn (by decide) (am_gn (by decide) (am_gn (by decide) hm))), (am_gn (by decide) (am_gn (by decide) (am_gn (by decide) h134))), (am_gn (by decide) (am_gn (by decide) (am_gn (by decide) h135))), (am_gn (by decide) (am_gn (by decide) (am_gn (by decide) h136))), (am_gn (by decide) (am_gn (by decide) (am_gn (by decide) h137))), (am_gn (by decide) (am_gs (am_gn (by decide) h138))), (am_gn (by decide) (am_gn (by decide) (am_gn (by decide) h139))), (am_gn (by decide) (am_gn (by decide) (am_gn (by decide) h140))), (am_gn (by decide) (am_gn (by decide) (am_gn (by decide) h141))), (am_gs (am_gn (by decide) (am_gn (by decide) h142))), (am_gn (by decide) (am_gn (by decide) (am_gn (by decide) h143))), (am_gn (by decide) (am_gn (by decide) (am_gs h144))), (am_gn (by decide) (am_gn (by decide) (am_gn (by decide) h145))), (am_gn (by decide) (am_gn (by decide) (am_gn (by decide) h146))), (am_gn (by decide) (am_gn (by decide) (am_gn (by decide) h147))), (am_gn (by decide) (am_gn (by decide) (am_gn (by decide) h148))), (am_gn (by decide) (am_gn (by decide) (am_gn (by decide) h149))), ⟨ht40, hN6⟩, hT, (hS.cg hn6 (fun i hi => by rw [Nat.zero_add]; exact hl1 i hi)), htx, hA, hK, hN⟩, (am_same.set (am_same.set (am_same.set am_same.rf (by unfold rg; omega)) (by unfold rg; omega)) (by unfold rg; omega))⟩
set_option maxRecDepth 100000 in
set_option maxHeartbeats 4000000 in
theorem e_order1 (w : am_W) (t : Nat × (Nat → Int32)) (T : p_D) (S : s_S) (A : List s_S) (K : Nat → Option s_S) (N : x_N) (sd : Int64) (d : Nat) (hd : d ≤ 1000) (hv : v_W d T S A K) (hW : d_W w t T S A K N sd)  : am_Go 141 (0, [.ref 133, .int 1], [], w, 0, 0) (fun res w' => res = some (.int ((m_bst T S 0 (n_fac T.2.2.1)).2)) ∧ d_W w' t T S A K N sd ∧ am_same (rg 133 17) w w') := by
  have hM : am_P[141]? = some zm_X11_order := rfl
  have hn6 : T.2.2.1 ≤ 6 := hv.1.1.1
  have hvT := hv.1.1
  have hvS := hv.2.1.1
  have hdy := hv.2.1.2.1
  obtain ⟨rh, rk, wh, fa, nx, ne, ki, ba, he, nw, rH, rT, tx, td, rw_, oo, s1, s2, s3, ik, kp, hm, h134, h135, h136, h137, h138, h139, h140, h141, h142, h143, h144, h145, h146, h147, h148, h149, ⟨ht40, hN6⟩, hT, hS, htx, hA, hK, hN⟩ := hW
  have hnx := hA.1
  have hal := hA.2.1
  refine ar_aload_n (pc' := 1) hM rfl rfl rfl ?_
  refine ar_iconst (x := 0) (pc' := 2) hM rfl (by decide) rfl ?_
  refine ar_iload_n (pc' := 3) hM rfl rfl rfl ?_
  refine ar_virtual (pc' := 6) (k3 := 0) (k4 := 0) hM rfl rfl hm ⟨rfl, (by decide)⟩ rfl rfl (d_best T hm h134 h135 h136 h137 h138 h142 h144 hT rfl S ⟨hv.1, hvS, hv.2.1.2.2.2.2⟩ hS 0 1) (fun r3 w3 q3 => ?_)
  obtain ⟨td1, nw1, oo1, rfl, q3w, hl1⟩ := q3
  rw [q3w]
  show am_Go 141 (6, [.ref 133, .int 1], [.int (if (1 : Int32) = 0 then (m_bst T S 0 (n_fac T.2.2.1)).1 else (m_bst T S 0 (n_fac T.2.2.1)).2)], (((w.set 144 (.inl (0, 6, .inl oo1))).set 138 (.inl (0, 42, .inl nw1))).set 142 (.inl (0, 36, .inl td1))), 0, 0) _
  refine ar_ireturn hM rfl (Or.inl rfl) ?_
  exact ⟨by rw [if_neg (by decide)], ⟨_, _, _, _, _, _, _, _, _, _, _, _, _, _, _, _, _, _, _, _, _, (am_gn (by decide) (am_gn (by decide) (am_gn (by decide) hm))), (am_gn (by decide) (am_gn (by decide) (am_gn (by decide) h134))), (am_gn (by decide) (am_gn (by decide) (am_gn (by decide) h135))), (am_gn (by decide) (am_gn (by decide) (am_gn (by decide) h136))), (am_gn (by decide) (am_gn (by decide) (am_gn (by decide) h137))), (am_gn (by decide) (am_gs (am_gn (by decide) h138))), (am_gn (by decide) (am_gn (by decide) (am_gn (by decide) h139))), (am_gn (by decide) (am_gn (by decide) (am_gn (by decide) h140))), (am_gn (by decide) (am_gn (by decide) (am_gn (by decide) h141))), (am_gs (am_gn (by decide) (am_gn (by decide) h142))), (am_gn (by decide) (am_gn (by decide) (am_gn (by decide) h143))), (am_gn (by decide) (am_gn (by decide) (am_gs h144))), (am_gn (by decide) (am_gn (by decide) (am_gn (by decide) h145))), (am_gn (by decide) (am_gn (by decide) (am_gn (by decide) h146))), (am_gn (by decide) (am_gn (by decide) (am_gn (by decide) h147))), (am_gn (by decide) (am_gn (by decide) (am_gn (by decide) h148))), (am_gn (by decide) (am_gn (by decide) (am_gn (by decide) h149))), ⟨ht40, hN6⟩, hT, (hS.cg hn6 (fun i hi => by rw [Nat.zero_add]; exact hl1 i hi)), htx, hA, hK, hN⟩, (am_same.set (am_same.set (am_same.set am_same.rf (by unfold rg; omega)) (by unfold rg; omega)) (by unfold rg; omega))⟩
set_option maxRecDepth 100000 in
set_option maxHeartbeats 4000000 in
theorem e_worst0 (w : am_W) (t : Nat × (Nat → Int32)) (T : p_D) (S : s_S) (A : List s_S) (K : Nat → Option s_S) (N : x_N) (sd : Int64) (d : Nat) (hd : d ≤ 1000) (hv : v_W d T S A K) (hW : d_W w t T S A K N sd)  : am_Go 142 (0, [.ref 133, .int 0], [], w, 0, 0) (fun res w' => res = some (.int ((m_bst T S 1 (n_fac T.2.2.1)).1)) ∧ d_W w' t T S A K N sd ∧ am_same (rg 133 17) w w') := by
  have hM : am_P[142]? = some zm_X11_worst := rfl
  have hn6 : T.2.2.1 ≤ 6 := hv.1.1.1
  have hvT := hv.1.1
  have hvS := hv.2.1.1
  have hdy := hv.2.1.2.1
  obtain ⟨rh, rk, wh, fa, nx, ne, ki, ba, he, nw, rH, rT, tx, td, rw_, oo, s1, s2, s3, ik, kp, hm, h134, h135, h136, h137, h138, h139, h140, h141, h142, h143, h144, h145, h146, h147, h148, h149, ⟨ht40, hN6⟩, hT, hS, htx, hA, hK, hN⟩ := hW
  have hnx := hA.1
  have hal := hA.2.1
  refine ar_aload_n (pc' := 1) hM rfl rfl rfl ?_
  refine ar_iconst (x := 1) (pc' := 2) hM rfl (by decide) rfl ?_
  refine ar_iload_n (pc' := 3) hM rfl rfl rfl ?_
  refine ar_virtual (pc' := 6) (k3 := 0) (k4 := 0) hM rfl rfl hm ⟨rfl, (by decide)⟩ rfl rfl (d_best T hm h134 h135 h136 h137 h138 h142 h144 hT rfl S ⟨hv.1, hvS, hv.2.1.2.2.2.2⟩ hS 1 0) (fun r3 w3 q3 => ?_)
  obtain ⟨td1, nw1, oo1, rfl, q3w, hl1⟩ := q3
  rw [q3w]
  show am_Go 142 (6, [.ref 133, .int 0], [.int (if (0 : Int32) = 0 then (m_bst T S 1 (n_fac T.2.2.1)).1 else (m_bst T S 1 (n_fac T.2.2.1)).2)], (((w.set 144 (.inl (0, 6, .inl oo1))).set 138 (.inl (0, 42, .inl nw1))).set 142 (.inl (0, 36, .inl td1))), 0, 0) _
  refine ar_ireturn hM rfl (Or.inl rfl) ?_
  exact ⟨by rw [if_pos rfl], ⟨_, _, _, _, _, _, _, _, _, _, _, _, _, _, _, _, _, _, _, _, _, (am_gn (by decide) (am_gn (by decide) (am_gn (by decide) hm))), (am_gn (by decide) (am_gn (by decide) (am_gn (by decide) h134))), (am_gn (by decide) (am_gn (by decide) (am_gn (by decide) h135))), (am_gn (by decide) (am_gn (by decide) (am_gn (by decide) h136))), (am_gn (by decide) (am_gn (by decide) (am_gn (by decide) h137))), (am_gn (by decide) (am_gs (am_gn (by decide) h138))), (am_gn (by decide) (am_gn (by decide) (am_gn (by decide) h139))), (am_gn (by decide) (am_gn (by decide) (am_gn (by decide) h140))), (am_gn (by decide) (am_gn (by decide) (am_gn (by decide) h141))), (am_gs (am_gn (by decide) (am_gn (by decide) h142))), (am_gn (by decide) (am_gn (by decide) (am_gn (by decide) h143))), (am_gn (by decide) (am_gn (by decide) (am_gs h144))), (am_gn (by decide) (am_gn (by decide) (am_gn (by decide) h145))), (am_gn (by decide) (am_gn (by decide) (am_gn (by decide) h146))), (am_gn (by decide) (am_gn (by decide) (am_gn (by decide) h147))), (am_gn (by decide) (am_gn (by decide) (am_gn (by decide) h148))), (am_gn (by decide) (am_gn (by decide) (am_gn (by decide) h149))), ⟨ht40, hN6⟩, hT, (hS.cg hn6 (fun i hi => by rw [Nat.zero_add]; exact hl1 i hi)), htx, hA, hK, hN⟩, (am_same.set (am_same.set (am_same.set am_same.rf (by unfold rg; omega)) (by unfold rg; omega)) (by unfold rg; omega))⟩
set_option maxRecDepth 100000 in
set_option maxHeartbeats 4000000 in
theorem e_worst1 (w : am_W) (t : Nat × (Nat → Int32)) (T : p_D) (S : s_S) (A : List s_S) (K : Nat → Option s_S) (N : x_N) (sd : Int64) (d : Nat) (hd : d ≤ 1000) (hv : v_W d T S A K) (hW : d_W w t T S A K N sd)  : am_Go 142 (0, [.ref 133, .int 1], [], w, 0, 0) (fun res w' => res = some (.int ((m_bst T S 1 (n_fac T.2.2.1)).2)) ∧ d_W w' t T S A K N sd ∧ am_same (rg 133 17) w w') := by
  have hM : am_P[142]? = some zm_X11_worst := rfl
  have hn6 : T.2.2.1 ≤ 6 := hv.1.1.1
  have hvT := hv.1.1
  have hvS := hv.2.1.1
  have hdy := hv.2.1.2.1
  obtain ⟨rh, rk, wh, fa, nx, ne, ki, ba, he, nw, rH, rT, tx, td, rw_, oo, s1, s2, s3, ik, kp, hm, h134, h135, h136, h137, h138, h139, h140, h141, h142, h143, h144, h145, h146, h147, h148, h149, ⟨ht40, hN6⟩, hT, hS, htx, hA, hK, hN⟩ := hW
  have hnx := hA.1
  have hal := hA.2.1
  refine ar_aload_n (pc' := 1) hM rfl rfl rfl ?_
  refine ar_iconst (x := 1) (pc' := 2) hM rfl (by decide) rfl ?_
  refine ar_iload_n (pc' := 3) hM rfl rfl rfl ?_
  refine ar_virtual (pc' := 6) (k3 := 0) (k4 := 0) hM rfl rfl hm ⟨rfl, (by decide)⟩ rfl rfl (d_best T hm h134 h135 h136 h137 h138 h142 h144 hT rfl S ⟨hv.1, hvS, hv.2.1.2.2.2.2⟩ hS 1 1) (fun r3 w3 q3 => ?_)
  obtain ⟨td1, nw1, oo1, rfl, q3w, hl1⟩ := q3
  rw [q3w]
  show am_Go 142 (6, [.ref 133, .int 1], [.int (if (1 : Int32) = 0 then (m_bst T S 1 (n_fac T.2.2.1)).1 else (m_bst T S 1 (n_fac T.2.2.1)).2)], (((w.set 144 (.inl (0, 6, .inl oo1))).set 138 (.inl (0, 42, .inl nw1))).set 142 (.inl (0, 36, .inl td1))), 0, 0) _
  refine ar_ireturn hM rfl (Or.inl rfl) ?_
  exact ⟨by rw [if_neg (by decide)], ⟨_, _, _, _, _, _, _, _, _, _, _, _, _, _, _, _, _, _, _, _, _, (am_gn (by decide) (am_gn (by decide) (am_gn (by decide) hm))), (am_gn (by decide) (am_gn (by decide) (am_gn (by decide) h134))), (am_gn (by decide) (am_gn (by decide) (am_gn (by decide) h135))), (am_gn (by decide) (am_gn (by decide) (am_gn (by decide) h136))), (am_gn (by decide) (am_gn (by decide) (am_gn (by decide) h137))), (am_gn (by decide) (am_gs (am_gn (by decide) h138))), (am_gn (by decide) (am_gn (by decide) (am_gn (by decide) h139))), (am_gn (by decide) (am_gn (by decide) (am_gn (by decide) h140))), (am_gn (by decide) (am_gn (by decide) (am_gn (by decide) h141))), (am_gs (am_gn (by decide) (am_gn (by decide) h142))), (am_gn (by decide) (am_gn (by decide) (am_gn (by decide) h143))), (am_gn (by decide) (am_gn (by decide) (am_gs h144))), (am_gn (by decide) (am_gn (by decide) (am_gn (by decide) h145))), (am_gn (by decide) (am_gn (by decide) (am_gn (by decide) h146))), (am_gn (by decide) (am_gn (by decide) (am_gn (by decide) h147))), (am_gn (by decide) (am_gn (by decide) (am_gn (by decide) h148))), (am_gn (by decide) (am_gn (by decide) (am_gn (by decide) h149))), ⟨ht40, hN6⟩, hT, (hS.cg hn6 (fun i hi => by rw [Nat.zero_add]; exact hl1 i hi)), htx, hA, hK, hN⟩, (am_same.set (am_same.set (am_same.set am_same.rf (by unfold rg; omega)) (by unfold rg; omega)) (by unfold rg; omega))⟩
