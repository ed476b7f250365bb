/-! Outlook: the best order -/
/-- what each wants and says, at t -/
def c_H (w : am_W) (t : Nat) (T : p_D) (S : s_S) (g : Int32) : Prop := ∃ dw ds dg dd dl df dv : Nat → Int32, (w[t]? = some (.inr (8, [.ref (t + 1), .ref (t + 2), .ref (t + 3), .ref (t + 4), .ref (t + 5), .ref (t + 6), .ref (t + 7)])) ∧ w[t + 1]? = some (.inl (0, 6, .inl dw)) ∧ w[t + 2]? = some (.inl (0, 6, .inl ds)) ∧ w[t + 3]? = some (.inl (0, 6, .inl dg)) ∧ w[t + 4]? = some (.inl (0, 6, .inl dd)) ∧ w[t + 5]? = some (.inl (0, 6, .inl dl)) ∧ w[t + 6]? = some (.inl (0, 6, .inl df)) ∧ w[t + 7]? = some (.inl (0, 6, .inl dv))) ∧ ∀ h, h < T.2.2.1 → dw h = m_wt T S g h ∧ ds h = m_sy T S g h
theorem c_H.d {w : am_W} {t : Nat} {T : p_D} {S : s_S} {g : Int32} (h : c_H w t T S g) : c_D w t := by
  obtain ⟨dw, ds, dg, dd, dl, df, dv, h, -⟩ := h
  exact ⟨dw, ds, dg, dd, dl, df, dv, h⟩
theorem c_LS.hh {w : am_W} {t : Nat} {T : p_D} {S : s_S} {g : Int32} (h : c_LS w t T S g) : c_H w t T S g := by
  obtain ⟨dw, ds, dg, dd, dl, df, dv, h, q⟩ := h
  exact ⟨dw, ds, dg, dd, dl, df, dv, h, fun k hk => ⟨(q k hk).1, (q k hk).2.1⟩⟩
theorem c_H.same {w w' : am_W} {t : Nat} {T : p_D} {S : s_S} {g : Int32} {X : Nat → Prop} (h : c_H w t T S g) (hs : am_same X w w') (hx : ∀ b, t ≤ b → b < t + 8 → ¬ X b) : c_H w' t T S g := by
  obtain ⟨dw, ds, dg, dd, dl, df, dv, ⟨h0, h1, h2, h3, h4, h5, h6, h7⟩, h8⟩ := h
  exact ⟨dw, ds, dg, dd, dl, df, dv, ⟨hs.at (hx _ (by omega) (by omega)) h0, hs.at (hx _ (by omega) (by omega)) h1, hs.at (hx _ (by omega) (by omega)) h2, hs.at (hx _ (by omega) (by omega)) h3, hs.at (hx _ (by omega) (by omega)) h4, hs.at (hx _ (by omega) (by omega)) h5, hs.at (hx _ (by omega) (by omega)) h6, hs.at (hx _ (by omega) (by omega)) h7⟩, h8⟩
set_option maxHeartbeats 4000000 in
theorem k_hear (w : am_W) (t d s : Nat) (T : p_D) (S : s_S) (hvT : v_T T) (hvS : S.2.2.2.2.2.2 < 2 ^ 30) (hT : c_T w d T) (hS : c_S w s T.2.2.1 S) (hD : c_D w t) (h2t : 2 ≤ t) (h2d : 2 ≤ d) (h2s : 2 ≤ s) (j1 : t + 8 ≤ d ∨ d + 5 ≤ t) (j2 : t + 8 ≤ s ∨ s + 4 ≤ t) (j3 : d + 5 ≤ s ∨ s + 4 ≤ d) (g : Int32) : am_Go 55 (0, [.ref t, .ref d, .ref s, .int g, .float 0, .float 0, .float 0, .float 0], [], w, 0, 0) (fun res w' => res = none ∧ c_H w' t T S g ∧ am_same (rg t 8) w w') := by
  obtain ⟨wa, ki, ba, he, ht0, ht1, ht2, ht3, ht4, hw, hh⟩ := hT
  obtain ⟨so, ss, sl, hs0, hs1, hs2, hs3, ho, hs, hl⟩ := hS
  obtain ⟨dw, ds, dg, dd, dl, df, dv, hd0, hd1, hd2, hd3, hd4, hd5, hd6, hd7⟩ := hD
  refine (c_hear w d h2d T.1 T.2.1 T.2.2.1 T.2.2.2.1 wa ki ba he ht0 ht1 ht2 ht3 ht4 hvT.1 hvT.2.1 s h2s so ss sl S.2.2.2.2.1 S.2.2.2.2.2.1 S.2.2.2.2.2.2 (Nat.lt_trans hvS (by decide)) hs0 hs1 hs2 hs3 t h2t dw ds dg dd dl df dv hd0 hd1 hd2 hd3 hd4 hd5 hd6 hd7 j1 j2 j3 g).mono ?_
  rintro res w' ⟨fw, fs, rfl, rfl, h1, h2⟩
  have eh := i_heat_congr (d := S.2.2.2.2.2.2) hh
  refine ⟨rfl, ⟨fw, fs, dg, dd, dl, df, dv, ⟨am_gn (by omega) (am_gn (by omega) hd0), am_gn (by omega) (am_gs hd1), am_gs (am_gn (by omega) hd2), am_gn (by omega) (am_gn (by omega) hd3), am_gn (by omega) (am_gn (by omega) hd4), am_gn (by omega) (am_gn (by omega) hd5), am_gn (by omega) (am_gn (by omega) hd6), am_gn (by omega) (am_gn (by omega) hd7)⟩, fun k hk => ⟨?_, ?_⟩⟩, ?_⟩
  · rw [h1 k hk, eh]; exact i_wnt_congr (hw k hk).1 (hw k hk).2.1
  · rw [h2 k hk, eh]; exact i_say_congr (hw k hk).1 (hw k hk).2.1
  · exact am_same.set (am_same.set am_same.rf (by unfold rg; omega)) (by unfold rg; omega)
set_option maxHeartbeats 4000000 in
theorem k_pour (w : am_W) (t d s : Nat) (T : p_D) (S : s_S) (g : Int32) (hvT : v_T T) (hvS : v_S T.2.2.1 S) (hT : c_T w d T) (hS : c_S w s T.2.2.1 S) (hD : c_H w t T S g) (h2t : 2 ≤ t) (h2d : 2 ≤ d) (h2s : 2 ≤ s) (j1 : t + 8 ≤ d ∨ d + 5 ≤ t) (j2 : t + 8 ≤ s ∨ s + 4 ≤ t) (j3 : d + 5 ≤ s ∨ s + 4 ≤ d) : am_Go 56 (0, [.ref t, .ref d, .ref s, .float 0, .float 0, .float 0], [], w, 0, 0) (fun res w' => res = none ∧ c_LS w' t T S g ∧ am_same (rg t 8) w w') := by
  obtain ⟨wa, ki, ba, he, ht0, ht1, ht2, ht3, ht4, hw, hh⟩ := hT
  obtain ⟨so, ss, sl, hs0, hs1, hs2, hs3, ho, hs, hl⟩ := hS
  obtain ⟨dw, ds, dg, dd, dl, df, dv, ⟨hd0, hd1, hd2, hd3, hd4, hd5, hd6, hd7⟩, hq⟩ := hD
  refine (c_pour w d h2d T.1 T.2.1 T.2.2.1 T.2.2.2.1 wa ki ba he ht0 ht1 ht2 ht3 ht4 hvT.1 hvT.2.1 s h2s so ss sl S.2.2.2.2.1 S.2.2.2.2.2.1 S.2.2.2.2.2.2 (Nat.lt_trans hvS.2.2.2 (by decide)) hs0 hs1 hs2 hs3 t h2t dw ds dg dd dl df dv hd0 hd1 hd2 hd3 hd4 hd5 hd6 hd7 j1 j2 j3 S.1 (hvS.od hvT.1 ho) hvS.inj).mono ?_
  rintro res w' ⟨a3, a4, a5, a6, a7, rfl, rfl, q3, q4, q5, q6, q7⟩
  refine ⟨rfl, ⟨dw, ds, a3, a4, a5, a6, a7, ⟨am_gn (by omega) (am_gn (by omega) (am_gn (by omega) (am_gn (by omega) (am_gn (by omega) hd0)))), am_gn (by omega) (am_gn (by omega) (am_gn (by omega) (am_gn (by omega) (am_gn (by omega) hd1)))), am_gn (by omega) (am_gn (by omega) (am_gn (by omega) (am_gn (by omega) (am_gn (by omega) hd2)))), am_gn (by omega) (am_gn (by omega) (am_gn (by omega) (am_gn (by omega) (am_gs hd3)))), am_gn (by omega) (am_gn (by omega) (am_gn (by omega) (am_gs (am_gn (by omega) hd4)))), am_gn (by omega) (am_gn (by omega) (am_gs (am_gn (by omega) (am_gn (by omega) hd5)))), am_gn (by omega) (am_gs (am_gn (by omega) (am_gn (by omega) (am_gn (by omega) hd6)))), am_gs (am_gn (by omega) (am_gn (by omega) (am_gn (by omega) (am_gn (by omega) hd7))))⟩, fun h hh0 => ?_⟩, ?_⟩
  · obtain ⟨p1, p2⟩ := hvS.2.1 h hh0
    have eg : i_gv T.2.1 T.1 T.2.2.1 ds S.1 (S.2.1 h) = m_gv T S g h := i_gv_congr (fun k hk => (hq k hk).2) (fun p hp => (hvS.1 p hp).1) p1
    have q3 := q3 _ p1
    have q4 := q4 _ p1
    have q5 := q5 _ p1
    have q6 := q6 _ p1
    have q7 := q7 _ p1
    rw [p2] at q3 q4 q5 q6 q7
    rw [eg] at q3 q4 q5 q6 q7
    rw [(hq h hh0).1] at q4 q5 q6 q7
    rw [hs h hh0] at q4 q5 q6 q7
    rw [(hw h hh0).2.2] at q6 q7
    exact ⟨(hq h hh0).1, (hq h hh0).2, q3, q4, q5, q6, q7⟩
  · exact am_same.set (am_same.set (am_same.set (am_same.set (am_same.set am_same.rf (by unfold rg; omega)) (by unfold rg; omega)) (by unfold rg; omega)) (by unfold rg; omega)) (by unfold rg; omega)
/-- orders as rows -/
def m_inv (o : Nat → Nat) (h : Nat) : Nat := if o 0 = h then 0 else if o 1 = h then 1 else if o 2 = h then 2 else if o 3 = h then 3 else if o 4 = h then 4 else 5
def m_ord (S : s_S) (o : Nat → Nat) : s_S := (o, m_inv o, S.2.2)
def m_o (l : List Nat) : Nat → Nat := fun i => l.getD i 0
def m_nx (n : Nat) (l : List Nat) : List Nat := [m_nxt n (m_o l) 0, m_nxt n (m_o l) 1, m_nxt n (m_o l) 2, m_nxt n (m_o l) 3, m_nxt n (m_o l) 4, m_nxt n (m_o l) 5]
theorem m_nx_o (n : Nat) (l : List Nat) : ∀ p, p < 6 → m_o (m_nx n l) p = m_nxt n (m_o l) p
  | 0, _ => rfl
  | 1, _ => rfl
  | 2, _ => rfl
  | 3, _ => rfl
  | 4, _ => rfl
  | 5, _ => rfl
  | p + 6, h => by omega
def m_it2 (n : Nat) (l : List Nat) : Nat → List Nat
  | 0 => l
  | k + 1 => m_nx n (m_it2 n l k)
theorem m_it2_s (n : Nat) (l : List Nat) : ∀ k, m_it2 n (m_nx n l) k = m_it2 n l (k + 1)
  | 0 => rfl
  | k + 1 => by show m_nx n (m_it2 n (m_nx n l) k) = _; rw [m_it2_s n l k]; rfl
def m_id : List Nat := [0, 1, 2, 3, 4, 5]
def m_ch (n k : Nat) : Nat → Nat := m_o (m_it2 n m_id k)
def m_pm (n : Nat) (o : Nat → Nat) : Bool := (List.range 6).all fun p => Nat.blt (o p) 6 && bif Nat.blt p n then (Nat.blt (o p) n && Nat.beq (m_inv o (o p)) p && Nat.blt (m_inv o p) n && Nat.beq (o (m_inv o p)) p) else Nat.beq (o p) p
def m_chk (n : Nat) : Nat → List Nat → Bool
  | 0, _ => true
  | f + 1, l => m_pm n (m_o l) && (bif Nat.beq f 0 then Nat.beq (m_trn (m_o l) (n - 1)) 0 else !(Nat.beq (m_trn (m_o l) (n - 1)) 0)) && m_chk n f (m_nx n l)
theorem m_chk_of (n : Nat) : ∀ (f : Nat) (l : List Nat), m_chk n f l = true → ∀ k, k < f → m_pm n (m_o (m_it2 n l k)) = true ∧ (m_trn (m_o (m_it2 n l k)) (n - 1) = 0 ↔ k + 1 = f)
  | 0, l, _, k, hk => by omega
  | f + 1, l, h, k, hk => by
    unfold m_chk at h
    rw [Bool.and_eq_true, Bool.and_eq_true] at h
    obtain ⟨⟨h1, h2⟩, h3⟩ := h
    match k, hk with
    | 0, _ =>
      refine ⟨h1, ?_⟩
      show m_trn (m_o l) (n - 1) = 0 ↔ 0 + 1 = f + 1
      rcases Nat.eq_zero_or_pos f with q | q
      · subst q
        exact ⟨fun _ => rfl, fun _ => Nat.eq_of_beq_eq_true h2⟩
      · rw [show Nat.beq f 0 = false from by rcases f with _ | f; omega; rfl] at h2
        have h2 : (!(Nat.beq (m_trn (m_o l) (n - 1)) 0)) = true := h2
        refine ⟨fun e => ?_, fun e => by omega⟩
        rw [e] at h2
        exact absurd h2 (by decide)
    | k + 1, hk =>
      have := m_chk_of n f (m_nx n l) h3 k (by omega)
      rw [m_it2_s] at this
      exact ⟨this.1, this.2.trans (by omega)⟩
def n_fac : Nat → Nat
  | 0 => 1
  | n + 1 => (n + 1) * n_fac n
set_option maxRecDepth 1000000 in
theorem m_chk_ok : ∀ n, n < 7 → m_chk n (n_fac n) m_id = true := by decide +kernel
theorem m_ch_ok {n : Nat} (hn : n ≤ 6) {k : Nat} (hk : k < n_fac n) : m_pm n (m_ch n k) = true ∧ (m_trn (m_ch n k) (n - 1) = 0 ↔ k + 1 = n_fac n) := m_chk_of n (n_fac n) m_id (m_chk_ok n (by omega)) k hk
theorem m_pm_at {n : Nat} {o : Nat → Nat} (h : m_pm n o = true) {p : Nat} (hp : p < 6) : o p < 6 ∧ (p < n → o p < n ∧ m_inv o (o p) = p ∧ m_inv o p < n ∧ o (m_inv o p) = p) ∧ (n ≤ p → o p = p) := by
  have := List.all_eq_true.mp h p (List.mem_range.mpr hp)
  rw [Bool.and_eq_true] at this
  obtain ⟨h1, h2⟩ := this
  refine ⟨Nat.le_of_ble_eq_true h1, fun q => ?_, fun q => ?_⟩
  · rw [show Nat.blt p n = true from Nat.ble_eq_true_of_le q] at h2
    have h2 : (Nat.blt (o p) n && Nat.beq (m_inv o (o p)) p && Nat.blt (m_inv o p) n && Nat.beq (o (m_inv o p)) p) = true := h2
    rw [Bool.and_eq_true, Bool.and_eq_true, Bool.and_eq_true] at h2
    exact ⟨Nat.le_of_ble_eq_true h2.1.1.1, Nat.eq_of_beq_eq_true h2.1.1.2, Nat.le_of_ble_eq_true h2.1.2, Nat.eq_of_beq_eq_true h2.2⟩
  · rw [show Nat.blt p n = false from by cases e : Nat.blt p n; rfl; have := Nat.le_of_ble_eq_true e; omega] at h2
    exact Nat.eq_of_beq_eq_true h2
theorem m_ord_v {n : Nat} (hn : n ≤ 6) {S : s_S} {o : Nat → Nat} (h : m_pm n o = true) (hd : S.2.2.2.2.2.2 < 2 ^ 30) : v_S n (m_ord S o) := by
  refine ⟨fun p hp => ?_, fun p hp => ?_, fun p hp h6 => (m_pm_at h h6).2.2 hp, hd⟩
  · obtain ⟨a, b, c, d⟩ := (m_pm_at h (p := p) (by omega)).2.1 hp; exact ⟨a, b⟩
  · obtain ⟨a, b, c, d⟩ := (m_pm_at h (p := p) (by omega)).2.1 hp; exact ⟨c, d⟩
/-- what all lack, or one at the most, in the k-th order; the best order so far -/
def m_lko (T : p_D) (S : s_S) (gr : Int32) (k : Nat) : Int32 := if gr = 0 then i_sum (m_lk T (m_ord S (m_ch T.2.2.1 k)) 0) T.2.2.1 else i_grt (m_lk T (m_ord S (m_ch T.2.2.1 k)) 0) T.2.2.1
def m_fgo (T : p_D) (k : Nat) : Int32 := i_fig (fun p => nI (m_ch T.2.2.1 k p)) T.2.2.1
def m_bst (T : p_D) (S : s_S) (gr : Int32) : Nat → Int32 × Int32
  | 0 => (1000, 0)
  | k + 1 => if m_lko T S gr k < (m_bst T S gr k).1 then (m_lko T S gr k, m_fgo T k) else m_bst T S gr k
theorem k_stand (w : am_W) (s n : Nat) (S : s_S) (hS : c_S w s n S) (h2s : 2 ≤ s) : am_Go 41 (0, [.ref s, .float 0], [], w, 0, 0) (fun res w' => res = none ∧ c_S w' s n (m_ord S (m_ch n 0)) ∧ am_same (rg s 4) w w') := by
  obtain ⟨so, ss, sl, hs0, hs1, hs2, hs3, q1, q2, q3⟩ := hS
  refine (c_standAsTold w s h2s so ss sl _ _ _ hs0 hs1 hs2 hs3).mono ?_
  rintro res w' ⟨f, rfl, rfl, hf⟩
  refine ⟨rfl, ⟨f, ss, sl, am_gn (by omega) hs0, am_gs hs1, am_gn (by omega) hs2, am_gn (by omega) hs3, fun p hp => ?_, q2, q3⟩, am_same.set am_same.rf (by unfold rg; omega)⟩
  rw [hf p hp]
  match p, hp with
  | 0, _ => rfl
  | 1, _ => rfl
  | 2, _ => rfl
  | 3, _ => rfl
  | 4, _ => rfl
  | 5, _ => rfl
  | p + 6, h => omega
