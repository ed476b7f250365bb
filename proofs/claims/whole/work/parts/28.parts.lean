/-! ranges of what is read; the class's parts -/
theorem p_step_rg {st : Nat} {D : p_D} {c : Int32} {q : Nat × p_D} (h : p_rg st D) (hs : p_step st D c = some q) : p_rg q.1 q.2 := by
  obtain ⟨tr, ri, n, kk, wa, ki, ba, he⟩ := D
  obtain ⟨h1, h5, h6, h7, h8⟩ := h
  have h1 : i_fg 9 tr := h1
  have h5 : ∀ h, h < n → (h + 1 < n ∨ st ≠ 4) → i_fg 9 (wa h) := h5
  have h6 : ∀ h, h < n → (h + 1 < n ∨ (st ≠ 4 ∧ st ≠ 5)) → i_fg 3 (ki h) := h6
  have h7 : ∀ h, h < n → (h + 1 < n ∨ (st ≠ 4 ∧ st ≠ 5 ∧ st ≠ 6)) → i_fg 9 (ba h) := h7
  have h8 : ∀ i, i < kk → (i + 1 < kk ∨ st ≠ 7) → i_fg 3 (he i) := h8
  match st with
  | 0 =>
    have hs : (if c = 84 then some (1, ((tr, ri, n, kk, wa, ki, ba, he) : p_D)) else none) = some q := hs
    by_cases e : c = 84
    · rw [if_pos e] at hs
      cases hs
      exact ⟨h1, fun h a b => h5 h a (Or.inr (by decide)), fun h a b => h6 h a (Or.inr (by decide)), fun h a b => h7 h a (Or.inr (by decide)), fun h a b => h8 h a (Or.inr (by decide))⟩
    · rw [if_neg e] at hs; cases hs
  | 1 =>
    have hs : (if 0 ≤ c - 48 ∧ c - 48 ≤ 9 then some (2, ((c - 48, ri, n, kk, wa, ki, ba, he) : p_D)) else none) = some q := hs
    by_cases e : 0 ≤ c - 48 ∧ c - 48 ≤ 9
    · rw [if_pos e] at hs
      cases hs
      exact ⟨i_fg_of (M := 9) (by decide) e, fun h a b => h5 h a (Or.inr (by decide)), fun h a b => h6 h a (Or.inr (by decide)), fun h a b => h7 h a (Or.inr (by decide)), fun h a b => h8 h a (Or.inr (by decide))⟩
    · rw [if_neg e] at hs; cases hs
  | 2 =>
    have hs : (if 0 ≤ c - 48 ∧ c - 48 ≤ 1 then some (3, ((tr, (if c - 48 = 1 then 1 else 0), n, kk, wa, ki, ba, he) : p_D)) else none) = some q := hs
    by_cases e : 0 ≤ c - 48 ∧ c - 48 ≤ 1
    · rw [if_pos e] at hs
      cases hs
      exact ⟨h1, fun h a b => h5 h a (Or.inr (by decide)), fun h a b => h6 h a (Or.inr (by decide)), fun h a b => h7 h a (Or.inr (by decide)), fun h a b => h8 h a (Or.inr (by decide))⟩
    · rw [if_neg e] at hs; cases hs
  | 3 =>
    have hs : (if c = 72 ∧ n < 6 then some (4, ((tr, ri, n + 1, kk, wa, ki, ba, he) : p_D)) else if c = 68 ∧ kk < 5 then some (7, ((tr, ri, n, kk + 1, wa, ki, ba, he) : p_D)) else none) = some q := hs
    by_cases e : c = 72 ∧ n < 6
    · rw [if_pos e] at hs
      cases hs
      exact ⟨h1, fun h a b => h5 h (by rcases b with b | b; (have b : h + 1 < n + 1 := b; omega); exact absurd rfl b) (Or.inr (by decide)), fun h a b => h6 h (by rcases b with b | b; (have b : h + 1 < n + 1 := b; omega); exact absurd rfl b.1) (Or.inr (by decide)), fun h a b => h7 h (by rcases b with b | b; (have b : h + 1 < n + 1 := b; omega); exact absurd rfl b.1) (Or.inr (by decide)), fun h a b => h8 h a (Or.inr (by decide))⟩
    · rw [if_neg e] at hs
      by_cases e2 : c = 68 ∧ kk < 5
      · rw [if_pos e2] at hs
        cases hs
        exact ⟨h1, fun h a b => h5 h a (Or.inr (by decide)), fun h a b => h6 h a (Or.inr (by decide)), fun h a b => h7 h a (Or.inr (by decide)), fun h a b => h8 h (by rcases b with b | b; (have b : h + 1 < kk + 1 := b; omega); exact absurd rfl b) (Or.inr (by decide))⟩
      · rw [if_neg e2] at hs; cases hs
  | 4 =>
    have hs : (if 0 ≤ c - 48 ∧ c - 48 ≤ 9 then some (5, ((tr, ri, n, kk, upd wa (n - 1) (c - 48), ki, ba, he) : p_D)) else none) = some q := hs
    by_cases e : 0 ≤ c - 48 ∧ c - 48 ≤ 9
    · rw [if_pos e] at hs
      cases hs
      exact ⟨h1, fun h a b => p_ur h5 (i_fg_of (M := 9) (by decide) e) h a, fun h a b => h6 h a (by rcases b with b | b; exact Or.inl b; exact absurd rfl b.2), fun h a b => h7 h a (by rcases b with b | b; exact Or.inl b; exact absurd rfl b.2.1), fun h a b => h8 h a (Or.inr (by decide))⟩
    · rw [if_neg e] at hs; cases hs
  | 5 =>
    have hs : (if 0 ≤ c - 48 ∧ c - 48 ≤ 3 then some (6, ((tr, ri, n, kk, wa, upd ki (n - 1) (c - 48), ba, he) : p_D)) else none) = some q := hs
    by_cases e : 0 ≤ c - 48 ∧ c - 48 ≤ 3
    · rw [if_pos e] at hs
      cases hs
      exact ⟨h1, fun h a b => h5 h a (Or.inr (by decide)), fun h a b => p_ur h6 (i_fg_of (M := 3) (by decide) e) h a, fun h a b => h7 h a (by rcases b with b | b; exact Or.inl b; exact absurd rfl b.2.2), fun h a b => h8 h a (Or.inr (by decide))⟩
    · rw [if_neg e] at hs; cases hs
  | 6 =>
    have hs : (if 0 ≤ c - 48 ∧ c - 48 ≤ 9 then some (3, ((tr, ri, n, kk, wa, ki, upd ba (n - 1) (c - 48), he) : p_D)) else none) = some q := hs
    by_cases e : 0 ≤ c - 48 ∧ c - 48 ≤ 9
    · rw [if_pos e] at hs
      cases hs
      exact ⟨h1, fun h a b => h5 h a (Or.inr (by decide)), fun h a b => h6 h a (Or.inr (by decide)), fun h a b => p_ur h7 (i_fg_of (M := 9) (by decide) e) h a, fun h a b => h8 h a (Or.inr (by decide))⟩
    · rw [if_neg e] at hs; cases hs
  | 7 =>
    have hs : (if 0 ≤ c - 48 ∧ c - 48 ≤ 3 then some (3, ((tr, ri, n, kk, wa, ki, ba, upd he (kk - 1) (c - 48)) : p_D)) else none) = some q := hs
    by_cases e : 0 ≤ c - 48 ∧ c - 48 ≤ 3
    · rw [if_pos e] at hs
      cases hs
      exact ⟨h1, fun h a b => h5 h a (Or.inr (by decide)), fun h a b => h6 h a (Or.inr (by decide)), fun h a b => h7 h a (Or.inr (by decide)), fun h a b => p_ur h8 (i_fg_of (M := 3) (by decide) e) h a⟩
    · rw [if_neg e] at hs; cases hs
  | st + 8 => exact absurd hs (by intro e; cases e)
theorem p_run_rg {tx : Nat → Int32} : ∀ (i : Nat) (st : Nat) (D : p_D), p_run tx p_D0 i = some (st, D) → p_ok st D ∧ p_rg st D
  | 0, st, D, h => by
    cases h
    exact ⟨⟨by decide, by decide, by decide, fun q => by omega, fun q => by omega, Or.inl rfl⟩, ⟨0, by omega, rfl⟩, fun h a => absurd a (Nat.not_lt_zero h), fun h a => absurd a (Nat.not_lt_zero h), fun h a => absurd a (Nat.not_lt_zero h), fun h a => absurd a (Nat.not_lt_zero h)⟩
  | i + 1, st, D, h => by
    cases e : p_run tx p_D0 i with
    | none => rw [p_run_n e] at h; cases h
    | some q =>
      rw [p_run_s e] at h
      obtain ⟨a, b⟩ := p_run_rg i q.1 q.2 e
      exact ⟨p_step_ok a h, p_step_rg b h⟩
/-- THE ROW holds figures -/
def v_F (T : p_D) : Prop := i_fg 9 T.1 ∧ (∀ h, h < T.2.2.1 → i_fg 9 (T.2.2.2.2.1 h) ∧ i_fg 3 (T.2.2.2.2.2.1 h) ∧ i_fg 9 (T.2.2.2.2.2.2.1 h)) ∧ (∀ i, i < T.2.2.2.1 → i_fg 3 (T.2.2.2.2.2.2.2 i))
theorem p_ans_v {tx : Nat → Int32} {n : Nat} {D : p_D} (hn : n ≤ 40) (h : p_ans tx n (-9) D) : v_T D ∧ v_F D := by
  have h3 : ∃ i, p_run tx p_D0 i = some (3, D) := by
    rcases h with ⟨st, a, b⟩ | ⟨f, st, a, b, c, d⟩
    · by_cases e : st = 3
      · subst e; exact ⟨n, a⟩
      · rw [if_neg e] at b; exact absurd b.symm ((by decide : ∀ k, k < 41 → ¬ nI k = -9) n (by omega))
    · exact absurd d.symm ((by decide : ∀ k, k < 41 → ¬ nI k = -9) f (by omega))
  obtain ⟨i, hi⟩ := h3
  obtain ⟨a, b⟩ := p_run_rg i 3 D hi
  exact ⟨⟨a.2.1, a.2.2.1, a.2.2.2.2.2⟩, b.1, fun h q => ⟨b.2.1 h q (Or.inr (by decide)), b.2.2.1 h q (Or.inr (by decide)), b.2.2.2.1 h q (Or.inr (by decide))⟩, fun i q => b.2.2.2.2 i q (Or.inr (by decide))⟩
/-- the text -/
def c_X (w : am_W) (n : Nat) (tl : Nat → Int32) : Prop := n ≤ 40 ∧ w[3]? = some (.inr (7, [.ref 4, .int (nI n)])) ∧ ∃ f : Nat → Int32, w[4]? = some (.inl (0, 40, .inl f)) ∧ ∀ i, i < n → f i = tl i
theorem c_X.same {w w' : am_W} {n : Nat} {tl : Nat → Int32} {X : Nat → Prop} (h : c_X w n tl) (hs : am_same X w w') (hx : ∀ b, 3 ≤ b → b < 5 → ¬ X b) : c_X w' n tl := by
  obtain ⟨h0, h1, f, h2, h3⟩ := h
  exact ⟨h0, hs.at (hx _ (by omega) (by omega)) h1, f, hs.at (hx _ (by omega) (by omega)) h2, h3⟩
/-- the reader -/
def c_G (w : am_W) : Prop := w[5]? = some (.inr (3, [.ref 6])) ∧ ∃ D : p_D, D.2.2.1 ≤ 6 ∧ D.2.2.2.1 ≤ 5 ∧ p_is w D
theorem c_G.same {w w' : am_W} {X : Nat → Prop} (h : c_G w) (hs : am_same X w w') (hx : ∀ b, 5 ≤ b → b < 11 → ¬ X b) : c_G w' := by
  obtain ⟨h0, ⟨tr, ri, n, kk, wa, ki, ba, he⟩, h1, h2, h3, h4, h5, h6, h7⟩ := h
  exact ⟨hs.at (hx _ (by omega) (by omega)) h0, (tr, ri, n, kk, wa, ki, ba, he), h1, h2, hs.at (hx _ (by omega) (by omega)) h3, hs.at (hx _ (by omega) (by omega)) h4, hs.at (hx _ (by omega) (by omega)) h5, hs.at (hx _ (by omega) (by omega)) h6, hs.at (hx _ (by omega) (by omega)) h7⟩
theorem k_read (w : am_W) (n : Nat) (tl : Nat → Int32) (hX : c_X w n tl) (hG : c_G w) : am_Go 25 (0, [.ref 5, .ref 3, .float 0, .float 0], [], w, 0, 0) (fun res w' => ∃ r E, res = some (.int r) ∧ p_ans tl n r E ∧ (r = -9 → c_T w' 6 E) ∧ c_G w' ∧ am_same (rg 6 5) w w') := by
  obtain ⟨h0, h1, f, h2, h3⟩ := hX
  obtain ⟨g0, ⟨tr, ri, m, kk, wa, ki, ba, he⟩, g1, g2, g3, g4, g5, g6, g7⟩ := hG
  refine (c_read w tr ri m kk g1 g2 wa ki ba he g3 g4 g5 g6 g7 g0 n h0 f h1 h2).mono ?_
  rintro res w' ⟨hr, hs⟩
  obtain ⟨r, E, st, D, a, b, c, d, e, g⟩ := p_read_ans hr h3 h0
  refine ⟨r, E, a, b, fun q => ?_, ⟨hs.at (by unfold p_X; omega) g0, D, g.2.1, g.2.2.1, e⟩, hs.mono (fun b hb => by unfold p_X at hb; unfold rg; omega)⟩
  have e3 := c q
  subst e3
  obtain ⟨tr, ri, m, kk, wa, ki, ba, he⟩ := D
  obtain ⟨tr', ri', m', kk', wa', ki', ba', he'⟩ := E
  obtain ⟨d1, d2, d3, d4, d5, d6, d7, d8⟩ := d
  have d1 : tr = tr' := d1
  have d2 : ri = ri' := d2
  have d3 : m = m' := d3
  have d4 : kk = kk' := d4
  subst d1 d2 d3 d4
  obtain ⟨e1, e2, e3, e4, e5⟩ := e
  exact ⟨wa, ki, ba, he, e1, e2, e3, e4, e5, fun h hh => ⟨d5 h hh (Or.inr (by decide)), d6 h hh (Or.inr (by decide)), d7 h hh (Or.inr (by decide))⟩, fun i hi => d8 i hi (Or.inr (by decide))⟩
/-- acts, the last one first -/
def c_A (w : am_W) (n : Nat) (A : List s_S) : Prop := A.length ≤ 14 ∧ ∃ f, f < 14 ∧ w[20]? = some (.inr (0, [.ref 21, .int (nI f), .int (nI A.length)])) ∧ (∃ bf : Nat → Option Nat, w[21]? = some (.inl (2, 14, .inr bf)) ∧ ∀ i, i < 14 → bf i = some (22 + 4 * i)) ∧ (∀ i, i < 14 → c_R w (22 + 4 * i)) ∧ ∀ i S, A[i]? = some S → c_S w (22 + 4 * ((f + (A.length - 1 - i)) % 14)) n S
theorem c_A.same {w w' : am_W} {n : Nat} {A : List s_S} {X : Nat → Prop} (h : c_A w n A) (hs : am_same X w w') (hx : ∀ b, 20 ≤ b → b < 78 → ¬ X b) : c_A w' n A := by
  obtain ⟨h0, f, h1, h2, ⟨bf, h3, h4⟩, h5, h6⟩ := h
  exact ⟨h0, f, h1, hs.at (hx _ (by omega) (by omega)) h2, ⟨bf, hs.at (hx _ (by omega) (by omega)) h3, h4⟩, fun i hi => (h5 i hi).same hs (fun b b1 b2 => hx b (by omega) (by omega)), fun i S hi => (h6 i S hi).same hs (fun b b1 b2 => hx b (by omega) (by omega))⟩
/-- slots -/
def c_K (w : am_W) (n : Nat) (K : Nat → Option s_S) : Prop := ∃ kb, kb < 4 ∧ w[78]? = some (.inr (5, [.ref 79, .int (nI kb)])) ∧ (∃ kf : Nat → Option Nat, w[79]? = some (.inl (2, 2, .inr kf)) ∧ ∀ i, i < 2 → kf i = some (80 + 4 * i)) ∧ (∀ i, i < 2 → c_R w (80 + 4 * i)) ∧ ∀ i, i < 2 → (K i = none ∧ kb / 2 ^ i % 2 = 0) ∨ ∃ S, K i = some S ∧ kb / 2 ^ i % 2 = 1 ∧ c_S w (80 + 4 * i) n S
theorem c_K.same {w w' : am_W} {n : Nat} {K : Nat → Option s_S} {X : Nat → Prop} (h : c_K w n K) (hs : am_same X w w') (hx : ∀ b, 78 ≤ b → b < 88 → ¬ X b) : c_K w' n K := by
  obtain ⟨kb, h0, h2, ⟨bf, h3, h4⟩, h5, h6⟩ := h
  refine ⟨kb, h0, hs.at (hx _ (by omega) (by omega)) h2, ⟨bf, hs.at (hx _ (by omega) (by omega)) h3, h4⟩, fun i hi => (h5 i hi).same hs (fun b b1 b2 => hx b (by omega) (by omega)), fun i hi => ?_⟩
  rcases h6 i hi with a | ⟨S, a, b, c⟩
  · exact Or.inl a
  · exact Or.inr ⟨S, a, b, c.same hs (fun b b1 b2 => hx b (by omega) (by omega))⟩
/-- seen -/
def c_N (w : am_W) (sc : Nat) (sh st sv : Nat → Int32) : Prop := sc ≤ 6 ∧ w[88]? = some (.inr (4, [.ref 89, .ref 90, .ref 91, .int (nI sc)])) ∧ ∃ f g l : Nat → Int32, w[89]? = some (.inl (0, 6, .inl f)) ∧ w[90]? = some (.inl (0, 6, .inl g)) ∧ w[91]? = some (.inl (0, 6, .inl l)) ∧ ∀ i, i < sc → f i = sh i ∧ g i = st i ∧ l i = sv i
theorem c_N.same {w w' : am_W} {sc : Nat} {sh st sv : Nat → Int32} {X : Nat → Prop} (h : c_N w sc sh st sv) (hs : am_same X w w') (hx : ∀ b, 88 ≤ b → b < 92 → ¬ X b) : c_N w' sc sh st sv := by
  obtain ⟨h0, h1, f, g, l, h2, h3, h4, h5⟩ := h
  exact ⟨h0, hs.at (hx _ (by omega) (by omega)) h1, f, g, l, hs.at (hx _ (by omega) (by omega)) h2, hs.at (hx _ (by omega) (by omega)) h3, hs.at (hx _ (by omega) (by omega)) h4, h5⟩
/-- outlook, chances -/
def c_O (w : am_W) : Prop := (∃ bl bo : Int32, w[100]? = some (.inr (2, [.ref 101, .ref 106, .ref 110, .int bl, .int bo]))) ∧ c_Q w 101 ∧ c_R w 106 ∧ c_D w 110
theorem c_O.same {w w' : am_W} {X : Nat → Prop} (h : c_O w) (hs : am_same X w w') (hx : ∀ b, 100 ≤ b → b < 118 → ¬ X b) : c_O w' := by
  obtain ⟨⟨bl, bo, h0⟩, h1, h2, h3⟩ := h
  exact ⟨⟨bl, bo, hs.at (hx _ (by omega) (by omega)) h0⟩, h1.same hs (fun b b1 b2 => hx b (by omega) (by omega)), h2.same hs (fun b b1 b2 => hx b (by omega) (by omega)), h3.same hs (fun b b1 b2 => hx b (by omega) (by omega))⟩
theorem c_4.same {w w' : am_W} {a : Nat} {X : Nat → Prop} (h : c_4 w a) (hs : am_same X w w') (hx : ¬ X a) : c_4 w' a := by
  obtain ⟨f, h⟩ := h
  exact ⟨f, hs.at hx h⟩
def c_C (w : am_W) : Prop := (∃ (rc fr : Int32) (sd : Int64), w[118]? = some (.inr (1, [.ref 119, .ref 123, .ref 131, .ref 132, .int rc, .int fr, .long sd]))) ∧ c_R w 119 ∧ c_D w 123 ∧ c_4 w 131 ∧ c_4 w 132
theorem c_C.same {w w' : am_W} {X : Nat → Prop} (h : c_C w) (hs : am_same X w w') (hx : ∀ b, 118 ≤ b → b < 133 → ¬ X b) : c_C w' := by
  obtain ⟨⟨rc, fr, sd, h0⟩, h1, h2, h3, h4⟩ := h
  exact ⟨⟨rc, fr, sd, hs.at (hx _ (by omega) (by omega)) h0⟩, h1.same hs (fun b b1 b2 => hx b (by omega) (by omega)), h2.same hs (fun b b1 b2 => hx b (by omega) (by omega)), h3.same hs (hx _ (by omega) (by omega)), h4.same hs (hx _ (by omega) (by omega))⟩
