/-! the reader: what the text says, whatever lay in the draft -/
def p_eq (st : Nat) (D E : p_D) : Prop := D.1 = E.1 ∧ D.2.1 = E.2.1 ∧ D.2.2.1 = E.2.2.1 ∧ D.2.2.2.1 = E.2.2.2.1 ∧ (∀ h, h < D.2.2.1 → (h + 1 < D.2.2.1 ∨ st ≠ 4) → D.2.2.2.2.1 h = E.2.2.2.2.1 h) ∧ (∀ h, h < D.2.2.1 → (h + 1 < D.2.2.1 ∨ (st ≠ 4 ∧ st ≠ 5)) → D.2.2.2.2.2.1 h = E.2.2.2.2.2.1 h) ∧ (∀ h, h < D.2.2.1 → (h + 1 < D.2.2.1 ∨ (st ≠ 4 ∧ st ≠ 5 ∧ st ≠ 6)) → D.2.2.2.2.2.2.1 h = E.2.2.2.2.2.2.1 h) ∧ (∀ i, i < D.2.2.2.1 → (i + 1 < D.2.2.2.1 ∨ st ≠ 7) → D.2.2.2.2.2.2.2 i = E.2.2.2.2.2.2.2 i)
def i_fg (m : Nat) (x : Int32) : Prop := ∃ a : Nat, a ≤ m ∧ x = nI a
def p_rg (st : Nat) (D : p_D) : Prop := i_fg 9 D.1 ∧ (∀ h, h < D.2.2.1 → (h + 1 < D.2.2.1 ∨ st ≠ 4) → i_fg 9 (D.2.2.2.2.1 h)) ∧ (∀ h, h < D.2.2.1 → (h + 1 < D.2.2.1 ∨ (st ≠ 4 ∧ st ≠ 5)) → i_fg 3 (D.2.2.2.2.2.1 h)) ∧ (∀ h, h < D.2.2.1 → (h + 1 < D.2.2.1 ∨ (st ≠ 4 ∧ st ≠ 5 ∧ st ≠ 6)) → i_fg 9 (D.2.2.2.2.2.2.1 h)) ∧ (∀ i, i < D.2.2.2.1 → (i + 1 < D.2.2.2.1 ∨ st ≠ 7) → i_fg 3 (D.2.2.2.2.2.2.2 i))
theorem i_fg_of {x M : Int32} {m : Nat} (hM : M.toInt = m) (h : 0 ≤ x ∧ x ≤ M) : i_fg m x := by
  obtain ⟨j, h1, h2⟩ := nI_of2 hM (Int32.not_lt.mpr h.1) h.2
  exact ⟨j, h1, h2⟩
theorem p_up {f g : Nat → Int32} {n : Nat} {x : Int32} {Q : Prop} (h : ∀ k, k < n → (k + 1 < n ∨ Q) → f k = g k) : ∀ k, k < n → upd f (n - 1) x k = upd g (n - 1) x k := by
  intro k hk
  by_cases e : k = n - 1
  · rw [e, pk_us, pk_us]
  · rw [pk_un e, pk_un e]; exact h k hk (Or.inl (by omega))
theorem p_ur {f : Nat → Int32} {n m : Nat} {x : Int32} {Q : Prop} (h : ∀ k, k < n → (k + 1 < n ∨ Q) → i_fg m (f k)) (hx : i_fg m x) : ∀ k, k < n → i_fg m (upd f (n - 1) x k) := by
  intro k hk
  by_cases e : k = n - 1
  · rw [e, pk_us]; exact hx
  · rw [pk_un e]; exact h k hk (Or.inl (by omega))
theorem p_step_n {st : Nat} {D E : p_D} {c : Int32} (h : p_eq st D E) (hn : p_step st D c = none) : p_step st E c = none := by
  obtain ⟨tr, ri, n, kk, wa, ki, ba, he⟩ := D
  obtain ⟨tr', ri', n', kk', wa', ki', ba', he'⟩ := E
  obtain ⟨h1, h2, h3, h4, -⟩ := h
  have h3 : n = n' := h3
  have h4 : kk = kk' := h4
  subst h3 h4
  match st with
  | 0 => revert hn; show (if c = 84 then _ else none) = none → (if c = 84 then _ else none) = none; split <;> simp
  | 1 => revert hn; show (if 0 ≤ c - 48 ∧ c - 48 ≤ 9 then _ else none) = none → (if 0 ≤ c - 48 ∧ c - 48 ≤ 9 then _ else none) = none; split <;> simp
  | 2 => revert hn; show (if 0 ≤ c - 48 ∧ c - 48 ≤ 1 then _ else none) = none → (if 0 ≤ c - 48 ∧ c - 48 ≤ 1 then _ else none) = none; split <;> simp
  | 3 => revert hn; show (if c = 72 ∧ n < 6 then _ else if c = 68 ∧ kk < 5 then _ else none) = none → (if c = 72 ∧ n < 6 then _ else if c = 68 ∧ kk < 5 then _ else none) = none; split <;> first | simp | (split <;> simp)
  | 4 => revert hn; show (if 0 ≤ c - 48 ∧ c - 48 ≤ 9 then _ else none) = none → (if 0 ≤ c - 48 ∧ c - 48 ≤ 9 then _ else none) = none; split <;> simp
  | 5 => revert hn; show (if 0 ≤ c - 48 ∧ c - 48 ≤ 3 then _ else none) = none → (if 0 ≤ c - 48 ∧ c - 48 ≤ 3 then _ else none) = none; split <;> simp
  | 6 => revert hn; show (if 0 ≤ c - 48 ∧ c - 48 ≤ 9 then _ else none) = none → (if 0 ≤ c - 48 ∧ c - 48 ≤ 9 then _ else none) = none; split <;> simp
  | 7 => revert hn; show (if 0 ≤ c - 48 ∧ c - 48 ≤ 3 then _ else none) = none → (if 0 ≤ c - 48 ∧ c - 48 ≤ 3 then _ else none) = none; split <;> simp
  | st + 8 => rfl
theorem p_step_s {st : Nat} {D E : p_D} {c : Int32} (h : p_eq st D E) {q : Nat × p_D} (hs : p_step st D c = some q) : ∃ q', p_step st E c = some q' ∧ q'.1 = q.1 ∧ p_eq q.1 q.2 q'.2 := by
  obtain ⟨tr, ri, n, kk, wa, ki, ba, he⟩ := D
  obtain ⟨tr', ri', n', kk', wa', ki', ba', he'⟩ := E
  obtain ⟨h1, h2, h3, h4, h5, h6, h7, h8⟩ := h
  have h1 : tr = tr' := h1
  have h2 : ri = ri' := h2
  have h3 : n = n' := h3
  have h4 : kk = kk' := h4
  have h5 : ∀ h, h < n → (h + 1 < n ∨ st ≠ 4) → wa h = wa' h := h5
  have h6 : ∀ h, h < n → (h + 1 < n ∨ (st ≠ 4 ∧ st ≠ 5)) → ki h = ki' h := h6
  have h7 : ∀ h, h < n → (h + 1 < n ∨ (st ≠ 4 ∧ st ≠ 5 ∧ st ≠ 6)) → ba h = ba' h := h7
  have h8 : ∀ i, i < kk → (i + 1 < kk ∨ st ≠ 7) → he i = he' i := h8
  subst h1 h2 h3 h4
  match st with
  | 0 =>
    have hs : (if c = 84 then some (1, ((tr, ri, n, kk, wa, ki, ba, he) : p_D)) else none) = some q := hs
    by_cases e : c = 84
    · rw [if_pos e] at hs
      cases hs
      exact ⟨_, if_pos e, rfl, rfl, rfl, rfl, rfl, fun h a b => h5 h a (Or.inr (by decide)), fun h a b => h6 h a (Or.inr (by decide)), fun h a b => h7 h a (Or.inr (by decide)), fun h a b => h8 h a (Or.inr (by decide))⟩
    · rw [if_neg e] at hs; cases hs
  | 1 =>
    have hs : (if 0 ≤ c - 48 ∧ c - 48 ≤ 9 then some (2, ((c - 48, ri, n, kk, wa, ki, ba, he) : p_D)) else none) = some q := hs
    by_cases e : 0 ≤ c - 48 ∧ c - 48 ≤ 9
    · rw [if_pos e] at hs
      cases hs
      exact ⟨_, if_pos e, rfl, rfl, rfl, rfl, rfl, fun h a b => h5 h a (Or.inr (by decide)), fun h a b => h6 h a (Or.inr (by decide)), fun h a b => h7 h a (Or.inr (by decide)), fun h a b => h8 h a (Or.inr (by decide))⟩
    · rw [if_neg e] at hs; cases hs
  | 2 =>
    have hs : (if 0 ≤ c - 48 ∧ c - 48 ≤ 1 then some (3, ((tr, (if c - 48 = 1 then 1 else 0), n, kk, wa, ki, ba, he) : p_D)) else none) = some q := hs
    by_cases e : 0 ≤ c - 48 ∧ c - 48 ≤ 1
    · rw [if_pos e] at hs
      cases hs
      exact ⟨_, if_pos e, rfl, rfl, rfl, rfl, rfl, fun h a b => h5 h a (Or.inr (by decide)), fun h a b => h6 h a (Or.inr (by decide)), fun h a b => h7 h a (Or.inr (by decide)), fun h a b => h8 h a (Or.inr (by decide))⟩
    · rw [if_neg e] at hs; cases hs
  | 3 =>
    have hs : (if c = 72 ∧ n < 6 then some (4, ((tr, ri, n + 1, kk, wa, ki, ba, he) : p_D)) else if c = 68 ∧ kk < 5 then some (7, ((tr, ri, n, kk + 1, wa, ki, ba, he) : p_D)) else none) = some q := hs
    by_cases e : c = 72 ∧ n < 6
    · rw [if_pos e] at hs
      cases hs
      exact ⟨_, if_pos e, rfl, rfl, rfl, rfl, rfl, fun h a b => h5 h (by rcases b with b | b; (have b : h + 1 < n + 1 := b; omega); exact absurd rfl b) (Or.inr (by decide)), fun h a b => h6 h (by rcases b with b | b; (have b : h + 1 < n + 1 := b; omega); exact absurd rfl b.1) (Or.inr (by decide)), fun h a b => h7 h (by rcases b with b | b; (have b : h + 1 < n + 1 := b; omega); exact absurd rfl b.1) (Or.inr (by decide)), fun h a b => h8 h a (Or.inr (by decide))⟩
    · rw [if_neg e] at hs
      by_cases e2 : c = 68 ∧ kk < 5
      · rw [if_pos e2] at hs
        cases hs
        exact ⟨_, (if_neg e).trans (if_pos e2), rfl, rfl, rfl, rfl, rfl, fun h a b => h5 h a (Or.inr (by decide)), fun h a b => h6 h a (Or.inr (by decide)), fun h a b => h7 h a (Or.inr (by decide)), fun h a b => h8 h (by rcases b with b | b; (have b : h + 1 < kk + 1 := b; omega); exact absurd rfl b) (Or.inr (by decide))⟩
      · rw [if_neg e2] at hs; cases hs
  | 4 =>
    have hs : (if 0 ≤ c - 48 ∧ c - 48 ≤ 9 then some (5, ((tr, ri, n, kk, upd wa (n - 1) (c - 48), ki, ba, he) : p_D)) else none) = some q := hs
    by_cases e : 0 ≤ c - 48 ∧ c - 48 ≤ 9
    · rw [if_pos e] at hs
      cases hs
      exact ⟨_, if_pos e, rfl, rfl, rfl, rfl, rfl, fun h a b => p_up h5 h a, fun h a b => h6 h a (by rcases b with b | b; exact Or.inl b; exact absurd rfl b.2), fun h a b => h7 h a (by rcases b with b | b; exact Or.inl b; exact absurd rfl b.2.1), fun h a b => h8 h a (Or.inr (by decide))⟩
    · rw [if_neg e] at hs; cases hs
  | 5 =>
    have hs : (if 0 ≤ c - 48 ∧ c - 48 ≤ 3 then some (6, ((tr, ri, n, kk, wa, upd ki (n - 1) (c - 48), ba, he) : p_D)) else none) = some q := hs
    by_cases e : 0 ≤ c - 48 ∧ c - 48 ≤ 3
    · rw [if_pos e] at hs
      cases hs
      exact ⟨_, if_pos e, rfl, rfl, rfl, rfl, rfl, fun h a b => h5 h a (Or.inr (by decide)), fun h a b => p_up h6 h a, fun h a b => h7 h a (by rcases b with b | b; exact Or.inl b; exact absurd rfl b.2.2), fun h a b => h8 h a (Or.inr (by decide))⟩
    · rw [if_neg e] at hs; cases hs
  | 6 =>
    have hs : (if 0 ≤ c - 48 ∧ c - 48 ≤ 9 then some (3, ((tr, ri, n, kk, wa, ki, upd ba (n - 1) (c - 48), he) : p_D)) else none) = some q := hs
    by_cases e : 0 ≤ c - 48 ∧ c - 48 ≤ 9
    · rw [if_pos e] at hs
      cases hs
      exact ⟨_, if_pos e, rfl, rfl, rfl, rfl, rfl, fun h a b => h5 h a (Or.inr (by decide)), fun h a b => h6 h a (Or.inr (by decide)), fun h a b => p_up h7 h a, fun h a b => h8 h a (Or.inr (by decide))⟩
    · rw [if_neg e] at hs; cases hs
  | 7 =>
    have hs : (if 0 ≤ c - 48 ∧ c - 48 ≤ 3 then some (3, ((tr, ri, n, kk, wa, ki, ba, upd he (kk - 1) (c - 48)) : p_D)) else none) = some q := hs
    by_cases e : 0 ≤ c - 48 ∧ c - 48 ≤ 3
    · rw [if_pos e] at hs
      cases hs
      exact ⟨_, if_pos e, rfl, rfl, rfl, rfl, rfl, fun h a b => h5 h a (Or.inr (by decide)), fun h a b => h6 h a (Or.inr (by decide)), fun h a b => h7 h a (Or.inr (by decide)), fun h a b => p_up h8 h a⟩
    · rw [if_neg e] at hs; cases hs
  | st + 8 => exact absurd hs (by intro e; cases e)
def p_D0 : p_D := (0, 0, 0, 0, (fun _ => 0), (fun _ => 0), (fun _ => 0), (fun _ => 0))
theorem p_run_n {tx : Nat → Int32} {D0 : p_D} {i : Nat} (h : p_run tx D0 i = none) : p_run tx D0 (i + 1) = none := by show (match p_run tx D0 i with | none => none | some q => p_step q.1 q.2 (tx i)) = _; rw [h]
/-- the run does not look at what lay in the draft -/
theorem p_run_eq {tx ty : Nat → Int32} {wa ki ba he : Nat → Int32} : ∀ (i : Nat), (∀ k, k < i → tx k = ty k) → (p_run tx (0, 0, 0, 0, wa, ki, ba, he) i = none ∧ p_run ty p_D0 i = none) ∨ ∃ st D E, p_run tx (0, 0, 0, 0, wa, ki, ba, he) i = some (st, D) ∧ p_run ty p_D0 i = some (st, E) ∧ p_eq st D E
  | 0, _ => Or.inr ⟨0, _, _, rfl, rfl, rfl, rfl, rfl, rfl, fun h a => absurd a (Nat.not_lt_zero h), fun h a => absurd a (Nat.not_lt_zero h), fun h a => absurd a (Nat.not_lt_zero h), fun h a => absurd a (Nat.not_lt_zero h)⟩
  | i + 1, hk => by
    rcases p_run_eq (wa := wa) (ki := ki) (ba := ba) (he := he) i (fun k q => hk k (by omega)) with ⟨h1, h2⟩ | ⟨st, D, E, h1, h2, h3⟩
    · exact Or.inl ⟨p_run_n h1, p_run_n h2⟩
    · rw [p_run_s h1, p_run_s h2, hk i (by omega)]
      cases e : p_step st D (ty i) with
      | none => exact Or.inl ⟨rfl, p_step_n h3 e⟩
      | some q =>
        obtain ⟨q', a, b, c⟩ := p_step_s h3 e
        exact Or.inr ⟨q.1, q.2, q'.2, rfl, by rw [a, ← b], c⟩
/-- the fault and THE ROW that the text tells -/
def p_ans (tx : Nat → Int32) (n : Nat) (r : Int32) (D : p_D) : Prop := (∃ st, p_run tx p_D0 n = some (st, D) ∧ r = (if st = 3 then -9 else nI n)) ∨ (∃ f st, f < n ∧ p_run tx p_D0 f = some (st, D) ∧ p_run tx p_D0 (f + 1) = none ∧ r = nI f)
theorem p_run_nn {tx : Nat → Int32} {D0 : p_D} {i : Nat} (h : p_run tx D0 i = none) : ∀ k, i ≤ k → p_run tx D0 k = none := by
  intro k
  induction k with
  | zero => intro hk; rw [show i = 0 by omega] at h; exact h
  | succ k ih =>
    intro hk
    rcases Nat.lt_or_ge i (k + 1) with q | q
    · exact p_run_n (ih (by omega))
    · rw [show k + 1 = i by omega]; exact h
theorem p_ans_u {tx : Nat → Int32} {n : Nat} {r r' : Int32} {D D' : p_D} (h : p_ans tx n r D) (h' : p_ans tx n r' D') : r = r' ∧ D = D' := by
  rcases h with ⟨st, a, b⟩ | ⟨f, st, a, b, c, d⟩
  · rcases h' with ⟨st', a', b'⟩ | ⟨f', st', a', b', c', d'⟩
    · rw [a] at a'; cases a'; exact ⟨by rw [b, b'], rfl⟩
    · rw [p_run_nn c' n (by omega)] at a; cases a
  · rcases h' with ⟨st', a', b'⟩ | ⟨f', st', a', b', c', d'⟩
    · rw [p_run_nn c n (by omega)] at a'; cases a'
    · have e : f = f' := by
        rcases Nat.lt_trichotomy f f' with q | q | q
        · rw [p_run_nn c f' (by omega)] at b'; cases b'
        · exact q
        · rw [p_run_nn c' f (by omega)] at b; cases b
      subst e
      rw [b] at b'; cases b'
      exact ⟨by rw [d, d'], rfl⟩
theorem p_read_ans {tx ty : Nat → Int32} {wa ki ba he : Nat → Int32} {n : Nat} {res : Option Value} {w' : am_W} (h : p_read tx (0, 0, 0, 0, wa, ki, ba, he) n res w') (he0 : ∀ k, k < n → tx k = ty k) (hn : n ≤ 40) : ∃ r E st D, res = some (.int r) ∧ p_ans ty n r E ∧ (r = -9 → st = 3) ∧ p_eq st D E ∧ p_is w' D ∧ p_ok st D := by
  rcases h with ⟨st, D, a, b, c, d⟩ | ⟨f, st, D, a, b, c, d, e, g⟩
  · rcases p_run_eq (wa := wa) (ki := ki) (ba := ba) (he := he) n he0 with ⟨h1, h2⟩ | ⟨st', D', E, h1, h2, h3⟩
    · rw [a] at h1; cases h1
    · rw [a] at h1; cases h1
      refine ⟨_, E, st, D, b, Or.inl ⟨st, h2, rfl⟩, fun q => ?_, h3, c, d⟩
      by_cases e : st = 3
      · exact e
      · rw [if_neg e] at q; exact absurd q ((by decide : ∀ k, k < 41 → ¬ nI k = -9) n (by omega))
  · rcases p_run_eq (wa := wa) (ki := ki) (ba := ba) (he := he) f (fun k q => he0 k (by omega)) with ⟨h1, h2⟩ | ⟨st', D', E, h1, h2, h3⟩
    · rw [b] at h1; cases h1
    · rw [b] at h1; cases h1
      have h4 : p_run ty p_D0 (f + 1) = none := by
        rcases p_run_eq (wa := wa) (ki := ki) (ba := ba) (he := he) (f + 1) (fun k q => he0 k (by omega)) with ⟨h1, h2⟩ | ⟨st', D', E, h1, h2, h3⟩
        · exact h2
        · rw [c] at h1; cases h1
      exact ⟨_, E, st, D, d, Or.inr ⟨f, st, a, h2, h4, rfl⟩, fun q => absurd q ((by decide : ∀ k, k < 41 → ¬ nI k = -9) f (by omega)), h3, e, g⟩
