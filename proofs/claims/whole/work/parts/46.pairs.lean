/-! class and reference, call by call -/
abbrev x_St : Type := (Nat × (Nat → Int32)) × p_D × s_S × List s_S × (Nat → Option s_S) × x_N × Int64
def g_C (w : am_W) (σ : x_St) : Prop := c_W w σ.1 σ.2.1 σ.2.2.1 σ.2.2.2.1 σ.2.2.2.2.1 σ.2.2.2.2.2.1 σ.2.2.2.2.2.2
def g_E (w : am_W) (σ : x_St) : Prop := d_W w σ.1 σ.2.1 σ.2.2.1 σ.2.2.2.1 σ.2.2.2.2.1 σ.2.2.2.2.2.1 σ.2.2.2.2.2.2
def g_V (d : Nat) (σ : x_St) : Prop := v_W d σ.2.1 σ.2.2.1 σ.2.2.2.1 σ.2.2.2.2.1
def g_P (d : Nat) (σ : x_St) (y z : Nat) (lc lm : List Value) (v : Value) (σ' : x_St) : Prop := g_V (d + 1) σ' ∧ (∀ w, g_C w σ → am_Go y (0, lc, [], w, 0, 0) (fun res w' => res = some v ∧ g_C w' σ' ∧ am_same (rg 2 131) w w')) ∧ (∀ w, g_E w σ → am_Go z (0, lm, [], w, 0, 0) (fun res w' => res = some v ∧ g_E w' σ' ∧ am_same (rg 133 17) w w'))
def g_I (d : Nat) (σ : x_St) (y z : Nat) (lc lm : List Value) : Prop := ∃ (x : Int32) (σ' : x_St), g_P d σ y z lc lm (.int x) σ'
theorem g_I.of {d : Nat} {σ : x_St} {y z : Nat} {lc lm : List Value} (x : Int32) (σ' : x_St) (hV : g_V (d + 1) σ') (h1 : ∀ w, g_C w σ → am_Go y (0, lc, [], w, 0, 0) (fun res w' => res = some (.int x) ∧ g_C w' σ' ∧ am_same (rg 2 131) w w')) (h2 : ∀ w, g_E w σ → am_Go z (0, lm, [], w, 0, 0) (fun res w' => res = some (.int x) ∧ g_E w' σ' ∧ am_same (rg 133 17) w w')) : g_I d σ y z lc lm := ⟨x, σ', hV, h1, h2⟩
theorem v_Y.up {T : p_D} {d e : Nat} {S : s_S} (h : v_Y T d S) (hde : d ≤ e) : v_Y T e S := ⟨h.1, Nat.le_trans h.2.1 hde, h.2.2⟩
theorem v_W.up {d e : Nat} {T : p_D} {S : s_S} {A : List s_S} {K : Nat → Option s_S} (h : v_W d T S A K) (hde : d ≤ e) : v_W e T S A K := ⟨h.1, h.2.1.up hde, fun S' hS' => (h.2.2.1 S' hS').up hde, fun i S' hS' => (h.2.2.2 i S' hS').up hde⟩
theorem v_W.act {d : Nat} {T : p_D} {S S' : s_S} {A : List s_S} {K : Nat → Option s_S} (h : v_W d T S A K) (hS : v_Y T (d + 1) S') : v_W (d + 1) T S' ((S :: A).take 14) K := by
  refine ⟨h.1, hS, fun S2 h2 => ?_, fun i S2 h2 => (h.2.2.2 i S2 h2).up (by omega)⟩
  have h3 := List.mem_of_mem_take h2
  rcases List.mem_cons.mp h3 with e | e
  · rw [e]; exact h.2.1.up (by omega)
  · exact (h.2.2.1 S2 e).up (by omega)
theorem i_or (g A : Nat) : nI g ||| nI A = nI (g ||| A) := by
  apply Int32.toBitVec_inj.mp
  show BitVec.ofNat 32 g ||| BitVec.ofNat 32 A = BitVec.ofNat 32 (g ||| A)
  exact BitVec.ofNat_or.symm
theorem i_xor (g A : Nat) : nI g ^^^ nI A = nI (g ^^^ A) := by
  apply Int32.toBitVec_inj.mp
  show BitVec.ofNat 32 g ^^^ BitVec.ofNat 32 A = BitVec.ofNat 32 (g ^^^ A)
  exact BitVec.ofNat_xor.symm
theorem m_lf_fg {T : p_D} {S : s_S} (hv : v_G T S) {h : Nat} (hh : h < T.2.2.1) : i_fg 9 (m_lf T S 0 h) := by
  obtain ⟨p, hp, ep⟩ := m_wt_fg hv 0 hh
  obtain ⟨q, hq, eq⟩ := i_fg_add (m_gv_fg hv 0 hh) (hv.2.2 h hh)
  obtain ⟨r, hr, er⟩ := (hv.1.2.2.1 h hh).2.2
  unfold m_lf i_lf i_dr
  rw [ep, eq, er]
  have hm : ∃ m, m ≤ q ∧ i_min (nI p) (nI q) = nI m := by
    unfold i_min
    by_cases c : nI q < nI p
    · rw [if_pos c]; exact ⟨q, Nat.le_refl _, rfl⟩
    · rw [if_neg c]
      have : ¬ q < p := fun e => c (nI_lt e (by omega))
      exact ⟨p, by omega, rfl⟩
  obtain ⟨m, hm1, hm2⟩ := hm
  rw [hm2, pk_sub hm1]
  unfold i_min
  by_cases c : nI r < nI (q - m)
  · rw [if_pos c]; exact ⟨r, hr, rfl⟩
  · rw [if_neg c]
    have : ¬ r < q - m := fun e => c (nI_lt e (by omega))
    exact ⟨q - m, by omega, rfl⟩
theorem v_Y.pass {T : p_D} {d : Nat} {S : s_S} (hT : v_T T ∧ v_F T) (h : v_Y T d S) (hd : d ≤ 1000) : v_Y T (d + 1) (m_pass T S) := ⟨m_pass_v h.1 (by have := h.2.1; omega), by show S.2.2.2.2.2.2 + 1 ≤ d + 1; have := h.2.1; omega, ⟨0, Nat.two_pow_pos _, rfl⟩, h.2.2.2.1, fun k hk => m_lf_fg ⟨hT, h.1, h.2.2.2.2⟩ hk⟩
theorem v_Y.swap {T : p_D} {d : Nat} {S : s_S} (hn : T.2.2.1 ≤ 6) (h : v_Y T d S) {a b : Nat} (ha : a < T.2.2.1) (hb : b < T.2.2.1) : v_Y T (d + 1) (m_swap S a b) := ⟨m_swap_v hn h.1 ha hb, Nat.le_succ_of_le h.2.1, h.2.2⟩
theorem v_Y.salt {T : p_D} {d : Nat} {S : s_S} (hn : T.2.2.1 ≤ 6) (h : v_Y T d S) {k : Nat} (hk : k < T.2.2.1) : v_Y T (d + 1) (m_salt S (nI k)) := by
  obtain ⟨a, ha, ea⟩ := h.2.2.1
  refine ⟨h.1, Nat.le_succ_of_le h.2.1, ⟨a ||| 2 ^ k, Nat.or_lt_two_pow ha (Nat.pow_lt_pow_right (by decide) hk), ?_⟩, h.2.2.2⟩
  show S.2.2.2.2.1 ||| 1 <<< (nI k &&& 31) = _
  rw [ea, i_shl1 k (by omega), i_or]
theorem v_Y.away {T : p_D} {d : Nat} {S : s_S} (hn : T.2.2.1 ≤ 6) (h : v_Y T d S) {k : Nat} (hk : k < T.2.2.1) : v_Y T (d + 1) (m_away S (nI k)) := by
  obtain ⟨a, ha, ea⟩ := h.2.2.2.1
  refine ⟨h.1, Nat.le_succ_of_le h.2.1, h.2.2.1, ⟨a ^^^ 2 ^ k, Nat.xor_lt_two_pow ha (Nat.pow_lt_pow_right (by decide) hk), ?_⟩, h.2.2.2.2⟩
  show S.2.2.2.2.2.1 ^^^ 1 <<< (nI k &&& 31) = _
  rw [ea, i_shl1 k (by omega), i_xor]
theorem v_W0 (d : Nat) {T : p_D} (hT : v_T T ∧ v_F T) : v_W d T m_S0 [] (fun _ => none) := ⟨hT, ⟨m_S0_v _, Nat.zero_le _, ⟨0, Nat.two_pow_pos _, rfl⟩, ⟨0, Nat.two_pow_pos _, rfl⟩, fun h _ => ⟨0, Nat.zero_le _, rfl⟩⟩, fun S' h => absurd h List.not_mem_nil, fun i S' h => by cases h⟩
theorem p_ans_ex (tx : Nat → Int32) (n : Nat) : ∃ r E, p_ans tx n r E := by
  have h : ∀ k, (∃ q, p_run tx p_D0 k = some q) ∨ ∃ f st D, f < k ∧ p_run tx p_D0 f = some (st, D) ∧ p_run tx p_D0 (f + 1) = none := by
    intro k
    induction k with
    | zero => exact Or.inl ⟨_, rfl⟩
    | succ k ih =>
      rcases ih with ⟨q, hq⟩ | ⟨f, st, D, h1, h2⟩
      · cases e : p_run tx p_D0 (k + 1) with
        | none => exact Or.inr ⟨k, q.1, q.2, by omega, hq, e⟩
        | some q2 => exact Or.inl ⟨q2, rfl⟩
      · exact Or.inr ⟨f, st, D, by omega, h2⟩
  rcases h n with ⟨q, hq⟩ | ⟨f, st, D, h1, h2, h3⟩
  · exact ⟨_, q.2, Or.inl ⟨q.1, hq, rfl⟩⟩
  · exact ⟨_, D, Or.inr ⟨f, st, h1, h2, h3, rfl⟩⟩
theorem m_cask_ex (T : p_D) (S : s_S) (k : Nat) : ∃ r, m_cask T S k (some (.int r)) := by
  by_cases h : ∃ b, b < 10 ∧ m_ck T S k b
  · obtain ⟨b, ⟨hb, hc⟩, hm⟩ := pk_least (fun b => b < 10 ∧ m_ck T S k b) h
    exact ⟨nI b, Or.inl ⟨b, hb, hc, fun i hi q => hm i hi ⟨by omega, q⟩, rfl⟩⟩
  · exact ⟨-9, Or.inr ⟨fun i hi q => h ⟨i, hi, q⟩, rfl⟩⟩
theorem m_cask_u {T : p_D} {S : s_S} {k : Nat} {r r' : Int32} (h : m_cask T S k (some (.int r))) (h' : m_cask T S k (some (.int r'))) : r = r' := by
  rcases h with ⟨b, hb, hc, hm, e⟩ | ⟨hm, e⟩ <;> rcases h' with ⟨b', hb', hc', hm', e'⟩ | ⟨hm', e'⟩
  · cases e; cases e'
    rcases Nat.lt_trichotomy b b' with q | q | q
    · exact absurd hc (hm' b q)
    · rw [q]
    · exact absurd hc' (hm b' q)
  · exact absurd hc (hm' b hb)
  · exact absurd hc' (hm b' hb')
  · cases e; cases e'; rfl
theorem m_jr_ex (T : p_D) (S : s_S) (n R : Nat) : ∃ r, m_jr T S n R (some (.int r)) := by
  by_cases h : ∃ b, b < n ∧ ¬ m_ok T S n R b
  · obtain ⟨b, ⟨hb, hc⟩, hm⟩ := pk_least (fun b => b < n ∧ ¬ m_ok T S n R b) h
    exact ⟨nI b, Or.inl ⟨b, hb, hc, fun i hi => Classical.byContradiction (fun q => hm i hi ⟨by omega, q⟩), rfl⟩⟩
  · exact ⟨-9, Or.inr ⟨fun i hi => Classical.byContradiction (fun q => h ⟨i, hi, q⟩), rfl⟩⟩
theorem m_jr_u {T : p_D} {S : s_S} {n R : Nat} {r r' : Int32} (h : m_jr T S n R (some (.int r))) (h' : m_jr T S n R (some (.int r'))) : r = r' := by
  rcases h with ⟨b, hb, hc, hm, e⟩ | ⟨hm, e⟩ <;> rcases h' with ⟨b', hb', hc', hm', e'⟩ | ⟨hm', e'⟩
  · cases e; cases e'
    rcases Nat.lt_trichotomy b b' with q | q | q
    · exact absurd (hm' b q) hc
    · rw [q]
    · exact absurd (hm b' q) hc'
  · exact absurd (hm' b hb) hc
  · exact absurd (hm b' hb') hc'
  · cases e; cases e'; rfl
theorem p_write (d : Nat) (hd : d ≤ 1000) (t : Nat × (Nat → Int32)) (T : p_D) (S : s_S) (A : List s_S) (K : Nat → Option s_S) (N : x_N) (sd : Int64) (hv : v_W d T S A K) (c : Int32) : g_I d (t, T, S, A, K, N, sd) 64 109 [.ref 2, .int c] [.ref 133, .int c] := by
  exact g_I.of ((x_write t c).1) ((x_write t c).2, T, S, A, K, N, sd) (hv.up (Nat.le_succ d)) (fun w hw => f_write w t T S A K N sd d hd hv hw c) (fun w hw => e_write w t T S A K N sd d hd hv hw c)
theorem p_wipe (d : Nat) (hd : d ≤ 1000) (t : Nat × (Nat → Int32)) (T : p_D) (S : s_S) (A : List s_S) (K : Nat → Option s_S) (N : x_N) (sd : Int64) (hv : v_W d T S A K)  : g_I d (t, T, S, A, K, N, sd) 65 110 [.ref 2] [.ref 133, .float 0] := by
  exact g_I.of (nI t.1) ((0, t.2), T, S, A, K, N, sd) (hv.up (Nat.le_succ d)) (fun w hw => f_wipe w t T S A K N sd d hd hv hw ) (fun w hw => e_wipe w t T S A K N sd d hd hv hw )
theorem p_fault (d : Nat) (hd : d ≤ 1000) (t : Nat × (Nat → Int32)) (T : p_D) (S : s_S) (A : List s_S) (K : Nat → Option s_S) (N : x_N) (sd : Int64) (hv : v_W d T S A K)  : g_I d (t, T, S, A, K, N, sd) 66 113 [.ref 2] [.ref 133] := by
  obtain ⟨rr, E, h0⟩ := p_ans_ex t.2 t.1
  refine g_I.of rr (t, T, S, A, K, N, sd) (hv.up (Nat.le_succ d)) (fun w hw => (f_fault w t T S A K N sd d hd hv hw).mono ?_) (fun w hw => (e_fault w t T S A K N sd d hd hv hw).mono ?_)
  · rintro res w' ⟨r1, E1, h1, rfl, h2⟩
    obtain ⟨rfl, rfl⟩ := p_ans_u h0 h1
    exact ⟨rfl, h2⟩
  · rintro res w' ⟨r1, E1, h1, rfl, h2⟩
    obtain ⟨rfl, rfl⟩ := p_ans_u h0 h1
    exact ⟨rfl, h2⟩
theorem p_row (d : Nat) (hd : d ≤ 1000) (t : Nat × (Nat → Int32)) (T : p_D) (S : s_S) (A : List s_S) (K : Nat → Option s_S) (N : x_N) (sd : Int64) (hv : v_W d T S A K) (ht : t.1 ≤ 40) : g_I d (t, T, S, A, K, N, sd) 67 114 [.ref 2] [.ref 133, .float 0] := by
  obtain ⟨rr, E, h0⟩ := p_ans_ex t.2 t.1
  by_cases hr : rr = -9
  · subst hr
    have hE := p_ans_v ht h0
    refine g_I.of (10 * nI E.2.2.1 + nI E.2.2.2.1) (t, E, m_S0, [], (fun _ => none), N, sd) (v_W0 _ hE) (fun w hw => (f_row w t T S A K N sd d hd hv hw).mono ?_) (fun w hw => (e_row w t T S A K N sd d hd hv hw).mono ?_)
    · rintro res w' ⟨r1, E1, h1, h2⟩
      obtain ⟨rfl, rfl⟩ := p_ans_u h0 h1
      rcases h2 with ⟨q, -⟩ | ⟨-, -, rfl, h2⟩
      · exact absurd rfl q
      · exact ⟨rfl, h2⟩
    · rintro res w' ⟨r1, E1, h1, h2⟩
      obtain ⟨rfl, rfl⟩ := p_ans_u h0 h1
      rcases h2 with ⟨q, -⟩ | ⟨-, -, rfl, h2⟩
      · exact absurd rfl q
      · exact ⟨rfl, h2⟩
  · refine g_I.of (-3) (t, T, S, A, K, N, sd) (hv.up (Nat.le_succ d)) (fun w hw => (f_row w t T S A K N sd d hd hv hw).mono ?_) (fun w hw => (e_row w t T S A K N sd d hd hv hw).mono ?_)
    · rintro res w' ⟨r1, E1, h1, h2⟩
      obtain ⟨rfl, rfl⟩ := p_ans_u h0 h1
      rcases h2 with ⟨-, rfl, h2⟩ | ⟨q, -⟩
      · exact ⟨rfl, h2⟩
      · exact absurd q hr
    · rintro res w' ⟨r1, E1, h1, h2⟩
      obtain ⟨rfl, rfl⟩ := p_ans_u h0 h1
      rcases h2 with ⟨-, rfl, h2⟩ | ⟨q, -⟩
      · exact ⟨rfl, h2⟩
      · exact absurd q hr
theorem p_house (d : Nat) (hd : d ≤ 1000) (t : Nat × (Nat → Int32)) (T : p_D) (S : s_S) (A : List s_S) (K : Nat → Option s_S) (N : x_N) (sd : Int64) (hv : v_W d T S A K) (h wh : Int32) : g_I d (t, T, S, A, K, N, sd) 68 124 [.ref 2, .int h, .int wh] [.ref 133, .int h, .int wh] := by
  by_cases hh : i_H T.2.2.1 h
  · obtain ⟨k, hk, rfl⟩ := hh
    rcases i_sw (x := wh) 7 with q | ⟨j, hj, rfl⟩
    · exact g_I.of (-2) (t, T, S, A, K, N, sd) (hv.up (Nat.le_succ d)) (fun w hw => f_houseO w t T S A K N sd d hd hv hw k hk wh q) (fun w hw => e_houseO w t T S A K N sd d hd hv hw k hk wh q)
    · exact g_I.of (x_house T S k j) (t, T, S, A, K, N, sd) (hv.up (Nat.le_succ d)) (fun w hw => f_house w t T S A K N sd d hd hv hw k hk j hj) (fun w hw => e_house w t T S A K N sd d hd hv hw k hk j hj)
  · exact g_I.of (-1) (t, T, S, A, K, N, sd) (hv.up (Nat.le_succ d)) (fun w hw => f_houseN w t T S A K N sd d hd hv hw h hh wh) (fun w hw => e_houseN w t T S A K N sd d hd hv hw h hh wh)
theorem p_today (d : Nat) (hd : d ≤ 1000) (t : Nat × (Nat → Int32)) (T : p_D) (S : s_S) (A : List s_S) (K : Nat → Option s_S) (N : x_N) (sd : Int64) (hv : v_W d T S A K) (h wh : Int32) : g_I d (t, T, S, A, K, N, sd) 69 125 [.ref 2, .int h, .int wh] [.ref 133, .int h, .int wh] := by
  by_cases hh : i_H T.2.2.1 h
  · obtain ⟨k, hk, rfl⟩ := hh
    rcases i_sw (x := wh) 5 with q | ⟨j, hj, rfl⟩
    · exact g_I.of (-2) (t, T, S, A, K, N, sd) (hv.up (Nat.le_succ d)) (fun w hw => f_todayO w t T S A K N sd d hd hv hw k hk wh q) (fun w hw => e_todayO w t T S A K N sd d hd hv hw k hk wh q)
    · exact g_I.of (x_today T S k j) (t, T, S, A, K, N, sd) (hv.up (Nat.le_succ d)) (fun w hw => f_today w t T S A K N sd d hd hv hw k hk j hj) (fun w hw => e_today w t T S A K N sd d hd hv hw k hk j hj)
  · exact g_I.of (-1) (t, T, S, A, K, N, sd) (hv.up (Nat.le_succ d)) (fun w hw => f_todayN w t T S A K N sd d hd hv hw h hh wh) (fun w hw => e_todayN w t T S A K N sd d hd hv hw h hh wh)
theorem p_at (d : Nat) (hd : d ≤ 1000) (t : Nat × (Nat → Int32)) (T : p_D) (S : s_S) (A : List s_S) (K : Nat → Option s_S) (N : x_N) (sd : Int64) (hv : v_W d T S A K) (h : Int32) : g_I d (t, T, S, A, K, N, sd) 70 126 [.ref 2, .int h] [.ref 133, .int h] := by
  by_cases hh : i_H T.2.2.1 h
  · obtain ⟨k, hk, rfl⟩ := hh
    exact g_I.of (nI (S.1 k)) (t, T, S, A, K, N, sd) (hv.up (Nat.le_succ d)) (fun w hw => f_at w t T S A K N sd d hd hv hw k hk) (fun w hw => e_at w t T S A K N sd d hd hv hw k hk)
  · exact g_I.of (-9) (t, T, S, A, K, N, sd) (hv.up (Nat.le_succ d)) (fun w hw => f_atN w t T S A K N sd d hd hv hw h hh) (fun w hw => e_atN w t T S A K N sd d hd hv hw h hh)
theorem p_day (d : Nat) (hd : d ≤ 1000) (t : Nat × (Nat → Int32)) (T : p_D) (S : s_S) (A : List s_S) (K : Nat → Option s_S) (N : x_N) (sd : Int64) (hv : v_W d T S A K)  : g_I d (t, T, S, A, K, N, sd) 71 128 [.ref 2] [.ref 133] := by
  exact g_I.of (i_sum (m_lk T S 0) T.2.2.1) (t, T, m_pass T S, ((S :: A).take 14), K, N, sd) (hv.act (hv.2.1.pass hv.1 hd)) (fun w hw => f_day w t T S A K N sd d hd hv hw ) (fun w hw => e_day w t T S A K N sd d hd hv hw )
theorem p_swap (d : Nat) (hd : d ≤ 1000) (t : Nat × (Nat → Int32)) (T : p_D) (S : s_S) (A : List s_S) (K : Nat → Option s_S) (N : x_N) (sd : Int64) (hv : v_W d T S A K) (h g : Int32) : g_I d (t, T, S, A, K, N, sd) 72 130 [.ref 2, .int h, .int g] [.ref 133, .int h, .int g] := by
  by_cases hh : i_H T.2.2.1 h
  · obtain ⟨k, hk, rfl⟩ := hh
    by_cases hh : i_H T.2.2.1 g
    · obtain ⟨j, hj, rfl⟩ := hh
      by_cases hkj : k = j
      · subst hkj
        exact g_I.of (-2) (t, T, S, A, K, N, sd) (hv.up (Nat.le_succ d)) (fun w hw => f_swapE w t T S A K N sd d hd hv hw k hk) (fun w hw => e_swapE w t T S A K N sd d hd hv hw k hk)
      · exact g_I.of (nI ((m_swap S k j).2.1 k)) (t, T, m_swap S k j, ((S :: A).take 14), K, N, sd) (hv.act (hv.2.1.swap hv.1.1.1 hk hj)) (fun w hw => f_swap w t T S A K N sd d hd hv hw k hk j hj hkj) (fun w hw => e_swap w t T S A K N sd d hd hv hw k hk j hj hkj)
    · exact g_I.of (-1) (t, T, S, A, K, N, sd) (hv.up (Nat.le_succ d)) (fun w hw => f_swapM w t T S A K N sd d hd hv hw k hk g hh) (fun w hw => e_swapM w t T S A K N sd d hd hv hw k hk g hh)
  · exact g_I.of (-1) (t, T, S, A, K, N, sd) (hv.up (Nat.le_succ d)) (fun w hw => f_swapN w t T S A K N sd d hd hv hw h hh g) (fun w hw => e_swapN w t T S A K N sd d hd hv hw h hh g)
theorem p_salt (d : Nat) (hd : d ≤ 1000) (t : Nat × (Nat → Int32)) (T : p_D) (S : s_S) (A : List s_S) (K : Nat → Option s_S) (N : x_N) (sd : Int64) (hv : v_W d T S A K) (h : Int32) : g_I d (t, T, S, A, K, N, sd) 73 131 [.ref 2, .int h] [.ref 133, .int h] := by
  by_cases hh : i_H T.2.2.1 h
  · obtain ⟨k, hk, rfl⟩ := hh
    by_cases hb : (S.2.2.2.2.1 >>> (nI k &&& 31)) &&& 1 = 1
    · exact g_I.of (-3) (t, T, S, A, K, N, sd) (hv.up (Nat.le_succ d)) (fun w hw => f_saltS w t T S A K N sd d hd hv hw k hk hb) (fun w hw => e_saltS w t T S A K N sd d hd hv hw k hk hb)
    · exact g_I.of (m_wt T (m_salt S (nI k)) 0 k) (t, T, m_salt S (nI k), ((S :: A).take 14), K, N, sd) (hv.act (hv.2.1.salt hv.1.1.1 hk)) (fun w hw => f_salt w t T S A K N sd d hd hv hw k hk hb) (fun w hw => e_salt w t T S A K N sd d hd hv hw k hk hb)
  · exact g_I.of (-1) (t, T, S, A, K, N, sd) (hv.up (Nat.le_succ d)) (fun w hw => f_saltN w t T S A K N sd d hd hv hw h hh) (fun w hw => e_saltN w t T S A K N sd d hd hv hw h hh)
theorem p_away (d : Nat) (hd : d ≤ 1000) (t : Nat × (Nat → Int32)) (T : p_D) (S : s_S) (A : List s_S) (K : Nat → Option s_S) (N : x_N) (sd : Int64) (hv : v_W d T S A K) (h : Int32) : g_I d (t, T, S, A, K, N, sd) 74 132 [.ref 2, .int h] [.ref 133, .int h] := by
  by_cases hh : i_H T.2.2.1 h
  · obtain ⟨k, hk, rfl⟩ := hh
    exact g_I.of (if ((m_away S (nI k)).2.2.2.2.2.1 >>> (nI k &&& 31)) &&& 1 = 1 then 1 else 0) (t, T, m_away S (nI k), ((S :: A).take 14), K, N, sd) (hv.act (hv.2.1.away hv.1.1.1 hk)) (fun w hw => f_away w t T S A K N sd d hd hv hw k hk) (fun w hw => e_away w t T S A K N sd d hd hv hw k hk)
  · exact g_I.of (-1) (t, T, S, A, K, N, sd) (hv.up (Nat.le_succ d)) (fun w hw => f_awayN w t T S A K N sd d hd hv hw h hh) (fun w hw => e_awayN w t T S A K N sd d hd hv hw h hh)
theorem p_undo (d : Nat) (hd : d ≤ 1000) (t : Nat × (Nat → Int32)) (T : p_D) (S : s_S) (A : List s_S) (K : Nat → Option s_S) (N : x_N) (sd : Int64) (hv : v_W d T S A K)  : g_I d (t, T, S, A, K, N, sd) 75 133 [.ref 2] [.ref 133, .float 0] := by
  cases A with
  | nil => exact g_I.of (-3) (t, T, S, [], K, N, sd) (hv.up (Nat.le_succ d)) (fun w hw => f_undo0 w t T S [] K N sd d hd hv hw rfl) (fun w hw => e_undo0 w t T S [] K N sd d hd hv hw rfl)
  | cons S0 B => exact g_I.of (nI B.length) (t, T, S0, B, K, N, sd) ⟨hv.1, (hv.2.2.1 S0 (List.mem_cons_self ..)).up (Nat.le_succ d), fun S2 h2 => (hv.2.2.1 S2 (List.mem_cons_of_mem _ h2)).up (Nat.le_succ d), fun i S2 h2 => (hv.2.2.2 i S2 h2).up (Nat.le_succ d)⟩ (fun w hw => f_undo w t T S (S0 :: B) K N sd d hd hv hw S0 B rfl) (fun w hw => e_undo w t T S (S0 :: B) K N sd d hd hv hw S0 B rfl)
theorem p_ahead (d : Nat) (hd : d ≤ 1000) (t : Nat × (Nat → Int32)) (T : p_D) (S : s_S) (A : List s_S) (K : Nat → Option s_S) (N : x_N) (sd : Int64) (hv : v_W d T S A K) (a b : Int32) : g_I d (t, T, S, A, K, N, sd) 76 135 [.ref 2, .int a, .int b] [.ref 133, .int a, .int b, .float 0, .float 0] := by
  by_cases hy : (0 ≤ a ∧ a ≤ 20) ∧ 0 ≤ b ∧ b ≤ 1
  · obtain ⟨k, hk, rfl⟩ := i_in_of (m := 20) (by decide) hy.1
    obtain ⟨j, hj, rfl⟩ := i_in_of (m := 1) (by decide) hy.2
    rcases (show j = 0 ∨ j = 1 by omega) with rfl | rfl
    · exact g_I.of (m_tot T S 0 k) (t, T, S, A, K, N, sd) (hv.up (Nat.le_succ d)) (fun w hw => f_ahead0 w t T S A K N sd d hd hv hw k hk) (fun w hw => e_ahead0 w t T S A K N sd d hd hv hw k hk)
    · exact g_I.of (m_tot T S 1 k) (t, T, S, A, K, N, sd) (hv.up (Nat.le_succ d)) (fun w hw => f_ahead1 w t T S A K N sd d hd hv hw k hk) (fun w hw => e_ahead1 w t T S A K N sd d hd hv hw k hk)
  · exact g_I.of (-2) (t, T, S, A, K, N, sd) (hv.up (Nat.le_succ d)) (fun w hw => f_aheadO w t T S A K N sd d hd hv hw a b hy) (fun w hw => e_aheadO w t T S A K N sd d hd hv hw a b hy)
theorem p_order0 (d : Nat) (hd : d ≤ 1000) (t : Nat × (Nat → Int32)) (T : p_D) (S : s_S) (A : List s_S) (K : Nat → Option s_S) (N : x_N) (sd : Int64) (hv : v_W d T S A K)  : g_I d (t, T, S, A, K, N, sd) 77 141 [.ref 2, .int 0] [.ref 133, .int 0] := by
  exact g_I.of ((m_bst T S 0 (n_fac T.2.2.1)).1) (t, T, S, A, K, N, sd) (hv.up (Nat.le_succ d)) (fun w hw => f_order0 w t T S A K N sd d hd hv hw ) (fun w hw => e_order0 w t T S A K N sd d hd hv hw )
theorem p_order1 (d : Nat) (hd : d ≤ 1000) (t : Nat × (Nat → Int32)) (T : p_D) (S : s_S) (A : List s_S) (K : Nat → Option s_S) (N : x_N) (sd : Int64) (hv : v_W d T S A K)  : g_I d (t, T, S, A, K, N, sd) 77 141 [.ref 2, .int 1] [.ref 133, .int 1] := by
  exact g_I.of ((m_bst T S 0 (n_fac T.2.2.1)).2) (t, T, S, A, K, N, sd) (hv.up (Nat.le_succ d)) (fun w hw => f_order1 w t T S A K N sd d hd hv hw ) (fun w hw => e_order1 w t T S A K N sd d hd hv hw )
theorem p_worst0 (d : Nat) (hd : d ≤ 1000) (t : Nat × (Nat → Int32)) (T : p_D) (S : s_S) (A : List s_S) (K : Nat → Option s_S) (N : x_N) (sd : Int64) (hv : v_W d T S A K)  : g_I d (t, T, S, A, K, N, sd) 78 142 [.ref 2, .int 0] [.ref 133, .int 0] := by
  exact g_I.of ((m_bst T S 1 (n_fac T.2.2.1)).1) (t, T, S, A, K, N, sd) (hv.up (Nat.le_succ d)) (fun w hw => f_worst0 w t T S A K N sd d hd hv hw ) (fun w hw => e_worst0 w t T S A K N sd d hd hv hw )
theorem p_worst1 (d : Nat) (hd : d ≤ 1000) (t : Nat × (Nat → Int32)) (T : p_D) (S : s_S) (A : List s_S) (K : Nat → Option s_S) (N : x_N) (sd : Int64) (hv : v_W d T S A K)  : g_I d (t, T, S, A, K, N, sd) 78 142 [.ref 2, .int 1] [.ref 133, .int 1] := by
  exact g_I.of ((m_bst T S 1 (n_fac T.2.2.1)).2) (t, T, S, A, K, N, sd) (hv.up (Nat.le_succ d)) (fun w hw => f_worst1 w t T S A K N sd d hd hv hw ) (fun w hw => e_worst1 w t T S A K N sd d hd hv hw )
theorem p_salts (d : Nat) (hd : d ≤ 1000) (t : Nat × (Nat → Int32)) (T : p_D) (S : s_S) (A : List s_S) (K : Nat → Option s_S) (N : x_N) (sd : Int64) (hv : v_W d T S A K) (h : Int32) : g_I d (t, T, S, A, K, N, sd) 79 143 [.ref 2, .int h] [.ref 133, .int h, .float 0, .float 0, .float 0] := by
  by_cases hh : i_H T.2.2.1 h
  · obtain ⟨k, hk, rfl⟩ := hh
    exact g_I.of ((m_few T S k (2 ^ T.2.2.1)).1) (t, T, S, A, K, N, sd) (hv.up (Nat.le_succ d)) (fun w hw => f_salts w t T S A K N sd d hd hv hw k hk) (fun w hw => e_salts w t T S A K N sd d hd hv hw k hk)
  · exact g_I.of (-1) (t, T, S, A, K, N, sd) (hv.up (Nat.le_succ d)) (fun w hw => f_saltsN w t T S A K N sd d hd hv hw h hh) (fun w hw => e_saltsN w t T S A K N sd d hd hv hw h hh)
theorem p_cask (d : Nat) (hd : d ≤ 1000) (t : Nat × (Nat → Int32)) (T : p_D) (S : s_S) (A : List s_S) (K : Nat → Option s_S) (N : x_N) (sd : Int64) (hv : v_W d T S A K) (h : Int32) : g_I d (t, T, S, A, K, N, sd) 80 144 [.ref 2, .int h] [.ref 133, .int h, .float 0, .float 0, .float 0, .float 0] := by
  by_cases hh : i_H T.2.2.1 h
  · obtain ⟨k, hk, rfl⟩ := hh
    obtain ⟨rr, h0⟩ := m_cask_ex T S k
    refine g_I.of rr (t, T, S, A, K, N, sd) (hv.up (Nat.le_succ d)) (fun w hw => (f_cask w t T S A K N sd d hd hv hw k hk).mono ?_) (fun w hw => (e_cask w t T S A K N sd d hd hv hw k hk).mono ?_)
    · rintro res w' ⟨r1, rfl, h1, h2⟩
      obtain rfl := m_cask_u h0 h1
      exact ⟨rfl, h2⟩
    · rintro res w' ⟨r1, rfl, h1, h2⟩
      obtain rfl := m_cask_u h0 h1
      exact ⟨rfl, h2⟩
  · exact g_I.of (-1) (t, T, S, A, K, N, sd) (hv.up (Nat.le_succ d)) (fun w hw => f_caskN w t T S A K N sd d hd hv hw h hh) (fun w hw => e_caskN w t T S A K N sd d hd hv hw h hh)
theorem p_judge (d : Nat) (hd : d ≤ 1000) (t : Nat × (Nat → Int32)) (T : p_D) (S : s_S) (A : List s_S) (K : Nat → Option s_S) (N : x_N) (sd : Int64) (hv : v_W d T S A K) (a : Int32) (r : Int64) : g_I d (t, T, S, A, K, N, sd) 81 147 [.ref 2, .int a, .long r, .float 0] [.ref 133, .int a, .long r, .float 0, .float 0, .float 0] := by
  by_cases hy : 1 ≤ a ∧ a ≤ 4
  · obtain ⟨k, hk, rfl⟩ := i_in_of (h := a) (m := 4) (by decide) ⟨Int32.le_trans (by decide) hy.1, hy.2⟩
    have h1k : 1 ≤ k := (nI_leI (a := 1) (by omega) (by omega)).mp hy.1
    by_cases hr : r < 0
    · exact g_I.of (-2) (t, T, S, A, K, N, sd) (hv.up (Nat.le_succ d)) (fun w hw => f_judgeM w t T S A K N sd d hd hv hw k h1k hk r hr) (fun w hw => e_judgeM w t T S A K N sd d hd hv hw k h1k hk r hr)
    · obtain ⟨R, hR, rfl⟩ := pk_lOf hr
      by_cases hL : R / 1000 ^ k = 0
      · obtain ⟨rr, h0⟩ := m_jr_ex T S k R
        refine g_I.of rr (t, T, S, A, K, N, sd) (hv.up (Nat.le_succ d)) (fun w hw => (f_judge w t T S A K N sd d hd hv hw k h1k hk R hR hL).mono ?_) (fun w hw => (e_judge w t T S A K N sd d hd hv hw k h1k hk R hR hL).mono ?_)
        · rintro res w' ⟨r1, rfl, h1, h2⟩
          obtain rfl := m_jr_u h0 h1
          exact ⟨rfl, h2⟩
        · rintro res w' ⟨r1, rfl, h1, h2⟩
          obtain rfl := m_jr_u h0 h1
          exact ⟨rfl, h2⟩
      · exact g_I.of (-2) (t, T, S, A, K, N, sd) (hv.up (Nat.le_succ d)) (fun w hw => f_judgeL w t T S A K N sd d hd hv hw k h1k hk R hR hL) (fun w hw => e_judgeL w t T S A K N sd d hd hv hw k h1k hk R hR hL)
  · exact g_I.of (-2) (t, T, S, A, K, N, sd) (hv.up (Nat.le_succ d)) (fun w hw => f_judgeO w t T S A K N sd d hd hv hw a r hy) (fun w hw => e_judgeO w t T S A K N sd d hd hv hw a r hy)
theorem p_see (d : Nat) (hd : d ≤ 1000) (t : Nat × (Nat → Int32)) (T : p_D) (S : s_S) (A : List s_S) (K : Nat → Option s_S) (N : x_N) (sd : Int64) (hv : v_W d T S A K) (h a b : Int32) : g_I d (t, T, S, A, K, N, sd) 82 148 [.ref 2, .int h, .int a, .int b] [.ref 133, .int h, .int a, .int b] := by
  by_cases hh : i_H T.2.2.1 h
  · obtain ⟨k, hk, rfl⟩ := hh
    by_cases hy : (0 ≤ a ∧ a ≤ 3) ∧ 0 ≤ b ∧ b ≤ 30
    · exact g_I.of ((x_see N (nI k) a b).1) (t, T, S, A, K, (x_see N (nI k) a b).2, sd) (hv.up (Nat.le_succ d)) (fun w hw => f_see w t T S A K N sd d hd hv hw k hk a b hy) (fun w hw => e_see w t T S A K N sd d hd hv hw k hk a b hy)
    · exact g_I.of (-2) (t, T, S, A, K, N, sd) (hv.up (Nat.le_succ d)) (fun w hw => f_seeO w t T S A K N sd d hd hv hw k hk a b hy) (fun w hw => e_seeO w t T S A K N sd d hd hv hw k hk a b hy)
  · exact g_I.of (-1) (t, T, S, A, K, N, sd) (hv.up (Nat.le_succ d)) (fun w hw => f_seeN w t T S A K N sd d hd hv hw h hh a b) (fun w hw => e_seeN w t T S A K N sd d hd hv hw h hh a b)
theorem p_unsee (d : Nat) (hd : d ≤ 1000) (t : Nat × (Nat → Int32)) (T : p_D) (S : s_S) (A : List s_S) (K : Nat → Option s_S) (N : x_N) (sd : Int64) (hv : v_W d T S A K)  : g_I d (t, T, S, A, K, N, sd) 83 149 [.ref 2] [.ref 133, .float 0] := by
  exact g_I.of (nI N.1) (t, T, S, A, K, (0, N.2), sd) (hv.up (Nat.le_succ d)) (fun w hw => f_unsee w t T S A K N sd d hd hv hw ) (fun w hw => e_unsee w t T S A K N sd d hd hv hw )
theorem p_wants (d : Nat) (hd : d ≤ 1000) (t : Nat × (Nat → Int32)) (T : p_D) (S : s_S) (A : List s_S) (K : Nat → Option s_S) (N : x_N) (sd : Int64) (hv : v_W d T S A K) (h : Int32) : g_I d (t, T, S, A, K, N, sd) 84 150 [.ref 2, .int h] [.ref 133, .int h, .float 0, .float 0, .float 0, .float 0, .float 0] := by
  by_cases hh : i_H T.2.2.1 h
  · obtain ⟨k, hk, rfl⟩ := hh
    exact g_I.of (i_pw N.2.1 N.2.2.1 N.2.2.2 N.1 (nI k) (T.2.2.2.2.2.1 k) 10) (t, T, S, A, K, N, sd) (hv.up (Nat.le_succ d)) (fun w hw => f_wants w t T S A K N sd d hd hv hw k hk) (fun w hw => e_wants w t T S A K N sd d hd hv hw k hk)
  · exact g_I.of (-1) (t, T, S, A, K, N, sd) (hv.up (Nat.le_succ d)) (fun w hw => f_wantsN w t T S A K N sd d hd hv hw h hh) (fun w hw => e_wantsN w t T S A K N sd d hd hv hw h hh)
theorem p_share (d : Nat) (hd : d ≤ 1000) (t : Nat × (Nat → Int32)) (T : p_D) (S : s_S) (A : List s_S) (K : Nat → Option s_S) (N : x_N) (sd : Int64) (hv : v_W d T S A K) (h u : Int32) : g_I d (t, T, S, A, K, N, sd) 85 154 [.ref 2, .int h, .int u, .float 0] [.ref 133, .int h, .int u, .float 0, .float 0, .float 0] := by
  by_cases hh : i_H T.2.2.1 h
  · obtain ⟨k, hk, rfl⟩ := hh
    exact g_I.of ((if u = 0 then am_fac T.2.2.1 else m_add T S k (2 ^ T.2.2.1)) / i_com (m_add T S k (2 ^ T.2.2.1)) (am_fac T.2.2.1)) (t, T, S, A, K, N, sd) (hv.up (Nat.le_succ d)) (fun w hw => f_share w t T S A K N sd d hd hv hw k hk u) (fun w hw => e_share w t T S A K N sd d hd hv hw k hk u)
  · exact g_I.of (-1) (t, T, S, A, K, N, sd) (hv.up (Nat.le_succ d)) (fun w hw => f_shareN w t T S A K N sd d hd hv hw h hh u) (fun w hw => e_shareN w t T S A K N sd d hd hv hw h hh u)
theorem p_rests (d : Nat) (hd : d ≤ 1000) (t : Nat × (Nat → Int32)) (T : p_D) (S : s_S) (A : List s_S) (K : Nat → Option s_S) (N : x_N) (sd : Int64) (hv : v_W d T S A K) (h g c : Int32) : g_I d (t, T, S, A, K, N, sd) 86 156 [.ref 2, .int h, .int g, .int c] [.ref 133, .int h, .int g, .int c, .float 0, .float 0, .float 0, .float 0, .float 0, .float 0] := by
  by_cases hh : i_H T.2.2.1 h
  · obtain ⟨k, hk, rfl⟩ := hh
    by_cases hh : i_H T.2.2.1 g
    · obtain ⟨j, hj, rfl⟩ := hh
      by_cases hkj : k = j
      · subst hkj
        exact g_I.of (-2) (t, T, S, A, K, N, sd) (hv.up (Nat.le_succ d)) (fun w hw => f_restsE w t T S A K N sd d hd hv hw k hk c) (fun w hw => e_restsE w t T S A K N sd d hd hv hw k hk c)
      · by_cases hy : 0 ≤ c ∧ c ≤ 1
        · obtain ⟨i, hi, rfl⟩ := i_in_of (m := 1) (by decide) hy
          rcases (show i = 0 ∨ i = 1 by omega) with rfl | rfl
          · exact g_I.of ((m_rests T S k j).1) (t, T, S, A, K, N, sd) (hv.up (Nat.le_succ d)) (fun w hw => f_rests0 w t T S A K N sd d hd hv hw k hk j hj hkj) (fun w hw => e_rests0 w t T S A K N sd d hd hv hw k hk j hj hkj)
          · exact g_I.of ((m_rests T S k j).2) (t, T, S, A, K, N, sd) (hv.up (Nat.le_succ d)) (fun w hw => f_rests1 w t T S A K N sd d hd hv hw k hk j hj hkj) (fun w hw => e_rests1 w t T S A K N sd d hd hv hw k hk j hj hkj)
        · exact g_I.of (-2) (t, T, S, A, K, N, sd) (hv.up (Nat.le_succ d)) (fun w hw => f_restsO w t T S A K N sd d hd hv hw k hk j hj hkj c hy) (fun w hw => e_restsO w t T S A K N sd d hd hv hw k hk j hj hkj c hy)
    · exact g_I.of (-1) (t, T, S, A, K, N, sd) (hv.up (Nat.le_succ d)) (fun w hw => f_restsM w t T S A K N sd d hd hv hw k hk g hh c) (fun w hw => e_restsM w t T S A K N sd d hd hv hw k hk g hh c)
  · exact g_I.of (-1) (t, T, S, A, K, N, sd) (hv.up (Nat.le_succ d)) (fun w hw => f_restsN w t T S A K N sd d hd hv hw h hh g c) (fun w hw => e_restsN w t T S A K N sd d hd hv hw h hh g c)
theorem p_guests (d : Nat) (hd : d ≤ 1000) (t : Nat × (Nat → Int32)) (T : p_D) (S : s_S) (A : List s_S) (K : Nat → Option s_S) (N : x_N) (sd : Int64) (hv : v_W d T S A K) (a b u : Int32) : g_I d (t, T, S, A, K, N, sd) 87 157 [.ref 2, .int a, .int b, .int u, .float 0] [.ref 133, .int a, .int b, .int u, .float 0, .float 0, .float 0, .float 0] := by
  by_cases hy : (0 ≤ a ∧ a ≤ 60) ∧ 0 ≤ b ∧ b ≤ 10
  · obtain ⟨m, hm, rfl⟩ := i_in_of (m := 60) (by decide) hy.1
    obtain ⟨x, hx, rfl⟩ := i_in_of (m := 10) (by decide) hy.2
    obtain ⟨B, hB2, hB⟩ := hv.2.1.2.2.2.1
    exact g_I.of ((if u = 0 then i_pow 10 (T.2.2.1 - n_pop B) else m_ways T S B (nI m) x (2 ^ T.2.2.1)) / i_com (m_ways T S B (nI m) x (2 ^ T.2.2.1)) (i_pow 10 (T.2.2.1 - n_pop B))) (t, T, S, A, K, N, sd) (hv.up (Nat.le_succ d)) (fun w hw => f_guests w t T S A K N sd d hd hv hw m hm x hx u B hB hB2) (fun w hw => e_guests w t T S A K N sd d hd hv hw m hm x hx u B hB hB2)
  · exact g_I.of (-2) (t, T, S, A, K, N, sd) (hv.up (Nat.le_succ d)) (fun w hw => f_guestsO w t T S A K N sd d hd hv hw a b u hy) (fun w hw => e_guestsO w t T S A K N sd d hd hv hw a b u hy)
theorem p_seed (d : Nat) (hd : d ≤ 1000) (t : Nat × (Nat → Int32)) (T : p_D) (S : s_S) (A : List s_S) (K : Nat → Option s_S) (N : x_N) (sd : Int64) (hv : v_W d T S A K) (v : Int64) : ∃ σ', g_P d (t, T, S, A, K, N, sd) 88 158 [.ref 2, .long v, .float 0, .float 0, .float 0] [.ref 133, .long v, .float 0, .float 0, .float 0] (.long sd) σ' := ⟨(t, T, S, A, K, N, v), (hv.up (Nat.le_succ d)), fun w hw => f_seed w t T S A K N sd d hd hv hw v, fun w hw => e_seed w t T S A K N sd d hd hv hw v⟩
theorem p_weeks (d : Nat) (hd : d ≤ 1000) (t : Nat × (Nat → Int32)) (T : p_D) (S : s_S) (A : List s_S) (K : Nat → Option s_S) (N : x_N) (sd : Int64) (hv : v_W d T S A K) (a : Int32) : g_I d (t, T, S, A, K, N, sd) 89 159 [.ref 2, .int a, .float 0] [.ref 133, .int a, .float 0, .float 0] := by
  by_cases hy : 1 ≤ a ∧ a ≤ 30
  · obtain ⟨k, hk, rfl⟩ := i_in_of (h := a) (m := 30) (by decide) ⟨Int32.le_trans (by decide) hy.1, hy.2⟩
    have h1k : 1 ≤ k := (nI_leI (a := 1) (by omega) (by omega)).mp hy.1
    exact g_I.of ((m_wk l_v l_sd T S sd k).2.1) (t, T, S, A, K, N, (m_wk l_v l_sd T S sd k).2.2) (hv.up (Nat.le_succ d)) (fun w hw => f_weeks w t T S A K N sd d hd hv hw k h1k hk) (fun w hw => e_weeks w t T S A K N sd d hd hv hw k h1k hk)
  · exact g_I.of (-2) (t, T, S, A, K, N, sd) (hv.up (Nat.le_succ d)) (fun w hw => f_weeksO w t T S A K N sd d hd hv hw a hy) (fun w hw => e_weeksO w t T S A K N sd d hd hv hw a hy)
theorem p_keep (d : Nat) (hd : d ≤ 1000) (t : Nat × (Nat → Int32)) (T : p_D) (S : s_S) (A : List s_S) (K : Nat → Option s_S) (N : x_N) (sd : Int64) (hv : v_W d T S A K) (a : Int32) : g_I d (t, T, S, A, K, N, sd) 90 160 [.ref 2, .int a] [.ref 133, .int a, .float 0] := by
  by_cases hy : 0 ≤ a ∧ a ≤ 1
  · obtain ⟨k, hk1, rfl⟩ := i_in_of (m := 1) (by decide) hy
    have hk : k < 2 := by omega
    exact g_I.of (nI S.2.2.2.2.2.2) (t, T, S, A, (fun i => if i = k then some S else K i), N, sd) ⟨hv.1, hv.2.1.up (Nat.le_succ d), fun S2 h2 => (hv.2.2.1 S2 h2).up (Nat.le_succ d), fun i S2 h2 => by have h2 : (if i = k then some S else K i) = some S2 := h2; by_cases e : i = k; rw [if_pos e] at h2; cases h2; exact hv.2.1.up (Nat.le_succ d); rw [if_neg e] at h2; exact (hv.2.2.2 i S2 h2).up (Nat.le_succ d)⟩ (fun w hw => f_keep w t T S A K N sd d hd hv hw k hk) (fun w hw => e_keep w t T S A K N sd d hd hv hw k hk)
  · exact g_I.of (-1) (t, T, S, A, K, N, sd) (hv.up (Nat.le_succ d)) (fun w hw => f_keepN w t T S A K N sd d hd hv hw a hy) (fun w hw => e_keepN w t T S A K N sd d hd hv hw a hy)
theorem p_again (d : Nat) (hd : d ≤ 1000) (t : Nat × (Nat → Int32)) (T : p_D) (S : s_S) (A : List s_S) (K : Nat → Option s_S) (N : x_N) (sd : Int64) (hv : v_W d T S A K) (a : Int32) : g_I d (t, T, S, A, K, N, sd) 91 161 [.ref 2, .int a] [.ref 133, .int a, .float 0] := by
  by_cases hy : 0 ≤ a ∧ a ≤ 1
  · obtain ⟨k, hk1, rfl⟩ := i_in_of (m := 1) (by decide) hy
    have hk : k < 2 := by omega
    cases hK : K k with
    | none => exact g_I.of (-3) (t, T, S, A, K, N, sd) (hv.up (Nat.le_succ d)) (fun w hw => f_again0 w t T S A K N sd d hd hv hw k hk hK) (fun w hw => e_again0 w t T S A K N sd d hd hv hw k hk hK)
    | some S0 => exact g_I.of (nI S0.2.2.2.2.2.2) (t, T, S0, [], K, N, sd) ⟨hv.1, (hv.2.2.2 k S0 hK).up (Nat.le_succ d), fun S2 h2 => absurd h2 List.not_mem_nil, fun i S2 h2 => (hv.2.2.2 i S2 h2).up (Nat.le_succ d)⟩ (fun w hw => f_again w t T S A K N sd d hd hv hw k hk S0 hK) (fun w hw => e_again w t T S A K N sd d hd hv hw k hk S0 hK)
  · exact g_I.of (-1) (t, T, S, A, K, N, sd) (hv.up (Nat.le_succ d)) (fun w hw => f_againN w t T S A K N sd d hd hv hw a hy) (fun w hw => e_againN w t T S A K N sd d hd hv hw a hy)
theorem p_count (d : Nat) (hd : d ≤ 1000) (t : Nat × (Nat → Int32)) (T : p_D) (S : s_S) (A : List s_S) (K : Nat → Option s_S) (N : x_N) (sd : Int64) (hv : v_W d T S A K) (wh : Int32) : g_I d (t, T, S, A, K, N, sd) 92 162 [.ref 2, .int wh] [.ref 133, .int wh] := by
  rcases i_sw (x := wh) 10 with q | ⟨j, hj, rfl⟩
  · exact g_I.of (-2) (t, T, S, A, K, N, sd) (hv.up (Nat.le_succ d)) (fun w hw => f_countO w t T S A K N sd d hd hv hw wh q) (fun w hw => e_countO w t T S A K N sd d hd hv hw wh q)
  · exact g_I.of (x_count t T S A N j) (t, T, S, A, K, N, sd) (hv.up (Nat.le_succ d)) (fun w hw => f_count w t T S A K N sd d hd hv hw j hj) (fun w hw => e_count w t T S A K N sd d hd hv hw j hj)
