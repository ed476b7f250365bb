/-! the class's parts as numbers: THE ROW as told (p_D), a standing (s_S): places to houses, houses to places, what is in the barrels, what was lacked, who is salted, away, the day -/
abbrev s_S : Type := (Nat → Nat) × (Nat → Nat) × (Nat → Int32) × (Nat → Int32) × Int32 × Int32 × Nat
def v_S (n : Nat) (S : s_S) : Prop := (∀ p, p < n → S.1 p < n ∧ S.2.1 (S.1 p) = p) ∧ (∀ h, h < n → S.2.1 h < n ∧ S.1 (S.2.1 h) = h) ∧ (∀ p, n ≤ p → p < 6 → S.1 p = p) ∧ S.2.2.2.2.2.2 < 2 ^ 30
def v_T (T : p_D) : Prop := T.2.2.1 ≤ 6 ∧ T.2.2.2.1 ≤ 5 ∧ (T.2.1 = 0 ∨ T.2.1 = 1)
/-- a standing lies at a -/
def c_S (w : am_W) (a n : Nat) (S : s_S) : Prop := ∃ so ss sl : Nat → Int32, w[a]? = some (.inr (6, [.ref (a + 1), .ref (a + 2), .ref (a + 3), .int S.2.2.2.2.1, .int S.2.2.2.2.2.1, .int (nI S.2.2.2.2.2.2)])) ∧ w[a + 1]? = some (.inl (0, 6, .inl so)) ∧ w[a + 2]? = some (.inl (0, 6, .inl ss)) ∧ w[a + 3]? = some (.inl (0, 6, .inl sl)) ∧ (∀ p, p < 6 → so p = nI (S.1 p)) ∧ (∀ h, h < n → ss h = S.2.2.1 h) ∧ (∀ h, h < n → sl h = S.2.2.2.1 h)
/-- the row as told lies at d -/
def c_T (w : am_W) (d : Nat) (T : p_D) : Prop := ∃ wa ki ba he : Nat → Int32, w[d]? = some (.inr (9, [.int T.1, .int T.2.1, .int (nI T.2.2.1), .int (nI T.2.2.2.1), .ref (d + 1), .ref (d + 2), .ref (d + 3), .ref (d + 4)])) ∧ w[d + 1]? = some (.inl (0, 6, .inl wa)) ∧ w[d + 2]? = some (.inl (0, 6, .inl ki)) ∧ w[d + 3]? = some (.inl (0, 6, .inl ba)) ∧ w[d + 4]? = some (.inl (0, 5, .inl he)) ∧ (∀ h, h < T.2.2.1 → wa h = T.2.2.2.2.1 h ∧ ki h = T.2.2.2.2.2.1 h ∧ ba h = T.2.2.2.2.2.2.1 h) ∧ (∀ i, i < T.2.2.2.1 → he i = T.2.2.2.2.2.2.2 i)
/-- a Today lies at t -/
def c_D (w : am_W) (t : Nat) : Prop := ∃ dw ds dg dd dl df dv : Nat → Int32, w[t]? = some (.inr (8, [.ref (t + 1), .ref (t + 2), .ref (t + 3), .ref (t + 4), .ref (t + 5), .ref (t + 6), .ref (t + 7)])) ∧ w[t + 1]? = some (.inl (0, 6, .inl dw)) ∧ w[t + 2]? = some (.inl (0, 6, .inl ds)) ∧ w[t + 3]? = some (.inl (0, 6, .inl dg)) ∧ w[t + 4]? = some (.inl (0, 6, .inl dd)) ∧ w[t + 5]? = some (.inl (0, 6, .inl dl)) ∧ w[t + 6]? = some (.inl (0, 6, .inl df)) ∧ w[t + 7]? = some (.inl (0, 6, .inl dv))
/-- .. and holds a look: by houses -/
def c_L (w : am_W) (t n : Nat) (ps : Nat → Nat) (ri tr : Int32) (od : Nat → Nat) (sb ba wt sy : Nat → Int32) : Prop := ∃ dw ds dg dd dl df dv : Nat → Int32, (w[t]? = some (.inr (8, [.ref (t + 1), .ref (t + 2), .ref (t + 3), .ref (t + 4), .ref (t + 5), .ref (t + 6), .ref (t + 7)])) ∧ w[t + 1]? = some (.inl (0, 6, .inl dw)) ∧ w[t + 2]? = some (.inl (0, 6, .inl ds)) ∧ w[t + 3]? = some (.inl (0, 6, .inl dg)) ∧ w[t + 4]? = some (.inl (0, 6, .inl dd)) ∧ w[t + 5]? = some (.inl (0, 6, .inl dl)) ∧ w[t + 6]? = some (.inl (0, 6, .inl df)) ∧ w[t + 7]? = some (.inl (0, 6, .inl dv))) ∧ ∀ h, h < n → dw h = wt h ∧ ds h = sy h ∧ dg h = i_gv ri tr n sy od (ps h) ∧ dd h = i_dr (wt h) (i_gv ri tr n sy od (ps h)) (sb h) ∧ dl h = i_lk (wt h) (i_gv ri tr n sy od (ps h)) (sb h) ∧ df h = i_lf (wt h) (i_gv ri tr n sy od (ps h)) (sb h) (ba h) ∧ dv h = i_sp (wt h) (i_gv ri tr n sy od (ps h)) (sb h) (ba h)
theorem c_L.d {w : am_W} {t n : Nat} {ps : Nat → Nat} {ri tr : Int32} {od : Nat → Nat} {sb ba wt sy : Nat → Int32} (h : c_L w t n ps ri tr od sb ba wt sy) : c_D w t := by
  obtain ⟨dw, ds, dg, dd, dl, df, dv, h, -⟩ := h
  exact ⟨dw, ds, dg, dd, dl, df, dv, h⟩
def rg (a k : Nat) : Nat → Prop := fun b => a ≤ b ∧ b < a + k
theorem c_S.same {w w' : am_W} {a n : Nat} {S : s_S} {X : Nat → Prop} (h : c_S w a n S) (hs : am_same X w w') (hx : ∀ b, a ≤ b → b < a + 4 → ¬ X b) : c_S w' a n S := by
  obtain ⟨so, ss, sl, h0, h1, h2, h3, h4⟩ := h
  exact ⟨so, ss, sl, hs.at (hx _ (by omega) (by omega)) h0, hs.at (hx _ (by omega) (by omega)) h1, hs.at (hx _ (by omega) (by omega)) h2, hs.at (hx _ (by omega) (by omega)) h3, h4⟩
theorem c_T.same {w w' : am_W} {d : Nat} {T : p_D} {X : Nat → Prop} (h : c_T w d T) (hs : am_same X w w') (hx : ∀ b, d ≤ b → b < d + 5 → ¬ X b) : c_T w' d T := by
  obtain ⟨wa, ki, ba, he, h0, h1, h2, h3, h4, h5⟩ := h
  exact ⟨wa, ki, ba, he, hs.at (hx _ (by omega) (by omega)) h0, hs.at (hx _ (by omega) (by omega)) h1, hs.at (hx _ (by omega) (by omega)) h2, hs.at (hx _ (by omega) (by omega)) h3, hs.at (hx _ (by omega) (by omega)) h4, h5⟩
theorem c_D.same {w w' : am_W} {t : Nat} {X : Nat → Prop} (h : c_D w t) (hs : am_same X w w') (hx : ∀ b, t ≤ b → b < t + 8 → ¬ X b) : c_D w' t := by
  obtain ⟨dw, ds, dg, dd, dl, df, dv, h0, h1, h2, h3, h4, h5, h6, h7⟩ := h
  exact ⟨dw, ds, dg, dd, dl, df, dv, hs.at (hx _ (by omega) (by omega)) h0, hs.at (hx _ (by omega) (by omega)) h1, hs.at (hx _ (by omega) (by omega)) h2, hs.at (hx _ (by omega) (by omega)) h3, hs.at (hx _ (by omega) (by omega)) h4, hs.at (hx _ (by omega) (by omega)) h5, hs.at (hx _ (by omega) (by omega)) h6, hs.at (hx _ (by omega) (by omega)) h7⟩
theorem c_L.same {w w' : am_W} {t n : Nat} {ps : Nat → Nat} {ri tr : Int32} {od : Nat → Nat} {sb ba wt sy : Nat → Int32} {X : Nat → Prop} (h : c_L w t n ps ri tr od sb ba wt sy) (hs : am_same X w w') (hx : ∀ b, t ≤ b → b < t + 8 → ¬ X b) : c_L w' t n ps ri tr od sb ba wt sy := by
  obtain ⟨dw, ds, dg, dd, dl, df, dv, ⟨h0, h1, h2, h3, h4, h5, h6, h7⟩, h8⟩ := h
  exact ⟨dw, ds, dg, dd, dl, df, dv, ⟨hs.at (hx _ (by omega) (by omega)) h0, hs.at (hx _ (by omega) (by omega)) h1, hs.at (hx _ (by omega) (by omega)) h2, hs.at (hx _ (by omega) (by omega)) h3, hs.at (hx _ (by omega) (by omega)) h4, hs.at (hx _ (by omega) (by omega)) h5, hs.at (hx _ (by omega) (by omega)) h6, hs.at (hx _ (by omega) (by omega)) h7⟩, h8⟩
/-- what a house wants, says, of T and S -/
def m_wt (T : p_D) (S : s_S) (g : Int32) : Nat → Int32 := i_wnt T.2.2.2.2.1 T.2.2.2.2.2.1 (i_heat T.2.2.2.1 T.2.2.2.2.2.2.2 S.2.2.2.2.2.2) S.2.2.2.2.1 S.2.2.2.2.2.1 g
def m_sy (T : p_D) (S : s_S) (g : Int32) : Nat → Int32 := i_say T.2.2.2.2.1 T.2.2.2.2.2.1 (i_heat T.2.2.2.1 T.2.2.2.2.2.2.2 S.2.2.2.2.2.2) S.2.2.2.2.1 S.2.2.2.2.2.1 g
def m_gv (T : p_D) (S : s_S) (g : Int32) (h : Nat) : Int32 := i_gv T.2.1 T.1 T.2.2.1 (m_sy T S g) S.1 (S.2.1 h)
def m_dr (T : p_D) (S : s_S) (g : Int32) (h : Nat) : Int32 := i_dr (m_wt T S g h) (m_gv T S g h) (S.2.2.1 h)
def m_lk (T : p_D) (S : s_S) (g : Int32) (h : Nat) : Int32 := i_lk (m_wt T S g h) (m_gv T S g h) (S.2.2.1 h)
def m_lf (T : p_D) (S : s_S) (g : Int32) (h : Nat) : Int32 := i_lf (m_wt T S g h) (m_gv T S g h) (S.2.2.1 h) (T.2.2.2.2.2.2.1 h)
def m_sp (T : p_D) (S : s_S) (g : Int32) (h : Nat) : Int32 := i_sp (m_wt T S g h) (m_gv T S g h) (S.2.2.1 h) (T.2.2.2.2.2.2.1 h)
/-- the look of T and S at t -/
def c_LS (w : am_W) (t : Nat) (T : p_D) (S : s_S) (g : Int32) : Prop := ∃ dw ds dg dd dl df dv : Nat → Int32, (w[t]? = some (.inr (8, [.ref (t + 1), .ref (t + 2), .ref (t + 3), .ref (t + 4), .ref (t + 5), .ref (t + 6), .ref (t + 7)])) ∧ w[t + 1]? = some (.inl (0, 6, .inl dw)) ∧ w[t + 2]? = some (.inl (0, 6, .inl ds)) ∧ w[t + 3]? = some (.inl (0, 6, .inl dg)) ∧ w[t + 4]? = some (.inl (0, 6, .inl dd)) ∧ w[t + 5]? = some (.inl (0, 6, .inl dl)) ∧ w[t + 6]? = some (.inl (0, 6, .inl df)) ∧ w[t + 7]? = some (.inl (0, 6, .inl dv))) ∧ ∀ h, h < T.2.2.1 → dw h = m_wt T S g h ∧ ds h = m_sy T S g h ∧ dg h = m_gv T S g h ∧ dd h = m_dr T S g h ∧ dl h = m_lk T S g h ∧ df h = m_lf T S g h ∧ dv h = m_sp T S g h
/-- a day goes by -/
def m_pass (T : p_D) (S : s_S) : s_S := (S.1, S.2.1, m_lf T S 0, (fun h => S.2.2.2.1 h + m_lk T S 0 h), 0, S.2.2.2.2.2.1, S.2.2.2.2.2.2 + 1)
def m_salt (S : s_S) (h : Int32) : s_S := (S.1, S.2.1, S.2.2.1, S.2.2.2.1, S.2.2.2.2.1 ||| (1 <<< (h &&& 31)), S.2.2.2.2.2)
def m_away (S : s_S) (h : Int32) : s_S := (S.1, S.2.1, S.2.2.1, S.2.2.2.1, S.2.2.2.2.1, S.2.2.2.2.2.1 ^^^ (1 <<< (h &&& 31)), S.2.2.2.2.2.2)
def m_swapf (f : Nat → Nat) (a b : Nat) : Nat → Nat := fun p => if f p = a then b else if f p = b then a else f p
def m_swap (S : s_S) (a b : Nat) : s_S := (m_swapf S.1 a b, (fun h => S.2.1 (if h = a then b else if h = b then a else h)), S.2.2)

theorem i_wnt_congr {wa ki wa' ki' : Nat → Int32} {ht sa aw g : Int32} {h : Nat} (h1 : wa h = wa' h) (h2 : ki h = ki' h) : i_wnt wa ki ht sa aw g h = i_wnt wa' ki' ht sa aw g h := by unfold i_wnt; rw [h1, h2]
theorem i_say_congr {wa ki wa' ki' : Nat → Int32} {ht sa aw g : Int32} {h : Nat} (h1 : wa h = wa' h) (h2 : ki h = ki' h) : i_say wa ki ht sa aw g h = i_say wa' ki' ht sa aw g h := by unfold i_say; rw [i_wnt_congr h1 h2, h2]
theorem i_heat_congr {kk : Nat} {he he' : Nat → Int32} {d : Nat} (h : ∀ i, i < kk → he i = he' i) : i_heat kk he d = i_heat kk he' d := by
  unfold i_heat
  by_cases q : kk = 0
  · rw [if_pos q, if_pos q]
  · rw [if_neg q, if_neg q, h _ (Nat.mod_lt _ (by omega))]
theorem v_S.od {n : Nat} {S : s_S} (h : v_S n S) (hn : n ≤ 6) {so : Nat → Int32} (ho : ∀ p, p < 6 → so p = nI (S.1 p)) : ∀ p, p < n → so p = nI (S.1 p) ∧ S.1 p < n := fun p hp => ⟨ho p (by omega), (h.1 p hp).1⟩
theorem v_S.inj {n : Nat} {S : s_S} (h : v_S n S) : ∀ p q, p < n → q < n → S.1 p = S.1 q → p = q := fun p q hp hq e => by rw [← (h.1 p hp).2, ← (h.1 q hq).2, e]
set_option maxHeartbeats 4000000 in
theorem c_L_of {w : am_W} {t : Nat} {T : p_D} {S : s_S} {g : Int32} {wa ki ba he ss fw fs a3 a4 a5 a6 a7 : Nat → Int32} (hv : v_S T.2.2.1 S) (hw : ∀ h, h < T.2.2.1 → wa h = T.2.2.2.2.1 h ∧ ki h = T.2.2.2.2.2.1 h ∧ ba h = T.2.2.2.2.2.2.1 h) (hh : ∀ i, i < T.2.2.2.1 → he i = T.2.2.2.2.2.2.2 i) (hs : ∀ h, h < T.2.2.1 → ss h = S.2.2.1 h)
    (l : w[t]? = some (.inr (8, [.ref (t + 1), .ref (t + 2), .ref (t + 3), .ref (t + 4), .ref (t + 5), .ref (t + 6), .ref (t + 7)])) ∧ w[t + 1]? = some (.inl (0, 6, .inl fw)) ∧ w[t + 2]? = some (.inl (0, 6, .inl fs)) ∧ w[t + 3]? = some (.inl (0, 6, .inl a3)) ∧ w[t + 4]? = some (.inl (0, 6, .inl a4)) ∧ w[t + 5]? = some (.inl (0, 6, .inl a5)) ∧ w[t + 6]? = some (.inl (0, 6, .inl a6)) ∧ w[t + 7]? = some (.inl (0, 6, .inl a7)))
    (h1 : ∀ h, h < T.2.2.1 → fw h = i_wnt wa ki (i_heat T.2.2.2.1 he S.2.2.2.2.2.2) S.2.2.2.2.1 S.2.2.2.2.2.1 g h) (h2 : ∀ h, h < T.2.2.1 → fs h = i_say wa ki (i_heat T.2.2.2.1 he S.2.2.2.2.2.2) S.2.2.2.2.1 S.2.2.2.2.2.1 g h)
    (h3 : i_lkp T.2.2.1 S.1 T.2.1 T.1 ss ba (i_wnt wa ki (i_heat T.2.2.2.1 he S.2.2.2.2.2.2) S.2.2.2.2.1 S.2.2.2.2.2.1 g) (i_say wa ki (i_heat T.2.2.2.1 he S.2.2.2.2.2.2) S.2.2.2.2.1 S.2.2.2.2.2.1 g) a3 a4 a5 a6 a7) : c_LS w t T S g := by
  refine ⟨fw, fs, a3, a4, a5, a6, a7, l, fun h hh0 => ?_⟩
  have eh := i_heat_congr (d := S.2.2.2.2.2.2) hh
  have ew : ∀ k, k < T.2.2.1 → i_wnt wa ki (i_heat T.2.2.2.1 he S.2.2.2.2.2.2) S.2.2.2.2.1 S.2.2.2.2.2.1 g k = m_wt T S g k := fun k hk => by unfold m_wt; rw [eh]; exact i_wnt_congr (hw k hk).1 (hw k hk).2.1
  have es : ∀ k, k < T.2.2.1 → i_say wa ki (i_heat T.2.2.2.1 he S.2.2.2.2.2.2) S.2.2.2.2.1 S.2.2.2.2.2.1 g k = m_sy T S g k := fun k hk => by unfold m_sy; rw [eh]; exact i_say_congr (hw k hk).1 (hw k hk).2.1
  obtain ⟨p1, p2⟩ := hv.2.1 h hh0
  obtain ⟨q3, q4, q5, q6, q7⟩ := h3 (S.2.1 h) p1
  have eg : i_gv T.2.1 T.1 T.2.2.1 (i_say wa ki (i_heat T.2.2.2.1 he S.2.2.2.2.2.2) S.2.2.2.2.1 S.2.2.2.2.2.1 g) S.1 (S.2.1 h) = m_gv T S g h := i_gv_congr es (fun p hp => (hv.1 p hp).1) p1
  rw [p2] at q3 q4 q5 q6 q7
  rw [eg] at q3 q4 q5 q6 q7
  rw [ew h hh0] at q4 q5 q6 q7
  rw [hs h hh0] at q4 q5 q6 q7
  rw [(hw h hh0).2.2] at q6 q7
  exact ⟨(h1 h hh0).trans (ew h hh0), (h2 h hh0).trans (es h hh0), q3, q4, q5, q6, q7⟩
set_option maxHeartbeats 4000000 in
theorem k_lookAt (w : am_W) (t d s : Nat) (T : p_D) (S : s_S) (hvT : v_T T) (hvS : v_S T.2.2.1 S) (hT : c_T w d T) (hS : c_S w s T.2.2.1 S) (hD : c_D w t) (h2t : 2 ≤ t) (h2d : 2 ≤ d) (h2s : 2 ≤ s) (j1 : t + 8 ≤ d ∨ d + 5 ≤ t) (j2 : t + 8 ≤ s ∨ s + 4 ≤ t) (j3 : d + 5 ≤ s ∨ s + 4 ≤ d) : am_Go 54 (0, [.ref t, .ref d, .ref s], [], w, 0, 0) (fun res w' => res = none ∧ c_LS w' t T S 0 ∧ am_same (rg t 8) w w') := by
  obtain ⟨wa, ki, ba, he, ht0, ht1, ht2, ht3, ht4, hw, hh⟩ := hT
  obtain ⟨so, ss, sl, hs0, hs1, hs2, hs3, ho, hs, hl⟩ := hS
  obtain ⟨dw, ds, dg, dd, dl, df, dv, hd0, hd1, hd2, hd3, hd4, hd5, hd6, hd7⟩ := hD
  refine (c_lookAt w d h2d T.1 T.2.1 T.2.2.1 T.2.2.2.1 wa ki ba he ht0 ht1 ht2 ht3 ht4 hvT.1 hvT.2.1 s h2s so ss sl S.2.2.2.2.1 S.2.2.2.2.2.1 S.2.2.2.2.2.2 (Nat.lt_trans hvS.2.2.2 (by decide)) hs0 hs1 hs2 hs3 t h2t dw ds dg dd dl df dv hd0 hd1 hd2 hd3 hd4 hd5 hd6 hd7 j1 j2 j3 S.1 (hvS.od hvT.1 ho) hvS.inj).mono ?_
  rintro res w' ⟨fw, fs, a3, a4, a5, a6, a7, rfl, rfl, h1, h2, h3⟩
  refine ⟨rfl, c_L_of hvS hw hh hs ?_ h1 h2 h3, ?_⟩
  · exact ⟨am_gn (by omega) (am_gn (by omega) (am_gn (by omega) (am_gn (by omega) (am_gn (by omega) (am_gn (by omega) (am_gn (by omega) hd0)))))), (am_gn (by omega) (am_gn (by omega) (am_gn (by omega) (am_gn (by omega) (am_gn (by omega) (am_gn (by omega) (am_gs hd1))))))), (am_gn (by omega) (am_gn (by omega) (am_gn (by omega) (am_gn (by omega) (am_gn (by omega) (am_gs (am_gn (by omega) hd2))))))), (am_gn (by omega) (am_gn (by omega) (am_gn (by omega) (am_gn (by omega) (am_gs (am_gn (by omega) (am_gn (by omega) hd3))))))), (am_gn (by omega) (am_gn (by omega) (am_gn (by omega) (am_gs (am_gn (by omega) (am_gn (by omega) (am_gn (by omega) hd4))))))), (am_gn (by omega) (am_gn (by omega) (am_gs (am_gn (by omega) (am_gn (by omega) (am_gn (by omega) (am_gn (by omega) hd5))))))), (am_gn (by omega) (am_gs (am_gn (by omega) (am_gn (by omega) (am_gn (by omega) (am_gn (by omega) (am_gn (by omega) hd6))))))), (am_gs (am_gn (by omega) (am_gn (by omega) (am_gn (by omega) (am_gn (by omega) (am_gn (by omega) (am_gn (by omega) hd7)))))))⟩
  · exact (am_same.set (am_same.set (am_same.set (am_same.set (am_same.set (am_same.set (am_same.set am_same.rf (by unfold rg; omega)) (by unfold rg; omega)) (by unfold rg; omega)) (by unfold rg; omega)) (by unfold rg; omega)) (by unfold rg; omega)) (by unfold rg; omega))
set_option maxHeartbeats 4000000 in
theorem k_pass (w : am_W) (t d s : Nat) (T : p_D) (S : s_S) (hvT : v_T T) (hvS : v_S T.2.2.1 S) (hT : c_T w d T) (hS : c_S w s T.2.2.1 S) (hD : c_D w t) (h2t : 2 ≤ t) (h2d : 2 ≤ d) (h2s : 2 ≤ s) (j1 : t + 8 ≤ d ∨ d + 5 ≤ t) (j2 : t + 8 ≤ s ∨ s + 4 ≤ t) (j3 : d + 5 ≤ s ∨ s + 4 ≤ d) : am_Go 58 (0, [.ref t, .ref d, .ref s, .float 0], [], w, 0, 0) (fun res w' => res = none ∧ c_S w' s T.2.2.1 (m_pass T S) ∧ c_LS w' t T S 0 ∧ am_same (fun b => rg t 8 b ∨ rg s 4 b) w w') := by
  obtain ⟨wa, ki, ba, he, ht0, ht1, ht2, ht3, ht4, hw, hh⟩ := hT
  obtain ⟨so, ss, sl, hs0, hs1, hs2, hs3, ho, hs, hl⟩ := hS
  obtain ⟨dw, ds, dg, dd, dl, df, dv, hd0, hd1, hd2, hd3, hd4, hd5, hd6, hd7⟩ := hD
  refine (c_pass w d h2d T.1 T.2.1 T.2.2.1 T.2.2.2.1 wa ki ba he ht0 ht1 ht2 ht3 ht4 hvT.1 hvT.2.1 s h2s so ss sl S.2.2.2.2.1 S.2.2.2.2.2.1 S.2.2.2.2.2.2 (Nat.lt_trans hvS.2.2.2 (by decide)) hs0 hs1 hs2 hs3 t h2t dw ds dg dd dl df dv hd0 hd1 hd2 hd3 hd4 hd5 hd6 hd7 j1 j2 j3 S.1 (hvS.od hvT.1 ho) hvS.inj).mono ?_
  rintro res w' ⟨fw, fs, a3, a4, a5, a6, a7, b2, b3, rfl, rfl, h1, h2, h3, h4, h5⟩
  have hL : c_LS (((((((w.set (t + 1) (.inl (0, 6, .inl fw))).set (t + 2) (.inl (0, 6, .inl fs))).set (t + 3) (.inl (0, 6, .inl a3))).set (t + 4) (.inl (0, 6, .inl a4))).set (t + 5) (.inl (0, 6, .inl a5))).set (t + 6) (.inl (0, 6, .inl a6))).set (t + 7) (.inl (0, 6, .inl a7))) t T S 0 := c_L_of hvS hw hh hs ⟨(am_gn (by omega) (am_gn (by omega) (am_gn (by omega) (am_gn (by omega) (am_gn (by omega) (am_gn (by omega) (am_gn (by omega) hd0))))))), (am_gn (by omega) (am_gn (by omega) (am_gn (by omega) (am_gn (by omega) (am_gn (by omega) (am_gn (by omega) (am_gs hd1))))))), (am_gn (by omega) (am_gn (by omega) (am_gn (by omega) (am_gn (by omega) (am_gn (by omega) (am_gs (am_gn (by omega) hd2))))))), (am_gn (by omega) (am_gn (by omega) (am_gn (by omega) (am_gn (by omega) (am_gs (am_gn (by omega) (am_gn (by omega) hd3))))))), (am_gn (by omega) (am_gn (by omega) (am_gn (by omega) (am_gs (am_gn (by omega) (am_gn (by omega) (am_gn (by omega) hd4))))))), (am_gn (by omega) (am_gn (by omega) (am_gs (am_gn (by omega) (am_gn (by omega) (am_gn (by omega) (am_gn (by omega) hd5))))))), (am_gn (by omega) (am_gs (am_gn (by omega) (am_gn (by omega) (am_gn (by omega) (am_gn (by omega) (am_gn (by omega) hd6))))))), (am_gs (am_gn (by omega) (am_gn (by omega) (am_gn (by omega) (am_gn (by omega) (am_gn (by omega) (am_gn (by omega) hd7)))))))⟩ h1 h2 h3
  have hL2 : c_LS ((((((((((w.set (t + 1) (.inl (0, 6, .inl fw))).set (t + 2) (.inl (0, 6, .inl fs))).set (t + 3) (.inl (0, 6, .inl a3))).set (t + 4) (.inl (0, 6, .inl a4))).set (t + 5) (.inl (0, 6, .inl a5))).set (t + 6) (.inl (0, 6, .inl a6))).set (t + 7) (.inl (0, 6, .inl a7))).set (s + 2) (.inl (0, 6, .inl b2))).set (s + 3) (.inl (0, 6, .inl b3))).set s (.inr (6, [.ref (s + 1), .ref (s + 2), .ref (s + 3), .int 0, .int S.2.2.2.2.2.1, .int (nI (S.2.2.2.2.2.2 + 1))]))) t T S 0 := c_L_of hvS hw hh hs ⟨(am_gn (by omega) (am_gn (by omega) (am_gn (by omega) (am_gn (by omega) (am_gn (by omega) (am_gn (by omega) (am_gn (by omega) (am_gn (by omega) (am_gn (by omega) (am_gn (by omega) hd0)))))))))), (am_gn (by omega) (am_gn (by omega) (am_gn (by omega) (am_gn (by omega) (am_gn (by omega) (am_gn (by omega) (am_gn (by omega) (am_gn (by omega) (am_gn (by omega) (am_gs hd1)))))))))), (am_gn (by omega) (am_gn (by omega) (am_gn (by omega) (am_gn (by omega) (am_gn (by omega) (am_gn (by omega) (am_gn (by omega) (am_gn (by omega) (am_gs (am_gn (by omega) hd2)))))))))), (am_gn (by omega) (am_gn (by omega) (am_gn (by omega) (am_gn (by omega) (am_gn (by omega) (am_gn (by omega) (am_gn (by omega) (am_gs (am_gn (by omega) (am_gn (by omega) hd3)))))))))), (am_gn (by omega) (am_gn (by omega) (am_gn (by omega) (am_gn (by omega) (am_gn (by omega) (am_gn (by omega) (am_gs (am_gn (by omega) (am_gn (by omega) (am_gn (by omega) hd4)))))))))), (am_gn (by omega) (am_gn (by omega) (am_gn (by omega) (am_gn (by omega) (am_gn (by omega) (am_gs (am_gn (by omega) (am_gn (by omega) (am_gn (by omega) (am_gn (by omega) hd5)))))))))), (am_gn (by omega) (am_gn (by omega) (am_gn (by omega) (am_gn (by omega) (am_gs (am_gn (by omega) (am_gn (by omega) (am_gn (by omega) (am_gn (by omega) (am_gn (by omega) hd6)))))))))), (am_gn (by omega) (am_gn (by omega) (am_gn (by omega) (am_gs (am_gn (by omega) (am_gn (by omega) (am_gn (by omega) (am_gn (by omega) (am_gn (by omega) (am_gn (by omega) hd7))))))))))⟩ h1 h2 h3
  obtain ⟨_, _, _, _, _, _, _, ⟨-, -, -, -, -, e5, e6, -⟩, hL3⟩ := hL
  have e5 := e5.symm.trans (am_gn (by omega) (am_gn (by omega) (am_gs (am_gn (by omega) (am_gn (by omega) (am_gn (by omega) (am_gn (by omega) hd5)))))))
  have e6 := e6.symm.trans (am_gn (by omega) (am_gs (am_gn (by omega) (am_gn (by omega) (am_gn (by omega) (am_gn (by omega) (am_gn (by omega) hd6)))))))
  cases e5
  cases e6
  refine ⟨rfl, ⟨so, b2, b3, am_gs (am_gn (by omega) (am_gn (by omega) (am_gn (by omega) (am_gn (by omega) (am_gn (by omega) (am_gn (by omega) (am_gn (by omega) (am_gn (by omega) (am_gn (by omega) hs0))))))))), (am_gn (by omega) (am_gn (by omega) (am_gn (by omega) (am_gn (by omega) (am_gn (by omega) (am_gn (by omega) (am_gn (by omega) (am_gn (by omega) (am_gn (by omega) (am_gn (by omega) hs1)))))))))), (am_gn (by omega) (am_gn (by omega) (am_gs (am_gn (by omega) (am_gn (by omega) (am_gn (by omega) (am_gn (by omega) (am_gn (by omega) (am_gn (by omega) (am_gn (by omega) hs2)))))))))), (am_gn (by omega) (am_gs (am_gn (by omega) (am_gn (by omega) (am_gn (by omega) (am_gn (by omega) (am_gn (by omega) (am_gn (by omega) (am_gn (by omega) (am_gn (by omega) hs3)))))))))), ho, fun h hh0 => ?_, fun h hh0 => ?_⟩, hL2, ?_⟩
  · rw [h4 h hh0]; exact (hL3 h hh0).2.2.2.2.2.1
  · rw [h5 h hh0, hl h hh0, (hL3 h hh0).2.2.2.2.1]; rfl
  · exact (am_same.set (am_same.set (am_same.set (am_same.set (am_same.set (am_same.set (am_same.set (am_same.set (am_same.set (am_same.set am_same.rf (Or.inl (by unfold rg; omega))) (Or.inl (by unfold rg; omega))) (Or.inl (by unfold rg; omega))) (Or.inl (by unfold rg; omega))) (Or.inl (by unfold rg; omega))) (Or.inl (by unfold rg; omega))) (Or.inl (by unfold rg; omega))) (Or.inr (by unfold rg; omega))) (Or.inr (by unfold rg; omega))) (Or.inr (by unfold rg; omega)))
theorem m_pass_v {n : Nat} {T : p_D} {S : s_S} (h : v_S n S) (hd : S.2.2.2.2.2.2 + 1 < 2 ^ 30) : v_S n (m_pass T S) := ⟨h.1, h.2.1, h.2.2.1, hd⟩
theorem m_salt_v {n : Nat} {S : s_S} (h : v_S n S) (x : Int32) : v_S n (m_salt S x) := h
theorem m_away_v {n : Nat} {S : s_S} (h : v_S n S) (x : Int32) : v_S n (m_away S x) := h
theorem m_swap_v {n : Nat} {S : s_S} (hn : n ≤ 6) (h : v_S n S) {a b : Nat} (ha : a < n) (hb : b < n) : v_S n (m_swap S a b) := by
  obtain ⟨h1, h2, h3, h4⟩ := h
  refine ⟨fun p hp => ?_, fun x hx => ?_, fun p hp h6 => ?_, h4⟩
  · obtain ⟨q1, q2⟩ := h1 p hp
    show m_swapf S.1 a b p < n ∧ S.2.1 (if m_swapf S.1 a b p = a then b else if m_swapf S.1 a b p = b then a else m_swapf S.1 a b p) = p
    unfold m_swapf
    by_cases e1 : S.1 p = a
    · rw [if_pos e1]
      refine ⟨hb, ?_⟩
      by_cases e3 : b = a
      · rw [if_pos e3, e3, ← e1]; exact q2
      · rw [if_neg e3, if_pos rfl, ← e1]; exact q2
    · rw [if_neg e1]
      by_cases e2 : S.1 p = b
      · rw [if_pos e2]
        exact ⟨ha, by rw [if_pos rfl, ← e2]; exact q2⟩
      · rw [if_neg e2]
        exact ⟨q1, by rw [if_neg e1, if_neg e2]; exact q2⟩
  · show S.2.1 (if x = a then b else if x = b then a else x) < n ∧ m_swapf S.1 a b (S.2.1 (if x = a then b else if x = b then a else x)) = x
    unfold m_swapf
    by_cases e1 : x = a
    · rw [if_pos e1]
      obtain ⟨q1, q2⟩ := h2 b hb
      refine ⟨q1, ?_⟩
      rw [q2]
      by_cases e3 : b = a
      · rw [if_pos e3, e3, e1]
      · rw [if_neg e3, if_pos rfl, e1]
    · rw [if_neg e1]
      by_cases e2 : x = b
      · rw [if_pos e2]
        obtain ⟨q1, q2⟩ := h2 a ha
        exact ⟨q1, by rw [q2, if_pos rfl, e2]⟩
      · rw [if_neg e2]
        obtain ⟨q1, q2⟩ := h2 x hx
        exact ⟨q1, by rw [q2, if_neg e1, if_neg e2]⟩
  · show m_swapf S.1 a b p = p
    unfold m_swapf
    rw [h3 p hp h6, if_neg (by omega), if_neg (by omega)]
theorem k_copy (w : am_W) (s o n : Nat) (S S2 : s_S) (hS : c_S w s n S) (hO : c_S w o n S2) (h6 : n ≤ 6) (h2s : 2 ≤ s) (h2o : 2 ≤ o) (hdj : s + 4 ≤ o ∨ o + 4 ≤ s) : am_Go 42 (0, [.ref s, .ref o], [], w, 0, 0) (fun res w' => res = none ∧ c_S w' s n S2 ∧ am_same (rg s 4) w w') := by
  obtain ⟨so, ss, sl, hs0, hs1, hs2, hs3, -⟩ := hS
  obtain ⟨oo, os, ol, ho0, ho1, ho2, ho3, q1, q2, q3⟩ := hO
  refine (c_copyFrom w s h2s so ss sl _ _ _ hs0 hs1 hs2 hs3 o h2o hdj oo os ol _ _ _ ho0 ho1 ho2 ho3).mono ?_
  rintro res w' ⟨rfl, rfl⟩
  refine ⟨rfl, ⟨_, _, _, am_gs (am_gn (by omega) (am_gn (by omega) (am_gn (by omega) hs0))), am_gn (by omega) (am_gn (by omega) (am_gn (by omega) (am_gs hs1))), am_gn (by omega) (am_gn (by omega) (am_gs (am_gn (by omega) hs2))), am_gn (by omega) (am_gs (am_gn (by omega) (am_gn (by omega) hs3))), fun p hp => ?_, fun h hh => ?_, fun h hh => ?_⟩, ?_⟩
  · rw [pk_cpy_in (by omega) (by omega)]; simpa using q1 p hp
  · rw [pk_cpy_in (by omega) (by omega)]; simpa using q2 h hh
  · rw [pk_cpy_in (by omega) (by omega)]; simpa using q3 h hh
  · exact am_same.set (am_same.set (am_same.set (am_same.set am_same.rf (by unfold rg; omega)) (by unfold rg; omega)) (by unfold rg; omega)) (by unfold rg; omega)
theorem k_giveSalt (w : am_W) (s n : Nat) (S : s_S) (hS : c_S w s n S) (h2s : 2 ≤ s) (x : Int32) : am_Go 46 (0, [.ref s, .int x], [], w, 0, 0) (fun res w' => res = none ∧ c_S w' s n (m_salt S x) ∧ am_same (rg s 4) w w') := by
  obtain ⟨so, ss, sl, hs0, hs1, hs2, hs3, q1, q2, q3⟩ := hS
  refine (c_giveSalt w s h2s so ss sl _ _ _ hs0 hs1 hs2 hs3 x).mono ?_
  rintro res w' ⟨rfl, rfl⟩
  exact ⟨rfl, ⟨so, ss, sl, am_gs hs0, am_gn (by omega) hs1, am_gn (by omega) hs2, am_gn (by omega) hs3, q1, q2, q3⟩, am_same.set am_same.rf (by unfold rg; omega)⟩
theorem k_turnAway (w : am_W) (s n : Nat) (S : s_S) (hS : c_S w s n S) (h2s : 2 ≤ s) (x : Int32) : am_Go 48 (0, [.ref s, .int x], [], w, 0, 0) (fun res w' => res = none ∧ c_S w' s n (m_away S x) ∧ am_same (rg s 4) w w') := by
  obtain ⟨so, ss, sl, hs0, hs1, hs2, hs3, q1, q2, q3⟩ := hS
  refine (c_turnAway w s h2s so ss sl _ _ _ hs0 hs1 hs2 hs3 x).mono ?_
  rintro res w' ⟨rfl, rfl⟩
  exact ⟨rfl, ⟨so, ss, sl, am_gs hs0, am_gn (by omega) hs1, am_gn (by omega) hs2, am_gn (by omega) hs3, q1, q2, q3⟩, am_same.set am_same.rf (by unfold rg; omega)⟩
theorem k_exchange (w : am_W) (s n : Nat) (S : s_S) (hvS : v_S n S) (hS : c_S w s n S) (h6 : n ≤ 6) (h2s : 2 ≤ s) (a b : Nat) (ha : a < n) (hb : b < n) : am_Go 44 (0, [.ref s, .int (nI a), .int (nI b), .float 0], [], w, 0, 0) (fun res w' => res = none ∧ c_S w' s n (m_swap S a b) ∧ am_same (rg s 4) w w') := by
  obtain ⟨so, ss, sl, hs0, hs1, hs2, hs3, q1, q2, q3⟩ := hS
  refine (c_exchange w s h2s so ss sl _ _ _ hs0 hs1 hs2 hs3 (nI a) (nI b)).mono ?_
  rintro res w' ⟨f, rfl, rfl, hf⟩
  have h66 : ∀ p, p < 6 → S.1 p < 6 := fun p hp => by
    rcases Nat.lt_or_ge p n with q | q
    · have := (hvS.1 p q).1; omega
    · rw [hvS.2.2.1 p q hp]; exact hp
  refine ⟨rfl, ⟨f, ss, sl, am_gn (by omega) hs0, am_gs hs1, am_gn (by omega) hs2, am_gn (by omega) hs3, fun p hp => ?_, q2, q3⟩, am_same.set am_same.rf (by unfold rg; omega)⟩
  rw [hf p hp, q1 p hp]
  have hp6 := h66 p hp
  show _ = nI (m_swapf S.1 a b p)
  unfold m_swapf
  by_cases e1 : S.1 p = a
  · rw [if_pos e1, if_pos (by rw [e1])]
  · rw [if_neg e1, if_neg (fun e => e1 ((nI_eq (by omega) (by omega)).mp e))]
    by_cases e2 : S.1 p = b
    · rw [if_pos e2, if_pos (by rw [e2])]
    · rw [if_neg e2, if_neg (fun e => e2 ((nI_eq (by omega) (by omega)).mp e))]
theorem k_placeOf (w : am_W) (s n : Nat) (S : s_S) (hvS : v_S n S) (hS : c_S w s n S) (h6 : n ≤ 6) (h2s : 2 ≤ s) (h : Nat) (hh : h < n) : am_Go 43 (0, [.ref s, .int (nI h), .float 0], [], w, 0, 0) (fun res w' => res = some (.int (nI (S.2.1 h))) ∧ w' = w) := by
  obtain ⟨so, ss, sl, hs0, hs1, hs2, hs3, q1, q2, q3⟩ := hS
  obtain ⟨p1, p2⟩ := hvS.2.1 h hh
  refine c_placeOf w s h2s so ss sl _ _ _ hs0 hs1 hs2 hs3 (nI h) (S.2.1 h) (by omega) (by rw [q1 _ (by omega), p2]) (fun i hi e => ?_)
  rw [q1 i (by omega)] at e
  have e2 := (nI_eq (by have := (hvS.1 i (by omega)).1; omega) (by omega)).mp e
  have e3 := (hvS.1 i (by omega)).2
  rw [e2] at e3
  omega
