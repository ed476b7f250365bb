/-! the class whole: its world -/
abbrev x_N : Type := Nat × (Nat → Int32) × (Nat → Int32) × (Nat → Int32)
def c_W (w : am_W) (t : Nat × (Nat → Int32)) (T : p_D) (S : s_S) (A : List s_S) (K : Nat → Option s_S) (N : x_N) (sd : Int64) : Prop := w[0]? = some (.inl (0, 7, .inl am_fac)) ∧ w[2]? = some (.inr (10, [.ref 3, .ref 5, .ref 11, .ref 16, .ref 20, .ref 78, .ref 88, .ref 92, .ref 100, .ref 118, .long sd])) ∧ c_X w t.1 t.2 ∧ c_G w ∧ c_T w 11 T ∧ c_S w 16 T.2.2.1 S ∧ c_A w T.2.2.1 A ∧ c_K w T.2.2.1 K ∧ c_N w N.1 N.2.1 N.2.2.1 N.2.2.2 ∧ c_D w 92 ∧ c_O w ∧ c_C w
theorem c_W.f {w : am_W} {t : Nat × (Nat → Int32)} {T : p_D} {S : s_S} {A : List s_S} {K : Nat → Option s_S} {N : x_N} {sd : Int64} (h : c_W w t T S A K N sd) : w[0]? = some (.inl (0, 7, .inl am_fac)) := h.1
theorem c_W.o {w : am_W} {t : Nat × (Nat → Int32)} {T : p_D} {S : s_S} {A : List s_S} {K : Nat → Option s_S} {N : x_N} {sd : Int64} (h : c_W w t T S A K N sd) : w[2]? = some (.inr (10, [.ref 3, .ref 5, .ref 11, .ref 16, .ref 20, .ref 78, .ref 88, .ref 92, .ref 100, .ref 118, .long sd])) := h.2.1
theorem c_W.X {w : am_W} {t : Nat × (Nat → Int32)} {T : p_D} {S : s_S} {A : List s_S} {K : Nat → Option s_S} {N : x_N} {sd : Int64} (h : c_W w t T S A K N sd) : c_X w t.1 t.2 := h.2.2.1
theorem c_W.G {w : am_W} {t : Nat × (Nat → Int32)} {T : p_D} {S : s_S} {A : List s_S} {K : Nat → Option s_S} {N : x_N} {sd : Int64} (h : c_W w t T S A K N sd) : c_G w := h.2.2.2.1
theorem c_W.T {w : am_W} {t : Nat × (Nat → Int32)} {T : p_D} {S : s_S} {A : List s_S} {K : Nat → Option s_S} {N : x_N} {sd : Int64} (h : c_W w t T S A K N sd) : c_T w 11 T := h.2.2.2.2.1
theorem c_W.S {w : am_W} {t : Nat × (Nat → Int32)} {T : p_D} {S : s_S} {A : List s_S} {K : Nat → Option s_S} {N : x_N} {sd : Int64} (h : c_W w t T S A K N sd) : c_S w 16 T.2.2.1 S := h.2.2.2.2.2.1
theorem c_W.A {w : am_W} {t : Nat × (Nat → Int32)} {T : p_D} {S : s_S} {A : List s_S} {K : Nat → Option s_S} {N : x_N} {sd : Int64} (h : c_W w t T S A K N sd) : c_A w T.2.2.1 A := h.2.2.2.2.2.2.1
theorem c_W.K {w : am_W} {t : Nat × (Nat → Int32)} {T : p_D} {S : s_S} {A : List s_S} {K : Nat → Option s_S} {N : x_N} {sd : Int64} (h : c_W w t T S A K N sd) : c_K w T.2.2.1 K := h.2.2.2.2.2.2.2.1
theorem c_W.N {w : am_W} {t : Nat × (Nat → Int32)} {T : p_D} {S : s_S} {A : List s_S} {K : Nat → Option s_S} {N : x_N} {sd : Int64} (h : c_W w t T S A K N sd) : c_N w N.1 N.2.1 N.2.2.1 N.2.2.2 := h.2.2.2.2.2.2.2.2.1
theorem c_W.D {w : am_W} {t : Nat × (Nat → Int32)} {T : p_D} {S : s_S} {A : List s_S} {K : Nat → Option s_S} {N : x_N} {sd : Int64} (h : c_W w t T S A K N sd) : c_D w 92 := h.2.2.2.2.2.2.2.2.2.1
theorem c_W.O {w : am_W} {t : Nat × (Nat → Int32)} {T : p_D} {S : s_S} {A : List s_S} {K : Nat → Option s_S} {N : x_N} {sd : Int64} (h : c_W w t T S A K N sd) : c_O w := h.2.2.2.2.2.2.2.2.2.2.1
theorem c_W.C {w : am_W} {t : Nat × (Nat → Int32)} {T : p_D} {S : s_S} {A : List s_S} {K : Nat → Option s_S} {N : x_N} {sd : Int64} (h : c_W w t T S A K N sd) : c_C w := h.2.2.2.2.2.2.2.2.2.2.2
theorem c_W.sX {w w' : am_W} {t : Nat × (Nat → Int32)} {T : p_D} {S : s_S} {A : List s_S} {K : Nat → Option s_S} {N : x_N} {sd : Int64} {t' : Nat × (Nat → Int32)} (h : c_W w t T S A K N sd) (hs : am_same (rg 3 2) w w') (hx : c_X w' t'.1 t'.2) : c_W w' t' T S A K N sd := ⟨hs.at (by unfold rg; omega) h.f, hs.at (by unfold rg; omega) h.o, hx, h.G.same hs (fun b h1 h2 => by unfold rg; omega), h.T.same hs (fun b h1 h2 => by unfold rg; omega), h.S.same hs (fun b h1 h2 => by unfold rg; omega), h.A.same hs (fun b h1 h2 => by unfold rg; omega), h.K.same hs (fun b h1 h2 => by unfold rg; omega), h.N.same hs (fun b h1 h2 => by unfold rg; omega), h.D.same hs (fun b h1 h2 => by unfold rg; omega), h.O.same hs (fun b h1 h2 => by unfold rg; omega), h.C.same hs (fun b h1 h2 => by unfold rg; omega)⟩
theorem c_W.sG {w w' : am_W} {t : Nat × (Nat → Int32)} {T : p_D} {S : s_S} {A : List s_S} {K : Nat → Option s_S} {N : x_N} {sd : Int64} (h : c_W w t T S A K N sd) (hs : am_same (rg 5 6) w w') (hx : c_G w') : c_W w' t T S A K N sd := ⟨hs.at (by unfold rg; omega) h.f, hs.at (by unfold rg; omega) h.o, h.X.same hs (fun b h1 h2 => by unfold rg; omega), hx, h.T.same hs (fun b h1 h2 => by unfold rg; omega), h.S.same hs (fun b h1 h2 => by unfold rg; omega), h.A.same hs (fun b h1 h2 => by unfold rg; omega), h.K.same hs (fun b h1 h2 => by unfold rg; omega), h.N.same hs (fun b h1 h2 => by unfold rg; omega), h.D.same hs (fun b h1 h2 => by unfold rg; omega), h.O.same hs (fun b h1 h2 => by unfold rg; omega), h.C.same hs (fun b h1 h2 => by unfold rg; omega)⟩
theorem c_W.sS {w w' : am_W} {t : Nat × (Nat → Int32)} {T : p_D} {S : s_S} {A : List s_S} {K : Nat → Option s_S} {N : x_N} {sd : Int64} {S' : s_S} (h : c_W w t T S A K N sd) (hs : am_same (rg 16 4) w w') (hx : c_S w' 16 T.2.2.1 S') : c_W w' t T S' A K N sd := ⟨hs.at (by unfold rg; omega) h.f, hs.at (by unfold rg; omega) h.o, h.X.same hs (fun b h1 h2 => by unfold rg; omega), h.G.same hs (fun b h1 h2 => by unfold rg; omega), h.T.same hs (fun b h1 h2 => by unfold rg; omega), hx, h.A.same hs (fun b h1 h2 => by unfold rg; omega), h.K.same hs (fun b h1 h2 => by unfold rg; omega), h.N.same hs (fun b h1 h2 => by unfold rg; omega), h.D.same hs (fun b h1 h2 => by unfold rg; omega), h.O.same hs (fun b h1 h2 => by unfold rg; omega), h.C.same hs (fun b h1 h2 => by unfold rg; omega)⟩
theorem c_W.sA {w w' : am_W} {t : Nat × (Nat → Int32)} {T : p_D} {S : s_S} {A : List s_S} {K : Nat → Option s_S} {N : x_N} {sd : Int64} {A' : List s_S} (h : c_W w t T S A K N sd) (hs : am_same (rg 20 58) w w') (hx : c_A w' T.2.2.1 A') : c_W w' t T S A' K N sd := ⟨hs.at (by unfold rg; omega) h.f, hs.at (by unfold rg; omega) h.o, h.X.same hs (fun b h1 h2 => by unfold rg; omega), h.G.same hs (fun b h1 h2 => by unfold rg; omega), h.T.same hs (fun b h1 h2 => by unfold rg; omega), h.S.same hs (fun b h1 h2 => by unfold rg; omega), hx, h.K.same hs (fun b h1 h2 => by unfold rg; omega), h.N.same hs (fun b h1 h2 => by unfold rg; omega), h.D.same hs (fun b h1 h2 => by unfold rg; omega), h.O.same hs (fun b h1 h2 => by unfold rg; omega), h.C.same hs (fun b h1 h2 => by unfold rg; omega)⟩
theorem c_W.sSA {w w' : am_W} {t : Nat × (Nat → Int32)} {T : p_D} {S : s_S} {A : List s_S} {K : Nat → Option s_S} {N : x_N} {sd : Int64} {A' : List s_S} {S' : s_S} (h : c_W w t T S A K N sd) (hs : am_same (rg 16 62) w w') (hx : c_A w' T.2.2.1 A') (hy : c_S w' 16 T.2.2.1 S') : c_W w' t T S' A' K N sd := ⟨hs.at (by unfold rg; omega) h.f, hs.at (by unfold rg; omega) h.o, h.X.same hs (fun b h1 h2 => by unfold rg; omega), h.G.same hs (fun b h1 h2 => by unfold rg; omega), h.T.same hs (fun b h1 h2 => by unfold rg; omega), hy, hx, h.K.same hs (fun b h1 h2 => by unfold rg; omega), h.N.same hs (fun b h1 h2 => by unfold rg; omega), h.D.same hs (fun b h1 h2 => by unfold rg; omega), h.O.same hs (fun b h1 h2 => by unfold rg; omega), h.C.same hs (fun b h1 h2 => by unfold rg; omega)⟩
theorem c_W.sK {w w' : am_W} {t : Nat × (Nat → Int32)} {T : p_D} {S : s_S} {A : List s_S} {K : Nat → Option s_S} {N : x_N} {sd : Int64} {K' : Nat → Option s_S} (h : c_W w t T S A K N sd) (hs : am_same (rg 78 10) w w') (hx : c_K w' T.2.2.1 K') : c_W w' t T S A K' N sd := ⟨hs.at (by unfold rg; omega) h.f, hs.at (by unfold rg; omega) h.o, h.X.same hs (fun b h1 h2 => by unfold rg; omega), h.G.same hs (fun b h1 h2 => by unfold rg; omega), h.T.same hs (fun b h1 h2 => by unfold rg; omega), h.S.same hs (fun b h1 h2 => by unfold rg; omega), h.A.same hs (fun b h1 h2 => by unfold rg; omega), hx, h.N.same hs (fun b h1 h2 => by unfold rg; omega), h.D.same hs (fun b h1 h2 => by unfold rg; omega), h.O.same hs (fun b h1 h2 => by unfold rg; omega), h.C.same hs (fun b h1 h2 => by unfold rg; omega)⟩
theorem c_W.sN {w w' : am_W} {t : Nat × (Nat → Int32)} {T : p_D} {S : s_S} {A : List s_S} {K : Nat → Option s_S} {N : x_N} {sd : Int64} {N' : x_N} (h : c_W w t T S A K N sd) (hs : am_same (rg 88 4) w w') (hx : c_N w' N'.1 N'.2.1 N'.2.2.1 N'.2.2.2) : c_W w' t T S A K N' sd := ⟨hs.at (by unfold rg; omega) h.f, hs.at (by unfold rg; omega) h.o, h.X.same hs (fun b h1 h2 => by unfold rg; omega), h.G.same hs (fun b h1 h2 => by unfold rg; omega), h.T.same hs (fun b h1 h2 => by unfold rg; omega), h.S.same hs (fun b h1 h2 => by unfold rg; omega), h.A.same hs (fun b h1 h2 => by unfold rg; omega), h.K.same hs (fun b h1 h2 => by unfold rg; omega), hx, h.D.same hs (fun b h1 h2 => by unfold rg; omega), h.O.same hs (fun b h1 h2 => by unfold rg; omega), h.C.same hs (fun b h1 h2 => by unfold rg; omega)⟩
theorem c_W.sD {w w' : am_W} {t : Nat × (Nat → Int32)} {T : p_D} {S : s_S} {A : List s_S} {K : Nat → Option s_S} {N : x_N} {sd : Int64} (h : c_W w t T S A K N sd) (hs : am_same (rg 92 8) w w') (hx : c_D w' 92) : c_W w' t T S A K N sd := ⟨hs.at (by unfold rg; omega) h.f, hs.at (by unfold rg; omega) h.o, h.X.same hs (fun b h1 h2 => by unfold rg; omega), h.G.same hs (fun b h1 h2 => by unfold rg; omega), h.T.same hs (fun b h1 h2 => by unfold rg; omega), h.S.same hs (fun b h1 h2 => by unfold rg; omega), h.A.same hs (fun b h1 h2 => by unfold rg; omega), h.K.same hs (fun b h1 h2 => by unfold rg; omega), h.N.same hs (fun b h1 h2 => by unfold rg; omega), hx, h.O.same hs (fun b h1 h2 => by unfold rg; omega), h.C.same hs (fun b h1 h2 => by unfold rg; omega)⟩
theorem c_W.sO {w w' : am_W} {t : Nat × (Nat → Int32)} {T : p_D} {S : s_S} {A : List s_S} {K : Nat → Option s_S} {N : x_N} {sd : Int64} (h : c_W w t T S A K N sd) (hs : am_same (rg 100 18) w w') (hx : c_O w') : c_W w' t T S A K N sd := ⟨hs.at (by unfold rg; omega) h.f, hs.at (by unfold rg; omega) h.o, h.X.same hs (fun b h1 h2 => by unfold rg; omega), h.G.same hs (fun b h1 h2 => by unfold rg; omega), h.T.same hs (fun b h1 h2 => by unfold rg; omega), h.S.same hs (fun b h1 h2 => by unfold rg; omega), h.A.same hs (fun b h1 h2 => by unfold rg; omega), h.K.same hs (fun b h1 h2 => by unfold rg; omega), h.N.same hs (fun b h1 h2 => by unfold rg; omega), h.D.same hs (fun b h1 h2 => by unfold rg; omega), hx, h.C.same hs (fun b h1 h2 => by unfold rg; omega)⟩
theorem c_W.sC {w w' : am_W} {t : Nat × (Nat → Int32)} {T : p_D} {S : s_S} {A : List s_S} {K : Nat → Option s_S} {N : x_N} {sd : Int64} (h : c_W w t T S A K N sd) (hs : am_same (rg 118 15) w w') (hx : c_C w') : c_W w' t T S A K N sd := ⟨hs.at (by unfold rg; omega) h.f, hs.at (by unfold rg; omega) h.o, h.X.same hs (fun b h1 h2 => by unfold rg; omega), h.G.same hs (fun b h1 h2 => by unfold rg; omega), h.T.same hs (fun b h1 h2 => by unfold rg; omega), h.S.same hs (fun b h1 h2 => by unfold rg; omega), h.A.same hs (fun b h1 h2 => by unfold rg; omega), h.K.same hs (fun b h1 h2 => by unfold rg; omega), h.N.same hs (fun b h1 h2 => by unfold rg; omega), h.D.same hs (fun b h1 h2 => by unfold rg; omega), h.O.same hs (fun b h1 h2 => by unfold rg; omega), hx⟩
theorem c_W.sSD {w w' : am_W} {t : Nat × (Nat → Int32)} {T : p_D} {S : s_S} {A : List s_S} {K : Nat → Option s_S} {N : x_N} {sd : Int64} {S' : s_S} (h : c_W w t T S A K N sd) (hs : am_same (fun b => rg 92 8 b ∨ rg 16 4 b) w w') (hx : c_S w' 16 T.2.2.1 S') (hy : c_D w' 92) : c_W w' t T S' A K N sd := ⟨hs.at (by unfold rg; omega) h.f, hs.at (by unfold rg; omega) h.o, h.X.same hs (fun b h1 h2 => by unfold rg; omega), h.G.same hs (fun b h1 h2 => by unfold rg; omega), h.T.same hs (fun b h1 h2 => by unfold rg; omega), hx, h.A.same hs (fun b h1 h2 => by unfold rg; omega), h.K.same hs (fun b h1 h2 => by unfold rg; omega), h.N.same hs (fun b h1 h2 => by unfold rg; omega), hy, h.O.same hs (fun b h1 h2 => by unfold rg; omega), h.C.same hs (fun b h1 h2 => by unfold rg; omega)⟩
theorem c_W.sSd {w : am_W} {t : Nat × (Nat → Int32)} {T : p_D} {S : s_S} {A : List s_S} {K : Nat → Option s_S} {N : x_N} {sd : Int64} (h : c_W w t T S A K N sd) (v : Int64) : c_W (w.set 2 (.inr (10, [.ref 3, .ref 5, .ref 11, .ref 16, .ref 20, .ref 78, .ref 88, .ref 92, .ref 100, .ref 118, .long v]))) t T S A K N v := by
  have hs : am_same (rg 2 1) w (w.set 2 (.inr (10, [.ref 3, .ref 5, .ref 11, .ref 16, .ref 20, .ref 78, .ref 88, .ref 92, .ref 100, .ref 118, .long v]))) := am_same.set am_same.rf (by unfold rg; omega)
  exact ⟨hs.at (by unfold rg; omega) h.f, am_gs h.o, h.X.same hs (fun b h1 h2 => by unfold rg; omega), h.G.same hs (fun b h1 h2 => by unfold rg; omega), h.T.same hs (fun b h1 h2 => by unfold rg; omega), h.S.same hs (fun b h1 h2 => by unfold rg; omega), h.A.same hs (fun b h1 h2 => by unfold rg; omega), h.K.same hs (fun b h1 h2 => by unfold rg; omega), h.N.same hs (fun b h1 h2 => by unfold rg; omega), h.D.same hs (fun b h1 h2 => by unfold rg; omega), h.O.same hs (fun b h1 h2 => by unfold rg; omega), h.C.same hs (fun b h1 h2 => by unfold rg; omega)⟩
theorem c_W.obs {w : am_W} {t : Nat × (Nat → Int32)} {T : p_D} {S : s_S} {A : List s_S} {K : Nat → Option s_S} {N : x_N} {sd : Int64} (h : c_W w t T S A K N sd) : ∃ (f kb : Nat) (bl bo rc fr : Int32) (se : Int64), w[2]? = some (.inr (10, [.ref 3, .ref 5, .ref 11, .ref 16, .ref 20, .ref 78, .ref 88, .ref 92, .ref 100, .ref 118, .long sd])) ∧ w[3]? = some (.inr (7, [.ref 4, .int (nI t.1)])) ∧ w[5]? = some (.inr (3, [.ref 6])) ∧ w[11]? = some (.inr (9, [.int T.1, .int T.2.1, .int (nI T.2.2.1), .int (nI T.2.2.2.1), .ref 12, .ref 13, .ref 14, .ref 15])) ∧ w[16]? = some (.inr (6, [.ref 17, .ref 18, .ref 19, .int S.2.2.2.2.1, .int S.2.2.2.2.2.1, .int (nI S.2.2.2.2.2.2)])) ∧ w[20]? = some (.inr (0, [.ref 21, .int (nI f), .int (nI A.length)])) ∧ w[78]? = some (.inr (5, [.ref 79, .int (nI kb)])) ∧ w[88]? = some (.inr (4, [.ref 89, .ref 90, .ref 91, .int (nI N.1)])) ∧ w[92]? = some (.inr (8, [.ref 93, .ref 94, .ref 95, .ref 96, .ref 97, .ref 98, .ref 99])) ∧ w[100]? = some (.inr (2, [.ref 101, .ref 106, .ref 110, .int bl, .int bo])) ∧ w[118]? = some (.inr (1, [.ref 119, .ref 123, .ref 131, .ref 132, .int rc, .int fr, .long se])) := by
  obtain ⟨-, f, -, ha, -⟩ := h.A
  obtain ⟨kb, -, hk, -⟩ := h.K
  obtain ⟨⟨bl, bo, hb⟩, -⟩ := h.O
  obtain ⟨⟨rc, fr, se, hc⟩, -⟩ := h.C
  exact ⟨f, kb, bl, bo, rc, fr, se, h.o, h.X.2.1, h.G.1, h.T.o, h.S.o, ha, hk, h.N.2.1, h.D.o, hb, hc⟩
/-- a standing of THE ROW T, its day at most d -/
def v_Y (T : p_D) (d : Nat) (S : s_S) : Prop := v_S T.2.2.1 S ∧ S.2.2.2.2.2.2 ≤ d ∧ (∃ a, a < 2 ^ T.2.2.1 ∧ S.2.2.2.2.1 = nI a) ∧ (∃ a, a < 2 ^ T.2.2.1 ∧ S.2.2.2.2.2.1 = nI a) ∧ ∀ h, h < T.2.2.1 → i_fg 9 (S.2.2.1 h)
def v_W (d : Nat) (T : p_D) (S : s_S) (A : List s_S) (K : Nat → Option s_S) : Prop := (v_T T ∧ v_F T) ∧ v_Y T d S ∧ (∀ S' ∈ A, v_Y T d S') ∧ ∀ i S', K i = some S' → v_Y T d S'
def i_H (n : Nat) (h : Int32) : Prop := ∃ k, k < n ∧ h = nI k
theorem i_H_iff {n : Nat} (hn : n ≤ 6) (h : Int32) : (0 ≤ h ∧ h ≤ nI n - 1) ↔ i_H n h := by
  constructor
  · rintro ⟨h1, h2⟩
    rcases Nat.eq_zero_or_pos n with rfl | h0
    · exact absurd (Int32.le_trans h1 h2) (by decide)
    · rw [i_pred h0] at h2
      obtain ⟨j, hj, rfl⟩ := nI_of (Int32.not_lt.mpr h1)
      exact ⟨j, by have := (nI_leI hj (by omega)).mp h2; omega, rfl⟩
  · rintro ⟨k, hk, rfl⟩
    rw [i_pred (by omega)]
    exact ⟨nI_pos' (by omega), nI_le (by omega) (by omega)⟩
theorem i_in_of {h M : Int32} {m : Nat} (hM : M.toInt = m) (q : 0 ≤ h ∧ h ≤ M) : ∃ k, k ≤ m ∧ h = nI k := nI_of2 hM (Int32.not_lt.mpr q.1) q.2
theorem i_isS {P : Prop} [Decidable P] (h : P) : (if P then (1 : Int32) else 0) = 1 := if_pos h
theorem i_isN {P : Prop} [Decidable P] (h : ¬ P) : (if P then (1 : Int32) else 0) = 0 := if_neg h
theorem i_toI1 {x : Int32} {m : Nat} (h : x.toInt = (m : Int)) : x = nI m := by
  apply Int32.toInt_inj.mp
  rw [h]
  have := x.toInt_lt
  exact (nI_toInt (by omega)).symm
theorem i_sw {x : Int32} (m : Nat) : (x.toInt < 0 ∨ (m : Int) < x.toInt) ∨ ∃ k, k ≤ m ∧ x = nI k := by
  by_cases h : x.toInt < 0 ∨ (m : Int) < x.toInt
  · exact Or.inl h
  · refine Or.inr ⟨x.toInt.toNat, by omega, i_toI1 ?_⟩
    omega
set_option maxRecDepth 100000 in
set_option maxHeartbeats 4000000 in
theorem c_isH (w : am_W) (t : Nat × (Nat → Int32)) (T : p_D) (S : s_S) (A : List s_S) (K : Nat → Option s_S) (N : x_N) (sd : Int64) (hW : c_W w t T S A K N sd) (h : Int32) : am_Go 93 (0, [.ref 2, .int h], [], w, 0, 0) (fun res w' => res = some (.int (if 0 ≤ h ∧ h ≤ nI T.2.2.1 - 1 then 1 else 0)) ∧ w' = w) := by
  have hM : am_P[93]? = some zm_X10_isHouse := rfl
  refine ar_iload_n (pc' := 1) hM rfl rfl rfl ?_
  refine ar_iconst (x := 0) (pc' := 2) hM rfl (by decide) rfl ?_
  refine ar_aload_n (pc' := 3) hM rfl rfl rfl ?_
  refine ar_getfield (pc' := 6) hM rfl hW.o rfl rfl ?_
  refine ar_getfield (pc' := 9) hM rfl hW.T.o rfl rfl ?_
  refine ar_iconst (x := 1) (pc' := 10) hM rfl (by decide) rfl ?_
  refine ar_isub (pc' := 11) hM rfl rfl ?_
  refine ar_static (pc' := 14) (k3 := 0) (k4 := 0) hM rfl (by decide) rfl rfl (c_within _ _ _ _) (fun r11 w11 q11 => ?_)
  obtain ⟨rfl, q11w⟩ := q11
  rw [q11w]
  show am_Go 93 (14, [.ref 2, .int h], [.int (if 0 ≤ h ∧ h ≤ ((nI T.2.2.1) - 1) then 1 else 0)], w, 0, 0) _
  refine ar_ireturn hM rfl (Or.inr am_b01) ?_
  exact ⟨rfl, rfl⟩
def x_app (t : Nat × (Nat → Int32)) (c : Int32) : Int32 × (Nat × (Nat → Int32)) := if t.1 < 40 then (nI (t.1 + 1), (t.1 + 1, upd t.2 t.1 c)) else (-4, t)
theorem k_append (w : am_W) (t : Nat × (Nat → Int32)) (hX : c_X w t.1 t.2) (c : Int32) : am_Go 51 (0, [.ref 3, .int c], [], w, 0, 0) (fun res w' => res = some (.int (x_app t c).1) ∧ c_X w' (x_app t c).2.1 (x_app t c).2.2 ∧ am_same (rg 3 2) w w') := by
  obtain ⟨h40, h3, f, h4, hf⟩ := hX
  by_cases q : t.1 < 40
  · refine (c_append w t.1 h40 f h3 h4 c q).mono ?_
    rintro res w' ⟨rfl, rfl⟩
    have e : x_app t c = (nI (t.1 + 1), (t.1 + 1, upd t.2 t.1 c)) := if_pos q
    rw [e]
    refine ⟨rfl, ⟨by show t.1 + 1 ≤ 40; omega, am_gs (am_gn (by decide) h3), upd f t.1 c, am_gn (by decide) (am_gs h4), fun i hi => ?_⟩, am_same.set (am_same.set am_same.rf (by unfold rg; omega)) (by unfold rg; omega)⟩
    by_cases e2 : i = t.1
    · rw [e2, pk_us]; exact pk_us.symm
    · have hi : i < t.1 + 1 := hi
      rw [pk_un e2]; exact (hf i (by omega)).trans (pk_un e2).symm
  · refine (c_appendF w t.1 h40 f h3 h4 c (by omega)).mono ?_
    rintro res w' ⟨rfl, rfl⟩
    have e : x_app t c = (-4, t) := if_neg q
    rw [e]
    exact ⟨rfl, ⟨h40, h3, f, h4, hf⟩, am_same.rf⟩
theorem k_tclear (w : am_W) (t : Nat × (Nat → Int32)) (hX : c_X w t.1 t.2) : am_Go 52 (0, [.ref 3, .float 0], [], w, 0, 0) (fun res w' => res = some (.int (nI t.1)) ∧ c_X w' 0 t.2 ∧ am_same (rg 3 2) w w') := by
  obtain ⟨h40, h3, f, h4, hf⟩ := hX
  refine (c_tclear w t.1 h40 f h3 h4).mono ?_
  rintro res w' ⟨rfl, rfl⟩
  exact ⟨rfl, ⟨by decide, am_gs h3, f, am_gn (by decide) h4, fun i hi => absurd hi (by omega)⟩, am_same.set am_same.rf (by unfold rg; omega)⟩
def x_write (t : Nat × (Nat → Int32)) (c : Int32) : Int32 × (Nat × (Nat → Int32)) := if 0 ≤ c ∧ c ≤ 255 then x_app t c else (-2, t)
set_option maxRecDepth 100000 in
set_option maxHeartbeats 4000000 in
theorem f_write (w : am_W) (t : Nat × (Nat → Int32)) (T : p_D) (S : s_S) (A : List s_S) (K : Nat → Option s_S) (N : x_N) (sd : Int64) (d : Nat) (hd : d ≤ 1000) (hv : v_W d T S A K) (hW : c_W w t T S A K N sd) (c : Int32) : am_Go 64 (0, [.ref 2, .int c], [], w, 0, 0) (fun res w' => res = some (.int ((x_write t c).1)) ∧ c_W w' ((x_write t c).2) T S A K N sd ∧ am_same (rg 2 131) w w') := by
  have hM : am_P[64]? = some zm_X10_write := rfl
  have hn6 : T.2.2.1 ≤ 6 := hv.1.1.1
  have hvT := hv.1.1
  have hvS := hv.2.1.1
  have hdy := hv.2.1.2.1
  obtain ⟨f1, kb1, bl1, bo1, rc1, fr1, se1, oo1_2, oo1_3, oo1_5, oo1_11, oo1_16, oo1_20, oo1_78, oo1_88, oo1_92, oo1_100, oo1_118⟩ := hW.obs
  refine ar_iload_n (pc' := 1) hM rfl rfl rfl ?_
  refine ar_iconst (x := 0) (pc' := 2) hM rfl (by decide) rfl ?_
  refine ar_sipush (x := 255) (pc' := 5) hM rfl (by decide) rfl ?_
  refine ar_static (pc' := 8) (k3 := 0) (k4 := 0) hM rfl (by decide) rfl rfl (c_within _ _ _ _) (fun r5 w5 q5 => ?_)
  obtain ⟨rfl, q5w⟩ := q5
  rw [q5w]
  show am_Go 64 (8, [.ref 2, .int c], [.int (if 0 ≤ c ∧ c ≤ 255 then 1 else 0)], w, 0, 0) _
  refine ar_if_ne (pc' := 11) hM rfl rfl (fun c8 => ?_) (fun c8 => ?_)
  · refine ar_aload_n (pc' := 15) hM rfl rfl rfl ?_
    refine ar_getfield (pc' := 18) hM rfl oo1_2 rfl rfl ?_
    refine ar_iload_n (pc' := 19) hM rfl rfl rfl ?_
    refine ar_virtual (pc' := 22) (k3 := 0) (k4 := 0) hM rfl rfl oo1_3 ⟨rfl, (by decide)⟩ rfl rfl (k_append _ t hW.X c) (fun r19 w19 q19 => ?_)
    obtain ⟨rfl, hx, q19s⟩ := q19
    have hW2 : c_W w19 ((x_app t c).2) T S A K N sd := hW.sX (t' := (x_app t c).2) q19s hx
    have hsm2 : am_same (rg 2 131) w w19 := (am_same.rf).tr (q19s.mono (fun b hb => by unfold rg at *; omega))
    obtain ⟨f3, kb3, bl3, bo3, rc3, fr3, se3, oo3_2, oo3_3, oo3_5, oo3_11, oo3_16, oo3_20, oo3_78, oo3_88, oo3_92, oo3_100, oo3_118⟩ := hW2.obs
    show am_Go 64 (22, [.ref 2, .int c], [.int ((x_app t c).1)], w19, 0, 0) _
    refine ar_ireturn hM rfl (Or.inl rfl) ?_
    rw [show x_write t c = x_app t c from if_pos (am_ne0 c8)]
    exact ⟨rfl, hW2, hsm2⟩
  · refine ar_bipush (x := (-2)) (pc' := 13) hM rfl (by decide) rfl ?_
    refine ar_ireturn hM rfl (Or.inl rfl) ?_
    rw [show x_write t c = (-2, t) from if_neg (am_eq0 c8)]
    exact ⟨rfl, hW, am_same.rf⟩
set_option maxRecDepth 100000 in
set_option maxHeartbeats 4000000 in
theorem f_wipe (w : am_W) (t : Nat × (Nat → Int32)) (T : p_D) (S : s_S) (A : List s_S) (K : Nat → Option s_S) (N : x_N) (sd : Int64) (d : Nat) (hd : d ≤ 1000) (hv : v_W d T S A K) (hW : c_W w t T S A K N sd)  : am_Go 65 (0, [.ref 2], [], w, 0, 0) (fun res w' => res = some (.int (nI t.1)) ∧ c_W w' (0, t.2) T S A K N sd ∧ am_same (rg 2 131) w w') := by
  have hM : am_P[65]? = some zm_X10_wipe := rfl
  have hn6 : T.2.2.1 ≤ 6 := hv.1.1.1
  have hvT := hv.1.1
  have hvS := hv.2.1.1
  have hdy := hv.2.1.2.1
  obtain ⟨f1, kb1, bl1, bo1, rc1, fr1, se1, oo1_2, oo1_3, oo1_5, oo1_11, oo1_16, oo1_20, oo1_78, oo1_88, oo1_92, oo1_100, oo1_118⟩ := hW.obs
  refine ar_aload_n (pc' := 1) hM rfl rfl rfl ?_
  refine ar_getfield (pc' := 4) hM rfl oo1_2 rfl rfl ?_
  refine ar_virtual (pc' := 7) (k3 := 0) (k4 := 0) hM rfl rfl oo1_3 ⟨rfl, (by decide)⟩ rfl rfl (k_tclear _ t hW.X) (fun r4 w4 q4 => ?_)
  obtain ⟨rfl, hx, q4s⟩ := q4
  have hW2 : c_W w4 (0, t.2) T S A K N sd := hW.sX (t' := (0, t.2)) q4s hx
  have hsm2 : am_same (rg 2 131) w w4 := (am_same.rf).tr (q4s.mono (fun b hb => by unfold rg at *; omega))
  obtain ⟨f3, kb3, bl3, bo3, rc3, fr3, se3, oo3_2, oo3_3, oo3_5, oo3_11, oo3_16, oo3_20, oo3_78, oo3_88, oo3_92, oo3_100, oo3_118⟩ := hW2.obs
  show am_Go 65 (7, [.ref 2], [.int (nI t.1)], w4, 0, 0) _
  refine ar_ireturn hM rfl (Or.inl rfl) ?_
  exact ⟨rfl, hW2, hsm2⟩
set_option maxRecDepth 100000 in
set_option maxHeartbeats 4000000 in
theorem f_fault (w : am_W) (t : Nat × (Nat → Int32)) (T : p_D) (S : s_S) (A : List s_S) (K : Nat → Option s_S) (N : x_N) (sd : Int64) (d : Nat) (hd : d ≤ 1000) (hv : v_W d T S A K) (hW : c_W w t T S A K N sd)  : am_Go 66 (0, [.ref 2], [], w, 0, 0) (fun res w' => ∃ rr E, p_ans t.2 t.1 rr E ∧ res = some (.int rr) ∧ c_W w' t T S A K N sd ∧ am_same (rg 2 131) w w') := by
  have hM : am_P[66]? = some zm_X10_fault := rfl
  have hn6 : T.2.2.1 ≤ 6 := hv.1.1.1
  have hvT := hv.1.1
  have hvS := hv.2.1.1
  have hdy := hv.2.1.2.1
  obtain ⟨f1, kb1, bl1, bo1, rc1, fr1, se1, oo1_2, oo1_3, oo1_5, oo1_11, oo1_16, oo1_20, oo1_78, oo1_88, oo1_92, oo1_100, oo1_118⟩ := hW.obs
  refine ar_aload_n (pc' := 1) hM rfl rfl rfl ?_
  refine ar_getfield (pc' := 4) hM rfl oo1_2 rfl rfl ?_
  refine ar_aload_n (pc' := 5) hM rfl rfl rfl ?_
  refine ar_getfield (pc' := 8) hM rfl oo1_2 rfl rfl ?_
  refine ar_virtual (pc' := 11) (k3 := 0) (k4 := 0) hM rfl rfl oo1_5 ⟨rfl, (by decide)⟩ rfl rfl (k_read _ t.1 t.2 hW.X hW.G) (fun r8 w8 q8 => ?_)
  obtain ⟨rr, E, rfl, hans, hTE, hG2, q8s⟩ := q8
  have q8t : am_same (rg 5 6) _ _ := q8s.mono (fun b hb => by unfold rg at *; omega)
  have hW2 : c_W w8 t T S A K N sd := hW.sG q8t hG2
  have hsm2 : am_same (rg 2 131) w w8 := (am_same.rf).tr (q8t.mono (fun b hb => by unfold rg at *; omega))
  obtain ⟨f3, kb3, bl3, bo3, rc3, fr3, se3, oo3_2, oo3_3, oo3_5, oo3_11, oo3_16, oo3_20, oo3_78, oo3_88, oo3_92, oo3_100, oo3_118⟩ := hW2.obs
  show am_Go 66 (11, [.ref 2], [.int rr], w8, 0, 0) _
  refine ar_ireturn hM rfl (Or.inl rfl) ?_
  exact ⟨rr, E, hans, rfl, hW2, hsm2⟩
set_option maxRecDepth 100000 in
set_option maxHeartbeats 4000000 in
theorem f_row (w : am_W) (t : Nat × (Nat → Int32)) (T : p_D) (S : s_S) (A : List s_S) (K : Nat → Option s_S) (N : x_N) (sd : Int64) (d : Nat) (hd : d ≤ 1000) (hv : v_W d T S A K) (hW : c_W w t T S A K N sd)  : am_Go 67 (0, [.ref 2], [], w, 0, 0) (fun res w' => ∃ rr E, p_ans t.2 t.1 rr E ∧ ((rr ≠ -9 ∧ res = some (.int (-3)) ∧ c_W w' t T S A K N sd ∧ am_same (rg 2 131) w w') ∨ (rr = -9 ∧ (v_T E ∧ v_F E) ∧ res = some (.int (10 * nI E.2.2.1 + nI E.2.2.2.1)) ∧ c_W w' t E m_S0 [] (fun _ => none) N sd ∧ am_same (rg 2 131) w w'))) := by
  have hM : am_P[67]? = some zm_X10_row := rfl
  have hn6 : T.2.2.1 ≤ 6 := hv.1.1.1
  have hvT := hv.1.1
  have hvS := hv.2.1.1
  have hdy := hv.2.1.2.1
  obtain ⟨f1, kb1, bl1, bo1, rc1, fr1, se1, oo1_2, oo1_3, oo1_5, oo1_11, oo1_16, oo1_20, oo1_78, oo1_88, oo1_92, oo1_100, oo1_118⟩ := hW.obs
  refine ar_aload_n (pc' := 1) hM rfl rfl rfl ?_
  refine ar_getfield (pc' := 4) hM rfl oo1_2 rfl rfl ?_
  refine ar_aload_n (pc' := 5) hM rfl rfl rfl ?_
  refine ar_getfield (pc' := 8) hM rfl oo1_2 rfl rfl ?_
  refine ar_virtual (pc' := 11) (k3 := 0) (k4 := 0) hM rfl rfl oo1_5 ⟨rfl, (by decide)⟩ rfl rfl (k_read _ t.1 t.2 hW.X hW.G) (fun r8 w8 q8 => ?_)
  obtain ⟨rr, E, rfl, hans, hTE, hG2, q8s⟩ := q8
  have q8t : am_same (rg 5 6) _ _ := q8s.mono (fun b hb => by unfold rg at *; omega)
  have hW2 : c_W w8 t T S A K N sd := hW.sG q8t hG2
  have hsm2 : am_same (rg 2 131) w w8 := (am_same.rf).tr (q8t.mono (fun b hb => by unfold rg at *; omega))
  obtain ⟨f3, kb3, bl3, bo3, rc3, fr3, se3, oo3_2, oo3_3, oo3_5, oo3_11, oo3_16, oo3_20, oo3_78, oo3_88, oo3_92, oo3_100, oo3_118⟩ := hW2.obs
  show am_Go 67 (11, [.ref 2], [.int rr], w8, 0, 0) _
  refine ar_bipush (x := (-9)) (pc' := 13) hM rfl (by decide) rfl ?_
  refine ar_icmp_eq (pc' := 16) hM rfl rfl (fun c13 => ?_) (fun c13 => ?_)
  · refine ar_aload_n (pc' := 20) hM rfl rfl rfl ?_
    refine ar_getfield (pc' := 23) hM rfl oo3_2 rfl rfl ?_
    refine ar_aload_n (pc' := 24) hM rfl rfl rfl ?_
    refine ar_getfield (pc' := 27) hM rfl oo3_2 rfl rfl ?_
    refine ar_getfield (pc' := 30) hM rfl oo3_5 rfl rfl ?_
    refine ar_virtual (pc' := 33) (k3 := 0) (k4 := 0) hM rfl rfl oo3_11 ⟨rfl, (by decide)⟩ rfl rfl (k_tcopy _ 11 6 E (p_ans_v hW2.X.1 (by rw [← c13]; exact hans)).1 hW2.T.q (hTE c13) (by decide) (by decide) (by omega)) (fun r30 w30 q30 => ?_)
    obtain ⟨rfl, hT2, q30s⟩ := q30
    obtain ⟨hvE, hvFE⟩ := p_ans_v hW2.X.1 (by rw [← c13]; exact hans)
    have hE6 := hvE.1
    have hsa : am_same (rg 2 131) w w30 := hsm2.tr (q30s.mono (fun b hb => by unfold rg at *; omega))
    show am_Go 67 (33, [.ref 2], [], w30, 0, 0) _
    refine ar_aload_n (pc' := 34) hM rfl rfl rfl ?_
    refine ar_getfield (pc' := 37) hM rfl (q30s.at (by unfold rg; omega) oo3_2) rfl rfl ?_
    refine ar_virtual (pc' := 40) (k3 := 0) (k4 := 0) hM rfl rfl (q30s.at (by unfold rg; omega) oo3_16) ⟨rfl, (by decide)⟩ rfl rfl (k_sclear _ 16 E.2.2.1 (hW2.S.r.same q30s (fun b h1 h2 => by unfold rg; omega)) hE6 (by decide)) (fun r37 w37 q37 => ?_)
    obtain ⟨rfl, hS3, q37s⟩ := q37
    show am_Go 67 (40, [.ref 2], [], w37, 0, 0) _
    refine ar_aload_n (pc' := 41) hM rfl rfl rfl ?_
    refine ar_getfield (pc' := 44) hM rfl (q37s.at (by unfold rg; omega) (q30s.at (by unfold rg; omega) oo3_2)) rfl rfl ?_
    refine ar_virtual (pc' := 47) (k3 := 0) (k4 := 0) hM rfl rfl (q37s.at (by unfold rg; omega) (q30s.at (by unfold rg; omega) oo3_20)) ⟨rfl, (by decide)⟩ rfl rfl (k_actsClear _ _ E.2.2.1 _ ((hW2.A.same q30s (fun b h1 h2 => by unfold rg; omega)).same q37s (fun b h1 h2 => by unfold rg; omega))) (fun r44 w44 q44 => ?_)
    obtain ⟨rfl, hA4, q44s⟩ := q44
    show am_Go 67 (47, [.ref 2], [], w44, 0, 0) _
    refine ar_aload_n (pc' := 48) hM rfl rfl rfl ?_
    refine ar_getfield (pc' := 51) hM rfl (q44s.at (by unfold rg; omega) (q37s.at (by unfold rg; omega) (q30s.at (by unfold rg; omega) oo3_2))) rfl rfl ?_
    refine ar_virtual (pc' := 54) (k3 := 0) (k4 := 0) hM rfl rfl (q44s.at (by unfold rg; omega) (q37s.at (by unfold rg; omega) (q30s.at (by unfold rg; omega) oo3_78))) ⟨rfl, (by decide)⟩ rfl rfl (k_slotsClear _ _ E.2.2.1 _ (((hW2.K.same q30s (fun b h1 h2 => by unfold rg; omega)).same q37s (fun b h1 h2 => by unfold rg; omega)).same q44s (fun b h1 h2 => by unfold rg; omega))) (fun r51 w51 q51 => ?_)
    obtain ⟨rfl, hK5, q51s⟩ := q51
    have hWE : c_W w51 t E m_S0 [] (fun _ => none) N sd := ⟨(q51s.at (by unfold rg; omega) (q44s.at (by unfold rg; omega) (q37s.at (by unfold rg; omega) (q30s.at (by unfold rg; omega) hW2.f)))), (q51s.at (by unfold rg; omega) (q44s.at (by unfold rg; omega) (q37s.at (by unfold rg; omega) (q30s.at (by unfold rg; omega) hW2.o)))), ((((hW2.X.same q30s (fun b h1 h2 => by unfold rg; omega)).same q37s (fun b h1 h2 => by unfold rg; omega)).same q44s (fun b h1 h2 => by unfold rg; omega)).same q51s (fun b h1 h2 => by unfold rg; omega)), ((((hW2.G.same q30s (fun b h1 h2 => by unfold rg; omega)).same q37s (fun b h1 h2 => by unfold rg; omega)).same q44s (fun b h1 h2 => by unfold rg; omega)).same q51s (fun b h1 h2 => by unfold rg; omega)), (((hT2.same q37s (fun b h1 h2 => by unfold rg; omega)).same q44s (fun b h1 h2 => by unfold rg; omega)).same q51s (fun b h1 h2 => by unfold rg; omega)), ((hS3.same q44s (fun b h1 h2 => by unfold rg; omega)).same q51s (fun b h1 h2 => by unfold rg; omega)), (hA4.same q51s (fun b h1 h2 => by unfold rg; omega)), hK5, ((((hW2.N.same q30s (fun b h1 h2 => by unfold rg; omega)).same q37s (fun b h1 h2 => by unfold rg; omega)).same q44s (fun b h1 h2 => by unfold rg; omega)).same q51s (fun b h1 h2 => by unfold rg; omega)), ((((hW2.D.same q30s (fun b h1 h2 => by unfold rg; omega)).same q37s (fun b h1 h2 => by unfold rg; omega)).same q44s (fun b h1 h2 => by unfold rg; omega)).same q51s (fun b h1 h2 => by unfold rg; omega)), ((((hW2.O.same q30s (fun b h1 h2 => by unfold rg; omega)).same q37s (fun b h1 h2 => by unfold rg; omega)).same q44s (fun b h1 h2 => by unfold rg; omega)).same q51s (fun b h1 h2 => by unfold rg; omega)), ((((hW2.C.same q30s (fun b h1 h2 => by unfold rg; omega)).same q37s (fun b h1 h2 => by unfold rg; omega)).same q44s (fun b h1 h2 => by unfold rg; omega)).same q51s (fun b h1 h2 => by unfold rg; omega))⟩
    have hsE : am_same (rg 2 131) w w51 := ((hsa.tr (q37s.mono (fun b hb => by unfold rg at *; omega))).tr (q44s.mono (fun b hb => by unfold rg at *; omega))).tr (q51s.mono (fun b hb => by unfold rg at *; omega))
    show am_Go 67 (54, [.ref 2], [], w51, 0, 0) _
    refine ar_bipush (x := 10) (pc' := 56) hM rfl (by decide) rfl ?_
    refine ar_aload_n (pc' := 57) hM rfl rfl rfl ?_
    refine ar_getfield (pc' := 60) hM rfl (q51s.at (by unfold rg; omega) (q44s.at (by unfold rg; omega) (q37s.at (by unfold rg; omega) (q30s.at (by unfold rg; omega) oo3_2)))) rfl rfl ?_
    refine ar_getfield (pc' := 63) hM rfl (q51s.at (by unfold rg; omega) (q44s.at (by unfold rg; omega) (q37s.at (by unfold rg; omega) hT2.o))) rfl rfl ?_
    refine ar_imul (pc' := 64) hM rfl rfl ?_
    refine ar_aload_n (pc' := 65) hM rfl rfl rfl ?_
    refine ar_getfield (pc' := 68) hM rfl (q51s.at (by unfold rg; omega) (q44s.at (by unfold rg; omega) (q37s.at (by unfold rg; omega) (q30s.at (by unfold rg; omega) oo3_2)))) rfl rfl ?_
    refine ar_getfield (pc' := 71) hM rfl (q51s.at (by unfold rg; omega) (q44s.at (by unfold rg; omega) (q37s.at (by unfold rg; omega) hT2.o))) rfl rfl ?_
    refine ar_iadd (pc' := 72) hM rfl rfl ?_
    refine ar_ireturn hM rfl (Or.inl rfl) ?_
    exact ⟨rr, E, hans, Or.inr ⟨c13, ⟨hvE, hvFE⟩, rfl, hWE, hsE⟩⟩
  · refine ar_bipush (x := (-3)) (pc' := 18) hM rfl (by decide) rfl ?_
    refine ar_ireturn hM rfl (Or.inl rfl) ?_
    exact ⟨rr, E, hans, Or.inl ⟨c13, rfl, hW2, hsm2⟩⟩
set_option maxRecDepth 100000 in
set_option maxHeartbeats 4000000 in
theorem f_houseN (w : am_W) (t : Nat × (Nat → Int32)) (T : p_D) (S : s_S) (A : List s_S) (K : Nat → Option s_S) (N : x_N) (sd : Int64) (d : Nat) (hd : d ≤ 1000) (hv : v_W d T S A K) (hW : c_W w t T S A K N sd) (h : Int32) (hh : ¬ i_H T.2.2.1 h) (wh : Int32) : am_Go 68 (0, [.ref 2, .int h, .int wh], [], w, 0, 0) (fun res w' => res = some (.int (-1)) ∧ c_W w' t T S A K N sd ∧ am_same (rg 2 131) w w') := by
  have hM : am_P[68]? = some zm_X10_house := rfl
  have hn6 : T.2.2.1 ≤ 6 := hv.1.1.1
  have hvT := hv.1.1
  have hvS := hv.2.1.1
  have hdy := hv.2.1.2.1
  obtain ⟨f1, kb1, bl1, bo1, rc1, fr1, se1, oo1_2, oo1_3, oo1_5, oo1_11, oo1_16, oo1_20, oo1_78, oo1_88, oo1_92, oo1_100, oo1_118⟩ := hW.obs
  refine ar_aload_n (pc' := 1) hM rfl rfl rfl ?_
  refine ar_iload_n (pc' := 2) hM rfl rfl rfl ?_
  refine ar_virtual (pc' := 5) (k3 := 0) (k4 := 0) hM rfl rfl oo1_2 ⟨rfl, (by decide)⟩ rfl rfl (by have h0 := c_isH _ _ _ _ _ _ _ _ hW h; rw [if_neg (fun q => hh ((i_H_iff hn6 _).mp q))] at h0; exact h0) (fun r2 w2 q2 => ?_)
  obtain ⟨rfl, q2w⟩ := q2
  rw [q2w]
  show am_Go 68 (5, [.ref 2, .int h, .int wh], [.int 0], w, 0, 0) _
  refine ar_if_ne (pc' := 8) hM rfl rfl (fun q => absurd (by decide) q) (fun _ => ?_)
  refine ar_iconst (x := (-1)) (pc' := 9) hM rfl (by decide) rfl ?_
  refine ar_ireturn hM rfl (Or.inl rfl) ?_
  exact ⟨rfl, hW, am_same.rf⟩
def x_house (T : p_D) (S : s_S) (k : Nat) : Nat → Int32
  | 0 => T.2.2.2.2.1 k
  | 1 => T.2.2.2.2.2.1 k
  | 2 => T.2.2.2.2.2.2.1 k
  | 3 => S.2.2.1 k
  | 4 => nI (S.2.1 k)
  | 5 => S.2.2.2.1 k
  | 6 => (if (S.2.2.2.2.1 >>> (nI k &&& 31)) &&& 1 = 1 then 1 else 0)
  | 7 => (if (S.2.2.2.2.2.1 >>> (nI k &&& 31)) &&& 1 = 1 then 1 else 0)
  | _ => -2
set_option maxRecDepth 100000 in
set_option maxHeartbeats 4000000 in
theorem f_house0 (w : am_W) (t : Nat × (Nat → Int32)) (T : p_D) (S : s_S) (A : List s_S) (K : Nat → Option s_S) (N : x_N) (sd : Int64) (d : Nat) (hd : d ≤ 1000) (hv : v_W d T S A K) (hW : c_W w t T S A K N sd) (k : Nat) (hk : k < T.2.2.1) : am_Go 68 (0, [.ref 2, .int (nI k), .int 0], [], w, 0, 0) (fun res w' => res = some (.int (x_house T S k 0)) ∧ c_W w' t T S A K N sd ∧ am_same (rg 2 131) w w') := by
  have hM : am_P[68]? = some zm_X10_house := rfl
  have hn6 : T.2.2.1 ≤ 6 := hv.1.1.1
  have hvT := hv.1.1
  have hvS := hv.2.1.1
  have hdy := hv.2.1.2.1
  obtain ⟨f1, kb1, bl1, bo1, rc1, fr1, se1, oo1_2, oo1_3, oo1_5, oo1_11, oo1_16, oo1_20, oo1_78, oo1_88, oo1_92, oo1_100, oo1_118⟩ := hW.obs
  refine ar_aload_n (pc' := 1) hM rfl rfl rfl ?_
  refine ar_iload_n (pc' := 2) hM rfl rfl rfl ?_
  refine ar_virtual (pc' := 5) (k3 := 0) (k4 := 0) hM rfl rfl oo1_2 ⟨rfl, (by decide)⟩ rfl rfl (by have h0 := c_isH _ _ _ _ _ _ _ _ hW (nI k); rw [if_pos ((i_H_iff hn6 _).mpr ⟨k, hk, rfl⟩)] at h0; exact h0) (fun r2 w2 q2 => ?_)
  obtain ⟨rfl, q2w⟩ := q2
  rw [q2w]
  show am_Go 68 (5, [.ref 2, .int (nI k), .int 0], [.int 1], w, 0, 0) _
  refine ar_if_ne (pc' := 8) hM rfl rfl (fun _ => ?_) (fun q => absurd q (by decide))
  obtain ⟨wa, ki, ba, he, ht0, ht1, ht2, ht3, ht4, hwa, -⟩ := id hW.T
  obtain ⟨so, ss, sl, hs0, hs1, hs2, hs3, hso, hss, hsl⟩ := id hW.S
  refine ar_iload_n (pc' := 11) hM rfl rfl rfl ?_
  refine ar_tableIn (off := 45) (t := 56) hM rfl (by decide) (by decide) (by decide) ?_
  refine ar_aload_n (pc' := 57) hM rfl rfl rfl ?_
  refine ar_getfield (pc' := 60) hM rfl oo1_2 rfl rfl ?_
  refine ar_getfield (pc' := 63) hM rfl oo1_11 rfl rfl ?_
  refine ar_iload_n (pc' := 64) hM rfl rfl rfl ?_
  refine ar_ialoadN (j := k) (pc' := 65) hM rfl ht1 rfl (by omega) (Nat.le_of_ble_eq_true rfl) rfl ?_
  refine ar_ireturn hM rfl (Or.inl rfl) ?_
  exact ⟨by rw [(hwa k hk).1]; rfl, hW, am_same.rf⟩
set_option maxRecDepth 100000 in
set_option maxHeartbeats 4000000 in
theorem f_house1 (w : am_W) (t : Nat × (Nat → Int32)) (T : p_D) (S : s_S) (A : List s_S) (K : Nat → Option s_S) (N : x_N) (sd : Int64) (d : Nat) (hd : d ≤ 1000) (hv : v_W d T S A K) (hW : c_W w t T S A K N sd) (k : Nat) (hk : k < T.2.2.1) : am_Go 68 (0, [.ref 2, .int (nI k), .int 1], [], w, 0, 0) (fun res w' => res = some (.int (x_house T S k 1)) ∧ c_W w' t T S A K N sd ∧ am_same (rg 2 131) w w') := by
  have hM : am_P[68]? = some zm_X10_house := rfl
  have hn6 : T.2.2.1 ≤ 6 := hv.1.1.1
  have hvT := hv.1.1
  have hvS := hv.2.1.1
  have hdy := hv.2.1.2.1
  obtain ⟨f1, kb1, bl1, bo1, rc1, fr1, se1, oo1_2, oo1_3, oo1_5, oo1_11, oo1_16, oo1_20, oo1_78, oo1_88, oo1_92, oo1_100, oo1_118⟩ := hW.obs
  refine ar_aload_n (pc' := 1) hM rfl rfl rfl ?_
  refine ar_iload_n (pc' := 2) hM rfl rfl rfl ?_
  refine ar_virtual (pc' := 5) (k3 := 0) (k4 := 0) hM rfl rfl oo1_2 ⟨rfl, (by decide)⟩ rfl rfl (by have h0 := c_isH _ _ _ _ _ _ _ _ hW (nI k); rw [if_pos ((i_H_iff hn6 _).mpr ⟨k, hk, rfl⟩)] at h0; exact h0) (fun r2 w2 q2 => ?_)
  obtain ⟨rfl, q2w⟩ := q2
  rw [q2w]
  show am_Go 68 (5, [.ref 2, .int (nI k), .int 1], [.int 1], w, 0, 0) _
  refine ar_if_ne (pc' := 8) hM rfl rfl (fun _ => ?_) (fun q => absurd q (by decide))
  obtain ⟨wa, ki, ba, he, ht0, ht1, ht2, ht3, ht4, hwa, -⟩ := id hW.T
  obtain ⟨so, ss, sl, hs0, hs1, hs2, hs3, hso, hss, hsl⟩ := id hW.S
  refine ar_iload_n (pc' := 11) hM rfl rfl rfl ?_
  refine ar_tableIn (off := 55) (t := 66) hM rfl (by decide) (by decide) (by decide) ?_
  refine ar_aload_n (pc' := 67) hM rfl rfl rfl ?_
  refine ar_getfield (pc' := 70) hM rfl oo1_2 rfl rfl ?_
  refine ar_getfield (pc' := 73) hM rfl oo1_11 rfl rfl ?_
  refine ar_iload_n (pc' := 74) hM rfl rfl rfl ?_
  refine ar_ialoadN (j := k) (pc' := 75) hM rfl ht2 rfl (by omega) (Nat.le_of_ble_eq_true rfl) rfl ?_
  refine ar_ireturn hM rfl (Or.inl rfl) ?_
  exact ⟨by rw [(hwa k hk).2.1]; rfl, hW, am_same.rf⟩
set_option maxRecDepth 100000 in
set_option maxHeartbeats 4000000 in
theorem f_house2 (w : am_W) (t : Nat × (Nat → Int32)) (T : p_D) (S : s_S) (A : List s_S) (K : Nat → Option s_S) (N : x_N) (sd : Int64) (d : Nat) (hd : d ≤ 1000) (hv : v_W d T S A K) (hW : c_W w t T S A K N sd) (k : Nat) (hk : k < T.2.2.1) : am_Go 68 (0, [.ref 2, .int (nI k), .int 2], [], w, 0, 0) (fun res w' => res = some (.int (x_house T S k 2)) ∧ c_W w' t T S A K N sd ∧ am_same (rg 2 131) w w') := by
  have hM : am_P[68]? = some zm_X10_house := rfl
  have hn6 : T.2.2.1 ≤ 6 := hv.1.1.1
  have hvT := hv.1.1
  have hvS := hv.2.1.1
  have hdy := hv.2.1.2.1
  obtain ⟨f1, kb1, bl1, bo1, rc1, fr1, se1, oo1_2, oo1_3, oo1_5, oo1_11, oo1_16, oo1_20, oo1_78, oo1_88, oo1_92, oo1_100, oo1_118⟩ := hW.obs
  refine ar_aload_n (pc' := 1) hM rfl rfl rfl ?_
  refine ar_iload_n (pc' := 2) hM rfl rfl rfl ?_
  refine ar_virtual (pc' := 5) (k3 := 0) (k4 := 0) hM rfl rfl oo1_2 ⟨rfl, (by decide)⟩ rfl rfl (by have h0 := c_isH _ _ _ _ _ _ _ _ hW (nI k); rw [if_pos ((i_H_iff hn6 _).mpr ⟨k, hk, rfl⟩)] at h0; exact h0) (fun r2 w2 q2 => ?_)
  obtain ⟨rfl, q2w⟩ := q2
  rw [q2w]
  show am_Go 68 (5, [.ref 2, .int (nI k), .int 2], [.int 1], w, 0, 0) _
  refine ar_if_ne (pc' := 8) hM rfl rfl (fun _ => ?_) (fun q => absurd q (by decide))
  obtain ⟨wa, ki, ba, he, ht0, ht1, ht2, ht3, ht4, hwa, -⟩ := id hW.T
  obtain ⟨so, ss, sl, hs0, hs1, hs2, hs3, hso, hss, hsl⟩ := id hW.S
  refine ar_iload_n (pc' := 11) hM rfl rfl rfl ?_
  refine ar_tableIn (off := 65) (t := 76) hM rfl (by decide) (by decide) (by decide) ?_
  refine ar_aload_n (pc' := 77) hM rfl rfl rfl ?_
  refine ar_getfield (pc' := 80) hM rfl oo1_2 rfl rfl ?_
  refine ar_getfield (pc' := 83) hM rfl oo1_11 rfl rfl ?_
  refine ar_iload_n (pc' := 84) hM rfl rfl rfl ?_
  refine ar_ialoadN (j := k) (pc' := 85) hM rfl ht3 rfl (by omega) (Nat.le_of_ble_eq_true rfl) rfl ?_
  refine ar_ireturn hM rfl (Or.inl rfl) ?_
  exact ⟨by rw [(hwa k hk).2.2]; rfl, hW, am_same.rf⟩
set_option maxRecDepth 100000 in
set_option maxHeartbeats 4000000 in
theorem f_house3 (w : am_W) (t : Nat × (Nat → Int32)) (T : p_D) (S : s_S) (A : List s_S) (K : Nat → Option s_S) (N : x_N) (sd : Int64) (d : Nat) (hd : d ≤ 1000) (hv : v_W d T S A K) (hW : c_W w t T S A K N sd) (k : Nat) (hk : k < T.2.2.1) : am_Go 68 (0, [.ref 2, .int (nI k), .int 3], [], w, 0, 0) (fun res w' => res = some (.int (x_house T S k 3)) ∧ c_W w' t T S A K N sd ∧ am_same (rg 2 131) w w') := by
  have hM : am_P[68]? = some zm_X10_house := rfl
  have hn6 : T.2.2.1 ≤ 6 := hv.1.1.1
  have hvT := hv.1.1
  have hvS := hv.2.1.1
  have hdy := hv.2.1.2.1
  obtain ⟨f1, kb1, bl1, bo1, rc1, fr1, se1, oo1_2, oo1_3, oo1_5, oo1_11, oo1_16, oo1_20, oo1_78, oo1_88, oo1_92, oo1_100, oo1_118⟩ := hW.obs
  refine ar_aload_n (pc' := 1) hM rfl rfl rfl ?_
  refine ar_iload_n (pc' := 2) hM rfl rfl rfl ?_
  refine ar_virtual (pc' := 5) (k3 := 0) (k4 := 0) hM rfl rfl oo1_2 ⟨rfl, (by decide)⟩ rfl rfl (by have h0 := c_isH _ _ _ _ _ _ _ _ hW (nI k); rw [if_pos ((i_H_iff hn6 _).mpr ⟨k, hk, rfl⟩)] at h0; exact h0) (fun r2 w2 q2 => ?_)
  obtain ⟨rfl, q2w⟩ := q2
  rw [q2w]
  show am_Go 68 (5, [.ref 2, .int (nI k), .int 3], [.int 1], w, 0, 0) _
  refine ar_if_ne (pc' := 8) hM rfl rfl (fun _ => ?_) (fun q => absurd q (by decide))
  obtain ⟨wa, ki, ba, he, ht0, ht1, ht2, ht3, ht4, hwa, -⟩ := id hW.T
  obtain ⟨so, ss, sl, hs0, hs1, hs2, hs3, hso, hss, hsl⟩ := id hW.S
  refine ar_iload_n (pc' := 11) hM rfl rfl rfl ?_
  refine ar_tableIn (off := 75) (t := 86) hM rfl (by decide) (by decide) (by decide) ?_
  refine ar_aload_n (pc' := 87) hM rfl rfl rfl ?_
  refine ar_getfield (pc' := 90) hM rfl oo1_2 rfl rfl ?_
  refine ar_getfield (pc' := 93) hM rfl oo1_16 rfl rfl ?_
  refine ar_iload_n (pc' := 94) hM rfl rfl rfl ?_
  refine ar_ialoadN (j := k) (pc' := 95) hM rfl hs2 rfl (by omega) (Nat.le_of_ble_eq_true rfl) rfl ?_
  refine ar_ireturn hM rfl (Or.inl rfl) ?_
  exact ⟨by rw [hss k hk]; rfl, hW, am_same.rf⟩
set_option maxRecDepth 100000 in
set_option maxHeartbeats 4000000 in
theorem f_house4 (w : am_W) (t : Nat × (Nat → Int32)) (T : p_D) (S : s_S) (A : List s_S) (K : Nat → Option s_S) (N : x_N) (sd : Int64) (d : Nat) (hd : d ≤ 1000) (hv : v_W d T S A K) (hW : c_W w t T S A K N sd) (k : Nat) (hk : k < T.2.2.1) : am_Go 68 (0, [.ref 2, .int (nI k), .int 4], [], w, 0, 0) (fun res w' => res = some (.int (x_house T S k 4)) ∧ c_W w' t T S A K N sd ∧ am_same (rg 2 131) w w') := by
  have hM : am_P[68]? = some zm_X10_house := rfl
  have hn6 : T.2.2.1 ≤ 6 := hv.1.1.1
  have hvT := hv.1.1
  have hvS := hv.2.1.1
  have hdy := hv.2.1.2.1
  obtain ⟨f1, kb1, bl1, bo1, rc1, fr1, se1, oo1_2, oo1_3, oo1_5, oo1_11, oo1_16, oo1_20, oo1_78, oo1_88, oo1_92, oo1_100, oo1_118⟩ := hW.obs
  refine ar_aload_n (pc' := 1) hM rfl rfl rfl ?_
  refine ar_iload_n (pc' := 2) hM rfl rfl rfl ?_
  refine ar_virtual (pc' := 5) (k3 := 0) (k4 := 0) hM rfl rfl oo1_2 ⟨rfl, (by decide)⟩ rfl rfl (by have h0 := c_isH _ _ _ _ _ _ _ _ hW (nI k); rw [if_pos ((i_H_iff hn6 _).mpr ⟨k, hk, rfl⟩)] at h0; exact h0) (fun r2 w2 q2 => ?_)
  obtain ⟨rfl, q2w⟩ := q2
  rw [q2w]
  show am_Go 68 (5, [.ref 2, .int (nI k), .int 4], [.int 1], w, 0, 0) _
  refine ar_if_ne (pc' := 8) hM rfl rfl (fun _ => ?_) (fun q => absurd q (by decide))
  obtain ⟨wa, ki, ba, he, ht0, ht1, ht2, ht3, ht4, hwa, -⟩ := id hW.T
  obtain ⟨so, ss, sl, hs0, hs1, hs2, hs3, hso, hss, hsl⟩ := id hW.S
  refine ar_iload_n (pc' := 11) hM rfl rfl rfl ?_
  refine ar_tableIn (off := 85) (t := 96) hM rfl (by decide) (by decide) (by decide) ?_
  refine ar_aload_n (pc' := 97) hM rfl rfl rfl ?_
  refine ar_getfield (pc' := 100) hM rfl oo1_2 rfl rfl ?_
  refine ar_iload_n (pc' := 101) hM rfl rfl rfl ?_
  refine ar_virtual (pc' := 104) (k3 := 0) (k4 := 0) hM rfl rfl oo1_16 ⟨rfl, (by decide)⟩ rfl rfl (k_placeOf _ 16 _ S hvS hW.S hn6 (by decide) k hk) (fun r101 w101 q101 => ?_)
  obtain ⟨rfl, q101w⟩ := q101
  rw [q101w]
  show am_Go 68 (104, [.ref 2, .int (nI k), .int 4], [.int (nI (S.2.1 k))], w, 0, 0) _
  refine ar_ireturn hM rfl (Or.inl rfl) ?_
  exact ⟨rfl, hW, am_same.rf⟩
set_option maxRecDepth 100000 in
set_option maxHeartbeats 4000000 in
theorem f_house5 (w : am_W) (t : Nat × (Nat → Int32)) (T : p_D) (S : s_S) (A : List s_S) (K : Nat → Option s_S) (N : x_N) (sd : Int64) (d : Nat) (hd : d ≤ 1000) (hv : v_W d T S A K) (hW : c_W w t T S A K N sd) (k : Nat) (hk : k < T.2.2.1) : am_Go 68 (0, [.ref 2, .int (nI k), .int 5], [], w, 0, 0) (fun res w' => res = some (.int (x_house T S k 5)) ∧ c_W w' t T S A K N sd ∧ am_same (rg 2 131) w w') := by
  have hM : am_P[68]? = some zm_X10_house := rfl
  have hn6 : T.2.2.1 ≤ 6 := hv.1.1.1
  have hvT := hv.1.1
  have hvS := hv.2.1.1
  have hdy := hv.2.1.2.1
  obtain ⟨f1, kb1, bl1, bo1, rc1, fr1, se1, oo1_2, oo1_3, oo1_5, oo1_11, oo1_16, oo1_20, oo1_78, oo1_88, oo1_92, oo1_100, oo1_118⟩ := hW.obs
  refine ar_aload_n (pc' := 1) hM rfl rfl rfl ?_
  refine ar_iload_n (pc' := 2) hM rfl rfl rfl ?_
  refine ar_virtual (pc' := 5) (k3 := 0) (k4 := 0) hM rfl rfl oo1_2 ⟨rfl, (by decide)⟩ rfl rfl (by have h0 := c_isH _ _ _ _ _ _ _ _ hW (nI k); rw [if_pos ((i_H_iff hn6 _).mpr ⟨k, hk, rfl⟩)] at h0; exact h0) (fun r2 w2 q2 => ?_)
  obtain ⟨rfl, q2w⟩ := q2
  rw [q2w]
  show am_Go 68 (5, [.ref 2, .int (nI k), .int 5], [.int 1], w, 0, 0) _
  refine ar_if_ne (pc' := 8) hM rfl rfl (fun _ => ?_) (fun q => absurd q (by decide))
  obtain ⟨wa, ki, ba, he, ht0, ht1, ht2, ht3, ht4, hwa, -⟩ := id hW.T
  obtain ⟨so, ss, sl, hs0, hs1, hs2, hs3, hso, hss, hsl⟩ := id hW.S
  refine ar_iload_n (pc' := 11) hM rfl rfl rfl ?_
  refine ar_tableIn (off := 94) (t := 105) hM rfl (by decide) (by decide) (by decide) ?_
  refine ar_aload_n (pc' := 106) hM rfl rfl rfl ?_
  refine ar_getfield (pc' := 109) hM rfl oo1_2 rfl rfl ?_
  refine ar_getfield (pc' := 112) hM rfl oo1_16 rfl rfl ?_
  refine ar_iload_n (pc' := 113) hM rfl rfl rfl ?_
  refine ar_ialoadN (j := k) (pc' := 114) hM rfl hs3 rfl (by omega) (Nat.le_of_ble_eq_true rfl) rfl ?_
  refine ar_ireturn hM rfl (Or.inl rfl) ?_
  exact ⟨by rw [hsl k hk]; rfl, hW, am_same.rf⟩
set_option maxRecDepth 100000 in
set_option maxHeartbeats 4000000 in
theorem f_house6 (w : am_W) (t : Nat × (Nat → Int32)) (T : p_D) (S : s_S) (A : List s_S) (K : Nat → Option s_S) (N : x_N) (sd : Int64) (d : Nat) (hd : d ≤ 1000) (hv : v_W d T S A K) (hW : c_W w t T S A K N sd) (k : Nat) (hk : k < T.2.2.1) : am_Go 68 (0, [.ref 2, .int (nI k), .int 6], [], w, 0, 0) (fun res w' => res = some (.int (x_house T S k 6)) ∧ c_W w' t T S A K N sd ∧ am_same (rg 2 131) w w') := by
  have hM : am_P[68]? = some zm_X10_house := rfl
  have hn6 : T.2.2.1 ≤ 6 := hv.1.1.1
  have hvT := hv.1.1
  have hvS := hv.2.1.1
  have hdy := hv.2.1.2.1
  obtain ⟨f1, kb1, bl1, bo1, rc1, fr1, se1, oo1_2, oo1_3, oo1_5, oo1_11, oo1_16, oo1_20, oo1_78, oo1_88, oo1_92, oo1_100, oo1_118⟩ := hW.obs
  refine ar_aload_n (pc' := 1) hM rfl rfl rfl ?_
  refine ar_iload_n (pc' := 2) hM rfl rfl rfl ?_
  refine ar_virtual (pc' := 5) (k3 := 0) (k4 := 0) hM rfl rfl oo1_2 ⟨rfl, (by decide)⟩ rfl rfl (by have h0 := c_isH _ _ _ _ _ _ _ _ hW (nI k); rw [if_pos ((i_H_iff hn6 _).mpr ⟨k, hk, rfl⟩)] at h0; exact h0) (fun r2 w2 q2 => ?_)
  obtain ⟨rfl, q2w⟩ := q2
  rw [q2w]
  show am_Go 68 (5, [.ref 2, .int (nI k), .int 6], [.int 1], w, 0, 0) _
  refine ar_if_ne (pc' := 8) hM rfl rfl (fun _ => ?_) (fun q => absurd q (by decide))
  obtain ⟨wa, ki, ba, he, ht0, ht1, ht2, ht3, ht4, hwa, -⟩ := id hW.T
  obtain ⟨so, ss, sl, hs0, hs1, hs2, hs3, hso, hss, hsl⟩ := id hW.S
  refine ar_iload_n (pc' := 11) hM rfl rfl rfl ?_
  refine ar_tableIn (off := 104) (t := 115) hM rfl (by decide) (by decide) (by decide) ?_
  refine ar_aload_n (pc' := 116) hM rfl rfl rfl ?_
  refine ar_getfield (pc' := 119) hM rfl oo1_2 rfl rfl ?_
  refine ar_iload_n (pc' := 120) hM rfl rfl rfl ?_
  refine ar_virtual (pc' := 123) (k3 := 0) (k4 := 0) hM rfl rfl oo1_16 ⟨rfl, (by decide)⟩ rfl rfl (by obtain ⟨so, ss, sl, g0, g1, g2, g3, -⟩ := hW.S; exact c_isSalted _ 16 (by decide) so ss sl _ _ _ g0 g1 g2 g3 (nI k)) (fun r120 w120 q120 => ?_)
  obtain ⟨rfl, q120w⟩ := q120
  rw [q120w]
  show am_Go 68 (123, [.ref 2, .int (nI k), .int 6], [.int (if (S.2.2.2.2.1 >>> (nI k &&& 31)) &&& 1 = 1 then 1 else 0)], w, 0, 0) _
  refine ar_if_eq (pc' := 126) hM rfl rfl (fun c123 => ?_) (fun c123 => ?_)
  · refine ar_iconst (x := 0) (pc' := 131) hM rfl (by decide) rfl ?_
    refine ar_ireturn hM rfl (Or.inl rfl) ?_
    exact ⟨by show some (Value.int 0) = some (.int (if _ then 1 else 0)); rw [if_neg (am_eq0 c123)], hW, am_same.rf⟩
  · refine ar_iconst (x := 1) (pc' := 127) hM rfl (by decide) rfl ?_
    refine ar_goto hM rfl ?_
    refine ar_ireturn hM rfl (Or.inl rfl) ?_
    exact ⟨by show some (Value.int 1) = some (.int (if _ then 1 else 0)); rw [if_pos (am_ne0 c123)], hW, am_same.rf⟩
set_option maxRecDepth 100000 in
set_option maxHeartbeats 4000000 in
theorem f_house7 (w : am_W) (t : Nat × (Nat → Int32)) (T : p_D) (S : s_S) (A : List s_S) (K : Nat → Option s_S) (N : x_N) (sd : Int64) (d : Nat) (hd : d ≤ 1000) (hv : v_W d T S A K) (hW : c_W w t T S A K N sd) (k : Nat) (hk : k < T.2.2.1) : am_Go 68 (0, [.ref 2, .int (nI k), .int 7], [], w, 0, 0) (fun res w' => res = some (.int (x_house T S k 7)) ∧ c_W w' t T S A K N sd ∧ am_same (rg 2 131) w w') := by
  have hM : am_P[68]? = some zm_X10_house := rfl
  have hn6 : T.2.2.1 ≤ 6 := hv.1.1.1
  have hvT := hv.1.1
  have hvS := hv.2.1.1
  have hdy := hv.2.1.2.1
  obtain ⟨f1, kb1, bl1, bo1, rc1, fr1, se1, oo1_2, oo1_3, oo1_5, oo1_11, oo1_16, oo1_20, oo1_78, oo1_88, oo1_92, oo1_100, oo1_118⟩ := hW.obs
  refine ar_aload_n (pc' := 1) hM rfl rfl rfl ?_
  refine ar_iload_n (pc' := 2) hM rfl rfl rfl ?_
  refine ar_virtual (pc' := 5) (k3 := 0) (k4 := 0) hM rfl rfl oo1_2 ⟨rfl, (by decide)⟩ rfl rfl (by have h0 := c_isH _ _ _ _ _ _ _ _ hW (nI k); rw [if_pos ((i_H_iff hn6 _).mpr ⟨k, hk, rfl⟩)] at h0; exact h0) (fun r2 w2 q2 => ?_)
  obtain ⟨rfl, q2w⟩ := q2
  rw [q2w]
  show am_Go 68 (5, [.ref 2, .int (nI k), .int 7], [.int 1], w, 0, 0) _
  refine ar_if_ne (pc' := 8) hM rfl rfl (fun _ => ?_) (fun q => absurd q (by decide))
  obtain ⟨wa, ki, ba, he, ht0, ht1, ht2, ht3, ht4, hwa, -⟩ := id hW.T
  obtain ⟨so, ss, sl, hs0, hs1, hs2, hs3, hso, hss, hsl⟩ := id hW.S
  refine ar_iload_n (pc' := 11) hM rfl rfl rfl ?_
  refine ar_tableIn (off := 121) (t := 132) hM rfl (by decide) (by decide) (by decide) ?_
  refine ar_aload_n (pc' := 133) hM rfl rfl rfl ?_
  refine ar_getfield (pc' := 136) hM rfl oo1_2 rfl rfl ?_
  refine ar_iload_n (pc' := 137) hM rfl rfl rfl ?_
  refine ar_virtual (pc' := 140) (k3 := 0) (k4 := 0) hM rfl rfl oo1_16 ⟨rfl, (by decide)⟩ rfl rfl (by obtain ⟨so, ss, sl, g0, g1, g2, g3, -⟩ := hW.S; exact c_isAway _ 16 (by decide) so ss sl _ _ _ g0 g1 g2 g3 (nI k)) (fun r137 w137 q137 => ?_)
  obtain ⟨rfl, q137w⟩ := q137
  rw [q137w]
  show am_Go 68 (140, [.ref 2, .int (nI k), .int 7], [.int (if (S.2.2.2.2.2.1 >>> (nI k &&& 31)) &&& 1 = 1 then 1 else 0)], w, 0, 0) _
  refine ar_if_eq (pc' := 143) hM rfl rfl (fun c140 => ?_) (fun c140 => ?_)
  · refine ar_iconst (x := 0) (pc' := 148) hM rfl (by decide) rfl ?_
    refine ar_ireturn hM rfl (Or.inl rfl) ?_
    exact ⟨by show some (Value.int 0) = some (.int (if _ then 1 else 0)); rw [if_neg (am_eq0 c140)], hW, am_same.rf⟩
  · refine ar_iconst (x := 1) (pc' := 144) hM rfl (by decide) rfl ?_
    refine ar_goto hM rfl ?_
    refine ar_ireturn hM rfl (Or.inl rfl) ?_
    exact ⟨by show some (Value.int 1) = some (.int (if _ then 1 else 0)); rw [if_pos (am_ne0 c140)], hW, am_same.rf⟩
theorem f_house (w : am_W) (t : Nat × (Nat → Int32)) (T : p_D) (S : s_S) (A : List s_S) (K : Nat → Option s_S) (N : x_N) (sd : Int64) (d : Nat) (hd : d ≤ 1000) (hv : v_W d T S A K) (hW : c_W w t T S A K N sd) (k : Nat) (hk : k < T.2.2.1) (j : Nat) (hj : j ≤ 7) : am_Go 68 (0, [.ref 2, .int (nI k), .int (nI j)], [], w, 0, 0) (fun res w' => res = some (.int (x_house T S k j)) ∧ c_W w' t T S A K N sd ∧ am_same (rg 2 131) w w') := by
  match j, hj with
  | 0, _ => exact f_house0 w t T S A K N sd d hd hv hW k hk
  | 1, _ => exact f_house1 w t T S A K N sd d hd hv hW k hk
  | 2, _ => exact f_house2 w t T S A K N sd d hd hv hW k hk
  | 3, _ => exact f_house3 w t T S A K N sd d hd hv hW k hk
  | 4, _ => exact f_house4 w t T S A K N sd d hd hv hW k hk
  | 5, _ => exact f_house5 w t T S A K N sd d hd hv hW k hk
  | 6, _ => exact f_house6 w t T S A K N sd d hd hv hW k hk
  | 7, _ => exact f_house7 w t T S A K N sd d hd hv hW k hk
  | j + 8, h => omega
set_option maxRecDepth 100000 in
set_option maxHeartbeats 4000000 in
theorem f_houseO (w : am_W) (t : Nat × (Nat → Int32)) (T : p_D) (S : s_S) (A : List s_S) (K : Nat → Option s_S) (N : x_N) (sd : Int64) (d : Nat) (hd : d ≤ 1000) (hv : v_W d T S A K) (hW : c_W w t T S A K N sd) (k : Nat) (hk : k < T.2.2.1) (wh : Int32) (hq : wh.toInt < 0 ∨ 7 < wh.toInt) : am_Go 68 (0, [.ref 2, .int (nI k), .int wh], [], w, 0, 0) (fun res w' => res = some (.int (-2)) ∧ c_W w' t T S A K N sd ∧ am_same (rg 2 131) w w') := by
  have hM : am_P[68]? = some zm_X10_house := rfl
  have hn6 : T.2.2.1 ≤ 6 := hv.1.1.1
  have hvT := hv.1.1
  have hvS := hv.2.1.1
  have hdy := hv.2.1.2.1
  obtain ⟨f1, kb1, bl1, bo1, rc1, fr1, se1, oo1_2, oo1_3, oo1_5, oo1_11, oo1_16, oo1_20, oo1_78, oo1_88, oo1_92, oo1_100, oo1_118⟩ := hW.obs
  refine ar_aload_n (pc' := 1) hM rfl rfl rfl ?_
  refine ar_iload_n (pc' := 2) hM rfl rfl rfl ?_
  refine ar_virtual (pc' := 5) (k3 := 0) (k4 := 0) hM rfl rfl oo1_2 ⟨rfl, (by decide)⟩ rfl rfl (by have h0 := c_isH _ _ _ _ _ _ _ _ hW (nI k); rw [if_pos ((i_H_iff hn6 _).mpr ⟨k, hk, rfl⟩)] at h0; exact h0) (fun r2 w2 q2 => ?_)
  obtain ⟨rfl, q2w⟩ := q2
  rw [q2w]
  show am_Go 68 (5, [.ref 2, .int (nI k), .int wh], [.int 1], w, 0, 0) _
  refine ar_if_ne (pc' := 8) hM rfl rfl (fun _ => ?_) (fun q => absurd q (by decide))
  refine ar_iload_n (pc' := 11) hM rfl rfl rfl ?_
  refine ar_tableOut (t := 149) hM rfl hq rfl ?_
  refine ar_bipush (x := (-2)) (pc' := 151) hM rfl (by decide) rfl ?_
  refine ar_ireturn hM rfl (Or.inl rfl) ?_
  exact ⟨rfl, hW, am_same.rf⟩
set_option maxRecDepth 100000 in
set_option maxHeartbeats 4000000 in
theorem f_todayN (w : am_W) (t : Nat × (Nat → Int32)) (T : p_D) (S : s_S) (A : List s_S) (K : Nat → Option s_S) (N : x_N) (sd : Int64) (d : Nat) (hd : d ≤ 1000) (hv : v_W d T S A K) (hW : c_W w t T S A K N sd) (h : Int32) (hh : ¬ i_H T.2.2.1 h) (wh : Int32) : am_Go 69 (0, [.ref 2, .int h, .int wh], [], w, 0, 0) (fun res w' => res = some (.int (-1)) ∧ c_W w' t T S A K N sd ∧ am_same (rg 2 131) w w') := by
  have hM : am_P[69]? = some zm_X10_today := rfl
  have hn6 : T.2.2.1 ≤ 6 := hv.1.1.1
  have hvT := hv.1.1
  have hvS := hv.2.1.1
  have hdy := hv.2.1.2.1
  obtain ⟨f1, kb1, bl1, bo1, rc1, fr1, se1, oo1_2, oo1_3, oo1_5, oo1_11, oo1_16, oo1_20, oo1_78, oo1_88, oo1_92, oo1_100, oo1_118⟩ := hW.obs
  refine ar_aload_n (pc' := 1) hM rfl rfl rfl ?_
  refine ar_iload_n (pc' := 2) hM rfl rfl rfl ?_
  refine ar_virtual (pc' := 5) (k3 := 0) (k4 := 0) hM rfl rfl oo1_2 ⟨rfl, (by decide)⟩ rfl rfl (by have h0 := c_isH _ _ _ _ _ _ _ _ hW h; rw [if_neg (fun q => hh ((i_H_iff hn6 _).mp q))] at h0; exact h0) (fun r2 w2 q2 => ?_)
  obtain ⟨rfl, q2w⟩ := q2
  rw [q2w]
  show am_Go 69 (5, [.ref 2, .int h, .int wh], [.int 0], w, 0, 0) _
  refine ar_if_ne (pc' := 8) hM rfl rfl (fun q => absurd (by decide) q) (fun _ => ?_)
  refine ar_iconst (x := (-1)) (pc' := 9) hM rfl (by decide) rfl ?_
  refine ar_ireturn hM rfl (Or.inl rfl) ?_
  exact ⟨rfl, hW, am_same.rf⟩
def x_today (T : p_D) (S : s_S) (k : Nat) : Nat → Int32
  | 0 => m_wt T S 0 k
  | 1 => m_sy T S 0 k
  | 2 => m_gv T S 0 k
  | 3 => m_dr T S 0 k
  | 4 => m_lk T S 0 k
  | 5 => m_sp T S 0 k
  | _ => -2
set_option maxRecDepth 100000 in
set_option maxHeartbeats 4000000 in
theorem f_today0 (w : am_W) (t : Nat × (Nat → Int32)) (T : p_D) (S : s_S) (A : List s_S) (K : Nat → Option s_S) (N : x_N) (sd : Int64) (d : Nat) (hd : d ≤ 1000) (hv : v_W d T S A K) (hW : c_W w t T S A K N sd) (k : Nat) (hk : k < T.2.2.1) : am_Go 69 (0, [.ref 2, .int (nI k), .int 0], [], w, 0, 0) (fun res w' => res = some (.int (x_today T S k 0)) ∧ c_W w' t T S A K N sd ∧ am_same (rg 2 131) w w') := by
  have hM : am_P[69]? = some zm_X10_today := rfl
  have hn6 : T.2.2.1 ≤ 6 := hv.1.1.1
  have hvT := hv.1.1
  have hvS := hv.2.1.1
  have hdy := hv.2.1.2.1
  obtain ⟨f1, kb1, bl1, bo1, rc1, fr1, se1, oo1_2, oo1_3, oo1_5, oo1_11, oo1_16, oo1_20, oo1_78, oo1_88, oo1_92, oo1_100, oo1_118⟩ := hW.obs
  refine ar_aload_n (pc' := 1) hM rfl rfl rfl ?_
  refine ar_iload_n (pc' := 2) hM rfl rfl rfl ?_
  refine ar_virtual (pc' := 5) (k3 := 0) (k4 := 0) hM rfl rfl oo1_2 ⟨rfl, (by decide)⟩ rfl rfl (by have h0 := c_isH _ _ _ _ _ _ _ _ hW (nI k); rw [if_pos ((i_H_iff hn6 _).mpr ⟨k, hk, rfl⟩)] at h0; exact h0) (fun r2 w2 q2 => ?_)
  obtain ⟨rfl, q2w⟩ := q2
  rw [q2w]
  show am_Go 69 (5, [.ref 2, .int (nI k), .int 0], [.int 1], w, 0, 0) _
  refine ar_if_ne (pc' := 8) hM rfl rfl (fun _ => ?_) (fun q => absurd q (by decide))
  refine ar_aload_n (pc' := 11) hM rfl rfl rfl ?_
  refine ar_getfield (pc' := 14) hM rfl oo1_2 rfl rfl ?_
  refine ar_aload_n (pc' := 15) hM rfl rfl rfl ?_
  refine ar_getfield (pc' := 18) hM rfl oo1_2 rfl rfl ?_
  refine ar_aload_n (pc' := 19) hM rfl rfl rfl ?_
  refine ar_getfield (pc' := 22) hM rfl oo1_2 rfl rfl ?_
  refine ar_virtual (pc' := 25) (k3 := 0) (k4 := 0) hM rfl rfl oo1_92 ⟨rfl, (by decide)⟩ rfl rfl (k_lookAt _ 92 11 16 T S hvT hvS hW.T hW.S hW.D (by decide) (by decide) (by decide) (by omega) (by omega) (by omega)) (fun r22 w22 q22 => ?_)
  obtain ⟨rfl, hL2, q22s⟩ := q22
  have hW3 : c_W w22 t T S A K N sd := hW.sD q22s hL2.d
  have hsm3 : am_same (rg 2 131) w w22 := (am_same.rf).tr (q22s.mono (fun b hb => by unfold rg at *; omega))
  obtain ⟨f4, kb4, bl4, bo4, rc4, fr4, se4, oo4_2, oo4_3, oo4_5, oo4_11, oo4_16, oo4_20, oo4_78, oo4_88, oo4_92, oo4_100, oo4_118⟩ := hW3.obs
  show am_Go 69 (25, [.ref 2, .int (nI k), .int 0], [], w22, 0, 0) _
  obtain ⟨dw5, ds5, dg5, dd5, dl5, df5, dv5, ⟨hd5_0, hd5_1, hd5_2, hd5_3, hd5_4, hd5_5, hd5_6, hd5_7⟩, hdl5⟩ := id hL2
  refine ar_iload_n (pc' := 26) hM rfl rfl rfl ?_
  refine ar_tableIn (off := 38) (t := 64) hM rfl (by decide) (by decide) (by decide) ?_
  refine ar_aload_n (pc' := 65) hM rfl rfl rfl ?_
  refine ar_getfield (pc' := 68) hM rfl oo4_2 rfl rfl ?_
  refine ar_getfield (pc' := 71) hM rfl oo4_92 rfl rfl ?_
  refine ar_iload_n (pc' := 72) hM rfl rfl rfl ?_
  refine ar_ialoadN (j := k) (pc' := 73) hM rfl hd5_1 rfl (by omega) (Nat.le_of_ble_eq_true rfl) rfl ?_
  refine ar_ireturn hM rfl (Or.inl rfl) ?_
  exact ⟨by rw [(hdl5 k hk).1]; rfl, hW3, hsm3⟩
set_option maxRecDepth 100000 in
set_option maxHeartbeats 4000000 in
theorem f_today1 (w : am_W) (t : Nat × (Nat → Int32)) (T : p_D) (S : s_S) (A : List s_S) (K : Nat → Option s_S) (N : x_N) (sd : Int64) (d : Nat) (hd : d ≤ 1000) (hv : v_W d T S A K) (hW : c_W w t T S A K N sd) (k : Nat) (hk : k < T.2.2.1) : am_Go 69 (0, [.ref 2, .int (nI k), .int 1], [], w, 0, 0) (fun res w' => res = some (.int (x_today T S k 1)) ∧ c_W w' t T S A K N sd ∧ am_same (rg 2 131) w w') := by
  have hM : am_P[69]? = some zm_X10_today := rfl
  have hn6 : T.2.2.1 ≤ 6 := hv.1.1.1
  have hvT := hv.1.1
  have hvS := hv.2.1.1
  have hdy := hv.2.1.2.1
  obtain ⟨f1, kb1, bl1, bo1, rc1, fr1, se1, oo1_2, oo1_3, oo1_5, oo1_11, oo1_16, oo1_20, oo1_78, oo1_88, oo1_92, oo1_100, oo1_118⟩ := hW.obs
  refine ar_aload_n (pc' := 1) hM rfl rfl rfl ?_
  refine ar_iload_n (pc' := 2) hM rfl rfl rfl ?_
  refine ar_virtual (pc' := 5) (k3 := 0) (k4 := 0) hM rfl rfl oo1_2 ⟨rfl, (by decide)⟩ rfl rfl (by have h0 := c_isH _ _ _ _ _ _ _ _ hW (nI k); rw [if_pos ((i_H_iff hn6 _).mpr ⟨k, hk, rfl⟩)] at h0; exact h0) (fun r2 w2 q2 => ?_)
  obtain ⟨rfl, q2w⟩ := q2
  rw [q2w]
  show am_Go 69 (5, [.ref 2, .int (nI k), .int 1], [.int 1], w, 0, 0) _
  refine ar_if_ne (pc' := 8) hM rfl rfl (fun _ => ?_) (fun q => absurd q (by decide))
  refine ar_aload_n (pc' := 11) hM rfl rfl rfl ?_
  refine ar_getfield (pc' := 14) hM rfl oo1_2 rfl rfl ?_
  refine ar_aload_n (pc' := 15) hM rfl rfl rfl ?_
  refine ar_getfield (pc' := 18) hM rfl oo1_2 rfl rfl ?_
  refine ar_aload_n (pc' := 19) hM rfl rfl rfl ?_
  refine ar_getfield (pc' := 22) hM rfl oo1_2 rfl rfl ?_
  refine ar_virtual (pc' := 25) (k3 := 0) (k4 := 0) hM rfl rfl oo1_92 ⟨rfl, (by decide)⟩ rfl rfl (k_lookAt _ 92 11 16 T S hvT hvS hW.T hW.S hW.D (by decide) (by decide) (by decide) (by omega) (by omega) (by omega)) (fun r22 w22 q22 => ?_)
  obtain ⟨rfl, hL2, q22s⟩ := q22
  have hW3 : c_W w22 t T S A K N sd := hW.sD q22s hL2.d
  have hsm3 : am_same (rg 2 131) w w22 := (am_same.rf).tr (q22s.mono (fun b hb => by unfold rg at *; omega))
  obtain ⟨f4, kb4, bl4, bo4, rc4, fr4, se4, oo4_2, oo4_3, oo4_5, oo4_11, oo4_16, oo4_20, oo4_78, oo4_88, oo4_92, oo4_100, oo4_118⟩ := hW3.obs
  show am_Go 69 (25, [.ref 2, .int (nI k), .int 1], [], w22, 0, 0) _
  obtain ⟨dw5, ds5, dg5, dd5, dl5, df5, dv5, ⟨hd5_0, hd5_1, hd5_2, hd5_3, hd5_4, hd5_5, hd5_6, hd5_7⟩, hdl5⟩ := id hL2
  refine ar_iload_n (pc' := 26) hM rfl rfl rfl ?_
  refine ar_tableIn (off := 48) (t := 74) hM rfl (by decide) (by decide) (by decide) ?_
  refine ar_aload_n (pc' := 75) hM rfl rfl rfl ?_
  refine ar_getfield (pc' := 78) hM rfl oo4_2 rfl rfl ?_
  refine ar_getfield (pc' := 81) hM rfl oo4_92 rfl rfl ?_
  refine ar_iload_n (pc' := 82) hM rfl rfl rfl ?_
  refine ar_ialoadN (j := k) (pc' := 83) hM rfl hd5_2 rfl (by omega) (Nat.le_of_ble_eq_true rfl) rfl ?_
  refine ar_ireturn hM rfl (Or.inl rfl) ?_
  exact ⟨by rw [(hdl5 k hk).2.1]; rfl, hW3, hsm3⟩
set_option maxRecDepth 100000 in
set_option maxHeartbeats 4000000 in
theorem f_today2 (w : am_W) (t : Nat × (Nat → Int32)) (T : p_D) (S : s_S) (A : List s_S) (K : Nat → Option s_S) (N : x_N) (sd : Int64) (d : Nat) (hd : d ≤ 1000) (hv : v_W d T S A K) (hW : c_W w t T S A K N sd) (k : Nat) (hk : k < T.2.2.1) : am_Go 69 (0, [.ref 2, .int (nI k), .int 2], [], w, 0, 0) (fun res w' => res = some (.int (x_today T S k 2)) ∧ c_W w' t T S A K N sd ∧ am_same (rg 2 131) w w') := by
  have hM : am_P[69]? = some zm_X10_today := rfl
  have hn6 : T.2.2.1 ≤ 6 := hv.1.1.1
  have hvT := hv.1.1
  have hvS := hv.2.1.1
  have hdy := hv.2.1.2.1
  obtain ⟨f1, kb1, bl1, bo1, rc1, fr1, se1, oo1_2, oo1_3, oo1_5, oo1_11, oo1_16, oo1_20, oo1_78, oo1_88, oo1_92, oo1_100, oo1_118⟩ := hW.obs
  refine ar_aload_n (pc' := 1) hM rfl rfl rfl ?_
  refine ar_iload_n (pc' := 2) hM rfl rfl rfl ?_
  refine ar_virtual (pc' := 5) (k3 := 0) (k4 := 0) hM rfl rfl oo1_2 ⟨rfl, (by decide)⟩ rfl rfl (by have h0 := c_isH _ _ _ _ _ _ _ _ hW (nI k); rw [if_pos ((i_H_iff hn6 _).mpr ⟨k, hk, rfl⟩)] at h0; exact h0) (fun r2 w2 q2 => ?_)
  obtain ⟨rfl, q2w⟩ := q2
  rw [q2w]
  show am_Go 69 (5, [.ref 2, .int (nI k), .int 2], [.int 1], w, 0, 0) _
  refine ar_if_ne (pc' := 8) hM rfl rfl (fun _ => ?_) (fun q => absurd q (by decide))
  refine ar_aload_n (pc' := 11) hM rfl rfl rfl ?_
  refine ar_getfield (pc' := 14) hM rfl oo1_2 rfl rfl ?_
  refine ar_aload_n (pc' := 15) hM rfl rfl rfl ?_
  refine ar_getfield (pc' := 18) hM rfl oo1_2 rfl rfl ?_
  refine ar_aload_n (pc' := 19) hM rfl rfl rfl ?_
  refine ar_getfield (pc' := 22) hM rfl oo1_2 rfl rfl ?_
  refine ar_virtual (pc' := 25) (k3 := 0) (k4 := 0) hM rfl rfl oo1_92 ⟨rfl, (by decide)⟩ rfl rfl (k_lookAt _ 92 11 16 T S hvT hvS hW.T hW.S hW.D (by decide) (by decide) (by decide) (by omega) (by omega) (by omega)) (fun r22 w22 q22 => ?_)
  obtain ⟨rfl, hL2, q22s⟩ := q22
  have hW3 : c_W w22 t T S A K N sd := hW.sD q22s hL2.d
  have hsm3 : am_same (rg 2 131) w w22 := (am_same.rf).tr (q22s.mono (fun b hb => by unfold rg at *; omega))
  obtain ⟨f4, kb4, bl4, bo4, rc4, fr4, se4, oo4_2, oo4_3, oo4_5, oo4_11, oo4_16, oo4_20, oo4_78, oo4_88, oo4_92, oo4_100, oo4_118⟩ := hW3.obs
  show am_Go 69 (25, [.ref 2, .int (nI k), .int 2], [], w22, 0, 0) _
  obtain ⟨dw5, ds5, dg5, dd5, dl5, df5, dv5, ⟨hd5_0, hd5_1, hd5_2, hd5_3, hd5_4, hd5_5, hd5_6, hd5_7⟩, hdl5⟩ := id hL2
  refine ar_iload_n (pc' := 26) hM rfl rfl rfl ?_
  refine ar_tableIn (off := 58) (t := 84) hM rfl (by decide) (by decide) (by decide) ?_
  refine ar_aload_n (pc' := 85) hM rfl rfl rfl ?_
  refine ar_getfield (pc' := 88) hM rfl oo4_2 rfl rfl ?_
  refine ar_getfield (pc' := 91) hM rfl oo4_92 rfl rfl ?_
  refine ar_iload_n (pc' := 92) hM rfl rfl rfl ?_
  refine ar_ialoadN (j := k) (pc' := 93) hM rfl hd5_3 rfl (by omega) (Nat.le_of_ble_eq_true rfl) rfl ?_
  refine ar_ireturn hM rfl (Or.inl rfl) ?_
  exact ⟨by rw [(hdl5 k hk).2.2.1]; rfl, hW3, hsm3⟩
set_option maxRecDepth 100000 in
set_option maxHeartbeats 4000000 in
theorem f_today3 (w : am_W) (t : Nat × (Nat → Int32)) (T : p_D) (S : s_S) (A : List s_S) (K : Nat → Option s_S) (N : x_N) (sd : Int64) (d : Nat) (hd : d ≤ 1000) (hv : v_W d T S A K) (hW : c_W w t T S A K N sd) (k : Nat) (hk : k < T.2.2.1) : am_Go 69 (0, [.ref 2, .int (nI k), .int 3], [], w, 0, 0) (fun res w' => res = some (.int (x_today T S k 3)) ∧ c_W w' t T S A K N sd ∧ am_same (rg 2 131) w w') := by
  have hM : am_P[69]? = some zm_X10_today := rfl
  have hn6 : T.2.2.1 ≤ 6 := hv.1.1.1
  have hvT := hv.1.1
  have hvS := hv.2.1.1
  have hdy := hv.2.1.2.1
  obtain ⟨f1, kb1, bl1, bo1, rc1, fr1, se1, oo1_2, oo1_3, oo1_5, oo1_11, oo1_16, oo1_20, oo1_78, oo1_88, oo1_92, oo1_100, oo1_118⟩ := hW.obs
  refine ar_aload_n (pc' := 1) hM rfl rfl rfl ?_
  refine ar_iload_n (pc' := 2) hM rfl rfl rfl ?_
  refine ar_virtual (pc' := 5) (k3 := 0) (k4 := 0) hM rfl rfl oo1_2 ⟨rfl, (by decide)⟩ rfl rfl (by have h0 := c_isH _ _ _ _ _ _ _ _ hW (nI k); rw [if_pos ((i_H_iff hn6 _).mpr ⟨k, hk, rfl⟩)] at h0; exact h0) (fun r2 w2 q2 => ?_)
  obtain ⟨rfl, q2w⟩ := q2
  rw [q2w]
  show am_Go 69 (5, [.ref 2, .int (nI k), .int 3], [.int 1], w, 0, 0) _
  refine ar_if_ne (pc' := 8) hM rfl rfl (fun _ => ?_) (fun q => absurd q (by decide))
  refine ar_aload_n (pc' := 11) hM rfl rfl rfl ?_
  refine ar_getfield (pc' := 14) hM rfl oo1_2 rfl rfl ?_
  refine ar_aload_n (pc' := 15) hM rfl rfl rfl ?_
  refine ar_getfield (pc' := 18) hM rfl oo1_2 rfl rfl ?_
  refine ar_aload_n (pc' := 19) hM rfl rfl rfl ?_
  refine ar_getfield (pc' := 22) hM rfl oo1_2 rfl rfl ?_
  refine ar_virtual (pc' := 25) (k3 := 0) (k4 := 0) hM rfl rfl oo1_92 ⟨rfl, (by decide)⟩ rfl rfl (k_lookAt _ 92 11 16 T S hvT hvS hW.T hW.S hW.D (by decide) (by decide) (by decide) (by omega) (by omega) (by omega)) (fun r22 w22 q22 => ?_)
  obtain ⟨rfl, hL2, q22s⟩ := q22
  have hW3 : c_W w22 t T S A K N sd := hW.sD q22s hL2.d
  have hsm3 : am_same (rg 2 131) w w22 := (am_same.rf).tr (q22s.mono (fun b hb => by unfold rg at *; omega))
  obtain ⟨f4, kb4, bl4, bo4, rc4, fr4, se4, oo4_2, oo4_3, oo4_5, oo4_11, oo4_16, oo4_20, oo4_78, oo4_88, oo4_92, oo4_100, oo4_118⟩ := hW3.obs
  show am_Go 69 (25, [.ref 2, .int (nI k), .int 3], [], w22, 0, 0) _
  obtain ⟨dw5, ds5, dg5, dd5, dl5, df5, dv5, ⟨hd5_0, hd5_1, hd5_2, hd5_3, hd5_4, hd5_5, hd5_6, hd5_7⟩, hdl5⟩ := id hL2
  refine ar_iload_n (pc' := 26) hM rfl rfl rfl ?_
  refine ar_tableIn (off := 68) (t := 94) hM rfl (by decide) (by decide) (by decide) ?_
  refine ar_aload_n (pc' := 95) hM rfl rfl rfl ?_
  refine ar_getfield (pc' := 98) hM rfl oo4_2 rfl rfl ?_
  refine ar_getfield (pc' := 101) hM rfl oo4_92 rfl rfl ?_
  refine ar_iload_n (pc' := 102) hM rfl rfl rfl ?_
  refine ar_ialoadN (j := k) (pc' := 103) hM rfl hd5_4 rfl (by omega) (Nat.le_of_ble_eq_true rfl) rfl ?_
  refine ar_ireturn hM rfl (Or.inl rfl) ?_
  exact ⟨by rw [(hdl5 k hk).2.2.2.1]; rfl, hW3, hsm3⟩
set_option maxRecDepth 100000 in
set_option maxHeartbeats 4000000 in
theorem f_today4 (w : am_W) (t : Nat × (Nat → Int32)) (T : p_D) (S : s_S) (A : List s_S) (K : Nat → Option s_S) (N : x_N) (sd : Int64) (d : Nat) (hd : d ≤ 1000) (hv : v_W d T S A K) (hW : c_W w t T S A K N sd) (k : Nat) (hk : k < T.2.2.1) : am_Go 69 (0, [.ref 2, .int (nI k), .int 4], [], w, 0, 0) (fun res w' => res = some (.int (x_today T S k 4)) ∧ c_W w' t T S A K N sd ∧ am_same (rg 2 131) w w') := by
  have hM : am_P[69]? = some zm_X10_today := rfl
  have hn6 : T.2.2.1 ≤ 6 := hv.1.1.1
  have hvT := hv.1.1
  have hvS := hv.2.1.1
  have hdy := hv.2.1.2.1
  obtain ⟨f1, kb1, bl1, bo1, rc1, fr1, se1, oo1_2, oo1_3, oo1_5, oo1_11, oo1_16, oo1_20, oo1_78, oo1_88, oo1_92, oo1_100, oo1_118⟩ := hW.obs
  refine ar_aload_n (pc' := 1) hM rfl rfl rfl ?_
  refine ar_iload_n (pc' := 2) hM rfl rfl rfl ?_
  refine ar_virtual (pc' := 5) (k3 := 0) (k4 := 0) hM rfl rfl oo1_2 ⟨rfl, (by decide)⟩ rfl rfl (by have h0 := c_isH _ _ _ _ _ _ _ _ hW (nI k); rw [if_pos ((i_H_iff hn6 _).mpr ⟨k, hk, rfl⟩)] at h0; exact h0) (fun r2 w2 q2 => ?_)
  obtain ⟨rfl, q2w⟩ := q2
  rw [q2w]
  show am_Go 69 (5, [.ref 2, .int (nI k), .int 4], [.int 1], w, 0, 0) _
  refine ar_if_ne (pc' := 8) hM rfl rfl (fun _ => ?_) (fun q => absurd q (by decide))
  refine ar_aload_n (pc' := 11) hM rfl rfl rfl ?_
  refine ar_getfield (pc' := 14) hM rfl oo1_2 rfl rfl ?_
  refine ar_aload_n (pc' := 15) hM rfl rfl rfl ?_
  refine ar_getfield (pc' := 18) hM rfl oo1_2 rfl rfl ?_
  refine ar_aload_n (pc' := 19) hM rfl rfl rfl ?_
  refine ar_getfield (pc' := 22) hM rfl oo1_2 rfl rfl ?_
  refine ar_virtual (pc' := 25) (k3 := 0) (k4 := 0) hM rfl rfl oo1_92 ⟨rfl, (by decide)⟩ rfl rfl (k_lookAt _ 92 11 16 T S hvT hvS hW.T hW.S hW.D (by decide) (by decide) (by decide) (by omega) (by omega) (by omega)) (fun r22 w22 q22 => ?_)
  obtain ⟨rfl, hL2, q22s⟩ := q22
  have hW3 : c_W w22 t T S A K N sd := hW.sD q22s hL2.d
  have hsm3 : am_same (rg 2 131) w w22 := (am_same.rf).tr (q22s.mono (fun b hb => by unfold rg at *; omega))
  obtain ⟨f4, kb4, bl4, bo4, rc4, fr4, se4, oo4_2, oo4_3, oo4_5, oo4_11, oo4_16, oo4_20, oo4_78, oo4_88, oo4_92, oo4_100, oo4_118⟩ := hW3.obs
  show am_Go 69 (25, [.ref 2, .int (nI k), .int 4], [], w22, 0, 0) _
  obtain ⟨dw5, ds5, dg5, dd5, dl5, df5, dv5, ⟨hd5_0, hd5_1, hd5_2, hd5_3, hd5_4, hd5_5, hd5_6, hd5_7⟩, hdl5⟩ := id hL2
  refine ar_iload_n (pc' := 26) hM rfl rfl rfl ?_
  refine ar_tableIn (off := 78) (t := 104) hM rfl (by decide) (by decide) (by decide) ?_
  refine ar_aload_n (pc' := 105) hM rfl rfl rfl ?_
  refine ar_getfield (pc' := 108) hM rfl oo4_2 rfl rfl ?_
  refine ar_getfield (pc' := 111) hM rfl oo4_92 rfl rfl ?_
  refine ar_iload_n (pc' := 112) hM rfl rfl rfl ?_
  refine ar_ialoadN (j := k) (pc' := 113) hM rfl hd5_5 rfl (by omega) (Nat.le_of_ble_eq_true rfl) rfl ?_
  refine ar_ireturn hM rfl (Or.inl rfl) ?_
  exact ⟨by rw [(hdl5 k hk).2.2.2.2.1]; rfl, hW3, hsm3⟩
set_option maxRecDepth 100000 in
set_option maxHeartbeats 4000000 in
theorem f_today5 (w : am_W) (t : Nat × (Nat → Int32)) (T : p_D) (S : s_S) (A : List s_S) (K : Nat → Option s_S) (N : x_N) (sd : Int64) (d : Nat) (hd : d ≤ 1000) (hv : v_W d T S A K) (hW : c_W w t T S A K N sd) (k : Nat) (hk : k < T.2.2.1) : am_Go 69 (0, [.ref 2, .int (nI k), .int 5], [], w, 0, 0) (fun res w' => res = some (.int (x_today T S k 5)) ∧ c_W w' t T S A K N sd ∧ am_same (rg 2 131) w w') := by
  have hM : am_P[69]? = some zm_X10_today := rfl
  have hn6 : T.2.2.1 ≤ 6 := hv.1.1.1
  have hvT := hv.1.1
  have hvS := hv.2.1.1
  have hdy := hv.2.1.2.1
  obtain ⟨f1, kb1, bl1, bo1, rc1, fr1, se1, oo1_2, oo1_3, oo1_5, oo1_11, oo1_16, oo1_20, oo1_78, oo1_88, oo1_92, oo1_100, oo1_118⟩ := hW.obs
  refine ar_aload_n (pc' := 1) hM rfl rfl rfl ?_
  refine ar_iload_n (pc' := 2) hM rfl rfl rfl ?_
  refine ar_virtual (pc' := 5) (k3 := 0) (k4 := 0) hM rfl rfl oo1_2 ⟨rfl, (by decide)⟩ rfl rfl (by have h0 := c_isH _ _ _ _ _ _ _ _ hW (nI k); rw [if_pos ((i_H_iff hn6 _).mpr ⟨k, hk, rfl⟩)] at h0; exact h0) (fun r2 w2 q2 => ?_)
  obtain ⟨rfl, q2w⟩ := q2
  rw [q2w]
  show am_Go 69 (5, [.ref 2, .int (nI k), .int 5], [.int 1], w, 0, 0) _
  refine ar_if_ne (pc' := 8) hM rfl rfl (fun _ => ?_) (fun q => absurd q (by decide))
  refine ar_aload_n (pc' := 11) hM rfl rfl rfl ?_
  refine ar_getfield (pc' := 14) hM rfl oo1_2 rfl rfl ?_
  refine ar_aload_n (pc' := 15) hM rfl rfl rfl ?_
  refine ar_getfield (pc' := 18) hM rfl oo1_2 rfl rfl ?_
  refine ar_aload_n (pc' := 19) hM rfl rfl rfl ?_
  refine ar_getfield (pc' := 22) hM rfl oo1_2 rfl rfl ?_
  refine ar_virtual (pc' := 25) (k3 := 0) (k4 := 0) hM rfl rfl oo1_92 ⟨rfl, (by decide)⟩ rfl rfl (k_lookAt _ 92 11 16 T S hvT hvS hW.T hW.S hW.D (by decide) (by decide) (by decide) (by omega) (by omega) (by omega)) (fun r22 w22 q22 => ?_)
  obtain ⟨rfl, hL2, q22s⟩ := q22
  have hW3 : c_W w22 t T S A K N sd := hW.sD q22s hL2.d
  have hsm3 : am_same (rg 2 131) w w22 := (am_same.rf).tr (q22s.mono (fun b hb => by unfold rg at *; omega))
  obtain ⟨f4, kb4, bl4, bo4, rc4, fr4, se4, oo4_2, oo4_3, oo4_5, oo4_11, oo4_16, oo4_20, oo4_78, oo4_88, oo4_92, oo4_100, oo4_118⟩ := hW3.obs
  show am_Go 69 (25, [.ref 2, .int (nI k), .int 5], [], w22, 0, 0) _
  obtain ⟨dw5, ds5, dg5, dd5, dl5, df5, dv5, ⟨hd5_0, hd5_1, hd5_2, hd5_3, hd5_4, hd5_5, hd5_6, hd5_7⟩, hdl5⟩ := id hL2
  refine ar_iload_n (pc' := 26) hM rfl rfl rfl ?_
  refine ar_tableIn (off := 88) (t := 114) hM rfl (by decide) (by decide) (by decide) ?_
  refine ar_aload_n (pc' := 115) hM rfl rfl rfl ?_
  refine ar_getfield (pc' := 118) hM rfl oo4_2 rfl rfl ?_
  refine ar_getfield (pc' := 121) hM rfl oo4_92 rfl rfl ?_
  refine ar_iload_n (pc' := 122) hM rfl rfl rfl ?_
  refine ar_ialoadN (j := k) (pc' := 123) hM rfl hd5_7 rfl (by omega) (Nat.le_of_ble_eq_true rfl) rfl ?_
  refine ar_ireturn hM rfl (Or.inl rfl) ?_
  exact ⟨by rw [(hdl5 k hk).2.2.2.2.2.2]; rfl, hW3, hsm3⟩
theorem f_today (w : am_W) (t : Nat × (Nat → Int32)) (T : p_D) (S : s_S) (A : List s_S) (K : Nat → Option s_S) (N : x_N) (sd : Int64) (d : Nat) (hd : d ≤ 1000) (hv : v_W d T S A K) (hW : c_W w t T S A K N sd) (k : Nat) (hk : k < T.2.2.1) (j : Nat) (hj : j ≤ 5) : am_Go 69 (0, [.ref 2, .int (nI k), .int (nI j)], [], w, 0, 0) (fun res w' => res = some (.int (x_today T S k j)) ∧ c_W w' t T S A K N sd ∧ am_same (rg 2 131) w w') := by
  match j, hj with
  | 0, _ => exact f_today0 w t T S A K N sd d hd hv hW k hk
  | 1, _ => exact f_today1 w t T S A K N sd d hd hv hW k hk
  | 2, _ => exact f_today2 w t T S A K N sd d hd hv hW k hk
  | 3, _ => exact f_today3 w t T S A K N sd d hd hv hW k hk
  | 4, _ => exact f_today4 w t T S A K N sd d hd hv hW k hk
  | 5, _ => exact f_today5 w t T S A K N sd d hd hv hW k hk
  | j + 6, h => omega
set_option maxRecDepth 100000 in
set_option maxHeartbeats 4000000 in
theorem f_todayO (w : am_W) (t : Nat × (Nat → Int32)) (T : p_D) (S : s_S) (A : List s_S) (K : Nat → Option s_S) (N : x_N) (sd : Int64) (d : Nat) (hd : d ≤ 1000) (hv : v_W d T S A K) (hW : c_W w t T S A K N sd) (k : Nat) (hk : k < T.2.2.1) (wh : Int32) (hq : wh.toInt < 0 ∨ 5 < wh.toInt) : am_Go 69 (0, [.ref 2, .int (nI k), .int wh], [], w, 0, 0) (fun res w' => res = some (.int (-2)) ∧ c_W w' t T S A K N sd ∧ am_same (rg 2 131) w w') := by
  have hM : am_P[69]? = some zm_X10_today := rfl
  have hn6 : T.2.2.1 ≤ 6 := hv.1.1.1
  have hvT := hv.1.1
  have hvS := hv.2.1.1
  have hdy := hv.2.1.2.1
  obtain ⟨f1, kb1, bl1, bo1, rc1, fr1, se1, oo1_2, oo1_3, oo1_5, oo1_11, oo1_16, oo1_20, oo1_78, oo1_88, oo1_92, oo1_100, oo1_118⟩ := hW.obs
  refine ar_aload_n (pc' := 1) hM rfl rfl rfl ?_
  refine ar_iload_n (pc' := 2) hM rfl rfl rfl ?_
  refine ar_virtual (pc' := 5) (k3 := 0) (k4 := 0) hM rfl rfl oo1_2 ⟨rfl, (by decide)⟩ rfl rfl (by have h0 := c_isH _ _ _ _ _ _ _ _ hW (nI k); rw [if_pos ((i_H_iff hn6 _).mpr ⟨k, hk, rfl⟩)] at h0; exact h0) (fun r2 w2 q2 => ?_)
  obtain ⟨rfl, q2w⟩ := q2
  rw [q2w]
  show am_Go 69 (5, [.ref 2, .int (nI k), .int wh], [.int 1], w, 0, 0) _
  refine ar_if_ne (pc' := 8) hM rfl rfl (fun _ => ?_) (fun q => absurd q (by decide))
  refine ar_aload_n (pc' := 11) hM rfl rfl rfl ?_
  refine ar_getfield (pc' := 14) hM rfl oo1_2 rfl rfl ?_
  refine ar_aload_n (pc' := 15) hM rfl rfl rfl ?_
  refine ar_getfield (pc' := 18) hM rfl oo1_2 rfl rfl ?_
  refine ar_aload_n (pc' := 19) hM rfl rfl rfl ?_
  refine ar_getfield (pc' := 22) hM rfl oo1_2 rfl rfl ?_
  refine ar_virtual (pc' := 25) (k3 := 0) (k4 := 0) hM rfl rfl oo1_92 ⟨rfl, (by decide)⟩ rfl rfl (k_lookAt _ 92 11 16 T S hvT hvS hW.T hW.S hW.D (by decide) (by decide) (by decide) (by omega) (by omega) (by omega)) (fun r22 w22 q22 => ?_)
  obtain ⟨rfl, hL2, q22s⟩ := q22
  have hW3 : c_W w22 t T S A K N sd := hW.sD q22s hL2.d
  have hsm3 : am_same (rg 2 131) w w22 := (am_same.rf).tr (q22s.mono (fun b hb => by unfold rg at *; omega))
  obtain ⟨f4, kb4, bl4, bo4, rc4, fr4, se4, oo4_2, oo4_3, oo4_5, oo4_11, oo4_16, oo4_20, oo4_78, oo4_88, oo4_92, oo4_100, oo4_118⟩ := hW3.obs
  show am_Go 69 (25, [.ref 2, .int (nI k), .int wh], [], w22, 0, 0) _
  refine ar_iload_n (pc' := 26) hM rfl rfl rfl ?_
  refine ar_tableOut (t := 124) hM rfl hq rfl ?_
  refine ar_bipush (x := (-2)) (pc' := 126) hM rfl (by decide) rfl ?_
  refine ar_ireturn hM rfl (Or.inl rfl) ?_
  exact ⟨rfl, hW3, hsm3⟩
set_option maxRecDepth 100000 in
set_option maxHeartbeats 4000000 in
theorem f_atN (w : am_W) (t : Nat × (Nat → Int32)) (T : p_D) (S : s_S) (A : List s_S) (K : Nat → Option s_S) (N : x_N) (sd : Int64) (d : Nat) (hd : d ≤ 1000) (hv : v_W d T S A K) (hW : c_W w t T S A K N sd) (h : Int32) (hh : ¬ i_H T.2.2.1 h) : am_Go 70 (0, [.ref 2, .int h], [], w, 0, 0) (fun res w' => res = some (.int (-9)) ∧ c_W w' t T S A K N sd ∧ am_same (rg 2 131) w w') := by
  have hM : am_P[70]? = some zm_X10_at := rfl
  have hn6 : T.2.2.1 ≤ 6 := hv.1.1.1
  have hvT := hv.1.1
  have hvS := hv.2.1.1
  have hdy := hv.2.1.2.1
  obtain ⟨f1, kb1, bl1, bo1, rc1, fr1, se1, oo1_2, oo1_3, oo1_5, oo1_11, oo1_16, oo1_20, oo1_78, oo1_88, oo1_92, oo1_100, oo1_118⟩ := hW.obs
  refine ar_iload_n (pc' := 1) hM rfl rfl rfl ?_
  refine ar_iconst (x := 0) (pc' := 2) hM rfl (by decide) rfl ?_
  refine ar_aload_n (pc' := 3) hM rfl rfl rfl ?_
  refine ar_getfield (pc' := 6) hM rfl oo1_2 rfl rfl ?_
  refine ar_getfield (pc' := 9) hM rfl oo1_11 rfl rfl ?_
  refine ar_iconst (x := 1) (pc' := 10) hM rfl (by decide) rfl ?_
  refine ar_isub (pc' := 11) hM rfl rfl ?_
  refine ar_static (pc' := 14) (k3 := 0) (k4 := 0) hM rfl (by decide) rfl rfl (by have h0 := c_within w h 0 ((nI T.2.2.1) - 1); rw [if_neg (fun q => hh ((i_H_iff hn6 _).mp q))] at h0; exact h0) (fun r11 w11 q11 => ?_)
  obtain ⟨rfl, q11w⟩ := q11
  rw [q11w]
  show am_Go 70 (14, [.ref 2, .int h], [.int 0], w, 0, 0) _
  refine ar_if_eq (pc' := 17) hM rfl rfl (fun _ => ?_) (fun q => absurd (by decide) q)
  refine ar_bipush (x := (-9)) (pc' := 31) hM rfl (by decide) rfl ?_
  refine ar_ireturn hM rfl (Or.inl rfl) ?_
  exact ⟨rfl, hW, am_same.rf⟩
set_option maxRecDepth 100000 in
set_option maxHeartbeats 4000000 in
theorem f_at (w : am_W) (t : Nat × (Nat → Int32)) (T : p_D) (S : s_S) (A : List s_S) (K : Nat → Option s_S) (N : x_N) (sd : Int64) (d : Nat) (hd : d ≤ 1000) (hv : v_W d T S A K) (hW : c_W w t T S A K N sd) (k : Nat) (hk : k < T.2.2.1) : am_Go 70 (0, [.ref 2, .int (nI k)], [], w, 0, 0) (fun res w' => res = some (.int (nI (S.1 k))) ∧ c_W w' t T S A K N sd ∧ am_same (rg 2 131) w w') := by
  have hM : am_P[70]? = some zm_X10_at := rfl
  have hn6 : T.2.2.1 ≤ 6 := hv.1.1.1
  have hvT := hv.1.1
  have hvS := hv.2.1.1
  have hdy := hv.2.1.2.1
  obtain ⟨f1, kb1, bl1, bo1, rc1, fr1, se1, oo1_2, oo1_3, oo1_5, oo1_11, oo1_16, oo1_20, oo1_78, oo1_88, oo1_92, oo1_100, oo1_118⟩ := hW.obs
  refine ar_iload_n (pc' := 1) hM rfl rfl rfl ?_
  refine ar_iconst (x := 0) (pc' := 2) hM rfl (by decide) rfl ?_
  refine ar_aload_n (pc' := 3) hM rfl rfl rfl ?_
  refine ar_getfield (pc' := 6) hM rfl oo1_2 rfl rfl ?_
  refine ar_getfield (pc' := 9) hM rfl oo1_11 rfl rfl ?_
  refine ar_iconst (x := 1) (pc' := 10) hM rfl (by decide) rfl ?_
  refine ar_isub (pc' := 11) hM rfl rfl ?_
  refine ar_static (pc' := 14) (k3 := 0) (k4 := 0) hM rfl (by decide) rfl rfl (by have h0 := c_within w (nI k) 0 ((nI T.2.2.1) - 1); rw [if_pos ((i_H_iff hn6 _).mpr ⟨k, hk, rfl⟩)] at h0; exact h0) (fun r11 w11 q11 => ?_)
  obtain ⟨rfl, q11w⟩ := q11
  rw [q11w]
  show am_Go 70 (14, [.ref 2, .int (nI k)], [.int 1], w, 0, 0) _
  refine ar_if_eq (pc' := 17) hM rfl rfl (fun q => absurd q (by decide)) (fun _ => ?_)
  obtain ⟨wa, ki, ba, he, ht0, ht1, ht2, ht3, ht4, hwa, -⟩ := id hW.T
  obtain ⟨so, ss, sl, hs0, hs1, hs2, hs3, hso, hss, hsl⟩ := id hW.S
  refine ar_aload_n (pc' := 18) hM rfl rfl rfl ?_
  refine ar_getfield (pc' := 21) hM rfl oo1_2 rfl rfl ?_
  refine ar_getfield (pc' := 24) hM rfl oo1_16 rfl rfl ?_
  refine ar_iload_n (pc' := 25) hM rfl rfl rfl ?_
  refine ar_ialoadN (j := k) (pc' := 26) hM rfl hs1 rfl (by omega) (Nat.le_of_ble_eq_true rfl) rfl ?_
  refine ar_goto hM rfl ?_
  refine ar_ireturn hM rfl (Or.inl rfl) ?_
  exact ⟨by rw [hso k (by omega)], hW, am_same.rf⟩
