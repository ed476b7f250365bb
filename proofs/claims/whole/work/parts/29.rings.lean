/-! acts and slots as rows of standings -/
theorem c_R_fn {w : am_W} {a N : Nat} (h : ∀ i, i < N → c_R w (a + 4 * i)) : ∃ (bo bs bl : Nat → Nat → Int32) (ba bw bd : Nat → Int32), (∀ i, i < N → w[a + 4 * i]? = some (.inr (6, [.ref (a + 4 * i + 1), .ref (a + 4 * i + 2), .ref (a + 4 * i + 3), .int (ba i), .int (bw i), .int (bd i)]))) ∧ (∀ i, i < N → w[a + 4 * i + 1]? = some (.inl (0, 6, .inl (bo i)))) ∧ (∀ i, i < N → w[a + 4 * i + 2]? = some (.inl (0, 6, .inl (bs i)))) ∧ (∀ i, i < N → w[a + 4 * i + 3]? = some (.inl (0, 6, .inl (bl i)))) := by
  have h1 : ∀ i, ∃ p : (Nat → Int32) × (Nat → Int32) × (Nat → Int32) × Int32 × Int32 × Int32, i < N → w[a + 4 * i]? = some (.inr (6, [.ref (a + 4 * i + 1), .ref (a + 4 * i + 2), .ref (a + 4 * i + 3), .int p.2.2.2.1, .int p.2.2.2.2.1, .int p.2.2.2.2.2])) ∧ w[a + 4 * i + 1]? = some (.inl (0, 6, .inl p.1)) ∧ w[a + 4 * i + 2]? = some (.inl (0, 6, .inl p.2.1)) ∧ w[a + 4 * i + 3]? = some (.inl (0, 6, .inl p.2.2.1)) := by
    intro i
    by_cases q : i < N
    · obtain ⟨so, ss, sl, x, y, z, g0, g1, g2, g3⟩ := h i q
      exact ⟨(so, ss, sl, x, y, z), fun _ => ⟨g0, g1, g2, g3⟩⟩
    · exact ⟨((fun _ => 0), (fun _ => 0), (fun _ => 0), 0, 0, 0), fun e => absurd e q⟩
  obtain ⟨f, hf⟩ := Classical.axiomOfChoice h1
  exact ⟨fun i => (f i).1, fun i => (f i).2.1, fun i => (f i).2.2.1, fun i => (f i).2.2.2.1, fun i => (f i).2.2.2.2.1, fun i => (f i).2.2.2.2.2, fun i hi => (hf i hi).1, fun i hi => (hf i hi).2.1, fun i hi => (hf i hi).2.2.1, fun i hi => (hf i hi).2.2.2⟩
theorem c_cpyS {w : am_W} {a n : Nat} {S : s_S} (hR : c_R w a) (h6 : n ≤ 6) {oo os ol ro rs rl : Nat → Int32} (q1 : ∀ p, p < 6 → oo p = nI (S.1 p)) (q2 : ∀ h, h < n → os h = S.2.2.1 h) (q3 : ∀ h, h < n → ol h = S.2.2.2.1 h) : c_S ((((w.set (a + 1) (.inl (0, 6, .inl (va_cpy oo ro 0 0 6)))).set (a + 2) (.inl (0, 6, .inl (va_cpy os rs 0 0 6)))).set (a + 3) (.inl (0, 6, .inl (va_cpy ol rl 0 0 6)))).set a (.inr (6, [.ref (a + 1), .ref (a + 2), .ref (a + 3), .int S.2.2.2.2.1, .int S.2.2.2.2.2.1, .int (nI S.2.2.2.2.2.2)]))) a n S := by
  obtain ⟨so, ss, sl, x, y, z, hs0, hs1, hs2, hs3⟩ := hR
  refine ⟨_, _, _, am_gs (am_gn (by omega) (am_gn (by omega) (am_gn (by omega) hs0))), am_gn (by omega) (am_gn (by omega) (am_gn (by omega) (am_gs hs1))), am_gn (by omega) (am_gn (by omega) (am_gs (am_gn (by omega) hs2))), am_gn (by omega) (am_gs (am_gn (by omega) (am_gn (by omega) hs3))), fun p hp => ?_, fun h hh => ?_, fun h hh => ?_⟩
  · rw [pk_cpy_in (by omega) (by omega)]; simpa using q1 p hp
  · rw [pk_cpy_in (by omega) (by omega)]; simpa using q2 h hh
  · rw [pk_cpy_in (by omega) (by omega)]; simpa using q3 h hh
theorem c_cpyM {w : am_W} {a : Nat} {e1 e2 e3 e4 : am_E} : am_same (rg a 4) w ((((w.set (a + 1) e1).set (a + 2) e2).set (a + 3) e3).set a e4) := am_same.set (am_same.set (am_same.set (am_same.set am_same.rf (by unfold rg; omega)) (by unfold rg; omega)) (by unfold rg; omega)) (by unfold rg; omega)
set_option maxHeartbeats 4000000 in
theorem k_remember (w : am_W) (n : Nat) (A : List s_S) (S : s_S) (hA : c_A w n A) (hS : c_S w 16 n S) (h6 : n ≤ 6) : am_Go 2 (0, [.ref 20, .ref 16], [], w, 0, 0) (fun res w' => res = none ∧ c_A w' n ((S :: A).take 14) ∧ am_same (rg 20 58) w w') := by
  obtain ⟨hl, f, hf, ha0, ⟨bf, ha1, hbf⟩, hR, hAS⟩ := hA
  obtain ⟨so, ss, sl, hs0, hs1, hs2, hs3, q1, q2, q3⟩ := hS
  obtain ⟨bo, bs, bl, ba, bw, bd, hb0, hb1, hb2, hb3⟩ := c_R_fn hR
  rcases Nat.lt_or_ge A.length 14 with hc | hc
  · refine (c_remember w f A.length hf hl ha0 bf bo bs bl ba bw bd hbf hb0 hb1 hb2 hb3 ha1 so ss sl _ _ _ hs0 hs1 hs2 hs3 hc ((f + A.length) % 14) (Nat.mod_lt _ (by decide)) rfl).mono ?_
    rintro res w' ⟨rfl, rfl⟩
    have hj := Nat.mod_lt (f + A.length) (show 0 < 14 by decide)
    have hcp := c_cpyS (S := S) (hR _ hj) h6 (ro := bo ((f + A.length) % 14)) (rs := bs ((f + A.length) % 14)) (rl := bl ((f + A.length) % 14)) q1 q2 q3
    have hsm : am_same (rg (22 + 4 * ((f + A.length) % 14)) 4) w _ := c_cpyM (e1 := .inl (0, 6, .inl (va_cpy so (bo ((f + A.length) % 14)) 0 0 6))) (e2 := .inl (0, 6, .inl (va_cpy ss (bs ((f + A.length) % 14)) 0 0 6))) (e3 := .inl (0, 6, .inl (va_cpy sl (bl ((f + A.length) % 14)) 0 0 6))) (e4 := .inr (6, [.ref (22 + 4 * ((f + A.length) % 14) + 1), .ref (22 + 4 * ((f + A.length) % 14) + 2), .ref (22 + 4 * ((f + A.length) % 14) + 3), .int S.2.2.2.2.1, .int S.2.2.2.2.2.1, .int (nI S.2.2.2.2.2.2)]))
    have h20 : ∀ w1 : am_W, am_same (rg 20 1) w1 (w1.set 20 (.inr (0, [.ref 21, .int (nI f), .int (nI (A.length + 1))]))) := fun w1 => am_same.set am_same.rf (by unfold rg; omega)
    rw [List.take_of_length_le (show (S :: A).length ≤ 14 by simp; omega)]
    refine ⟨rfl, ⟨by simp; omega, f, hf, am_gs (hsm.at (by unfold rg; omega) ha0), ⟨bf, (h20 _).at (by unfold rg; omega) (hsm.at (by unfold rg; omega) ha1), hbf⟩, fun i hi => ?_, fun i S' hi => ?_⟩, ?_⟩
    · refine c_R.same ?_ (h20 _) (fun b b1 b2 => by unfold rg; omega)
      by_cases e : i = (f + A.length) % 14
      · rw [e]; exact hcp.r
      · exact (hR i hi).same hsm (fun b b1 b2 => by unfold rg; omega)
    · refine c_S.same ?_ (h20 _) (fun b b1 b2 => by unfold rg; omega)
      match i, hi with
      | 0, hi =>
        have : S = S' := by simpa using hi
        subst this
        rw [show (f + ((S :: A).length - 1 - 0)) % 14 = (f + A.length) % 14 by simp]
        exact hcp
      | i + 1, hi =>
        have hi : A[i]? = some S' := by simpa using hi
        have hil : i < A.length := (List.getElem?_eq_some_iff.mp hi).1
        rw [show f + ((S :: A).length - 1 - (i + 1)) = f + (A.length - 1 - i) by simp; omega]
        exact (hAS i S' hi).same hsm (fun b b1 b2 => by unfold rg; omega)
    · exact am_same.set (hsm.mono (fun b hb => by unfold rg at *; omega)) (by unfold rg; omega)
  · have hc : A.length = 14 := by omega
    rw [hc] at ha0 hAS
    have hf2 := Nat.mod_lt (f + 1) (show 0 < 14 by decide)
    refine (c_rememberF w f 14 hf (Nat.le_refl _) ha0 bf bo bs bl ba bw bd hbf hb0 hb1 hb2 hb3 ha1 so ss sl _ _ _ hs0 hs1 hs2 hs3 rfl ((f + 1) % 14) rfl f hf (by omega)).mono ?_
    rintro res w' ⟨rfl, rfl⟩
    have h20 : am_same (rg 20 1) w (w.set 20 (.inr (0, [.ref 21, .int (nI ((f + 1) % 14)), .int (nI 14)]))) := am_same.set am_same.rf (by unfold rg; omega)
    have hR2 : ∀ i, i < 14 → c_R (w.set 20 (.inr (0, [.ref 21, .int (nI ((f + 1) % 14)), .int (nI 14)]))) (22 + 4 * i) := fun i hi => (hR i hi).same h20 (fun b b1 b2 => by unfold rg; omega)
    have hcp := c_cpyS (S := S) (hR2 f hf) h6 (ro := bo f) (rs := bs f) (rl := bl f) q1 q2 q3
    have hsm : am_same (rg (22 + 4 * f) 4) (w.set 20 (.inr (0, [.ref 21, .int (nI ((f + 1) % 14)), .int (nI 14)]))) _ := c_cpyM (e1 := .inl (0, 6, .inl (va_cpy so (bo f) 0 0 6))) (e2 := .inl (0, 6, .inl (va_cpy ss (bs f) 0 0 6))) (e3 := .inl (0, 6, .inl (va_cpy sl (bl f) 0 0 6))) (e4 := .inr (6, [.ref (22 + 4 * f + 1), .ref (22 + 4 * f + 2), .ref (22 + 4 * f + 3), .int S.2.2.2.2.1, .int S.2.2.2.2.2.1, .int (nI S.2.2.2.2.2.2)]))
    have hlen : ((S :: A).take 14).length = 14 := by simp; omega
    refine ⟨rfl, ⟨by omega, (f + 1) % 14, hf2, by rw [hlen]; exact hsm.at (by unfold rg; omega) (am_gs ha0), ⟨bf, hsm.at (by unfold rg; omega) (h20.at (by unfold rg; omega) ha1), hbf⟩, fun i hi => ?_, fun i S' hi => ?_⟩, ?_⟩
    · by_cases e : i = f
      · rw [e]; exact hcp.r
      · exact (hR2 i hi).same hsm (fun b b1 b2 => by unfold rg; omega)
    · rw [hlen]
      have hi14 : i < 14 := by have := (List.getElem?_eq_some_iff.mp hi).1; omega
      rw [List.getElem?_take_of_lt hi14] at hi
      match i, hi with
      | 0, hi =>
        have : S = S' := by simpa using hi
        subst this
        rw [show ((f + 1) % 14 + (14 - 1 - 0)) % 14 = f by omega]
        exact hcp
      | i + 1, hi =>
        have hi : A[i]? = some S' := by simpa using hi
        rw [show ((f + 1) % 14 + (14 - 1 - (i + 1))) % 14 = (f + (14 - 1 - i)) % 14 by omega]
        exact ((hAS i S' hi).same h20 (fun b b1 b2 => by unfold rg; omega)).same hsm (fun b b1 b2 => by unfold rg; omega)
    · exact (h20.mono (fun b hb => by unfold rg at *; omega)).tr (hsm.mono (fun b hb => by unfold rg at *; omega))
set_option maxHeartbeats 4000000 in
theorem k_takeBack (w : am_W) (n : Nat) (A : List s_S) (S S0 : s_S) (hA : c_A w n (S0 :: A)) (hS : c_S w 16 n S) (h6 : n ≤ 6) : am_Go 3 (0, [.ref 20, .ref 16], [], w, 0, 0) (fun res w' => res = some (.int 1) ∧ c_A w' n A ∧ c_S w' 16 n S0 ∧ am_same (rg 16 62) w w') := by
  obtain ⟨hl, f, hf, ha0, ⟨bf, ha1, hbf⟩, hR, hAS⟩ := hA
  have hSR := hS.r
  obtain ⟨so, ss, sl, hs0, hs1, hs2, hs3, q1, q2, q3⟩ := hS
  obtain ⟨bo, bs, bl, ba, bw, bd, hb0, hb1, hb2, hb3⟩ := c_R_fn hR
  have hlen : (S0 :: A).length = A.length + 1 := rfl
  rw [hlen] at ha0 hl hAS
  have hj := Nat.mod_lt (f + A.length) (show 0 < 14 by decide)
  have h0 := hAS 0 S0 rfl
  rw [show A.length + 1 - 1 - 0 = A.length by omega] at h0
  refine (c_takeBack w f (A.length + 1) hf hl ha0 bf bo bs bl ba bw bd hbf hb0 hb1 hb2 hb3 ha1 so ss sl _ _ _ hs0 hs1 hs2 hs3 (by omega) ((f + A.length) % 14) hj rfl).mono ?_
  rintro res w' ⟨rfl, rfl⟩
  obtain ⟨oo, os, ol, g0, g1, g2, g3, p1, p2, p3⟩ := h0
  have e0 := g0.symm.trans (hb0 _ hj)
  have e1 := g1.symm.trans (hb1 _ hj)
  have e2 := g2.symm.trans (hb2 _ hj)
  have e3 := g3.symm.trans (hb3 _ hj)
  have e4 : oo = bo ((f + A.length) % 14) := by simpa using e1
  have e5 : os = bs ((f + A.length) % 14) := by simpa using e2
  have e6 : ol = bl ((f + A.length) % 14) := by simpa using e3
  have e7 : S0.2.2.2.2.1 = ba ((f + A.length) % 14) ∧ S0.2.2.2.2.2.1 = bw ((f + A.length) % 14) ∧ nI S0.2.2.2.2.2.2 = bd ((f + A.length) % 14) := by simpa using e0
  rw [← e4, ← e5, ← e6, ← e7.1, ← e7.2.1, ← e7.2.2, show A.length + 1 - 1 = A.length by omega]
  have h20 : am_same (rg 20 1) w (w.set 20 (.inr (0, [.ref 21, .int (nI f), .int (nI A.length)]))) := am_same.set am_same.rf (by unfold rg; omega)
  have hcp := c_cpyS (w := w.set 20 (.inr (0, [.ref 21, .int (nI f), .int (nI A.length)]))) (a := 16) (S := S0) (hSR.same h20 (fun b b1 b2 => by unfold rg; omega)) h6 (ro := so) (rs := ss) (rl := sl) p1 p2 p3
  have hsm : am_same (rg 16 4) (w.set 20 (.inr (0, [.ref 21, .int (nI f), .int (nI A.length)]))) _ := c_cpyM (e1 := .inl (0, 6, .inl (va_cpy oo so 0 0 6))) (e2 := .inl (0, 6, .inl (va_cpy os ss 0 0 6))) (e3 := .inl (0, 6, .inl (va_cpy ol sl 0 0 6))) (e4 := .inr (6, [.ref 17, .ref 18, .ref 19, .int S0.2.2.2.2.1, .int S0.2.2.2.2.2.1, .int (nI S0.2.2.2.2.2.2)]))
  refine ⟨rfl, ⟨by omega, f, hf, hsm.at (by unfold rg; omega) (am_gs ha0), ⟨bf, hsm.at (by unfold rg; omega) (h20.at (by unfold rg; omega) ha1), hbf⟩, fun i hi => ((hR i hi).same h20 (fun b b1 b2 => by unfold rg; omega)).same hsm (fun b b1 b2 => by unfold rg; omega), fun i S' hi => ?_⟩, hcp, ?_⟩
  · have hil : i < A.length := (List.getElem?_eq_some_iff.mp hi).1
    have := hAS (i + 1) S' (by simpa using hi)
    rw [show A.length + 1 - 1 - (i + 1) = A.length - 1 - i by omega] at this
    exact (this.same h20 (fun b b1 b2 => by unfold rg; omega)).same hsm (fun b b1 b2 => by unfold rg; omega)
  · exact (h20.mono (fun b hb => by unfold rg at *; omega)).tr (hsm.mono (fun b hb => by unfold rg at *; omega))
theorem k_takeBack0 (w : am_W) (n : Nat) (hA : c_A w n []) : am_Go 3 (0, [.ref 20, .ref 16], [], w, 0, 0) (fun res w' => res = some (.int 0) ∧ w' = w) := by
  obtain ⟨hl, f, hf, ha0, -⟩ := hA
  exact c_takeBack0 w f 0 hf rfl ha0
theorem k_actsClear (w : am_W) (n m : Nat) (A : List s_S) (hA : c_A w n A) : am_Go 1 (0, [.ref 20], [], w, 0, 0) (fun res w' => res = none ∧ c_A w' m [] ∧ am_same (rg 20 58) w w') := by
  obtain ⟨hl, f, hf, ha0, ⟨bf, ha1, hbf⟩, hR, hAS⟩ := hA
  refine (c_actsClear w f A.length hf hl ha0).mono ?_
  rintro res w' ⟨rfl, rfl⟩
  have h20 : am_same (rg 20 1) w (w.set 20 (.inr (0, [.ref 21, .int 0, .int 0]))) := am_same.set am_same.rf (by unfold rg; omega)
  refine ⟨rfl, ⟨by simp, 0, by decide, am_gs ha0, ⟨bf, h20.at (by unfold rg; omega) ha1, hbf⟩, fun i hi => (hR i hi).same h20 (fun b b1 b2 => by unfold rg; omega), fun i S' hi => ?_⟩, h20.mono (fun b hb => by unfold rg at *; omega)⟩
  simp at hi
theorem k_slotsClear (w : am_W) (n m : Nat) (K : Nat → Option s_S) (hK : c_K w n K) : am_Go 36 (0, [.ref 78], [], w, 0, 0) (fun res w' => res = none ∧ c_K w' m (fun _ => none) ∧ am_same (rg 78 10) w w') := by
  obtain ⟨kb, h0, h2, ⟨bf, h3, h4⟩, h5, h6⟩ := hK
  refine (c_slotsClear w (nI kb) h2).mono ?_
  rintro res w' ⟨rfl, rfl⟩
  have h20 : am_same (rg 78 1) w (w.set 78 (.inr (5, [.ref 79, .int 0]))) := am_same.set am_same.rf (by unfold rg; omega)
  refine ⟨rfl, ⟨0, by decide, am_gs h2, ⟨bf, h20.at (by unfold rg; omega) h3, h4⟩, fun i hi => (h5 i hi).same h20 (fun b b1 b2 => by unfold rg; omega), fun i hi => Or.inl ⟨rfl, by simp⟩⟩, h20.mono (fun b hb => by unfold rg at *; omega)⟩
theorem i_kb1 : ∀ kb, kb < 4 → ∀ i, i < 2 → ((nI kb >>> (nI i &&& 31)) &&& 1 = 0 ↔ kb / 2 ^ i % 2 = 0) := by decide
theorem i_kb2 : ∀ kb, kb < 4 → ∀ j, j < 2 → nI kb ||| (1 <<< (nI j &&& 31)) = nI (kb ||| 2 ^ j) ∧ kb ||| 2 ^ j < 4 ∧ (kb ||| 2 ^ j) / 2 ^ j % 2 = 1 ∧ ∀ i, i < 2 → i ≠ j → (kb ||| 2 ^ j) / 2 ^ i % 2 = kb / 2 ^ i % 2 := by decide
set_option maxHeartbeats 4000000 in
theorem k_put (w : am_W) (n : Nat) (K : Nat → Option s_S) (S : s_S) (hK : c_K w n K) (hS : c_S w 16 n S) (h6 : n ≤ 6) (j : Nat) (hj : j < 2) : am_Go 37 (0, [.ref 78, .int (nI j), .ref 16], [], w, 0, 0) (fun res w' => res = none ∧ c_K w' n (fun i => if i = j then some S else K i) ∧ am_same (rg 78 10) w w') := by
  obtain ⟨kb, h0, h2, ⟨kf, h3, h4⟩, hR, hKS⟩ := hK
  obtain ⟨so, ss, sl, hs0, hs1, hs2, hs3, q1, q2, q3⟩ := hS
  obtain ⟨bo, bs, bl, ba, bw, bd, hb0, hb1, hb2, hb3⟩ := c_R_fn hR
  refine (c_put w (nI kb) h2 kf bo bs bl ba bw bd h4 hb0 hb1 hb2 hb3 h3 so ss sl _ _ _ hs0 hs1 hs2 hs3 j hj).mono ?_
  rintro res w' ⟨rfl, rfl⟩
  obtain ⟨k1, k2, k3, k4⟩ := i_kb2 kb h0 j hj
  have hcp := c_cpyS (S := S) (hR j hj) h6 (ro := bo j) (rs := bs j) (rl := bl j) q1 q2 q3
  have hsm : am_same (rg (80 + 4 * j) 4) w _ := c_cpyM (e1 := .inl (0, 6, .inl (va_cpy so (bo j) 0 0 6))) (e2 := .inl (0, 6, .inl (va_cpy ss (bs j) 0 0 6))) (e3 := .inl (0, 6, .inl (va_cpy sl (bl j) 0 0 6))) (e4 := .inr (6, [.ref (80 + 4 * j + 1), .ref (80 + 4 * j + 2), .ref (80 + 4 * j + 3), .int S.2.2.2.2.1, .int S.2.2.2.2.2.1, .int (nI S.2.2.2.2.2.2)]))
  have h20 : ∀ w1 : am_W, am_same (rg 78 1) w1 (w1.set 78 (.inr (5, [.ref 79, .int (nI kb ||| (1 <<< (nI j &&& 31)))]))) := fun w1 => am_same.set am_same.rf (by unfold rg; omega)
  refine ⟨rfl, ⟨kb ||| 2 ^ j, k2, by rw [← k1]; exact am_gs (hsm.at (by unfold rg; omega) h2), ⟨kf, (h20 _).at (by unfold rg; omega) (hsm.at (by unfold rg; omega) h3), h4⟩, fun i hi => ?_, fun i hi => ?_⟩, ?_⟩
  · refine c_R.same ?_ (h20 _) (fun b b1 b2 => by unfold rg; omega)
    by_cases e : i = j
    · rw [e]; exact hcp.r
    · exact (hR i hi).same hsm (fun b b1 b2 => by unfold rg; omega)
  · by_cases e : i = j
    · subst e
      exact Or.inr ⟨S, if_pos rfl, k3, hcp.same (h20 _) (fun b b1 b2 => by unfold rg; omega)⟩
    · rcases hKS i hi with ⟨a, b⟩ | ⟨S', a, b, c⟩
      · exact Or.inl ⟨(if_neg e).trans a, by rw [k4 i hi e]; exact b⟩
      · exact Or.inr ⟨S', (if_neg e).trans a, by rw [k4 i hi e]; exact b, (c.same hsm (fun b b1 b2 => by unfold rg; omega)).same (h20 _) (fun b b1 b2 => by unfold rg; omega)⟩
  · exact am_same.set (hsm.mono (fun b hb => by unfold rg at *; omega)) (by unfold rg; omega)
theorem k_fetch0 (w : am_W) (n : Nat) (K : Nat → Option s_S) (hK : c_K w n K) (j : Nat) (hj : j < 2) (hk : K j = none) : am_Go 38 (0, [.ref 78, .int (nI j), .ref 16], [], w, 0, 0) (fun res w' => res = some (.int 0) ∧ w' = w) := by
  obtain ⟨kb, h0, h2, ⟨kf, h3, h4⟩, hR, hKS⟩ := hK
  rcases hKS j hj with ⟨a, b⟩ | ⟨S', a, b, c⟩
  · exact c_fetch0 w (nI kb) h2 j ((i_kb1 kb h0 j hj).mpr b)
  · rw [hk] at a; cases a
set_option maxHeartbeats 4000000 in
theorem k_fetch (w : am_W) (n : Nat) (K : Nat → Option s_S) (S S0 : s_S) (hK : c_K w n K) (hS : c_S w 16 n S) (h6 : n ≤ 6) (j : Nat) (hj : j < 2) (hk : K j = some S0) : am_Go 38 (0, [.ref 78, .int (nI j), .ref 16], [], w, 0, 0) (fun res w' => res = some (.int 1) ∧ c_S w' 16 n S0 ∧ am_same (rg 16 4) w w') := by
  obtain ⟨kb, h0, h2, ⟨kf, h3, h4⟩, hR, hKS⟩ := hK
  have hSR := hS.r
  obtain ⟨so, ss, sl, hs0, hs1, hs2, hs3, q1, q2, q3⟩ := hS
  obtain ⟨bo, bs, bl, ba, bw, bd, hb0, hb1, hb2, hb3⟩ := c_R_fn hR
  rcases hKS j hj with ⟨a, b⟩ | ⟨S', a, b, c⟩
  · rw [hk] at a; cases a
  · rw [hk] at a
    cases a
    refine (c_fetch w (nI kb) h2 kf bo bs bl ba bw bd h4 hb0 hb1 hb2 hb3 h3 so ss sl _ _ _ hs0 hs1 hs2 hs3 j hj (fun q => by have := (i_kb1 kb h0 j hj).mp q; omega)).mono ?_
    rintro res w' ⟨rfl, rfl⟩
    obtain ⟨oo, os, ol, g0, g1, g2, g3, p1, p2, p3⟩ := c
    have e0 := g0.symm.trans (hb0 _ hj)
    have e1 := g1.symm.trans (hb1 _ hj)
    have e2 := g2.symm.trans (hb2 _ hj)
    have e3 := g3.symm.trans (hb3 _ hj)
    have e4 : oo = bo j := by simpa using e1
    have e5 : os = bs j := by simpa using e2
    have e6 : ol = bl j := by simpa using e3
    have e7 : S0.2.2.2.2.1 = ba j ∧ S0.2.2.2.2.2.1 = bw j ∧ nI S0.2.2.2.2.2.2 = bd j := by simpa using e0
    rw [← e4, ← e5, ← e6, ← e7.1, ← e7.2.1, ← e7.2.2]
    exact ⟨rfl, c_cpyS (a := 16) hSR h6 p1 p2 p3, c_cpyM (a := 16)⟩
/-- all as THE ROW begins -/
def m_S0 : s_S := ((fun p => p), (fun h => h), (fun _ => 0), (fun _ => 0), 0, 0, 0)
theorem m_S0_v (n : Nat) : v_S n m_S0 := ⟨fun p hp => ⟨hp, rfl⟩, fun p hp => ⟨hp, rfl⟩, fun _ _ _ => rfl, (by decide : (0 : Nat) < 2 ^ 30)⟩
theorem k_sclear (w : am_W) (s n : Nat) (hR : c_R w s) (h6 : n ≤ 6) (h2s : 2 ≤ s) : am_Go 40 (0, [.ref s, .float 0], [], w, 0, 0) (fun res w' => res = none ∧ c_S w' s n m_S0 ∧ am_same (rg s 4) w w') := by
  obtain ⟨so, ss, sl, x, y, z, hs0, hs1, hs2, hs3⟩ := hR
  refine (c_sclear w s h2s so ss sl x y z hs0 hs1 hs2 hs3).mono ?_
  rintro res w' ⟨f, g, l, rfl, rfl, h1, h2, h3⟩
  exact ⟨rfl, ⟨f, g, l, am_gs (am_gn (by omega) (am_gn (by omega) (am_gn (by omega) hs0))), am_gn (by omega) (am_gn (by omega) (am_gn (by omega) (am_gs hs1))), am_gn (by omega) (am_gn (by omega) (am_gs (am_gn (by omega) hs2))), am_gn (by omega) (am_gs (am_gn (by omega) (am_gn (by omega) hs3))), h1, fun p hp => h2 p (by omega), fun p hp => h3 p (by omega)⟩, c_cpyM⟩
