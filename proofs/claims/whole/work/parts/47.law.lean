/-! the law -/
theorem c_W.same {w w' : am_W} {t : Nat × (Nat → Int32)} {T : p_D} {S : s_S} {A : List s_S} {K : Nat → Option s_S} {N : x_N} {sd : Int64} {X : Nat → Prop} (h : c_W w t T S A K N sd) (hs : am_same X w w') (hx : ∀ b, 0 ≤ b → b < 133 → ¬ X b) : c_W w' t T S A K N sd := ⟨hs.at (hx _ (by omega) (by omega)) h.f, hs.at (hx _ (by omega) (by omega)) h.o, h.X.same hs (fun b h1 h2 => hx b (by omega) (by omega)), h.G.same hs (fun b h1 h2 => hx b (by omega) (by omega)), h.T.same hs (fun b h1 h2 => hx b (by omega) (by omega)), h.S.same hs (fun b h1 h2 => hx b (by omega) (by omega)), h.A.same hs (fun b h1 h2 => hx b (by omega) (by omega)), h.K.same hs (fun b h1 h2 => hx b (by omega) (by omega)), h.N.same hs (fun b h1 h2 => hx b (by omega) (by omega)), h.D.same hs (fun b h1 h2 => hx b (by omega) (by omega)), h.O.same hs (fun b h1 h2 => hx b (by omega) (by omega)), h.C.same hs (fun b h1 h2 => hx b (by omega) (by omega))⟩
theorem d_W.same {w w' : am_W} {t : Nat × (Nat → Int32)} {T : p_D} {S : s_S} {A : List s_S} {K : Nat → Option s_S} {N : x_N} {sd : Int64} {X : Nat → Prop} (h : d_W w t T S A K N sd) (hs : am_same X w w') (hx : ∀ b, 133 ≤ b → b < 150 → ¬ X b) : d_W w' t T S A K N sd := by
  obtain ⟨rh, rk, wh, fa, nx, ne, ki, ba, he, nw, rH, rT, tx, td, rw_, oo, s1, s2, s3, ik, kp, hm, h134, h135, h136, h137, h138, h139, h140, h141, h142, h143, h144, h145, h146, h147, h148, h149, hr⟩ := h
  exact ⟨rh, rk, wh, fa, nx, ne, ki, ba, he, nw, rH, rT, tx, td, rw_, oo, s1, s2, s3, ik, kp, hs.at (hx _ (by omega) (by omega)) hm, hs.at (hx _ (by omega) (by omega)) h134, hs.at (hx _ (by omega) (by omega)) h135, hs.at (hx _ (by omega) (by omega)) h136, hs.at (hx _ (by omega) (by omega)) h137, hs.at (hx _ (by omega) (by omega)) h138, hs.at (hx _ (by omega) (by omega)) h139, hs.at (hx _ (by omega) (by omega)) h140, hs.at (hx _ (by omega) (by omega)) h141, hs.at (hx _ (by omega) (by omega)) h142, hs.at (hx _ (by omega) (by omega)) h143, hs.at (hx _ (by omega) (by omega)) h144, hs.at (hx _ (by omega) (by omega)) h145, hs.at (hx _ (by omega) (by omega)) h146, hs.at (hx _ (by omega) (by omega)) h147, hs.at (hx _ (by omega) (by omega)) h148, hs.at (hx _ (by omega) (by omega)) h149, hr⟩
theorem d_W.o {w : am_W} {t : Nat × (Nat → Int32)} {T : p_D} {S : s_S} {A : List s_S} {K : Nat → Option s_S} {N : x_N} {sd : Int64} (h : d_W w t T S A K N sd) : ∃ fs, w[133]? = some (.inr (11, fs)) := by
  obtain ⟨rh, rk, wh, fa, nx, ne, ki, ba, he, nw, rH, rT, tx, td, rw_, oo, s1, s2, s3, ik, kp, hm, -⟩ := h
  exact ⟨_, hm⟩
theorem g_C.same {w w' : am_W} {σ : x_St} {X : Nat → Prop} (h : g_C w σ) (hs : am_same X w w') (hx : ∀ b, 0 ≤ b → b < 133 → ¬ X b) : g_C w' σ := c_W.same h hs hx
theorem g_E.same {w w' : am_W} {σ : x_St} {X : Nat → Prop} (h : g_E w σ) (hs : am_same X w w') (hx : ∀ b, 133 ≤ b → b < 150 → ¬ X b) : g_E w' σ := d_W.same h hs hx
theorem i_gt4 {L m : Nat} (hL : L ≤ 256) (hm : m ≤ 1000) : (nI L - 4 < nI m) ↔ L < m + 4 := by
  rw [Int32.lt_iff_toInt_lt, show (nI L - 4).toInt = (L : Int) - 4 from pk_sub_toInt (b := 4) (by omega) (by omega), nI_toInt (by omega)]
  omega
def g_J (L : Nat) (xs : Nat → Int32) (j : Nat) (w : am_W) (σ : x_St) : Prop := w[1]? = some (.inl (0, L, .inl xs)) ∧ g_V j σ ∧ g_C w σ ∧ g_E w σ
set_option maxRecDepth 100000 in
set_option maxHeartbeats 4000000 in
theorem g_write {L : Nat} {xs : Nat → Int32} (hL : L ≤ 256) {j : Nat} (hj : 4 * j + 4 ≤ L) {w : am_W} {t : Nat × (Nat → Int32)} {T : p_D} {S : s_S} {A : List s_S} {K : Nat → Option s_S} {N : x_N} {sd : Int64} (hJ : g_J L xs j w (t, T, S, A, K, N, sd)) (cont : ∀ w' σ', g_J L xs (j + 1) w' σ' → am_Go 168 (1016, [.ref 1, .ref 2, .ref 133, .int (nI (4 * j))], [], w', 148, 1369) (fun res w' => res = some (.int 1))) : am_Go 168 (164, [.ref 1, .ref 2, .ref 133, .int (nI (4 * j))], [], w, 148, 1369) (fun res w' => res = some (.int 1)) := by
  have hM : am_P[168]? = some zm_L_law := rfl
  obtain ⟨h1, hV, hC, hE⟩ := hJ
  have h2 := c_W.o hC
  obtain ⟨fs3, h133⟩ := d_W.o hE
  refine ar_aload_n (pc' := 165) hM rfl rfl rfl ?_
  refine ar_aload_n (pc' := 166) hM rfl rfl rfl ?_
  refine ar_iload_n (pc' := 167) hM rfl rfl rfl ?_
  refine ar_iconst (x := 1) (pc' := 168) hM rfl (by decide) rfl ?_
  refine ar_iadd (pc' := 169) hM rfl rfl ?_
  rw [show ((nI (4 * j)) + 1 : Int32) = nI (4 * j + 1) from nI_add (4 * j) 1]
  refine ar_ialoadN (j := (4 * j + 1)) (pc' := 170) hM rfl h1 rfl (by omega) (by omega) rfl ?_
  obtain ⟨x, σ1, hV1, hcl, hrf⟩ := p_write j (by omega) t T S A K N sd hV (xs (4 * j + 1))
  refine ar_virtual (pc' := 173) (k3 := 148) (k4 := 1369) hM rfl rfl h2 ⟨rfl, (by decide)⟩ rfl rfl (hcl w hC) (fun r170 w170 q170 => ?_)
  obtain ⟨rfl, hC1, q170s⟩ := q170
  have h1b := q170s.at (by unfold rg; omega) h1
  have h133b := q170s.at (by unfold rg; omega) h133
  have hE1 := g_E.same hE q170s (fun b h1 h2 => by unfold rg; omega)
  show am_Go 168 (173, [.ref 1, .ref 2, .ref 133, .int (nI (4 * j))], [.int x], w170, 148, 1369) _
  refine ar_aload_n (pc' := 174) hM rfl rfl rfl ?_
  refine ar_aload_n (pc' := 175) hM rfl rfl rfl ?_
  refine ar_iload_n (pc' := 176) hM rfl rfl rfl ?_
  refine ar_iconst (x := 1) (pc' := 177) hM rfl (by decide) rfl ?_
  refine ar_iadd (pc' := 178) hM rfl rfl ?_
  rw [show ((nI (4 * j)) + 1 : Int32) = nI (4 * j + 1) from nI_add (4 * j) 1]
  refine ar_ialoadN (j := (4 * j + 1)) (pc' := 179) hM rfl h1b rfl (by omega) (by omega) rfl ?_
  refine ar_virtual (pc' := 182) (k3 := 148) (k4 := 1369) hM rfl rfl h133b ⟨rfl, (by decide)⟩ rfl rfl (hrf w170 hE1) (fun r179 w179 q179 => ?_)
  obtain ⟨rfl, hE2, q179s⟩ := q179
  have h1c := q179s.at (by unfold rg; omega) h1b
  have hC2 := g_C.same hC1 q179s (fun b h1 h2 => by unfold rg; omega)
  show am_Go 168 (182, [.ref 1, .ref 2, .ref 133, .int (nI (4 * j))], [.int x, .int x], w179, 148, 1369) _
  refine ar_icmp_eq (pc' := 185) hM rfl rfl (fun _ => ?_) (fun q => absurd rfl q)
  exact cont _ _ ⟨h1c, hV1, hC2, hE2⟩
set_option maxRecDepth 100000 in
set_option maxHeartbeats 4000000 in
theorem g_wipe {L : Nat} {xs : Nat → Int32} (hL : L ≤ 256) {j : Nat} (hj : 4 * j + 4 ≤ L) {w : am_W} {t : Nat × (Nat → Int32)} {T : p_D} {S : s_S} {A : List s_S} {K : Nat → Option s_S} {N : x_N} {sd : Int64} (hJ : g_J L xs j w (t, T, S, A, K, N, sd)) (cont : ∀ w' σ', g_J L xs (j + 1) w' σ' → am_Go 168 (1016, [.ref 1, .ref 2, .ref 133, .int (nI (4 * j))], [], w', 148, 1369) (fun res w' => res = some (.int 1))) : am_Go 168 (187, [.ref 1, .ref 2, .ref 133, .int (nI (4 * j))], [], w, 148, 1369) (fun res w' => res = some (.int 1)) := by
  have hM : am_P[168]? = some zm_L_law := rfl
  obtain ⟨h1, hV, hC, hE⟩ := hJ
  have h2 := c_W.o hC
  obtain ⟨fs3, h133⟩ := d_W.o hE
  refine ar_aload_n (pc' := 188) hM rfl rfl rfl ?_
  obtain ⟨x, σ1, hV1, hcl, hrf⟩ := p_wipe j (by omega) t T S A K N sd hV 
  refine ar_virtual (pc' := 191) (k3 := 148) (k4 := 1369) hM rfl rfl h2 ⟨rfl, (by decide)⟩ rfl rfl (hcl w hC) (fun r188 w188 q188 => ?_)
  obtain ⟨rfl, hC1, q188s⟩ := q188
  have h1b := q188s.at (by unfold rg; omega) h1
  have h133b := q188s.at (by unfold rg; omega) h133
  have hE1 := g_E.same hE q188s (fun b h1 h2 => by unfold rg; omega)
  show am_Go 168 (191, [.ref 1, .ref 2, .ref 133, .int (nI (4 * j))], [.int x], w188, 148, 1369) _
  refine ar_aload_n (pc' := 192) hM rfl rfl rfl ?_
  refine ar_virtual (pc' := 195) (k3 := 148) (k4 := 1369) hM rfl rfl h133b ⟨rfl, (by decide)⟩ rfl rfl (hrf w188 hE1) (fun r192 w192 q192 => ?_)
  obtain ⟨rfl, hE2, q192s⟩ := q192
  have h1c := q192s.at (by unfold rg; omega) h1b
  have hC2 := g_C.same hC1 q192s (fun b h1 h2 => by unfold rg; omega)
  show am_Go 168 (195, [.ref 1, .ref 2, .ref 133, .int (nI (4 * j))], [.int x, .int x], w192, 148, 1369) _
  refine ar_icmp_eq (pc' := 198) hM rfl rfl (fun _ => ?_) (fun q => absurd rfl q)
  exact cont _ _ ⟨h1c, hV1, hC2, hE2⟩
set_option maxRecDepth 100000 in
set_option maxHeartbeats 4000000 in
theorem g_fault {L : Nat} {xs : Nat → Int32} (hL : L ≤ 256) {j : Nat} (hj : 4 * j + 4 ≤ L) {w : am_W} {t : Nat × (Nat → Int32)} {T : p_D} {S : s_S} {A : List s_S} {K : Nat → Option s_S} {N : x_N} {sd : Int64} (hJ : g_J L xs j w (t, T, S, A, K, N, sd)) (cont : ∀ w' σ', g_J L xs (j + 1) w' σ' → am_Go 168 (1016, [.ref 1, .ref 2, .ref 133, .int (nI (4 * j))], [], w', 148, 1369) (fun res w' => res = some (.int 1))) : am_Go 168 (200, [.ref 1, .ref 2, .ref 133, .int (nI (4 * j))], [], w, 148, 1369) (fun res w' => res = some (.int 1)) := by
  have hM : am_P[168]? = some zm_L_law := rfl
  obtain ⟨h1, hV, hC, hE⟩ := hJ
  have h2 := c_W.o hC
  obtain ⟨fs3, h133⟩ := d_W.o hE
  refine ar_aload_n (pc' := 201) hM rfl rfl rfl ?_
  obtain ⟨x, σ1, hV1, hcl, hrf⟩ := p_fault j (by omega) t T S A K N sd hV 
  refine ar_virtual (pc' := 204) (k3 := 148) (k4 := 1369) hM rfl rfl h2 ⟨rfl, (by decide)⟩ rfl rfl (hcl w hC) (fun r201 w201 q201 => ?_)
  obtain ⟨rfl, hC1, q201s⟩ := q201
  have h1b := q201s.at (by unfold rg; omega) h1
  have h133b := q201s.at (by unfold rg; omega) h133
  have hE1 := g_E.same hE q201s (fun b h1 h2 => by unfold rg; omega)
  show am_Go 168 (204, [.ref 1, .ref 2, .ref 133, .int (nI (4 * j))], [.int x], w201, 148, 1369) _
  refine ar_aload_n (pc' := 205) hM rfl rfl rfl ?_
  refine ar_virtual (pc' := 208) (k3 := 148) (k4 := 1369) hM rfl rfl h133b ⟨rfl, (by decide)⟩ rfl rfl (hrf w201 hE1) (fun r205 w205 q205 => ?_)
  obtain ⟨rfl, hE2, q205s⟩ := q205
  have h1c := q205s.at (by unfold rg; omega) h1b
  have hC2 := g_C.same hC1 q205s (fun b h1 h2 => by unfold rg; omega)
  show am_Go 168 (208, [.ref 1, .ref 2, .ref 133, .int (nI (4 * j))], [.int x, .int x], w205, 148, 1369) _
  refine ar_icmp_eq (pc' := 211) hM rfl rfl (fun _ => ?_) (fun q => absurd rfl q)
  exact cont _ _ ⟨h1c, hV1, hC2, hE2⟩
set_option maxRecDepth 100000 in
set_option maxHeartbeats 4000000 in
theorem g_row {L : Nat} {xs : Nat → Int32} (hL : L ≤ 256) {j : Nat} (hj : 4 * j + 4 ≤ L) {w : am_W} {t : Nat × (Nat → Int32)} {T : p_D} {S : s_S} {A : List s_S} {K : Nat → Option s_S} {N : x_N} {sd : Int64} (hJ : g_J L xs j w (t, T, S, A, K, N, sd)) (cont : ∀ w' σ', g_J L xs (j + 1) w' σ' → am_Go 168 (1016, [.ref 1, .ref 2, .ref 133, .int (nI (4 * j))], [], w', 148, 1369) (fun res w' => res = some (.int 1))) : am_Go 168 (213, [.ref 1, .ref 2, .ref 133, .int (nI (4 * j))], [], w, 148, 1369) (fun res w' => res = some (.int 1)) := by
  have hM : am_P[168]? = some zm_L_law := rfl
  obtain ⟨h1, hV, hC, hE⟩ := hJ
  have h2 := c_W.o hC
  obtain ⟨fs3, h133⟩ := d_W.o hE
  refine ar_aload_n (pc' := 214) hM rfl rfl rfl ?_
  obtain ⟨x, σ1, hV1, hcl, hrf⟩ := p_row j (by omega) t T S A K N sd hV  (c_W.X hC).1
  refine ar_virtual (pc' := 217) (k3 := 148) (k4 := 1369) hM rfl rfl h2 ⟨rfl, (by decide)⟩ rfl rfl (hcl w hC) (fun r214 w214 q214 => ?_)
  obtain ⟨rfl, hC1, q214s⟩ := q214
  have h1b := q214s.at (by unfold rg; omega) h1
  have h133b := q214s.at (by unfold rg; omega) h133
  have hE1 := g_E.same hE q214s (fun b h1 h2 => by unfold rg; omega)
  show am_Go 168 (217, [.ref 1, .ref 2, .ref 133, .int (nI (4 * j))], [.int x], w214, 148, 1369) _
  refine ar_aload_n (pc' := 218) hM rfl rfl rfl ?_
  refine ar_virtual (pc' := 221) (k3 := 148) (k4 := 1369) hM rfl rfl h133b ⟨rfl, (by decide)⟩ rfl rfl (hrf w214 hE1) (fun r218 w218 q218 => ?_)
  obtain ⟨rfl, hE2, q218s⟩ := q218
  have h1c := q218s.at (by unfold rg; omega) h1b
  have hC2 := g_C.same hC1 q218s (fun b h1 h2 => by unfold rg; omega)
  show am_Go 168 (221, [.ref 1, .ref 2, .ref 133, .int (nI (4 * j))], [.int x, .int x], w218, 148, 1369) _
  refine ar_icmp_eq (pc' := 224) hM rfl rfl (fun _ => ?_) (fun q => absurd rfl q)
  exact cont _ _ ⟨h1c, hV1, hC2, hE2⟩
set_option maxRecDepth 100000 in
set_option maxHeartbeats 4000000 in
theorem g_house {L : Nat} {xs : Nat → Int32} (hL : L ≤ 256) {j : Nat} (hj : 4 * j + 4 ≤ L) {w : am_W} {t : Nat × (Nat → Int32)} {T : p_D} {S : s_S} {A : List s_S} {K : Nat → Option s_S} {N : x_N} {sd : Int64} (hJ : g_J L xs j w (t, T, S, A, K, N, sd)) (cont : ∀ w' σ', g_J L xs (j + 1) w' σ' → am_Go 168 (1016, [.ref 1, .ref 2, .ref 133, .int (nI (4 * j))], [], w', 148, 1369) (fun res w' => res = some (.int 1))) : am_Go 168 (226, [.ref 1, .ref 2, .ref 133, .int (nI (4 * j))], [], w, 148, 1369) (fun res w' => res = some (.int 1)) := by
  have hM : am_P[168]? = some zm_L_law := rfl
  obtain ⟨h1, hV, hC, hE⟩ := hJ
  have h2 := c_W.o hC
  obtain ⟨fs3, h133⟩ := d_W.o hE
  refine ar_aload_n (pc' := 227) hM rfl rfl rfl ?_
  refine ar_aload_n (pc' := 228) hM rfl rfl rfl ?_
  refine ar_iload_n (pc' := 229) hM rfl rfl rfl ?_
  refine ar_iconst (x := 1) (pc' := 230) hM rfl (by decide) rfl ?_
  refine ar_iadd (pc' := 231) hM rfl rfl ?_
  rw [show ((nI (4 * j)) + 1 : Int32) = nI (4 * j + 1) from nI_add (4 * j) 1]
  refine ar_ialoadN (j := (4 * j + 1)) (pc' := 232) hM rfl h1 rfl (by omega) (by omega) rfl ?_
  refine ar_aload_n (pc' := 233) hM rfl rfl rfl ?_
  refine ar_iload_n (pc' := 234) hM rfl rfl rfl ?_
  refine ar_iconst (x := 2) (pc' := 235) hM rfl (by decide) rfl ?_
  refine ar_iadd (pc' := 236) hM rfl rfl ?_
  rw [show ((nI (4 * j)) + 2 : Int32) = nI (4 * j + 2) from nI_add (4 * j) 2]
  refine ar_ialoadN (j := (4 * j + 2)) (pc' := 237) hM rfl h1 rfl (by omega) (by omega) rfl ?_
  obtain ⟨x, σ1, hV1, hcl, hrf⟩ := p_house j (by omega) t T S A K N sd hV (xs (4 * j + 1)) (xs (4 * j + 2))
  refine ar_virtual (pc' := 240) (k3 := 148) (k4 := 1369) hM rfl rfl h2 ⟨rfl, (by decide)⟩ rfl rfl (hcl w hC) (fun r237 w237 q237 => ?_)
  obtain ⟨rfl, hC1, q237s⟩ := q237
  have h1b := q237s.at (by unfold rg; omega) h1
  have h133b := q237s.at (by unfold rg; omega) h133
  have hE1 := g_E.same hE q237s (fun b h1 h2 => by unfold rg; omega)
  show am_Go 168 (240, [.ref 1, .ref 2, .ref 133, .int (nI (4 * j))], [.int x], w237, 148, 1369) _
  refine ar_aload_n (pc' := 241) hM rfl rfl rfl ?_
  refine ar_aload_n (pc' := 242) hM rfl rfl rfl ?_
  refine ar_iload_n (pc' := 243) hM rfl rfl rfl ?_
  refine ar_iconst (x := 1) (pc' := 244) hM rfl (by decide) rfl ?_
  refine ar_iadd (pc' := 245) hM rfl rfl ?_
  rw [show ((nI (4 * j)) + 1 : Int32) = nI (4 * j + 1) from nI_add (4 * j) 1]
  refine ar_ialoadN (j := (4 * j + 1)) (pc' := 246) hM rfl h1b rfl (by omega) (by omega) rfl ?_
  refine ar_aload_n (pc' := 247) hM rfl rfl rfl ?_
  refine ar_iload_n (pc' := 248) hM rfl rfl rfl ?_
  refine ar_iconst (x := 2) (pc' := 249) hM rfl (by decide) rfl ?_
  refine ar_iadd (pc' := 250) hM rfl rfl ?_
  rw [show ((nI (4 * j)) + 2 : Int32) = nI (4 * j + 2) from nI_add (4 * j) 2]
  refine ar_ialoadN (j := (4 * j + 2)) (pc' := 251) hM rfl h1b rfl (by omega) (by omega) rfl ?_
  refine ar_virtual (pc' := 254) (k3 := 148) (k4 := 1369) hM rfl rfl h133b ⟨rfl, (by decide)⟩ rfl rfl (hrf w237 hE1) (fun r251 w251 q251 => ?_)
  obtain ⟨rfl, hE2, q251s⟩ := q251
  have h1c := q251s.at (by unfold rg; omega) h1b
  have hC2 := g_C.same hC1 q251s (fun b h1 h2 => by unfold rg; omega)
  show am_Go 168 (254, [.ref 1, .ref 2, .ref 133, .int (nI (4 * j))], [.int x, .int x], w251, 148, 1369) _
  refine ar_icmp_eq (pc' := 257) hM rfl rfl (fun _ => ?_) (fun q => absurd rfl q)
  exact cont _ _ ⟨h1c, hV1, hC2, hE2⟩
set_option maxRecDepth 100000 in
set_option maxHeartbeats 4000000 in
theorem g_today {L : Nat} {xs : Nat → Int32} (hL : L ≤ 256) {j : Nat} (hj : 4 * j + 4 ≤ L) {w : am_W} {t : Nat × (Nat → Int32)} {T : p_D} {S : s_S} {A : List s_S} {K : Nat → Option s_S} {N : x_N} {sd : Int64} (hJ : g_J L xs j w (t, T, S, A, K, N, sd)) (cont : ∀ w' σ', g_J L xs (j + 1) w' σ' → am_Go 168 (1016, [.ref 1, .ref 2, .ref 133, .int (nI (4 * j))], [], w', 148, 1369) (fun res w' => res = some (.int 1))) : am_Go 168 (259, [.ref 1, .ref 2, .ref 133, .int (nI (4 * j))], [], w, 148, 1369) (fun res w' => res = some (.int 1)) := by
  have hM : am_P[168]? = some zm_L_law := rfl
  obtain ⟨h1, hV, hC, hE⟩ := hJ
  have h2 := c_W.o hC
  obtain ⟨fs3, h133⟩ := d_W.o hE
  refine ar_aload_n (pc' := 260) hM rfl rfl rfl ?_
  refine ar_aload_n (pc' := 261) hM rfl rfl rfl ?_
  refine ar_iload_n (pc' := 262) hM rfl rfl rfl ?_
  refine ar_iconst (x := 1) (pc' := 263) hM rfl (by decide) rfl ?_
  refine ar_iadd (pc' := 264) hM rfl rfl ?_
  rw [show ((nI (4 * j)) + 1 : Int32) = nI (4 * j + 1) from nI_add (4 * j) 1]
  refine ar_ialoadN (j := (4 * j + 1)) (pc' := 265) hM rfl h1 rfl (by omega) (by omega) rfl ?_
  refine ar_aload_n (pc' := 266) hM rfl rfl rfl ?_
  refine ar_iload_n (pc' := 267) hM rfl rfl rfl ?_
  refine ar_iconst (x := 2) (pc' := 268) hM rfl (by decide) rfl ?_
  refine ar_iadd (pc' := 269) hM rfl rfl ?_
  rw [show ((nI (4 * j)) + 2 : Int32) = nI (4 * j + 2) from nI_add (4 * j) 2]
  refine ar_ialoadN (j := (4 * j + 2)) (pc' := 270) hM rfl h1 rfl (by omega) (by omega) rfl ?_
  obtain ⟨x, σ1, hV1, hcl, hrf⟩ := p_today j (by omega) t T S A K N sd hV (xs (4 * j + 1)) (xs (4 * j + 2))
  refine ar_virtual (pc' := 273) (k3 := 148) (k4 := 1369) hM rfl rfl h2 ⟨rfl, (by decide)⟩ rfl rfl (hcl w hC) (fun r270 w270 q270 => ?_)
  obtain ⟨rfl, hC1, q270s⟩ := q270
  have h1b := q270s.at (by unfold rg; omega) h1
  have h133b := q270s.at (by unfold rg; omega) h133
  have hE1 := g_E.same hE q270s (fun b h1 h2 => by unfold rg; omega)
  show am_Go 168 (273, [.ref 1, .ref 2, .ref 133, .int (nI (4 * j))], [.int x], w270, 148, 1369) _
  refine ar_aload_n (pc' := 274) hM rfl rfl rfl ?_
  refine ar_aload_n (pc' := 275) hM rfl rfl rfl ?_
  refine ar_iload_n (pc' := 276) hM rfl rfl rfl ?_
  refine ar_iconst (x := 1) (pc' := 277) hM rfl (by decide) rfl ?_
  refine ar_iadd (pc' := 278) hM rfl rfl ?_
  rw [show ((nI (4 * j)) + 1 : Int32) = nI (4 * j + 1) from nI_add (4 * j) 1]
  refine ar_ialoadN (j := (4 * j + 1)) (pc' := 279) hM rfl h1b rfl (by omega) (by omega) rfl ?_
  refine ar_aload_n (pc' := 280) hM rfl rfl rfl ?_
  refine ar_iload_n (pc' := 281) hM rfl rfl rfl ?_
  refine ar_iconst (x := 2) (pc' := 282) hM rfl (by decide) rfl ?_
  refine ar_iadd (pc' := 283) hM rfl rfl ?_
  rw [show ((nI (4 * j)) + 2 : Int32) = nI (4 * j + 2) from nI_add (4 * j) 2]
  refine ar_ialoadN (j := (4 * j + 2)) (pc' := 284) hM rfl h1b rfl (by omega) (by omega) rfl ?_
  refine ar_virtual (pc' := 287) (k3 := 148) (k4 := 1369) hM rfl rfl h133b ⟨rfl, (by decide)⟩ rfl rfl (hrf w270 hE1) (fun r284 w284 q284 => ?_)
  obtain ⟨rfl, hE2, q284s⟩ := q284
  have h1c := q284s.at (by unfold rg; omega) h1b
  have hC2 := g_C.same hC1 q284s (fun b h1 h2 => by unfold rg; omega)
  show am_Go 168 (287, [.ref 1, .ref 2, .ref 133, .int (nI (4 * j))], [.int x, .int x], w284, 148, 1369) _
  refine ar_icmp_eq (pc' := 290) hM rfl rfl (fun _ => ?_) (fun q => absurd rfl q)
  exact cont _ _ ⟨h1c, hV1, hC2, hE2⟩
set_option maxRecDepth 100000 in
set_option maxHeartbeats 4000000 in
theorem g_at {L : Nat} {xs : Nat → Int32} (hL : L ≤ 256) {j : Nat} (hj : 4 * j + 4 ≤ L) {w : am_W} {t : Nat × (Nat → Int32)} {T : p_D} {S : s_S} {A : List s_S} {K : Nat → Option s_S} {N : x_N} {sd : Int64} (hJ : g_J L xs j w (t, T, S, A, K, N, sd)) (cont : ∀ w' σ', g_J L xs (j + 1) w' σ' → am_Go 168 (1016, [.ref 1, .ref 2, .ref 133, .int (nI (4 * j))], [], w', 148, 1369) (fun res w' => res = some (.int 1))) : am_Go 168 (292, [.ref 1, .ref 2, .ref 133, .int (nI (4 * j))], [], w, 148, 1369) (fun res w' => res = some (.int 1)) := by
  have hM : am_P[168]? = some zm_L_law := rfl
  obtain ⟨h1, hV, hC, hE⟩ := hJ
  have h2 := c_W.o hC
  obtain ⟨fs3, h133⟩ := d_W.o hE
  refine ar_aload_n (pc' := 293) hM rfl rfl rfl ?_
  refine ar_aload_n (pc' := 294) hM rfl rfl rfl ?_
  refine ar_iload_n (pc' := 295) hM rfl rfl rfl ?_
  refine ar_iconst (x := 1) (pc' := 296) hM rfl (by decide) rfl ?_
  refine ar_iadd (pc' := 297) hM rfl rfl ?_
  rw [show ((nI (4 * j)) + 1 : Int32) = nI (4 * j + 1) from nI_add (4 * j) 1]
  refine ar_ialoadN (j := (4 * j + 1)) (pc' := 298) hM rfl h1 rfl (by omega) (by omega) rfl ?_
  obtain ⟨x, σ1, hV1, hcl, hrf⟩ := p_at j (by omega) t T S A K N sd hV (xs (4 * j + 1))
  refine ar_virtual (pc' := 301) (k3 := 148) (k4 := 1369) hM rfl rfl h2 ⟨rfl, (by decide)⟩ rfl rfl (hcl w hC) (fun r298 w298 q298 => ?_)
  obtain ⟨rfl, hC1, q298s⟩ := q298
  have h1b := q298s.at (by unfold rg; omega) h1
  have h133b := q298s.at (by unfold rg; omega) h133
  have hE1 := g_E.same hE q298s (fun b h1 h2 => by unfold rg; omega)
  show am_Go 168 (301, [.ref 1, .ref 2, .ref 133, .int (nI (4 * j))], [.int x], w298, 148, 1369) _
  refine ar_aload_n (pc' := 302) hM rfl rfl rfl ?_
  refine ar_aload_n (pc' := 303) hM rfl rfl rfl ?_
  refine ar_iload_n (pc' := 304) hM rfl rfl rfl ?_
  refine ar_iconst (x := 1) (pc' := 305) hM rfl (by decide) rfl ?_
  refine ar_iadd (pc' := 306) hM rfl rfl ?_
  rw [show ((nI (4 * j)) + 1 : Int32) = nI (4 * j + 1) from nI_add (4 * j) 1]
  refine ar_ialoadN (j := (4 * j + 1)) (pc' := 307) hM rfl h1b rfl (by omega) (by omega) rfl ?_
  refine ar_virtual (pc' := 310) (k3 := 148) (k4 := 1369) hM rfl rfl h133b ⟨rfl, (by decide)⟩ rfl rfl (hrf w298 hE1) (fun r307 w307 q307 => ?_)
  obtain ⟨rfl, hE2, q307s⟩ := q307
  have h1c := q307s.at (by unfold rg; omega) h1b
  have hC2 := g_C.same hC1 q307s (fun b h1 h2 => by unfold rg; omega)
  show am_Go 168 (310, [.ref 1, .ref 2, .ref 133, .int (nI (4 * j))], [.int x, .int x], w307, 148, 1369) _
  refine ar_icmp_eq (pc' := 313) hM rfl rfl (fun _ => ?_) (fun q => absurd rfl q)
  exact cont _ _ ⟨h1c, hV1, hC2, hE2⟩
set_option maxRecDepth 100000 in
set_option maxHeartbeats 4000000 in
theorem g_day {L : Nat} {xs : Nat → Int32} (hL : L ≤ 256) {j : Nat} (hj : 4 * j + 4 ≤ L) {w : am_W} {t : Nat × (Nat → Int32)} {T : p_D} {S : s_S} {A : List s_S} {K : Nat → Option s_S} {N : x_N} {sd : Int64} (hJ : g_J L xs j w (t, T, S, A, K, N, sd)) (cont : ∀ w' σ', g_J L xs (j + 1) w' σ' → am_Go 168 (1016, [.ref 1, .ref 2, .ref 133, .int (nI (4 * j))], [], w', 148, 1369) (fun res w' => res = some (.int 1))) : am_Go 168 (315, [.ref 1, .ref 2, .ref 133, .int (nI (4 * j))], [], w, 148, 1369) (fun res w' => res = some (.int 1)) := by
  have hM : am_P[168]? = some zm_L_law := rfl
  obtain ⟨h1, hV, hC, hE⟩ := hJ
  have h2 := c_W.o hC
  obtain ⟨fs3, h133⟩ := d_W.o hE
  refine ar_aload_n (pc' := 316) hM rfl rfl rfl ?_
  obtain ⟨x, σ1, hV1, hcl, hrf⟩ := p_day j (by omega) t T S A K N sd hV 
  refine ar_virtual (pc' := 319) (k3 := 148) (k4 := 1369) hM rfl rfl h2 ⟨rfl, (by decide)⟩ rfl rfl (hcl w hC) (fun r316 w316 q316 => ?_)
  obtain ⟨rfl, hC1, q316s⟩ := q316
  have h1b := q316s.at (by unfold rg; omega) h1
  have h133b := q316s.at (by unfold rg; omega) h133
  have hE1 := g_E.same hE q316s (fun b h1 h2 => by unfold rg; omega)
  show am_Go 168 (319, [.ref 1, .ref 2, .ref 133, .int (nI (4 * j))], [.int x], w316, 148, 1369) _
  refine ar_aload_n (pc' := 320) hM rfl rfl rfl ?_
  refine ar_virtual (pc' := 323) (k3 := 148) (k4 := 1369) hM rfl rfl h133b ⟨rfl, (by decide)⟩ rfl rfl (hrf w316 hE1) (fun r320 w320 q320 => ?_)
  obtain ⟨rfl, hE2, q320s⟩ := q320
  have h1c := q320s.at (by unfold rg; omega) h1b
  have hC2 := g_C.same hC1 q320s (fun b h1 h2 => by unfold rg; omega)
  show am_Go 168 (323, [.ref 1, .ref 2, .ref 133, .int (nI (4 * j))], [.int x, .int x], w320, 148, 1369) _
  refine ar_icmp_eq (pc' := 326) hM rfl rfl (fun _ => ?_) (fun q => absurd rfl q)
  exact cont _ _ ⟨h1c, hV1, hC2, hE2⟩
set_option maxRecDepth 100000 in
set_option maxHeartbeats 4000000 in
theorem g_swap {L : Nat} {xs : Nat → Int32} (hL : L ≤ 256) {j : Nat} (hj : 4 * j + 4 ≤ L) {w : am_W} {t : Nat × (Nat → Int32)} {T : p_D} {S : s_S} {A : List s_S} {K : Nat → Option s_S} {N : x_N} {sd : Int64} (hJ : g_J L xs j w (t, T, S, A, K, N, sd)) (cont : ∀ w' σ', g_J L xs (j + 1) w' σ' → am_Go 168 (1016, [.ref 1, .ref 2, .ref 133, .int (nI (4 * j))], [], w', 148, 1369) (fun res w' => res = some (.int 1))) : am_Go 168 (328, [.ref 1, .ref 2, .ref 133, .int (nI (4 * j))], [], w, 148, 1369) (fun res w' => res = some (.int 1)) := by
  have hM : am_P[168]? = some zm_L_law := rfl
  obtain ⟨h1, hV, hC, hE⟩ := hJ
  have h2 := c_W.o hC
  obtain ⟨fs3, h133⟩ := d_W.o hE
  refine ar_aload_n (pc' := 329) hM rfl rfl rfl ?_
  refine ar_aload_n (pc' := 330) hM rfl rfl rfl ?_
  refine ar_iload_n (pc' := 331) hM rfl rfl rfl ?_
  refine ar_iconst (x := 1) (pc' := 332) hM rfl (by decide) rfl ?_
  refine ar_iadd (pc' := 333) hM rfl rfl ?_
  rw [show ((nI (4 * j)) + 1 : Int32) = nI (4 * j + 1) from nI_add (4 * j) 1]
  refine ar_ialoadN (j := (4 * j + 1)) (pc' := 334) hM rfl h1 rfl (by omega) (by omega) rfl ?_
  refine ar_aload_n (pc' := 335) hM rfl rfl rfl ?_
  refine ar_iload_n (pc' := 336) hM rfl rfl rfl ?_
  refine ar_iconst (x := 2) (pc' := 337) hM rfl (by decide) rfl ?_
  refine ar_iadd (pc' := 338) hM rfl rfl ?_
  rw [show ((nI (4 * j)) + 2 : Int32) = nI (4 * j + 2) from nI_add (4 * j) 2]
  refine ar_ialoadN (j := (4 * j + 2)) (pc' := 339) hM rfl h1 rfl (by omega) (by omega) rfl ?_
  obtain ⟨x, σ1, hV1, hcl, hrf⟩ := p_swap j (by omega) t T S A K N sd hV (xs (4 * j + 1)) (xs (4 * j + 2))
  refine ar_virtual (pc' := 342) (k3 := 148) (k4 := 1369) hM rfl rfl h2 ⟨rfl, (by decide)⟩ rfl rfl (hcl w hC) (fun r339 w339 q339 => ?_)
  obtain ⟨rfl, hC1, q339s⟩ := q339
  have h1b := q339s.at (by unfold rg; omega) h1
  have h133b := q339s.at (by unfold rg; omega) h133
  have hE1 := g_E.same hE q339s (fun b h1 h2 => by unfold rg; omega)
  show am_Go 168 (342, [.ref 1, .ref 2, .ref 133, .int (nI (4 * j))], [.int x], w339, 148, 1369) _
  refine ar_aload_n (pc' := 343) hM rfl rfl rfl ?_
  refine ar_aload_n (pc' := 344) hM rfl rfl rfl ?_
  refine ar_iload_n (pc' := 345) hM rfl rfl rfl ?_
  refine ar_iconst (x := 1) (pc' := 346) hM rfl (by decide) rfl ?_
  refine ar_iadd (pc' := 347) hM rfl rfl ?_
  rw [show ((nI (4 * j)) + 1 : Int32) = nI (4 * j + 1) from nI_add (4 * j) 1]
  refine ar_ialoadN (j := (4 * j + 1)) (pc' := 348) hM rfl h1b rfl (by omega) (by omega) rfl ?_
  refine ar_aload_n (pc' := 349) hM rfl rfl rfl ?_
  refine ar_iload_n (pc' := 350) hM rfl rfl rfl ?_
  refine ar_iconst (x := 2) (pc' := 351) hM rfl (by decide) rfl ?_
  refine ar_iadd (pc' := 352) hM rfl rfl ?_
  rw [show ((nI (4 * j)) + 2 : Int32) = nI (4 * j + 2) from nI_add (4 * j) 2]
  refine ar_ialoadN (j := (4 * j + 2)) (pc' := 353) hM rfl h1b rfl (by omega) (by omega) rfl ?_
  refine ar_virtual (pc' := 356) (k3 := 148) (k4 := 1369) hM rfl rfl h133b ⟨rfl, (by decide)⟩ rfl rfl (hrf w339 hE1) (fun r353 w353 q353 => ?_)
  obtain ⟨rfl, hE2, q353s⟩ := q353
  have h1c := q353s.at (by unfold rg; omega) h1b
  have hC2 := g_C.same hC1 q353s (fun b h1 h2 => by unfold rg; omega)
  show am_Go 168 (356, [.ref 1, .ref 2, .ref 133, .int (nI (4 * j))], [.int x, .int x], w353, 148, 1369) _
  refine ar_icmp_eq (pc' := 359) hM rfl rfl (fun _ => ?_) (fun q => absurd rfl q)
  exact cont _ _ ⟨h1c, hV1, hC2, hE2⟩
set_option maxRecDepth 100000 in
set_option maxHeartbeats 4000000 in
theorem g_salt {L : Nat} {xs : Nat → Int32} (hL : L ≤ 256) {j : Nat} (hj : 4 * j + 4 ≤ L) {w : am_W} {t : Nat × (Nat → Int32)} {T : p_D} {S : s_S} {A : List s_S} {K : Nat → Option s_S} {N : x_N} {sd : Int64} (hJ : g_J L xs j w (t, T, S, A, K, N, sd)) (cont : ∀ w' σ', g_J L xs (j + 1) w' σ' → am_Go 168 (1016, [.ref 1, .ref 2, .ref 133, .int (nI (4 * j))], [], w', 148, 1369) (fun res w' => res = some (.int 1))) : am_Go 168 (361, [.ref 1, .ref 2, .ref 133, .int (nI (4 * j))], [], w, 148, 1369) (fun res w' => res = some (.int 1)) := by
  have hM : am_P[168]? = some zm_L_law := rfl
  obtain ⟨h1, hV, hC, hE⟩ := hJ
  have h2 := c_W.o hC
  obtain ⟨fs3, h133⟩ := d_W.o hE
  refine ar_aload_n (pc' := 362) hM rfl rfl rfl ?_
  refine ar_aload_n (pc' := 363) hM rfl rfl rfl ?_
  refine ar_iload_n (pc' := 364) hM rfl rfl rfl ?_
  refine ar_iconst (x := 1) (pc' := 365) hM rfl (by decide) rfl ?_
  refine ar_iadd (pc' := 366) hM rfl rfl ?_
  rw [show ((nI (4 * j)) + 1 : Int32) = nI (4 * j + 1) from nI_add (4 * j) 1]
  refine ar_ialoadN (j := (4 * j + 1)) (pc' := 367) hM rfl h1 rfl (by omega) (by omega) rfl ?_
  obtain ⟨x, σ1, hV1, hcl, hrf⟩ := p_salt j (by omega) t T S A K N sd hV (xs (4 * j + 1))
  refine ar_virtual (pc' := 370) (k3 := 148) (k4 := 1369) hM rfl rfl h2 ⟨rfl, (by decide)⟩ rfl rfl (hcl w hC) (fun r367 w367 q367 => ?_)
  obtain ⟨rfl, hC1, q367s⟩ := q367
  have h1b := q367s.at (by unfold rg; omega) h1
  have h133b := q367s.at (by unfold rg; omega) h133
  have hE1 := g_E.same hE q367s (fun b h1 h2 => by unfold rg; omega)
  show am_Go 168 (370, [.ref 1, .ref 2, .ref 133, .int (nI (4 * j))], [.int x], w367, 148, 1369) _
  refine ar_aload_n (pc' := 371) hM rfl rfl rfl ?_
  refine ar_aload_n (pc' := 372) hM rfl rfl rfl ?_
  refine ar_iload_n (pc' := 373) hM rfl rfl rfl ?_
  refine ar_iconst (x := 1) (pc' := 374) hM rfl (by decide) rfl ?_
  refine ar_iadd (pc' := 375) hM rfl rfl ?_
  rw [show ((nI (4 * j)) + 1 : Int32) = nI (4 * j + 1) from nI_add (4 * j) 1]
  refine ar_ialoadN (j := (4 * j + 1)) (pc' := 376) hM rfl h1b rfl (by omega) (by omega) rfl ?_
  refine ar_virtual (pc' := 379) (k3 := 148) (k4 := 1369) hM rfl rfl h133b ⟨rfl, (by decide)⟩ rfl rfl (hrf w367 hE1) (fun r376 w376 q376 => ?_)
  obtain ⟨rfl, hE2, q376s⟩ := q376
  have h1c := q376s.at (by unfold rg; omega) h1b
  have hC2 := g_C.same hC1 q376s (fun b h1 h2 => by unfold rg; omega)
  show am_Go 168 (379, [.ref 1, .ref 2, .ref 133, .int (nI (4 * j))], [.int x, .int x], w376, 148, 1369) _
  refine ar_icmp_eq (pc' := 382) hM rfl rfl (fun _ => ?_) (fun q => absurd rfl q)
  exact cont _ _ ⟨h1c, hV1, hC2, hE2⟩
set_option maxRecDepth 100000 in
set_option maxHeartbeats 4000000 in
theorem g_away {L : Nat} {xs : Nat → Int32} (hL : L ≤ 256) {j : Nat} (hj : 4 * j + 4 ≤ L) {w : am_W} {t : Nat × (Nat → Int32)} {T : p_D} {S : s_S} {A : List s_S} {K : Nat → Option s_S} {N : x_N} {sd : Int64} (hJ : g_J L xs j w (t, T, S, A, K, N, sd)) (cont : ∀ w' σ', g_J L xs (j + 1) w' σ' → am_Go 168 (1016, [.ref 1, .ref 2, .ref 133, .int (nI (4 * j))], [], w', 148, 1369) (fun res w' => res = some (.int 1))) : am_Go 168 (384, [.ref 1, .ref 2, .ref 133, .int (nI (4 * j))], [], w, 148, 1369) (fun res w' => res = some (.int 1)) := by
  have hM : am_P[168]? = some zm_L_law := rfl
  obtain ⟨h1, hV, hC, hE⟩ := hJ
  have h2 := c_W.o hC
  obtain ⟨fs3, h133⟩ := d_W.o hE
  refine ar_aload_n (pc' := 385) hM rfl rfl rfl ?_
  refine ar_aload_n (pc' := 386) hM rfl rfl rfl ?_
  refine ar_iload_n (pc' := 387) hM rfl rfl rfl ?_
  refine ar_iconst (x := 1) (pc' := 388) hM rfl (by decide) rfl ?_
  refine ar_iadd (pc' := 389) hM rfl rfl ?_
  rw [show ((nI (4 * j)) + 1 : Int32) = nI (4 * j + 1) from nI_add (4 * j) 1]
  refine ar_ialoadN (j := (4 * j + 1)) (pc' := 390) hM rfl h1 rfl (by omega) (by omega) rfl ?_
  obtain ⟨x, σ1, hV1, hcl, hrf⟩ := p_away j (by omega) t T S A K N sd hV (xs (4 * j + 1))
  refine ar_virtual (pc' := 393) (k3 := 148) (k4 := 1369) hM rfl rfl h2 ⟨rfl, (by decide)⟩ rfl rfl (hcl w hC) (fun r390 w390 q390 => ?_)
  obtain ⟨rfl, hC1, q390s⟩ := q390
  have h1b := q390s.at (by unfold rg; omega) h1
  have h133b := q390s.at (by unfold rg; omega) h133
  have hE1 := g_E.same hE q390s (fun b h1 h2 => by unfold rg; omega)
  show am_Go 168 (393, [.ref 1, .ref 2, .ref 133, .int (nI (4 * j))], [.int x], w390, 148, 1369) _
  refine ar_aload_n (pc' := 394) hM rfl rfl rfl ?_
  refine ar_aload_n (pc' := 395) hM rfl rfl rfl ?_
  refine ar_iload_n (pc' := 396) hM rfl rfl rfl ?_
  refine ar_iconst (x := 1) (pc' := 397) hM rfl (by decide) rfl ?_
  refine ar_iadd (pc' := 398) hM rfl rfl ?_
  rw [show ((nI (4 * j)) + 1 : Int32) = nI (4 * j + 1) from nI_add (4 * j) 1]
  refine ar_ialoadN (j := (4 * j + 1)) (pc' := 399) hM rfl h1b rfl (by omega) (by omega) rfl ?_
  refine ar_virtual (pc' := 402) (k3 := 148) (k4 := 1369) hM rfl rfl h133b ⟨rfl, (by decide)⟩ rfl rfl (hrf w390 hE1) (fun r399 w399 q399 => ?_)
  obtain ⟨rfl, hE2, q399s⟩ := q399
  have h1c := q399s.at (by unfold rg; omega) h1b
  have hC2 := g_C.same hC1 q399s (fun b h1 h2 => by unfold rg; omega)
  show am_Go 168 (402, [.ref 1, .ref 2, .ref 133, .int (nI (4 * j))], [.int x, .int x], w399, 148, 1369) _
  refine ar_icmp_eq (pc' := 405) hM rfl rfl (fun _ => ?_) (fun q => absurd rfl q)
  exact cont _ _ ⟨h1c, hV1, hC2, hE2⟩
set_option maxRecDepth 100000 in
set_option maxHeartbeats 4000000 in
theorem g_undo {L : Nat} {xs : Nat → Int32} (hL : L ≤ 256) {j : Nat} (hj : 4 * j + 4 ≤ L) {w : am_W} {t : Nat × (Nat → Int32)} {T : p_D} {S : s_S} {A : List s_S} {K : Nat → Option s_S} {N : x_N} {sd : Int64} (hJ : g_J L xs j w (t, T, S, A, K, N, sd)) (cont : ∀ w' σ', g_J L xs (j + 1) w' σ' → am_Go 168 (1016, [.ref 1, .ref 2, .ref 133, .int (nI (4 * j))], [], w', 148, 1369) (fun res w' => res = some (.int 1))) : am_Go 168 (407, [.ref 1, .ref 2, .ref 133, .int (nI (4 * j))], [], w, 148, 1369) (fun res w' => res = some (.int 1)) := by
  have hM : am_P[168]? = some zm_L_law := rfl
  obtain ⟨h1, hV, hC, hE⟩ := hJ
  have h2 := c_W.o hC
  obtain ⟨fs3, h133⟩ := d_W.o hE
  refine ar_aload_n (pc' := 408) hM rfl rfl rfl ?_
  obtain ⟨x, σ1, hV1, hcl, hrf⟩ := p_undo j (by omega) t T S A K N sd hV 
  refine ar_virtual (pc' := 411) (k3 := 148) (k4 := 1369) hM rfl rfl h2 ⟨rfl, (by decide)⟩ rfl rfl (hcl w hC) (fun r408 w408 q408 => ?_)
  obtain ⟨rfl, hC1, q408s⟩ := q408
  have h1b := q408s.at (by unfold rg; omega) h1
  have h133b := q408s.at (by unfold rg; omega) h133
  have hE1 := g_E.same hE q408s (fun b h1 h2 => by unfold rg; omega)
  show am_Go 168 (411, [.ref 1, .ref 2, .ref 133, .int (nI (4 * j))], [.int x], w408, 148, 1369) _
  refine ar_aload_n (pc' := 412) hM rfl rfl rfl ?_
  refine ar_virtual (pc' := 415) (k3 := 148) (k4 := 1369) hM rfl rfl h133b ⟨rfl, (by decide)⟩ rfl rfl (hrf w408 hE1) (fun r412 w412 q412 => ?_)
  obtain ⟨rfl, hE2, q412s⟩ := q412
  have h1c := q412s.at (by unfold rg; omega) h1b
  have hC2 := g_C.same hC1 q412s (fun b h1 h2 => by unfold rg; omega)
  show am_Go 168 (415, [.ref 1, .ref 2, .ref 133, .int (nI (4 * j))], [.int x, .int x], w412, 148, 1369) _
  refine ar_icmp_eq (pc' := 418) hM rfl rfl (fun _ => ?_) (fun q => absurd rfl q)
  exact cont _ _ ⟨h1c, hV1, hC2, hE2⟩
set_option maxRecDepth 100000 in
set_option maxHeartbeats 4000000 in
theorem g_ahead {L : Nat} {xs : Nat → Int32} (hL : L ≤ 256) {j : Nat} (hj : 4 * j + 4 ≤ L) {w : am_W} {t : Nat × (Nat → Int32)} {T : p_D} {S : s_S} {A : List s_S} {K : Nat → Option s_S} {N : x_N} {sd : Int64} (hJ : g_J L xs j w (t, T, S, A, K, N, sd)) (cont : ∀ w' σ', g_J L xs (j + 1) w' σ' → am_Go 168 (1016, [.ref 1, .ref 2, .ref 133, .int (nI (4 * j))], [], w', 148, 1369) (fun res w' => res = some (.int 1))) : am_Go 168 (420, [.ref 1, .ref 2, .ref 133, .int (nI (4 * j))], [], w, 148, 1369) (fun res w' => res = some (.int 1)) := by
  have hM : am_P[168]? = some zm_L_law := rfl
  obtain ⟨h1, hV, hC, hE⟩ := hJ
  have h2 := c_W.o hC
  obtain ⟨fs3, h133⟩ := d_W.o hE
  refine ar_aload_n (pc' := 421) hM rfl rfl rfl ?_
  refine ar_aload_n (pc' := 422) hM rfl rfl rfl ?_
  refine ar_iload_n (pc' := 423) hM rfl rfl rfl ?_
  refine ar_iconst (x := 1) (pc' := 424) hM rfl (by decide) rfl ?_
  refine ar_iadd (pc' := 425) hM rfl rfl ?_
  rw [show ((nI (4 * j)) + 1 : Int32) = nI (4 * j + 1) from nI_add (4 * j) 1]
  refine ar_ialoadN (j := (4 * j + 1)) (pc' := 426) hM rfl h1 rfl (by omega) (by omega) rfl ?_
  refine ar_aload_n (pc' := 427) hM rfl rfl rfl ?_
  refine ar_iload_n (pc' := 428) hM rfl rfl rfl ?_
  refine ar_iconst (x := 2) (pc' := 429) hM rfl (by decide) rfl ?_
  refine ar_iadd (pc' := 430) hM rfl rfl ?_
  rw [show ((nI (4 * j)) + 2 : Int32) = nI (4 * j + 2) from nI_add (4 * j) 2]
  refine ar_ialoadN (j := (4 * j + 2)) (pc' := 431) hM rfl h1 rfl (by omega) (by omega) rfl ?_
  obtain ⟨x, σ1, hV1, hcl, hrf⟩ := p_ahead j (by omega) t T S A K N sd hV (xs (4 * j + 1)) (xs (4 * j + 2))
  refine ar_virtual (pc' := 434) (k3 := 148) (k4 := 1369) hM rfl rfl h2 ⟨rfl, (by decide)⟩ rfl rfl (hcl w hC) (fun r431 w431 q431 => ?_)
  obtain ⟨rfl, hC1, q431s⟩ := q431
  have h1b := q431s.at (by unfold rg; omega) h1
  have h133b := q431s.at (by unfold rg; omega) h133
  have hE1 := g_E.same hE q431s (fun b h1 h2 => by unfold rg; omega)
  show am_Go 168 (434, [.ref 1, .ref 2, .ref 133, .int (nI (4 * j))], [.int x], w431, 148, 1369) _
  refine ar_aload_n (pc' := 435) hM rfl rfl rfl ?_
  refine ar_aload_n (pc' := 436) hM rfl rfl rfl ?_
  refine ar_iload_n (pc' := 437) hM rfl rfl rfl ?_
  refine ar_iconst (x := 1) (pc' := 438) hM rfl (by decide) rfl ?_
  refine ar_iadd (pc' := 439) hM rfl rfl ?_
  rw [show ((nI (4 * j)) + 1 : Int32) = nI (4 * j + 1) from nI_add (4 * j) 1]
  refine ar_ialoadN (j := (4 * j + 1)) (pc' := 440) hM rfl h1b rfl (by omega) (by omega) rfl ?_
  refine ar_aload_n (pc' := 441) hM rfl rfl rfl ?_
  refine ar_iload_n (pc' := 442) hM rfl rfl rfl ?_
  refine ar_iconst (x := 2) (pc' := 443) hM rfl (by decide) rfl ?_
  refine ar_iadd (pc' := 444) hM rfl rfl ?_
  rw [show ((nI (4 * j)) + 2 : Int32) = nI (4 * j + 2) from nI_add (4 * j) 2]
  refine ar_ialoadN (j := (4 * j + 2)) (pc' := 445) hM rfl h1b rfl (by omega) (by omega) rfl ?_
  refine ar_virtual (pc' := 448) (k3 := 148) (k4 := 1369) hM rfl rfl h133b ⟨rfl, (by decide)⟩ rfl rfl (hrf w431 hE1) (fun r445 w445 q445 => ?_)
  obtain ⟨rfl, hE2, q445s⟩ := q445
  have h1c := q445s.at (by unfold rg; omega) h1b
  have hC2 := g_C.same hC1 q445s (fun b h1 h2 => by unfold rg; omega)
  show am_Go 168 (448, [.ref 1, .ref 2, .ref 133, .int (nI (4 * j))], [.int x, .int x], w445, 148, 1369) _
  refine ar_icmp_eq (pc' := 451) hM rfl rfl (fun _ => ?_) (fun q => absurd rfl q)
  exact cont _ _ ⟨h1c, hV1, hC2, hE2⟩
set_option maxRecDepth 100000 in
set_option maxHeartbeats 4000000 in
theorem g_order {L : Nat} {xs : Nat → Int32} (hL : L ≤ 256) {j : Nat} (hj : 4 * j + 4 ≤ L) {w : am_W} {t : Nat × (Nat → Int32)} {T : p_D} {S : s_S} {A : List s_S} {K : Nat → Option s_S} {N : x_N} {sd : Int64} (hJ : g_J L xs j w (t, T, S, A, K, N, sd)) (cont : ∀ w' σ', g_J L xs (j + 1) w' σ' → am_Go 168 (1016, [.ref 1, .ref 2, .ref 133, .int (nI (4 * j))], [], w', 148, 1369) (fun res w' => res = some (.int 1))) : am_Go 168 (453, [.ref 1, .ref 2, .ref 133, .int (nI (4 * j))], [], w, 148, 1369) (fun res w' => res = some (.int 1)) := by
  have hM : am_P[168]? = some zm_L_law := rfl
  obtain ⟨h1, hV, hC, hE⟩ := hJ
  have h2 := c_W.o hC
  obtain ⟨fs3, h133⟩ := d_W.o hE
  by_cases hb : xs (4 * j + 1) = 0
  · refine ar_aload_n (pc' := 454) hM rfl rfl rfl ?_
    refine ar_aload_n (pc' := 455) hM rfl rfl rfl ?_
    refine ar_iload_n (pc' := 456) hM rfl rfl rfl ?_
    refine ar_iconst (x := 1) (pc' := 457) hM rfl (by decide) rfl ?_
    refine ar_iadd (pc' := 458) hM rfl rfl ?_
    rw [show ((nI (4 * j)) + 1 : Int32) = nI (4 * j + 1) from nI_add (4 * j) 1]
    refine ar_ialoadN (j := (4 * j + 1)) (pc' := 459) hM rfl h1 rfl (by omega) (by omega) rfl ?_
    refine ar_if_eq (pc' := 462) hM rfl rfl (fun _ => ?_) (fun q => absurd hb q)
    refine ar_iconst (x := 0) (pc' := 467) hM rfl (by decide) rfl ?_
    obtain ⟨x, σ1, hV1, hcl, hrf⟩ := p_order0 j (by omega) t T S A K N sd hV 
    refine ar_virtual (pc' := 470) (k3 := 148) (k4 := 1369) hM rfl rfl h2 ⟨rfl, (by decide)⟩ rfl rfl (hcl w hC) (fun r467 w467 q467 => ?_)
    obtain ⟨rfl, hC1, q467s⟩ := q467
    have h1b := q467s.at (by unfold rg; omega) h1
    have h133b := q467s.at (by unfold rg; omega) h133
    have hE1 := g_E.same hE q467s (fun b h1 h2 => by unfold rg; omega)
    show am_Go 168 (470, [.ref 1, .ref 2, .ref 133, .int (nI (4 * j))], [.int x], w467, 148, 1369) _
    refine ar_aload_n (pc' := 471) hM rfl rfl rfl ?_
    refine ar_aload_n (pc' := 472) hM rfl rfl rfl ?_
    refine ar_iload_n (pc' := 473) hM rfl rfl rfl ?_
    refine ar_iconst (x := 1) (pc' := 474) hM rfl (by decide) rfl ?_
    refine ar_iadd (pc' := 475) hM rfl rfl ?_
    rw [show ((nI (4 * j)) + 1 : Int32) = nI (4 * j + 1) from nI_add (4 * j) 1]
    refine ar_ialoadN (j := (4 * j + 1)) (pc' := 476) hM rfl h1b rfl (by omega) (by omega) rfl ?_
    refine ar_if_eq (pc' := 479) hM rfl rfl (fun _ => ?_) (fun q => absurd hb q)
    refine ar_iconst (x := 0) (pc' := 484) hM rfl (by decide) rfl ?_
    refine ar_virtual (pc' := 487) (k3 := 148) (k4 := 1369) hM rfl rfl h133b ⟨rfl, (by decide)⟩ rfl rfl (hrf w467 hE1) (fun r484 w484 q484 => ?_)
    obtain ⟨rfl, hE2, q484s⟩ := q484
    have h1c := q484s.at (by unfold rg; omega) h1b
    have hC2 := g_C.same hC1 q484s (fun b h1 h2 => by unfold rg; omega)
    show am_Go 168 (487, [.ref 1, .ref 2, .ref 133, .int (nI (4 * j))], [.int x, .int x], w484, 148, 1369) _
    refine ar_icmp_eq (pc' := 490) hM rfl rfl (fun _ => ?_) (fun q => absurd rfl q)
    exact cont _ _ ⟨h1c, hV1, hC2, hE2⟩
  · refine ar_aload_n (pc' := 454) hM rfl rfl rfl ?_
    refine ar_aload_n (pc' := 455) hM rfl rfl rfl ?_
    refine ar_iload_n (pc' := 456) hM rfl rfl rfl ?_
    refine ar_iconst (x := 1) (pc' := 457) hM rfl (by decide) rfl ?_
    refine ar_iadd (pc' := 458) hM rfl rfl ?_
    rw [show ((nI (4 * j)) + 1 : Int32) = nI (4 * j + 1) from nI_add (4 * j) 1]
    refine ar_ialoadN (j := (4 * j + 1)) (pc' := 459) hM rfl h1 rfl (by omega) (by omega) rfl ?_
    refine ar_if_eq (pc' := 462) hM rfl rfl (fun q => absurd q hb) (fun _ => ?_)
    refine ar_iconst (x := 1) (pc' := 463) hM rfl (by decide) rfl ?_
    refine ar_goto hM rfl ?_
    obtain ⟨x, σ1, hV1, hcl, hrf⟩ := p_order1 j (by omega) t T S A K N sd hV 
    refine ar_virtual (pc' := 470) (k3 := 148) (k4 := 1369) hM rfl rfl h2 ⟨rfl, (by decide)⟩ rfl rfl (hcl w hC) (fun r467 w467 q467 => ?_)
    obtain ⟨rfl, hC1, q467s⟩ := q467
    have h1b := q467s.at (by unfold rg; omega) h1
    have h133b := q467s.at (by unfold rg; omega) h133
    have hE1 := g_E.same hE q467s (fun b h1 h2 => by unfold rg; omega)
    show am_Go 168 (470, [.ref 1, .ref 2, .ref 133, .int (nI (4 * j))], [.int x], w467, 148, 1369) _
    refine ar_aload_n (pc' := 471) hM rfl rfl rfl ?_
    refine ar_aload_n (pc' := 472) hM rfl rfl rfl ?_
    refine ar_iload_n (pc' := 473) hM rfl rfl rfl ?_
    refine ar_iconst (x := 1) (pc' := 474) hM rfl (by decide) rfl ?_
    refine ar_iadd (pc' := 475) hM rfl rfl ?_
    rw [show ((nI (4 * j)) + 1 : Int32) = nI (4 * j + 1) from nI_add (4 * j) 1]
    refine ar_ialoadN (j := (4 * j + 1)) (pc' := 476) hM rfl h1b rfl (by omega) (by omega) rfl ?_
    refine ar_if_eq (pc' := 479) hM rfl rfl (fun q => absurd q hb) (fun _ => ?_)
    refine ar_iconst (x := 1) (pc' := 480) hM rfl (by decide) rfl ?_
    refine ar_goto hM rfl ?_
    refine ar_virtual (pc' := 487) (k3 := 148) (k4 := 1369) hM rfl rfl h133b ⟨rfl, (by decide)⟩ rfl rfl (hrf w467 hE1) (fun r484 w484 q484 => ?_)
    obtain ⟨rfl, hE2, q484s⟩ := q484
    have h1c := q484s.at (by unfold rg; omega) h1b
    have hC2 := g_C.same hC1 q484s (fun b h1 h2 => by unfold rg; omega)
    show am_Go 168 (487, [.ref 1, .ref 2, .ref 133, .int (nI (4 * j))], [.int x, .int x], w484, 148, 1369) _
    refine ar_icmp_eq (pc' := 490) hM rfl rfl (fun _ => ?_) (fun q => absurd rfl q)
    exact cont _ _ ⟨h1c, hV1, hC2, hE2⟩
set_option maxRecDepth 100000 in
set_option maxHeartbeats 4000000 in
theorem g_worst {L : Nat} {xs : Nat → Int32} (hL : L ≤ 256) {j : Nat} (hj : 4 * j + 4 ≤ L) {w : am_W} {t : Nat × (Nat → Int32)} {T : p_D} {S : s_S} {A : List s_S} {K : Nat → Option s_S} {N : x_N} {sd : Int64} (hJ : g_J L xs j w (t, T, S, A, K, N, sd)) (cont : ∀ w' σ', g_J L xs (j + 1) w' σ' → am_Go 168 (1016, [.ref 1, .ref 2, .ref 133, .int (nI (4 * j))], [], w', 148, 1369) (fun res w' => res = some (.int 1))) : am_Go 168 (492, [.ref 1, .ref 2, .ref 133, .int (nI (4 * j))], [], w, 148, 1369) (fun res w' => res = some (.int 1)) := by
  have hM : am_P[168]? = some zm_L_law := rfl
  obtain ⟨h1, hV, hC, hE⟩ := hJ
  have h2 := c_W.o hC
  obtain ⟨fs3, h133⟩ := d_W.o hE
  by_cases hb : xs (4 * j + 1) = 0
  · refine ar_aload_n (pc' := 493) hM rfl rfl rfl ?_
    refine ar_aload_n (pc' := 494) hM rfl rfl rfl ?_
    refine ar_iload_n (pc' := 495) hM rfl rfl rfl ?_
    refine ar_iconst (x := 1) (pc' := 496) hM rfl (by decide) rfl ?_
    refine ar_iadd (pc' := 497) hM rfl rfl ?_
    rw [show ((nI (4 * j)) + 1 : Int32) = nI (4 * j + 1) from nI_add (4 * j) 1]
    refine ar_ialoadN (j := (4 * j + 1)) (pc' := 498) hM rfl h1 rfl (by omega) (by omega) rfl ?_
    refine ar_if_eq (pc' := 501) hM rfl rfl (fun _ => ?_) (fun q => absurd hb q)
    refine ar_iconst (x := 0) (pc' := 506) hM rfl (by decide) rfl ?_
    obtain ⟨x, σ1, hV1, hcl, hrf⟩ := p_worst0 j (by omega) t T S A K N sd hV 
    refine ar_virtual (pc' := 509) (k3 := 148) (k4 := 1369) hM rfl rfl h2 ⟨rfl, (by decide)⟩ rfl rfl (hcl w hC) (fun r506 w506 q506 => ?_)
    obtain ⟨rfl, hC1, q506s⟩ := q506
    have h1b := q506s.at (by unfold rg; omega) h1
    have h133b := q506s.at (by unfold rg; omega) h133
    have hE1 := g_E.same hE q506s (fun b h1 h2 => by unfold rg; omega)
    show am_Go 168 (509, [.ref 1, .ref 2, .ref 133, .int (nI (4 * j))], [.int x], w506, 148, 1369) _
    refine ar_aload_n (pc' := 510) hM rfl rfl rfl ?_
    refine ar_aload_n (pc' := 511) hM rfl rfl rfl ?_
    refine ar_iload_n (pc' := 512) hM rfl rfl rfl ?_
    refine ar_iconst (x := 1) (pc' := 513) hM rfl (by decide) rfl ?_
    refine ar_iadd (pc' := 514) hM rfl rfl ?_
    rw [show ((nI (4 * j)) + 1 : Int32) = nI (4 * j + 1) from nI_add (4 * j) 1]
    refine ar_ialoadN (j := (4 * j + 1)) (pc' := 515) hM rfl h1b rfl (by omega) (by omega) rfl ?_
    refine ar_if_eq (pc' := 518) hM rfl rfl (fun _ => ?_) (fun q => absurd hb q)
    refine ar_iconst (x := 0) (pc' := 523) hM rfl (by decide) rfl ?_
    refine ar_virtual (pc' := 526) (k3 := 148) (k4 := 1369) hM rfl rfl h133b ⟨rfl, (by decide)⟩ rfl rfl (hrf w506 hE1) (fun r523 w523 q523 => ?_)
    obtain ⟨rfl, hE2, q523s⟩ := q523
    have h1c := q523s.at (by unfold rg; omega) h1b
    have hC2 := g_C.same hC1 q523s (fun b h1 h2 => by unfold rg; omega)
    show am_Go 168 (526, [.ref 1, .ref 2, .ref 133, .int (nI (4 * j))], [.int x, .int x], w523, 148, 1369) _
    refine ar_icmp_eq (pc' := 529) hM rfl rfl (fun _ => ?_) (fun q => absurd rfl q)
    exact cont _ _ ⟨h1c, hV1, hC2, hE2⟩
  · refine ar_aload_n (pc' := 493) hM rfl rfl rfl ?_
    refine ar_aload_n (pc' := 494) hM rfl rfl rfl ?_
    refine ar_iload_n (pc' := 495) hM rfl rfl rfl ?_
    refine ar_iconst (x := 1) (pc' := 496) hM rfl (by decide) rfl ?_
    refine ar_iadd (pc' := 497) hM rfl rfl ?_
    rw [show ((nI (4 * j)) + 1 : Int32) = nI (4 * j + 1) from nI_add (4 * j) 1]
    refine ar_ialoadN (j := (4 * j + 1)) (pc' := 498) hM rfl h1 rfl (by omega) (by omega) rfl ?_
    refine ar_if_eq (pc' := 501) hM rfl rfl (fun q => absurd q hb) (fun _ => ?_)
    refine ar_iconst (x := 1) (pc' := 502) hM rfl (by decide) rfl ?_
    refine ar_goto hM rfl ?_
    obtain ⟨x, σ1, hV1, hcl, hrf⟩ := p_worst1 j (by omega) t T S A K N sd hV 
    refine ar_virtual (pc' := 509) (k3 := 148) (k4 := 1369) hM rfl rfl h2 ⟨rfl, (by decide)⟩ rfl rfl (hcl w hC) (fun r506 w506 q506 => ?_)
    obtain ⟨rfl, hC1, q506s⟩ := q506
    have h1b := q506s.at (by unfold rg; omega) h1
    have h133b := q506s.at (by unfold rg; omega) h133
    have hE1 := g_E.same hE q506s (fun b h1 h2 => by unfold rg; omega)
    show am_Go 168 (509, [.ref 1, .ref 2, .ref 133, .int (nI (4 * j))], [.int x], w506, 148, 1369) _
    refine ar_aload_n (pc' := 510) hM rfl rfl rfl ?_
    refine ar_aload_n (pc' := 511) hM rfl rfl rfl ?_
    refine ar_iload_n (pc' := 512) hM rfl rfl rfl ?_
    refine ar_iconst (x := 1) (pc' := 513) hM rfl (by decide) rfl ?_
    refine ar_iadd (pc' := 514) hM rfl rfl ?_
    rw [show ((nI (4 * j)) + 1 : Int32) = nI (4 * j + 1) from nI_add (4 * j) 1]
    refine ar_ialoadN (j := (4 * j + 1)) (pc' := 515) hM rfl h1b rfl (by omega) (by omega) rfl ?_
    refine ar_if_eq (pc' := 518) hM rfl rfl (fun q => absurd q hb) (fun _ => ?_)
    refine ar_iconst (x := 1) (pc' := 519) hM rfl (by decide) rfl ?_
    refine ar_goto hM rfl ?_
    refine ar_virtual (pc' := 526) (k3 := 148) (k4 := 1369) hM rfl rfl h133b ⟨rfl, (by decide)⟩ rfl rfl (hrf w506 hE1) (fun r523 w523 q523 => ?_)
    obtain ⟨rfl, hE2, q523s⟩ := q523
    have h1c := q523s.at (by unfold rg; omega) h1b
    have hC2 := g_C.same hC1 q523s (fun b h1 h2 => by unfold rg; omega)
    show am_Go 168 (526, [.ref 1, .ref 2, .ref 133, .int (nI (4 * j))], [.int x, .int x], w523, 148, 1369) _
    refine ar_icmp_eq (pc' := 529) hM rfl rfl (fun _ => ?_) (fun q => absurd rfl q)
    exact cont _ _ ⟨h1c, hV1, hC2, hE2⟩
set_option maxRecDepth 100000 in
set_option maxHeartbeats 4000000 in
theorem g_salts {L : Nat} {xs : Nat → Int32} (hL : L ≤ 256) {j : Nat} (hj : 4 * j + 4 ≤ L) {w : am_W} {t : Nat × (Nat → Int32)} {T : p_D} {S : s_S} {A : List s_S} {K : Nat → Option s_S} {N : x_N} {sd : Int64} (hJ : g_J L xs j w (t, T, S, A, K, N, sd)) (cont : ∀ w' σ', g_J L xs (j + 1) w' σ' → am_Go 168 (1016, [.ref 1, .ref 2, .ref 133, .int (nI (4 * j))], [], w', 148, 1369) (fun res w' => res = some (.int 1))) : am_Go 168 (531, [.ref 1, .ref 2, .ref 133, .int (nI (4 * j))], [], w, 148, 1369) (fun res w' => res = some (.int 1)) := by
  have hM : am_P[168]? = some zm_L_law := rfl
  obtain ⟨h1, hV, hC, hE⟩ := hJ
  have h2 := c_W.o hC
  obtain ⟨fs3, h133⟩ := d_W.o hE
  refine ar_aload_n (pc' := 532) hM rfl rfl rfl ?_
  refine ar_aload_n (pc' := 533) hM rfl rfl rfl ?_
  refine ar_iload_n (pc' := 534) hM rfl rfl rfl ?_
  refine ar_iconst (x := 1) (pc' := 535) hM rfl (by decide) rfl ?_
  refine ar_iadd (pc' := 536) hM rfl rfl ?_
  rw [show ((nI (4 * j)) + 1 : Int32) = nI (4 * j + 1) from nI_add (4 * j) 1]
  refine ar_ialoadN (j := (4 * j + 1)) (pc' := 537) hM rfl h1 rfl (by omega) (by omega) rfl ?_
  obtain ⟨x, σ1, hV1, hcl, hrf⟩ := p_salts j (by omega) t T S A K N sd hV (xs (4 * j + 1))
  refine ar_virtual (pc' := 540) (k3 := 148) (k4 := 1369) hM rfl rfl h2 ⟨rfl, (by decide)⟩ rfl rfl (hcl w hC) (fun r537 w537 q537 => ?_)
  obtain ⟨rfl, hC1, q537s⟩ := q537
  have h1b := q537s.at (by unfold rg; omega) h1
  have h133b := q537s.at (by unfold rg; omega) h133
  have hE1 := g_E.same hE q537s (fun b h1 h2 => by unfold rg; omega)
  show am_Go 168 (540, [.ref 1, .ref 2, .ref 133, .int (nI (4 * j))], [.int x], w537, 148, 1369) _
  refine ar_aload_n (pc' := 541) hM rfl rfl rfl ?_
  refine ar_aload_n (pc' := 542) hM rfl rfl rfl ?_
  refine ar_iload_n (pc' := 543) hM rfl rfl rfl ?_
  refine ar_iconst (x := 1) (pc' := 544) hM rfl (by decide) rfl ?_
  refine ar_iadd (pc' := 545) hM rfl rfl ?_
  rw [show ((nI (4 * j)) + 1 : Int32) = nI (4 * j + 1) from nI_add (4 * j) 1]
  refine ar_ialoadN (j := (4 * j + 1)) (pc' := 546) hM rfl h1b rfl (by omega) (by omega) rfl ?_
  refine ar_virtual (pc' := 549) (k3 := 148) (k4 := 1369) hM rfl rfl h133b ⟨rfl, (by decide)⟩ rfl rfl (hrf w537 hE1) (fun r546 w546 q546 => ?_)
  obtain ⟨rfl, hE2, q546s⟩ := q546
  have h1c := q546s.at (by unfold rg; omega) h1b
  have hC2 := g_C.same hC1 q546s (fun b h1 h2 => by unfold rg; omega)
  show am_Go 168 (549, [.ref 1, .ref 2, .ref 133, .int (nI (4 * j))], [.int x, .int x], w546, 148, 1369) _
  refine ar_icmp_eq (pc' := 552) hM rfl rfl (fun _ => ?_) (fun q => absurd rfl q)
  exact cont _ _ ⟨h1c, hV1, hC2, hE2⟩
set_option maxRecDepth 100000 in
set_option maxHeartbeats 4000000 in
theorem g_cask {L : Nat} {xs : Nat → Int32} (hL : L ≤ 256) {j : Nat} (hj : 4 * j + 4 ≤ L) {w : am_W} {t : Nat × (Nat → Int32)} {T : p_D} {S : s_S} {A : List s_S} {K : Nat → Option s_S} {N : x_N} {sd : Int64} (hJ : g_J L xs j w (t, T, S, A, K, N, sd)) (cont : ∀ w' σ', g_J L xs (j + 1) w' σ' → am_Go 168 (1016, [.ref 1, .ref 2, .ref 133, .int (nI (4 * j))], [], w', 148, 1369) (fun res w' => res = some (.int 1))) : am_Go 168 (554, [.ref 1, .ref 2, .ref 133, .int (nI (4 * j))], [], w, 148, 1369) (fun res w' => res = some (.int 1)) := by
  have hM : am_P[168]? = some zm_L_law := rfl
  obtain ⟨h1, hV, hC, hE⟩ := hJ
  have h2 := c_W.o hC
  obtain ⟨fs3, h133⟩ := d_W.o hE
  refine ar_aload_n (pc' := 555) hM rfl rfl rfl ?_
  refine ar_aload_n (pc' := 556) hM rfl rfl rfl ?_
  refine ar_iload_n (pc' := 557) hM rfl rfl rfl ?_
  refine ar_iconst (x := 1) (pc' := 558) hM rfl (by decide) rfl ?_
  refine ar_iadd (pc' := 559) hM rfl rfl ?_
  rw [show ((nI (4 * j)) + 1 : Int32) = nI (4 * j + 1) from nI_add (4 * j) 1]
  refine ar_ialoadN (j := (4 * j + 1)) (pc' := 560) hM rfl h1 rfl (by omega) (by omega) rfl ?_
  obtain ⟨x, σ1, hV1, hcl, hrf⟩ := p_cask j (by omega) t T S A K N sd hV (xs (4 * j + 1))
  refine ar_virtual (pc' := 563) (k3 := 148) (k4 := 1369) hM rfl rfl h2 ⟨rfl, (by decide)⟩ rfl rfl (hcl w hC) (fun r560 w560 q560 => ?_)
  obtain ⟨rfl, hC1, q560s⟩ := q560
  have h1b := q560s.at (by unfold rg; omega) h1
  have h133b := q560s.at (by unfold rg; omega) h133
  have hE1 := g_E.same hE q560s (fun b h1 h2 => by unfold rg; omega)
  show am_Go 168 (563, [.ref 1, .ref 2, .ref 133, .int (nI (4 * j))], [.int x], w560, 148, 1369) _
  refine ar_aload_n (pc' := 564) hM rfl rfl rfl ?_
  refine ar_aload_n (pc' := 565) hM rfl rfl rfl ?_
  refine ar_iload_n (pc' := 566) hM rfl rfl rfl ?_
  refine ar_iconst (x := 1) (pc' := 567) hM rfl (by decide) rfl ?_
  refine ar_iadd (pc' := 568) hM rfl rfl ?_
  rw [show ((nI (4 * j)) + 1 : Int32) = nI (4 * j + 1) from nI_add (4 * j) 1]
  refine ar_ialoadN (j := (4 * j + 1)) (pc' := 569) hM rfl h1b rfl (by omega) (by omega) rfl ?_
  refine ar_virtual (pc' := 572) (k3 := 148) (k4 := 1369) hM rfl rfl h133b ⟨rfl, (by decide)⟩ rfl rfl (hrf w560 hE1) (fun r569 w569 q569 => ?_)
  obtain ⟨rfl, hE2, q569s⟩ := q569
  have h1c := q569s.at (by unfold rg; omega) h1b
  have hC2 := g_C.same hC1 q569s (fun b h1 h2 => by unfold rg; omega)
  show am_Go 168 (572, [.ref 1, .ref 2, .ref 133, .int (nI (4 * j))], [.int x, .int x], w569, 148, 1369) _
  refine ar_icmp_eq (pc' := 575) hM rfl rfl (fun _ => ?_) (fun q => absurd rfl q)
  exact cont _ _ ⟨h1c, hV1, hC2, hE2⟩
set_option maxRecDepth 100000 in
set_option maxHeartbeats 4000000 in
theorem g_judge {L : Nat} {xs : Nat → Int32} (hL : L ≤ 256) {j : Nat} (hj : 4 * j + 4 ≤ L) {w : am_W} {t : Nat × (Nat → Int32)} {T : p_D} {S : s_S} {A : List s_S} {K : Nat → Option s_S} {N : x_N} {sd : Int64} (hJ : g_J L xs j w (t, T, S, A, K, N, sd)) (cont : ∀ w' σ', g_J L xs (j + 1) w' σ' → am_Go 168 (1016, [.ref 1, .ref 2, .ref 133, .int (nI (4 * j))], [], w', 148, 1369) (fun res w' => res = some (.int 1))) : am_Go 168 (577, [.ref 1, .ref 2, .ref 133, .int (nI (4 * j))], [], w, 148, 1369) (fun res w' => res = some (.int 1)) := by
  have hM : am_P[168]? = some zm_L_law := rfl
  obtain ⟨h1, hV, hC, hE⟩ := hJ
  have h2 := c_W.o hC
  obtain ⟨fs3, h133⟩ := d_W.o hE
  refine ar_aload_n (pc' := 578) hM rfl rfl rfl ?_
  refine ar_aload_n (pc' := 579) hM rfl rfl rfl ?_
  refine ar_iload_n (pc' := 580) hM rfl rfl rfl ?_
  refine ar_iconst (x := 1) (pc' := 581) hM rfl (by decide) rfl ?_
  refine ar_iadd (pc' := 582) hM rfl rfl ?_
  rw [show ((nI (4 * j)) + 1 : Int32) = nI (4 * j + 1) from nI_add (4 * j) 1]
  refine ar_ialoadN (j := (4 * j + 1)) (pc' := 583) hM rfl h1 rfl (by omega) (by omega) rfl ?_
  refine ar_aload_n (pc' := 584) hM rfl rfl rfl ?_
  refine ar_iload_n (pc' := 585) hM rfl rfl rfl ?_
  refine ar_iconst (x := 2) (pc' := 586) hM rfl (by decide) rfl ?_
  refine ar_iadd (pc' := 587) hM rfl rfl ?_
  rw [show ((nI (4 * j)) + 2 : Int32) = nI (4 * j + 2) from nI_add (4 * j) 2]
  refine ar_ialoadN (j := (4 * j + 2)) (pc' := 588) hM rfl h1 rfl (by omega) (by omega) rfl ?_
  refine ar_i2l (pc' := 589) hM rfl rfl ?_
  refine ar_bipush (x := 32) (pc' := 591) hM rfl (by decide) rfl ?_
  refine ar_lshl (pc' := 592) hM rfl rfl ?_
  refine ar_aload_n (pc' := 593) hM rfl rfl rfl ?_
  refine ar_iload_n (pc' := 594) hM rfl rfl rfl ?_
  refine ar_iconst (x := 3) (pc' := 595) hM rfl (by decide) rfl ?_
  refine ar_iadd (pc' := 596) hM rfl rfl ?_
  rw [show ((nI (4 * j)) + 3 : Int32) = nI (4 * j + 3) from nI_add (4 * j) 3]
  refine ar_ialoadN (j := (4 * j + 3)) (pc' := 597) hM rfl h1 rfl (by omega) (by omega) rfl ?_
  refine ar_i2l (pc' := 598) hM rfl rfl ?_
  refine ar_ldc2_w (x := 4294967295) (pc' := 601) hM rfl (by decide) rfl ?_
  refine ar_land (pc' := 602) hM rfl rfl ?_
  refine ar_lor (pc' := 603) hM rfl rfl ?_
  obtain ⟨x, σ1, hV1, hcl, hrf⟩ := p_judge j (by omega) t T S A K N sd hV (xs (4 * j + 1)) (((Int32.toInt64 (xs (4 * j + 2))) <<< (Int32.toInt64 32 &&& 63)) ||| ((Int32.toInt64 (xs (4 * j + 3))) &&& 4294967295))
  refine ar_virtual (pc' := 606) (k3 := 148) (k4 := 1369) hM rfl rfl h2 ⟨rfl, (by decide)⟩ rfl rfl (hcl w hC) (fun r603 w603 q603 => ?_)
  obtain ⟨rfl, hC1, q603s⟩ := q603
  have h1b := q603s.at (by unfold rg; omega) h1
  have h133b := q603s.at (by unfold rg; omega) h133
  have hE1 := g_E.same hE q603s (fun b h1 h2 => by unfold rg; omega)
  show am_Go 168 (606, [.ref 1, .ref 2, .ref 133, .int (nI (4 * j))], [.int x], w603, 148, 1369) _
  refine ar_aload_n (pc' := 607) hM rfl rfl rfl ?_
  refine ar_aload_n (pc' := 608) hM rfl rfl rfl ?_
  refine ar_iload_n (pc' := 609) hM rfl rfl rfl ?_
  refine ar_iconst (x := 1) (pc' := 610) hM rfl (by decide) rfl ?_
  refine ar_iadd (pc' := 611) hM rfl rfl ?_
  rw [show ((nI (4 * j)) + 1 : Int32) = nI (4 * j + 1) from nI_add (4 * j) 1]
  refine ar_ialoadN (j := (4 * j + 1)) (pc' := 612) hM rfl h1b rfl (by omega) (by omega) rfl ?_
  refine ar_aload_n (pc' := 613) hM rfl rfl rfl ?_
  refine ar_iload_n (pc' := 614) hM rfl rfl rfl ?_
  refine ar_iconst (x := 2) (pc' := 615) hM rfl (by decide) rfl ?_
  refine ar_iadd (pc' := 616) hM rfl rfl ?_
  rw [show ((nI (4 * j)) + 2 : Int32) = nI (4 * j + 2) from nI_add (4 * j) 2]
  refine ar_ialoadN (j := (4 * j + 2)) (pc' := 617) hM rfl h1b rfl (by omega) (by omega) rfl ?_
  refine ar_i2l (pc' := 618) hM rfl rfl ?_
  refine ar_bipush (x := 32) (pc' := 620) hM rfl (by decide) rfl ?_
  refine ar_lshl (pc' := 621) hM rfl rfl ?_
  refine ar_aload_n (pc' := 622) hM rfl rfl rfl ?_
  refine ar_iload_n (pc' := 623) hM rfl rfl rfl ?_
  refine ar_iconst (x := 3) (pc' := 624) hM rfl (by decide) rfl ?_
  refine ar_iadd (pc' := 625) hM rfl rfl ?_
  rw [show ((nI (4 * j)) + 3 : Int32) = nI (4 * j + 3) from nI_add (4 * j) 3]
  refine ar_ialoadN (j := (4 * j + 3)) (pc' := 626) hM rfl h1b rfl (by omega) (by omega) rfl ?_
  refine ar_i2l (pc' := 627) hM rfl rfl ?_
  refine ar_ldc2_w (x := 4294967295) (pc' := 630) hM rfl (by decide) rfl ?_
  refine ar_land (pc' := 631) hM rfl rfl ?_
  refine ar_lor (pc' := 632) hM rfl rfl ?_
  refine ar_virtual (pc' := 635) (k3 := 148) (k4 := 1369) hM rfl rfl h133b ⟨rfl, (by decide)⟩ rfl rfl (hrf w603 hE1) (fun r632 w632 q632 => ?_)
  obtain ⟨rfl, hE2, q632s⟩ := q632
  have h1c := q632s.at (by unfold rg; omega) h1b
  have hC2 := g_C.same hC1 q632s (fun b h1 h2 => by unfold rg; omega)
  show am_Go 168 (635, [.ref 1, .ref 2, .ref 133, .int (nI (4 * j))], [.int x, .int x], w632, 148, 1369) _
  refine ar_icmp_eq (pc' := 638) hM rfl rfl (fun _ => ?_) (fun q => absurd rfl q)
  exact cont _ _ ⟨h1c, hV1, hC2, hE2⟩
set_option maxRecDepth 100000 in
set_option maxHeartbeats 4000000 in
theorem g_see {L : Nat} {xs : Nat → Int32} (hL : L ≤ 256) {j : Nat} (hj : 4 * j + 4 ≤ L) {w : am_W} {t : Nat × (Nat → Int32)} {T : p_D} {S : s_S} {A : List s_S} {K : Nat → Option s_S} {N : x_N} {sd : Int64} (hJ : g_J L xs j w (t, T, S, A, K, N, sd)) (cont : ∀ w' σ', g_J L xs (j + 1) w' σ' → am_Go 168 (1016, [.ref 1, .ref 2, .ref 133, .int (nI (4 * j))], [], w', 148, 1369) (fun res w' => res = some (.int 1))) : am_Go 168 (640, [.ref 1, .ref 2, .ref 133, .int (nI (4 * j))], [], w, 148, 1369) (fun res w' => res = some (.int 1)) := by
  have hM : am_P[168]? = some zm_L_law := rfl
  obtain ⟨h1, hV, hC, hE⟩ := hJ
  have h2 := c_W.o hC
  obtain ⟨fs3, h133⟩ := d_W.o hE
  refine ar_aload_n (pc' := 641) hM rfl rfl rfl ?_
  refine ar_aload_n (pc' := 642) hM rfl rfl rfl ?_
  refine ar_iload_n (pc' := 643) hM rfl rfl rfl ?_
  refine ar_iconst (x := 1) (pc' := 644) hM rfl (by decide) rfl ?_
  refine ar_iadd (pc' := 645) hM rfl rfl ?_
  rw [show ((nI (4 * j)) + 1 : Int32) = nI (4 * j + 1) from nI_add (4 * j) 1]
  refine ar_ialoadN (j := (4 * j + 1)) (pc' := 646) hM rfl h1 rfl (by omega) (by omega) rfl ?_
  refine ar_aload_n (pc' := 647) hM rfl rfl rfl ?_
  refine ar_iload_n (pc' := 648) hM rfl rfl rfl ?_
  refine ar_iconst (x := 2) (pc' := 649) hM rfl (by decide) rfl ?_
  refine ar_iadd (pc' := 650) hM rfl rfl ?_
  rw [show ((nI (4 * j)) + 2 : Int32) = nI (4 * j + 2) from nI_add (4 * j) 2]
  refine ar_ialoadN (j := (4 * j + 2)) (pc' := 651) hM rfl h1 rfl (by omega) (by omega) rfl ?_
  refine ar_aload_n (pc' := 652) hM rfl rfl rfl ?_
  refine ar_iload_n (pc' := 653) hM rfl rfl rfl ?_
  refine ar_iconst (x := 3) (pc' := 654) hM rfl (by decide) rfl ?_
  refine ar_iadd (pc' := 655) hM rfl rfl ?_
  rw [show ((nI (4 * j)) + 3 : Int32) = nI (4 * j + 3) from nI_add (4 * j) 3]
  refine ar_ialoadN (j := (4 * j + 3)) (pc' := 656) hM rfl h1 rfl (by omega) (by omega) rfl ?_
  obtain ⟨x, σ1, hV1, hcl, hrf⟩ := p_see j (by omega) t T S A K N sd hV (xs (4 * j + 1)) (xs (4 * j + 2)) (xs (4 * j + 3))
  refine ar_virtual (pc' := 659) (k3 := 148) (k4 := 1369) hM rfl rfl h2 ⟨rfl, (by decide)⟩ rfl rfl (hcl w hC) (fun r656 w656 q656 => ?_)
  obtain ⟨rfl, hC1, q656s⟩ := q656
  have h1b := q656s.at (by unfold rg; omega) h1
  have h133b := q656s.at (by unfold rg; omega) h133
  have hE1 := g_E.same hE q656s (fun b h1 h2 => by unfold rg; omega)
  show am_Go 168 (659, [.ref 1, .ref 2, .ref 133, .int (nI (4 * j))], [.int x], w656, 148, 1369) _
  refine ar_aload_n (pc' := 660) hM rfl rfl rfl ?_
  refine ar_aload_n (pc' := 661) hM rfl rfl rfl ?_
  refine ar_iload_n (pc' := 662) hM rfl rfl rfl ?_
  refine ar_iconst (x := 1) (pc' := 663) hM rfl (by decide) rfl ?_
  refine ar_iadd (pc' := 664) hM rfl rfl ?_
  rw [show ((nI (4 * j)) + 1 : Int32) = nI (4 * j + 1) from nI_add (4 * j) 1]
  refine ar_ialoadN (j := (4 * j + 1)) (pc' := 665) hM rfl h1b rfl (by omega) (by omega) rfl ?_
  refine ar_aload_n (pc' := 666) hM rfl rfl rfl ?_
  refine ar_iload_n (pc' := 667) hM rfl rfl rfl ?_
  refine ar_iconst (x := 2) (pc' := 668) hM rfl (by decide) rfl ?_
  refine ar_iadd (pc' := 669) hM rfl rfl ?_
  rw [show ((nI (4 * j)) + 2 : Int32) = nI (4 * j + 2) from nI_add (4 * j) 2]
  refine ar_ialoadN (j := (4 * j + 2)) (pc' := 670) hM rfl h1b rfl (by omega) (by omega) rfl ?_
  refine ar_aload_n (pc' := 671) hM rfl rfl rfl ?_
  refine ar_iload_n (pc' := 672) hM rfl rfl rfl ?_
  refine ar_iconst (x := 3) (pc' := 673) hM rfl (by decide) rfl ?_
  refine ar_iadd (pc' := 674) hM rfl rfl ?_
  rw [show ((nI (4 * j)) + 3 : Int32) = nI (4 * j + 3) from nI_add (4 * j) 3]
  refine ar_ialoadN (j := (4 * j + 3)) (pc' := 675) hM rfl h1b rfl (by omega) (by omega) rfl ?_
  refine ar_virtual (pc' := 678) (k3 := 148) (k4 := 1369) hM rfl rfl h133b ⟨rfl, (by decide)⟩ rfl rfl (hrf w656 hE1) (fun r675 w675 q675 => ?_)
  obtain ⟨rfl, hE2, q675s⟩ := q675
  have h1c := q675s.at (by unfold rg; omega) h1b
  have hC2 := g_C.same hC1 q675s (fun b h1 h2 => by unfold rg; omega)
  show am_Go 168 (678, [.ref 1, .ref 2, .ref 133, .int (nI (4 * j))], [.int x, .int x], w675, 148, 1369) _
  refine ar_icmp_eq (pc' := 681) hM rfl rfl (fun _ => ?_) (fun q => absurd rfl q)
  exact cont _ _ ⟨h1c, hV1, hC2, hE2⟩
set_option maxRecDepth 100000 in
set_option maxHeartbeats 4000000 in
theorem g_unsee {L : Nat} {xs : Nat → Int32} (hL : L ≤ 256) {j : Nat} (hj : 4 * j + 4 ≤ L) {w : am_W} {t : Nat × (Nat → Int32)} {T : p_D} {S : s_S} {A : List s_S} {K : Nat → Option s_S} {N : x_N} {sd : Int64} (hJ : g_J L xs j w (t, T, S, A, K, N, sd)) (cont : ∀ w' σ', g_J L xs (j + 1) w' σ' → am_Go 168 (1016, [.ref 1, .ref 2, .ref 133, .int (nI (4 * j))], [], w', 148, 1369) (fun res w' => res = some (.int 1))) : am_Go 168 (683, [.ref 1, .ref 2, .ref 133, .int (nI (4 * j))], [], w, 148, 1369) (fun res w' => res = some (.int 1)) := by
  have hM : am_P[168]? = some zm_L_law := rfl
  obtain ⟨h1, hV, hC, hE⟩ := hJ
  have h2 := c_W.o hC
  obtain ⟨fs3, h133⟩ := d_W.o hE
  refine ar_aload_n (pc' := 684) hM rfl rfl rfl ?_
  obtain ⟨x, σ1, hV1, hcl, hrf⟩ := p_unsee j (by omega) t T S A K N sd hV 
  refine ar_virtual (pc' := 687) (k3 := 148) (k4 := 1369) hM rfl rfl h2 ⟨rfl, (by decide)⟩ rfl rfl (hcl w hC) (fun r684 w684 q684 => ?_)
  obtain ⟨rfl, hC1, q684s⟩ := q684
  have h1b := q684s.at (by unfold rg; omega) h1
  have h133b := q684s.at (by unfold rg; omega) h133
  have hE1 := g_E.same hE q684s (fun b h1 h2 => by unfold rg; omega)
  show am_Go 168 (687, [.ref 1, .ref 2, .ref 133, .int (nI (4 * j))], [.int x], w684, 148, 1369) _
  refine ar_aload_n (pc' := 688) hM rfl rfl rfl ?_
  refine ar_virtual (pc' := 691) (k3 := 148) (k4 := 1369) hM rfl rfl h133b ⟨rfl, (by decide)⟩ rfl rfl (hrf w684 hE1) (fun r688 w688 q688 => ?_)
  obtain ⟨rfl, hE2, q688s⟩ := q688
  have h1c := q688s.at (by unfold rg; omega) h1b
  have hC2 := g_C.same hC1 q688s (fun b h1 h2 => by unfold rg; omega)
  show am_Go 168 (691, [.ref 1, .ref 2, .ref 133, .int (nI (4 * j))], [.int x, .int x], w688, 148, 1369) _
  refine ar_icmp_eq (pc' := 694) hM rfl rfl (fun _ => ?_) (fun q => absurd rfl q)
  exact cont _ _ ⟨h1c, hV1, hC2, hE2⟩
set_option maxRecDepth 100000 in
set_option maxHeartbeats 4000000 in
theorem g_wants {L : Nat} {xs : Nat → Int32} (hL : L ≤ 256) {j : Nat} (hj : 4 * j + 4 ≤ L) {w : am_W} {t : Nat × (Nat → Int32)} {T : p_D} {S : s_S} {A : List s_S} {K : Nat → Option s_S} {N : x_N} {sd : Int64} (hJ : g_J L xs j w (t, T, S, A, K, N, sd)) (cont : ∀ w' σ', g_J L xs (j + 1) w' σ' → am_Go 168 (1016, [.ref 1, .ref 2, .ref 133, .int (nI (4 * j))], [], w', 148, 1369) (fun res w' => res = some (.int 1))) : am_Go 168 (696, [.ref 1, .ref 2, .ref 133, .int (nI (4 * j))], [], w, 148, 1369) (fun res w' => res = some (.int 1)) := by
  have hM : am_P[168]? = some zm_L_law := rfl
  obtain ⟨h1, hV, hC, hE⟩ := hJ
  have h2 := c_W.o hC
  obtain ⟨fs3, h133⟩ := d_W.o hE
  refine ar_aload_n (pc' := 697) hM rfl rfl rfl ?_
  refine ar_aload_n (pc' := 698) hM rfl rfl rfl ?_
  refine ar_iload_n (pc' := 699) hM rfl rfl rfl ?_
  refine ar_iconst (x := 1) (pc' := 700) hM rfl (by decide) rfl ?_
  refine ar_iadd (pc' := 701) hM rfl rfl ?_
  rw [show ((nI (4 * j)) + 1 : Int32) = nI (4 * j + 1) from nI_add (4 * j) 1]
  refine ar_ialoadN (j := (4 * j + 1)) (pc' := 702) hM rfl h1 rfl (by omega) (by omega) rfl ?_
  obtain ⟨x, σ1, hV1, hcl, hrf⟩ := p_wants j (by omega) t T S A K N sd hV (xs (4 * j + 1))
  refine ar_virtual (pc' := 705) (k3 := 148) (k4 := 1369) hM rfl rfl h2 ⟨rfl, (by decide)⟩ rfl rfl (hcl w hC) (fun r702 w702 q702 => ?_)
  obtain ⟨rfl, hC1, q702s⟩ := q702
  have h1b := q702s.at (by unfold rg; omega) h1
  have h133b := q702s.at (by unfold rg; omega) h133
  have hE1 := g_E.same hE q702s (fun b h1 h2 => by unfold rg; omega)
  show am_Go 168 (705, [.ref 1, .ref 2, .ref 133, .int (nI (4 * j))], [.int x], w702, 148, 1369) _
  refine ar_aload_n (pc' := 706) hM rfl rfl rfl ?_
  refine ar_aload_n (pc' := 707) hM rfl rfl rfl ?_
  refine ar_iload_n (pc' := 708) hM rfl rfl rfl ?_
  refine ar_iconst (x := 1) (pc' := 709) hM rfl (by decide) rfl ?_
  refine ar_iadd (pc' := 710) hM rfl rfl ?_
  rw [show ((nI (4 * j)) + 1 : Int32) = nI (4 * j + 1) from nI_add (4 * j) 1]
  refine ar_ialoadN (j := (4 * j + 1)) (pc' := 711) hM rfl h1b rfl (by omega) (by omega) rfl ?_
  refine ar_virtual (pc' := 714) (k3 := 148) (k4 := 1369) hM rfl rfl h133b ⟨rfl, (by decide)⟩ rfl rfl (hrf w702 hE1) (fun r711 w711 q711 => ?_)
  obtain ⟨rfl, hE2, q711s⟩ := q711
  have h1c := q711s.at (by unfold rg; omega) h1b
  have hC2 := g_C.same hC1 q711s (fun b h1 h2 => by unfold rg; omega)
  show am_Go 168 (714, [.ref 1, .ref 2, .ref 133, .int (nI (4 * j))], [.int x, .int x], w711, 148, 1369) _
  refine ar_icmp_eq (pc' := 717) hM rfl rfl (fun _ => ?_) (fun q => absurd rfl q)
  exact cont _ _ ⟨h1c, hV1, hC2, hE2⟩
set_option maxRecDepth 100000 in
set_option maxHeartbeats 4000000 in
theorem g_share {L : Nat} {xs : Nat → Int32} (hL : L ≤ 256) {j : Nat} (hj : 4 * j + 4 ≤ L) {w : am_W} {t : Nat × (Nat → Int32)} {T : p_D} {S : s_S} {A : List s_S} {K : Nat → Option s_S} {N : x_N} {sd : Int64} (hJ : g_J L xs j w (t, T, S, A, K, N, sd)) (cont : ∀ w' σ', g_J L xs (j + 1) w' σ' → am_Go 168 (1016, [.ref 1, .ref 2, .ref 133, .int (nI (4 * j))], [], w', 148, 1369) (fun res w' => res = some (.int 1))) : am_Go 168 (719, [.ref 1, .ref 2, .ref 133, .int (nI (4 * j))], [], w, 148, 1369) (fun res w' => res = some (.int 1)) := by
  have hM : am_P[168]? = some zm_L_law := rfl
  obtain ⟨h1, hV, hC, hE⟩ := hJ
  have h2 := c_W.o hC
  obtain ⟨fs3, h133⟩ := d_W.o hE
  by_cases hb : xs (4 * j + 2) = 0
  · refine ar_aload_n (pc' := 720) hM rfl rfl rfl ?_
    refine ar_aload_n (pc' := 721) hM rfl rfl rfl ?_
    refine ar_iload_n (pc' := 722) hM rfl rfl rfl ?_
    refine ar_iconst (x := 1) (pc' := 723) hM rfl (by decide) rfl ?_
    refine ar_iadd (pc' := 724) hM rfl rfl ?_
    rw [show ((nI (4 * j)) + 1 : Int32) = nI (4 * j + 1) from nI_add (4 * j) 1]
    refine ar_ialoadN (j := (4 * j + 1)) (pc' := 725) hM rfl h1 rfl (by omega) (by omega) rfl ?_
    refine ar_aload_n (pc' := 726) hM rfl rfl rfl ?_
    refine ar_iload_n (pc' := 727) hM rfl rfl rfl ?_
    refine ar_iconst (x := 2) (pc' := 728) hM rfl (by decide) rfl ?_
    refine ar_iadd (pc' := 729) hM rfl rfl ?_
    rw [show ((nI (4 * j)) + 2 : Int32) = nI (4 * j + 2) from nI_add (4 * j) 2]
    refine ar_ialoadN (j := (4 * j + 2)) (pc' := 730) hM rfl h1 rfl (by omega) (by omega) rfl ?_
    refine ar_if_eq (pc' := 733) hM rfl rfl (fun _ => ?_) (fun q => absurd hb q)
    refine ar_iconst (x := 0) (pc' := 738) hM rfl (by decide) rfl ?_
    obtain ⟨x, σ1, hV1, hcl, hrf⟩ := p_share j (by omega) t T S A K N sd hV (xs (4 * j + 1)) 0
    refine ar_virtual (pc' := 741) (k3 := 148) (k4 := 1369) hM rfl rfl h2 ⟨rfl, (by decide)⟩ rfl rfl (hcl w hC) (fun r738 w738 q738 => ?_)
    obtain ⟨rfl, hC1, q738s⟩ := q738
    have h1b := q738s.at (by unfold rg; omega) h1
    have h133b := q738s.at (by unfold rg; omega) h133
    have hE1 := g_E.same hE q738s (fun b h1 h2 => by unfold rg; omega)
    show am_Go 168 (741, [.ref 1, .ref 2, .ref 133, .int (nI (4 * j))], [.int x], w738, 148, 1369) _
    refine ar_aload_n (pc' := 742) hM rfl rfl rfl ?_
    refine ar_aload_n (pc' := 743) hM rfl rfl rfl ?_
    refine ar_iload_n (pc' := 744) hM rfl rfl rfl ?_
    refine ar_iconst (x := 1) (pc' := 745) hM rfl (by decide) rfl ?_
    refine ar_iadd (pc' := 746) hM rfl rfl ?_
    rw [show ((nI (4 * j)) + 1 : Int32) = nI (4 * j + 1) from nI_add (4 * j) 1]
    refine ar_ialoadN (j := (4 * j + 1)) (pc' := 747) hM rfl h1b rfl (by omega) (by omega) rfl ?_
    refine ar_aload_n (pc' := 748) hM rfl rfl rfl ?_
    refine ar_iload_n (pc' := 749) hM rfl rfl rfl ?_
    refine ar_iconst (x := 2) (pc' := 750) hM rfl (by decide) rfl ?_
    refine ar_iadd (pc' := 751) hM rfl rfl ?_
    rw [show ((nI (4 * j)) + 2 : Int32) = nI (4 * j + 2) from nI_add (4 * j) 2]
    refine ar_ialoadN (j := (4 * j + 2)) (pc' := 752) hM rfl h1b rfl (by omega) (by omega) rfl ?_
    refine ar_if_eq (pc' := 755) hM rfl rfl (fun _ => ?_) (fun q => absurd hb q)
    refine ar_iconst (x := 0) (pc' := 760) hM rfl (by decide) rfl ?_
    refine ar_virtual (pc' := 763) (k3 := 148) (k4 := 1369) hM rfl rfl h133b ⟨rfl, (by decide)⟩ rfl rfl (hrf w738 hE1) (fun r760 w760 q760 => ?_)
    obtain ⟨rfl, hE2, q760s⟩ := q760
    have h1c := q760s.at (by unfold rg; omega) h1b
    have hC2 := g_C.same hC1 q760s (fun b h1 h2 => by unfold rg; omega)
    show am_Go 168 (763, [.ref 1, .ref 2, .ref 133, .int (nI (4 * j))], [.int x, .int x], w760, 148, 1369) _
    refine ar_icmp_eq (pc' := 766) hM rfl rfl (fun _ => ?_) (fun q => absurd rfl q)
    exact cont _ _ ⟨h1c, hV1, hC2, hE2⟩
  · refine ar_aload_n (pc' := 720) hM rfl rfl rfl ?_
    refine ar_aload_n (pc' := 721) hM rfl rfl rfl ?_
    refine ar_iload_n (pc' := 722) hM rfl rfl rfl ?_
    refine ar_iconst (x := 1) (pc' := 723) hM rfl (by decide) rfl ?_
    refine ar_iadd (pc' := 724) hM rfl rfl ?_
    rw [show ((nI (4 * j)) + 1 : Int32) = nI (4 * j + 1) from nI_add (4 * j) 1]
    refine ar_ialoadN (j := (4 * j + 1)) (pc' := 725) hM rfl h1 rfl (by omega) (by omega) rfl ?_
    refine ar_aload_n (pc' := 726) hM rfl rfl rfl ?_
    refine ar_iload_n (pc' := 727) hM rfl rfl rfl ?_
    refine ar_iconst (x := 2) (pc' := 728) hM rfl (by decide) rfl ?_
    refine ar_iadd (pc' := 729) hM rfl rfl ?_
    rw [show ((nI (4 * j)) + 2 : Int32) = nI (4 * j + 2) from nI_add (4 * j) 2]
    refine ar_ialoadN (j := (4 * j + 2)) (pc' := 730) hM rfl h1 rfl (by omega) (by omega) rfl ?_
    refine ar_if_eq (pc' := 733) hM rfl rfl (fun q => absurd q hb) (fun _ => ?_)
    refine ar_iconst (x := 1) (pc' := 734) hM rfl (by decide) rfl ?_
    refine ar_goto hM rfl ?_
    obtain ⟨x, σ1, hV1, hcl, hrf⟩ := p_share j (by omega) t T S A K N sd hV (xs (4 * j + 1)) 1
    refine ar_virtual (pc' := 741) (k3 := 148) (k4 := 1369) hM rfl rfl h2 ⟨rfl, (by decide)⟩ rfl rfl (hcl w hC) (fun r738 w738 q738 => ?_)
    obtain ⟨rfl, hC1, q738s⟩ := q738
    have h1b := q738s.at (by unfold rg; omega) h1
    have h133b := q738s.at (by unfold rg; omega) h133
    have hE1 := g_E.same hE q738s (fun b h1 h2 => by unfold rg; omega)
    show am_Go 168 (741, [.ref 1, .ref 2, .ref 133, .int (nI (4 * j))], [.int x], w738, 148, 1369) _
    refine ar_aload_n (pc' := 742) hM rfl rfl rfl ?_
    refine ar_aload_n (pc' := 743) hM rfl rfl rfl ?_
    refine ar_iload_n (pc' := 744) hM rfl rfl rfl ?_
    refine ar_iconst (x := 1) (pc' := 745) hM rfl (by decide) rfl ?_
    refine ar_iadd (pc' := 746) hM rfl rfl ?_
    rw [show ((nI (4 * j)) + 1 : Int32) = nI (4 * j + 1) from nI_add (4 * j) 1]
    refine ar_ialoadN (j := (4 * j + 1)) (pc' := 747) hM rfl h1b rfl (by omega) (by omega) rfl ?_
    refine ar_aload_n (pc' := 748) hM rfl rfl rfl ?_
    refine ar_iload_n (pc' := 749) hM rfl rfl rfl ?_
    refine ar_iconst (x := 2) (pc' := 750) hM rfl (by decide) rfl ?_
    refine ar_iadd (pc' := 751) hM rfl rfl ?_
    rw [show ((nI (4 * j)) + 2 : Int32) = nI (4 * j + 2) from nI_add (4 * j) 2]
    refine ar_ialoadN (j := (4 * j + 2)) (pc' := 752) hM rfl h1b rfl (by omega) (by omega) rfl ?_
    refine ar_if_eq (pc' := 755) hM rfl rfl (fun q => absurd q hb) (fun _ => ?_)
    refine ar_iconst (x := 1) (pc' := 756) hM rfl (by decide) rfl ?_
    refine ar_goto hM rfl ?_
    refine ar_virtual (pc' := 763) (k3 := 148) (k4 := 1369) hM rfl rfl h133b ⟨rfl, (by decide)⟩ rfl rfl (hrf w738 hE1) (fun r760 w760 q760 => ?_)
    obtain ⟨rfl, hE2, q760s⟩ := q760
    have h1c := q760s.at (by unfold rg; omega) h1b
    have hC2 := g_C.same hC1 q760s (fun b h1 h2 => by unfold rg; omega)
    show am_Go 168 (763, [.ref 1, .ref 2, .ref 133, .int (nI (4 * j))], [.int x, .int x], w760, 148, 1369) _
    refine ar_icmp_eq (pc' := 766) hM rfl rfl (fun _ => ?_) (fun q => absurd rfl q)
    exact cont _ _ ⟨h1c, hV1, hC2, hE2⟩
set_option maxRecDepth 100000 in
set_option maxHeartbeats 4000000 in
theorem g_rests {L : Nat} {xs : Nat → Int32} (hL : L ≤ 256) {j : Nat} (hj : 4 * j + 4 ≤ L) {w : am_W} {t : Nat × (Nat → Int32)} {T : p_D} {S : s_S} {A : List s_S} {K : Nat → Option s_S} {N : x_N} {sd : Int64} (hJ : g_J L xs j w (t, T, S, A, K, N, sd)) (cont : ∀ w' σ', g_J L xs (j + 1) w' σ' → am_Go 168 (1016, [.ref 1, .ref 2, .ref 133, .int (nI (4 * j))], [], w', 148, 1369) (fun res w' => res = some (.int 1))) : am_Go 168 (768, [.ref 1, .ref 2, .ref 133, .int (nI (4 * j))], [], w, 148, 1369) (fun res w' => res = some (.int 1)) := by
  have hM : am_P[168]? = some zm_L_law := rfl
  obtain ⟨h1, hV, hC, hE⟩ := hJ
  have h2 := c_W.o hC
  obtain ⟨fs3, h133⟩ := d_W.o hE
  refine ar_aload_n (pc' := 769) hM rfl rfl rfl ?_
  refine ar_aload_n (pc' := 770) hM rfl rfl rfl ?_
  refine ar_iload_n (pc' := 771) hM rfl rfl rfl ?_
  refine ar_iconst (x := 1) (pc' := 772) hM rfl (by decide) rfl ?_
  refine ar_iadd (pc' := 773) hM rfl rfl ?_
  rw [show ((nI (4 * j)) + 1 : Int32) = nI (4 * j + 1) from nI_add (4 * j) 1]
  refine ar_ialoadN (j := (4 * j + 1)) (pc' := 774) hM rfl h1 rfl (by omega) (by omega) rfl ?_
  refine ar_aload_n (pc' := 775) hM rfl rfl rfl ?_
  refine ar_iload_n (pc' := 776) hM rfl rfl rfl ?_
  refine ar_iconst (x := 2) (pc' := 777) hM rfl (by decide) rfl ?_
  refine ar_iadd (pc' := 778) hM rfl rfl ?_
  rw [show ((nI (4 * j)) + 2 : Int32) = nI (4 * j + 2) from nI_add (4 * j) 2]
  refine ar_ialoadN (j := (4 * j + 2)) (pc' := 779) hM rfl h1 rfl (by omega) (by omega) rfl ?_
  refine ar_aload_n (pc' := 780) hM rfl rfl rfl ?_
  refine ar_iload_n (pc' := 781) hM rfl rfl rfl ?_
  refine ar_iconst (x := 3) (pc' := 782) hM rfl (by decide) rfl ?_
  refine ar_iadd (pc' := 783) hM rfl rfl ?_
  rw [show ((nI (4 * j)) + 3 : Int32) = nI (4 * j + 3) from nI_add (4 * j) 3]
  refine ar_ialoadN (j := (4 * j + 3)) (pc' := 784) hM rfl h1 rfl (by omega) (by omega) rfl ?_
  obtain ⟨x, σ1, hV1, hcl, hrf⟩ := p_rests j (by omega) t T S A K N sd hV (xs (4 * j + 1)) (xs (4 * j + 2)) (xs (4 * j + 3))
  refine ar_virtual (pc' := 787) (k3 := 148) (k4 := 1369) hM rfl rfl h2 ⟨rfl, (by decide)⟩ rfl rfl (hcl w hC) (fun r784 w784 q784 => ?_)
  obtain ⟨rfl, hC1, q784s⟩ := q784
  have h1b := q784s.at (by unfold rg; omega) h1
  have h133b := q784s.at (by unfold rg; omega) h133
  have hE1 := g_E.same hE q784s (fun b h1 h2 => by unfold rg; omega)
  show am_Go 168 (787, [.ref 1, .ref 2, .ref 133, .int (nI (4 * j))], [.int x], w784, 148, 1369) _
  refine ar_aload_n (pc' := 788) hM rfl rfl rfl ?_
  refine ar_aload_n (pc' := 789) hM rfl rfl rfl ?_
  refine ar_iload_n (pc' := 790) hM rfl rfl rfl ?_
  refine ar_iconst (x := 1) (pc' := 791) hM rfl (by decide) rfl ?_
  refine ar_iadd (pc' := 792) hM rfl rfl ?_
  rw [show ((nI (4 * j)) + 1 : Int32) = nI (4 * j + 1) from nI_add (4 * j) 1]
  refine ar_ialoadN (j := (4 * j + 1)) (pc' := 793) hM rfl h1b rfl (by omega) (by omega) rfl ?_
  refine ar_aload_n (pc' := 794) hM rfl rfl rfl ?_
  refine ar_iload_n (pc' := 795) hM rfl rfl rfl ?_
  refine ar_iconst (x := 2) (pc' := 796) hM rfl (by decide) rfl ?_
  refine ar_iadd (pc' := 797) hM rfl rfl ?_
  rw [show ((nI (4 * j)) + 2 : Int32) = nI (4 * j + 2) from nI_add (4 * j) 2]
  refine ar_ialoadN (j := (4 * j + 2)) (pc' := 798) hM rfl h1b rfl (by omega) (by omega) rfl ?_
  refine ar_aload_n (pc' := 799) hM rfl rfl rfl ?_
  refine ar_iload_n (pc' := 800) hM rfl rfl rfl ?_
  refine ar_iconst (x := 3) (pc' := 801) hM rfl (by decide) rfl ?_
  refine ar_iadd (pc' := 802) hM rfl rfl ?_
  rw [show ((nI (4 * j)) + 3 : Int32) = nI (4 * j + 3) from nI_add (4 * j) 3]
  refine ar_ialoadN (j := (4 * j + 3)) (pc' := 803) hM rfl h1b rfl (by omega) (by omega) rfl ?_
  refine ar_virtual (pc' := 806) (k3 := 148) (k4 := 1369) hM rfl rfl h133b ⟨rfl, (by decide)⟩ rfl rfl (hrf w784 hE1) (fun r803 w803 q803 => ?_)
  obtain ⟨rfl, hE2, q803s⟩ := q803
  have h1c := q803s.at (by unfold rg; omega) h1b
  have hC2 := g_C.same hC1 q803s (fun b h1 h2 => by unfold rg; omega)
  show am_Go 168 (806, [.ref 1, .ref 2, .ref 133, .int (nI (4 * j))], [.int x, .int x], w803, 148, 1369) _
  refine ar_icmp_eq (pc' := 809) hM rfl rfl (fun _ => ?_) (fun q => absurd rfl q)
  exact cont _ _ ⟨h1c, hV1, hC2, hE2⟩
set_option maxRecDepth 100000 in
set_option maxHeartbeats 4000000 in
theorem g_guests {L : Nat} {xs : Nat → Int32} (hL : L ≤ 256) {j : Nat} (hj : 4 * j + 4 ≤ L) {w : am_W} {t : Nat × (Nat → Int32)} {T : p_D} {S : s_S} {A : List s_S} {K : Nat → Option s_S} {N : x_N} {sd : Int64} (hJ : g_J L xs j w (t, T, S, A, K, N, sd)) (cont : ∀ w' σ', g_J L xs (j + 1) w' σ' → am_Go 168 (1016, [.ref 1, .ref 2, .ref 133, .int (nI (4 * j))], [], w', 148, 1369) (fun res w' => res = some (.int 1))) : am_Go 168 (811, [.ref 1, .ref 2, .ref 133, .int (nI (4 * j))], [], w, 148, 1369) (fun res w' => res = some (.int 1)) := by
  have hM : am_P[168]? = some zm_L_law := rfl
  obtain ⟨h1, hV, hC, hE⟩ := hJ
  have h2 := c_W.o hC
  obtain ⟨fs3, h133⟩ := d_W.o hE
  by_cases hb : xs (4 * j + 3) = 0
  · refine ar_aload_n (pc' := 812) hM rfl rfl rfl ?_
    refine ar_aload_n (pc' := 813) hM rfl rfl rfl ?_
    refine ar_iload_n (pc' := 814) hM rfl rfl rfl ?_
    refine ar_iconst (x := 1) (pc' := 815) hM rfl (by decide) rfl ?_
    refine ar_iadd (pc' := 816) hM rfl rfl ?_
    rw [show ((nI (4 * j)) + 1 : Int32) = nI (4 * j + 1) from nI_add (4 * j) 1]
    refine ar_ialoadN (j := (4 * j + 1)) (pc' := 817) hM rfl h1 rfl (by omega) (by omega) rfl ?_
    refine ar_aload_n (pc' := 818) hM rfl rfl rfl ?_
    refine ar_iload_n (pc' := 819) hM rfl rfl rfl ?_
    refine ar_iconst (x := 2) (pc' := 820) hM rfl (by decide) rfl ?_
    refine ar_iadd (pc' := 821) hM rfl rfl ?_
    rw [show ((nI (4 * j)) + 2 : Int32) = nI (4 * j + 2) from nI_add (4 * j) 2]
    refine ar_ialoadN (j := (4 * j + 2)) (pc' := 822) hM rfl h1 rfl (by omega) (by omega) rfl ?_
    refine ar_aload_n (pc' := 823) hM rfl rfl rfl ?_
    refine ar_iload_n (pc' := 824) hM rfl rfl rfl ?_
    refine ar_iconst (x := 3) (pc' := 825) hM rfl (by decide) rfl ?_
    refine ar_iadd (pc' := 826) hM rfl rfl ?_
    rw [show ((nI (4 * j)) + 3 : Int32) = nI (4 * j + 3) from nI_add (4 * j) 3]
    refine ar_ialoadN (j := (4 * j + 3)) (pc' := 827) hM rfl h1 rfl (by omega) (by omega) rfl ?_
    refine ar_if_eq (pc' := 830) hM rfl rfl (fun _ => ?_) (fun q => absurd hb q)
    refine ar_iconst (x := 0) (pc' := 835) hM rfl (by decide) rfl ?_
    obtain ⟨x, σ1, hV1, hcl, hrf⟩ := p_guests j (by omega) t T S A K N sd hV (xs (4 * j + 1)) (xs (4 * j + 2)) 0
    refine ar_virtual (pc' := 838) (k3 := 148) (k4 := 1369) hM rfl rfl h2 ⟨rfl, (by decide)⟩ rfl rfl (hcl w hC) (fun r835 w835 q835 => ?_)
    obtain ⟨rfl, hC1, q835s⟩ := q835
    have h1b := q835s.at (by unfold rg; omega) h1
    have h133b := q835s.at (by unfold rg; omega) h133
    have hE1 := g_E.same hE q835s (fun b h1 h2 => by unfold rg; omega)
    show am_Go 168 (838, [.ref 1, .ref 2, .ref 133, .int (nI (4 * j))], [.int x], w835, 148, 1369) _
    refine ar_aload_n (pc' := 839) hM rfl rfl rfl ?_
    refine ar_aload_n (pc' := 840) hM rfl rfl rfl ?_
    refine ar_iload_n (pc' := 841) hM rfl rfl rfl ?_
    refine ar_iconst (x := 1) (pc' := 842) hM rfl (by decide) rfl ?_
    refine ar_iadd (pc' := 843) hM rfl rfl ?_
    rw [show ((nI (4 * j)) + 1 : Int32) = nI (4 * j + 1) from nI_add (4 * j) 1]
    refine ar_ialoadN (j := (4 * j + 1)) (pc' := 844) hM rfl h1b rfl (by omega) (by omega) rfl ?_
    refine ar_aload_n (pc' := 845) hM rfl rfl rfl ?_
    refine ar_iload_n (pc' := 846) hM rfl rfl rfl ?_
    refine ar_iconst (x := 2) (pc' := 847) hM rfl (by decide) rfl ?_
    refine ar_iadd (pc' := 848) hM rfl rfl ?_
    rw [show ((nI (4 * j)) + 2 : Int32) = nI (4 * j + 2) from nI_add (4 * j) 2]
    refine ar_ialoadN (j := (4 * j + 2)) (pc' := 849) hM rfl h1b rfl (by omega) (by omega) rfl ?_
    refine ar_aload_n (pc' := 850) hM rfl rfl rfl ?_
    refine ar_iload_n (pc' := 851) hM rfl rfl rfl ?_
    refine ar_iconst (x := 3) (pc' := 852) hM rfl (by decide) rfl ?_
    refine ar_iadd (pc' := 853) hM rfl rfl ?_
    rw [show ((nI (4 * j)) + 3 : Int32) = nI (4 * j + 3) from nI_add (4 * j) 3]
    refine ar_ialoadN (j := (4 * j + 3)) (pc' := 854) hM rfl h1b rfl (by omega) (by omega) rfl ?_
    refine ar_if_eq (pc' := 857) hM rfl rfl (fun _ => ?_) (fun q => absurd hb q)
    refine ar_iconst (x := 0) (pc' := 862) hM rfl (by decide) rfl ?_
    refine ar_virtual (pc' := 865) (k3 := 148) (k4 := 1369) hM rfl rfl h133b ⟨rfl, (by decide)⟩ rfl rfl (hrf w835 hE1) (fun r862 w862 q862 => ?_)
    obtain ⟨rfl, hE2, q862s⟩ := q862
    have h1c := q862s.at (by unfold rg; omega) h1b
    have hC2 := g_C.same hC1 q862s (fun b h1 h2 => by unfold rg; omega)
    show am_Go 168 (865, [.ref 1, .ref 2, .ref 133, .int (nI (4 * j))], [.int x, .int x], w862, 148, 1369) _
    refine ar_icmp_eq (pc' := 868) hM rfl rfl (fun _ => ?_) (fun q => absurd rfl q)
    exact cont _ _ ⟨h1c, hV1, hC2, hE2⟩
  · refine ar_aload_n (pc' := 812) hM rfl rfl rfl ?_
    refine ar_aload_n (pc' := 813) hM rfl rfl rfl ?_
    refine ar_iload_n (pc' := 814) hM rfl rfl rfl ?_
    refine ar_iconst (x := 1) (pc' := 815) hM rfl (by decide) rfl ?_
    refine ar_iadd (pc' := 816) hM rfl rfl ?_
    rw [show ((nI (4 * j)) + 1 : Int32) = nI (4 * j + 1) from nI_add (4 * j) 1]
    refine ar_ialoadN (j := (4 * j + 1)) (pc' := 817) hM rfl h1 rfl (by omega) (by omega) rfl ?_
    refine ar_aload_n (pc' := 818) hM rfl rfl rfl ?_
    refine ar_iload_n (pc' := 819) hM rfl rfl rfl ?_
    refine ar_iconst (x := 2) (pc' := 820) hM rfl (by decide) rfl ?_
    refine ar_iadd (pc' := 821) hM rfl rfl ?_
    rw [show ((nI (4 * j)) + 2 : Int32) = nI (4 * j + 2) from nI_add (4 * j) 2]
    refine ar_ialoadN (j := (4 * j + 2)) (pc' := 822) hM rfl h1 rfl (by omega) (by omega) rfl ?_
    refine ar_aload_n (pc' := 823) hM rfl rfl rfl ?_
    refine ar_iload_n (pc' := 824) hM rfl rfl rfl ?_
    refine ar_iconst (x := 3) (pc' := 825) hM rfl (by decide) rfl ?_
    refine ar_iadd (pc' := 826) hM rfl rfl ?_
    rw [show ((nI (4 * j)) + 3 : Int32) = nI (4 * j + 3) from nI_add (4 * j) 3]
    refine ar_ialoadN (j := (4 * j + 3)) (pc' := 827) hM rfl h1 rfl (by omega) (by omega) rfl ?_
    refine ar_if_eq (pc' := 830) hM rfl rfl (fun q => absurd q hb) (fun _ => ?_)
    refine ar_iconst (x := 1) (pc' := 831) hM rfl (by decide) rfl ?_
    refine ar_goto hM rfl ?_
    obtain ⟨x, σ1, hV1, hcl, hrf⟩ := p_guests j (by omega) t T S A K N sd hV (xs (4 * j + 1)) (xs (4 * j + 2)) 1
    refine ar_virtual (pc' := 838) (k3 := 148) (k4 := 1369) hM rfl rfl h2 ⟨rfl, (by decide)⟩ rfl rfl (hcl w hC) (fun r835 w835 q835 => ?_)
    obtain ⟨rfl, hC1, q835s⟩ := q835
    have h1b := q835s.at (by unfold rg; omega) h1
    have h133b := q835s.at (by unfold rg; omega) h133
    have hE1 := g_E.same hE q835s (fun b h1 h2 => by unfold rg; omega)
    show am_Go 168 (838, [.ref 1, .ref 2, .ref 133, .int (nI (4 * j))], [.int x], w835, 148, 1369) _
    refine ar_aload_n (pc' := 839) hM rfl rfl rfl ?_
    refine ar_aload_n (pc' := 840) hM rfl rfl rfl ?_
    refine ar_iload_n (pc' := 841) hM rfl rfl rfl ?_
    refine ar_iconst (x := 1) (pc' := 842) hM rfl (by decide) rfl ?_
    refine ar_iadd (pc' := 843) hM rfl rfl ?_
    rw [show ((nI (4 * j)) + 1 : Int32) = nI (4 * j + 1) from nI_add (4 * j) 1]
    refine ar_ialoadN (j := (4 * j + 1)) (pc' := 844) hM rfl h1b rfl (by omega) (by omega) rfl ?_
    refine ar_aload_n (pc' := 845) hM rfl rfl rfl ?_
    refine ar_iload_n (pc' := 846) hM rfl rfl rfl ?_
    refine ar_iconst (x := 2) (pc' := 847) hM rfl (by decide) rfl ?_
    refine ar_iadd (pc' := 848) hM rfl rfl ?_
    rw [show ((nI (4 * j)) + 2 : Int32) = nI (4 * j + 2) from nI_add (4 * j) 2]
    refine ar_ialoadN (j := (4 * j + 2)) (pc' := 849) hM rfl h1b rfl (by omega) (by omega) rfl ?_
    refine ar_aload_n (pc' := 850) hM rfl rfl rfl ?_
    refine ar_iload_n (pc' := 851) hM rfl rfl rfl ?_
    refine ar_iconst (x := 3) (pc' := 852) hM rfl (by decide) rfl ?_
    refine ar_iadd (pc' := 853) hM rfl rfl ?_
    rw [show ((nI (4 * j)) + 3 : Int32) = nI (4 * j + 3) from nI_add (4 * j) 3]
    refine ar_ialoadN (j := (4 * j + 3)) (pc' := 854) hM rfl h1b rfl (by omega) (by omega) rfl ?_
    refine ar_if_eq (pc' := 857) hM rfl rfl (fun q => absurd q hb) (fun _ => ?_)
    refine ar_iconst (x := 1) (pc' := 858) hM rfl (by decide) rfl ?_
    refine ar_goto hM rfl ?_
    refine ar_virtual (pc' := 865) (k3 := 148) (k4 := 1369) hM rfl rfl h133b ⟨rfl, (by decide)⟩ rfl rfl (hrf w835 hE1) (fun r862 w862 q862 => ?_)
    obtain ⟨rfl, hE2, q862s⟩ := q862
    have h1c := q862s.at (by unfold rg; omega) h1b
    have hC2 := g_C.same hC1 q862s (fun b h1 h2 => by unfold rg; omega)
    show am_Go 168 (865, [.ref 1, .ref 2, .ref 133, .int (nI (4 * j))], [.int x, .int x], w862, 148, 1369) _
    refine ar_icmp_eq (pc' := 868) hM rfl rfl (fun _ => ?_) (fun q => absurd rfl q)
    exact cont _ _ ⟨h1c, hV1, hC2, hE2⟩
set_option maxRecDepth 100000 in
set_option maxHeartbeats 4000000 in
theorem g_seed {L : Nat} {xs : Nat → Int32} (hL : L ≤ 256) {j : Nat} (hj : 4 * j + 4 ≤ L) {w : am_W} {t : Nat × (Nat → Int32)} {T : p_D} {S : s_S} {A : List s_S} {K : Nat → Option s_S} {N : x_N} {sd : Int64} (hJ : g_J L xs j w (t, T, S, A, K, N, sd)) (cont : ∀ w' σ', g_J L xs (j + 1) w' σ' → am_Go 168 (1016, [.ref 1, .ref 2, .ref 133, .int (nI (4 * j))], [], w', 148, 1369) (fun res w' => res = some (.int 1))) : am_Go 168 (870, [.ref 1, .ref 2, .ref 133, .int (nI (4 * j))], [], w, 148, 1369) (fun res w' => res = some (.int 1)) := by
  have hM : am_P[168]? = some zm_L_law := rfl
  obtain ⟨h1, hV, hC, hE⟩ := hJ
  have h2 := c_W.o hC
  obtain ⟨fs3, h133⟩ := d_W.o hE
  refine ar_aload_n (pc' := 871) hM rfl rfl rfl ?_
  refine ar_aload_n (pc' := 872) hM rfl rfl rfl ?_
  refine ar_iload_n (pc' := 873) hM rfl rfl rfl ?_
  refine ar_iconst (x := 1) (pc' := 874) hM rfl (by decide) rfl ?_
  refine ar_iadd (pc' := 875) hM rfl rfl ?_
  rw [show ((nI (4 * j)) + 1 : Int32) = nI (4 * j + 1) from nI_add (4 * j) 1]
  refine ar_ialoadN (j := (4 * j + 1)) (pc' := 876) hM rfl h1 rfl (by omega) (by omega) rfl ?_
  refine ar_i2l (pc' := 877) hM rfl rfl ?_
  refine ar_bipush (x := 32) (pc' := 879) hM rfl (by decide) rfl ?_
  refine ar_lshl (pc' := 880) hM rfl rfl ?_
  refine ar_aload_n (pc' := 881) hM rfl rfl rfl ?_
  refine ar_iload_n (pc' := 882) hM rfl rfl rfl ?_
  refine ar_iconst (x := 2) (pc' := 883) hM rfl (by decide) rfl ?_
  refine ar_iadd (pc' := 884) hM rfl rfl ?_
  rw [show ((nI (4 * j)) + 2 : Int32) = nI (4 * j + 2) from nI_add (4 * j) 2]
  refine ar_ialoadN (j := (4 * j + 2)) (pc' := 885) hM rfl h1 rfl (by omega) (by omega) rfl ?_
  refine ar_i2l (pc' := 886) hM rfl rfl ?_
  refine ar_ldc2_w (x := 4294967295) (pc' := 889) hM rfl (by decide) rfl ?_
  refine ar_land (pc' := 890) hM rfl rfl ?_
  refine ar_lor (pc' := 891) hM rfl rfl ?_
  obtain ⟨σ1, hV1, hcl, hrf⟩ := p_seed j (by omega) t T S A K N sd hV (((Int32.toInt64 (xs (4 * j + 1))) <<< (Int32.toInt64 32 &&& 63)) ||| ((Int32.toInt64 (xs (4 * j + 2))) &&& 4294967295))
  refine ar_virtual (pc' := 894) (k3 := 148) (k4 := 1369) hM rfl rfl h2 ⟨rfl, (by decide)⟩ rfl rfl (hcl w hC) (fun r891 w891 q891 => ?_)
  obtain ⟨rfl, hC1, q891s⟩ := q891
  have h1b := q891s.at (by unfold rg; omega) h1
  have h133b := q891s.at (by unfold rg; omega) h133
  have hE1 := g_E.same hE q891s (fun b h1 h2 => by unfold rg; omega)
  show am_Go 168 (894, [.ref 1, .ref 2, .ref 133, .int (nI (4 * j))], [.long sd], w891, 148, 1369) _
  refine ar_aload_n (pc' := 895) hM rfl rfl rfl ?_
  refine ar_aload_n (pc' := 896) hM rfl rfl rfl ?_
  refine ar_iload_n (pc' := 897) hM rfl rfl rfl ?_
  refine ar_iconst (x := 1) (pc' := 898) hM rfl (by decide) rfl ?_
  refine ar_iadd (pc' := 899) hM rfl rfl ?_
  rw [show ((nI (4 * j)) + 1 : Int32) = nI (4 * j + 1) from nI_add (4 * j) 1]
  refine ar_ialoadN (j := (4 * j + 1)) (pc' := 900) hM rfl h1b rfl (by omega) (by omega) rfl ?_
  refine ar_i2l (pc' := 901) hM rfl rfl ?_
  refine ar_bipush (x := 32) (pc' := 903) hM rfl (by decide) rfl ?_
  refine ar_lshl (pc' := 904) hM rfl rfl ?_
  refine ar_aload_n (pc' := 905) hM rfl rfl rfl ?_
  refine ar_iload_n (pc' := 906) hM rfl rfl rfl ?_
  refine ar_iconst (x := 2) (pc' := 907) hM rfl (by decide) rfl ?_
  refine ar_iadd (pc' := 908) hM rfl rfl ?_
  rw [show ((nI (4 * j)) + 2 : Int32) = nI (4 * j + 2) from nI_add (4 * j) 2]
  refine ar_ialoadN (j := (4 * j + 2)) (pc' := 909) hM rfl h1b rfl (by omega) (by omega) rfl ?_
  refine ar_i2l (pc' := 910) hM rfl rfl ?_
  refine ar_ldc2_w (x := 4294967295) (pc' := 913) hM rfl (by decide) rfl ?_
  refine ar_land (pc' := 914) hM rfl rfl ?_
  refine ar_lor (pc' := 915) hM rfl rfl ?_
  refine ar_virtual (pc' := 918) (k3 := 148) (k4 := 1369) hM rfl rfl h133b ⟨rfl, (by decide)⟩ rfl rfl (hrf w891 hE1) (fun r915 w915 q915 => ?_)
  obtain ⟨rfl, hE2, q915s⟩ := q915
  have h1c := q915s.at (by unfold rg; omega) h1b
  have hC2 := g_C.same hC1 q915s (fun b h1 h2 => by unfold rg; omega)
  show am_Go 168 (918, [.ref 1, .ref 2, .ref 133, .int (nI (4 * j))], [.long sd, .long sd], w915, 148, 1369) _
  refine ar_lcmp (pc' := 919) hM rfl rfl ?_
  refine ar_if_eq (pc' := 922) hM rfl rfl (fun _ => ?_) (fun q => absurd ((lg_cmp_eq _ _).mpr rfl) q)
  exact cont _ _ ⟨h1c, hV1, hC2, hE2⟩
set_option maxRecDepth 100000 in
set_option maxHeartbeats 4000000 in
theorem g_weeks {L : Nat} {xs : Nat → Int32} (hL : L ≤ 256) {j : Nat} (hj : 4 * j + 4 ≤ L) {w : am_W} {t : Nat × (Nat → Int32)} {T : p_D} {S : s_S} {A : List s_S} {K : Nat → Option s_S} {N : x_N} {sd : Int64} (hJ : g_J L xs j w (t, T, S, A, K, N, sd)) (cont : ∀ w' σ', g_J L xs (j + 1) w' σ' → am_Go 168 (1016, [.ref 1, .ref 2, .ref 133, .int (nI (4 * j))], [], w', 148, 1369) (fun res w' => res = some (.int 1))) : am_Go 168 (924, [.ref 1, .ref 2, .ref 133, .int (nI (4 * j))], [], w, 148, 1369) (fun res w' => res = some (.int 1)) := by
  have hM : am_P[168]? = some zm_L_law := rfl
  obtain ⟨h1, hV, hC, hE⟩ := hJ
  have h2 := c_W.o hC
  obtain ⟨fs3, h133⟩ := d_W.o hE
  refine ar_aload_n (pc' := 925) hM rfl rfl rfl ?_
  refine ar_aload_n (pc' := 926) hM rfl rfl rfl ?_
  refine ar_iload_n (pc' := 927) hM rfl rfl rfl ?_
  refine ar_iconst (x := 1) (pc' := 928) hM rfl (by decide) rfl ?_
  refine ar_iadd (pc' := 929) hM rfl rfl ?_
  rw [show ((nI (4 * j)) + 1 : Int32) = nI (4 * j + 1) from nI_add (4 * j) 1]
  refine ar_ialoadN (j := (4 * j + 1)) (pc' := 930) hM rfl h1 rfl (by omega) (by omega) rfl ?_
  obtain ⟨x, σ1, hV1, hcl, hrf⟩ := p_weeks j (by omega) t T S A K N sd hV (xs (4 * j + 1))
  refine ar_virtual (pc' := 933) (k3 := 148) (k4 := 1369) hM rfl rfl h2 ⟨rfl, (by decide)⟩ rfl rfl (hcl w hC) (fun r930 w930 q930 => ?_)
  obtain ⟨rfl, hC1, q930s⟩ := q930
  have h1b := q930s.at (by unfold rg; omega) h1
  have h133b := q930s.at (by unfold rg; omega) h133
  have hE1 := g_E.same hE q930s (fun b h1 h2 => by unfold rg; omega)
  show am_Go 168 (933, [.ref 1, .ref 2, .ref 133, .int (nI (4 * j))], [.int x], w930, 148, 1369) _
  refine ar_aload_n (pc' := 934) hM rfl rfl rfl ?_
  refine ar_aload_n (pc' := 935) hM rfl rfl rfl ?_
  refine ar_iload_n (pc' := 936) hM rfl rfl rfl ?_
  refine ar_iconst (x := 1) (pc' := 937) hM rfl (by decide) rfl ?_
  refine ar_iadd (pc' := 938) hM rfl rfl ?_
  rw [show ((nI (4 * j)) + 1 : Int32) = nI (4 * j + 1) from nI_add (4 * j) 1]
  refine ar_ialoadN (j := (4 * j + 1)) (pc' := 939) hM rfl h1b rfl (by omega) (by omega) rfl ?_
  refine ar_virtual (pc' := 942) (k3 := 148) (k4 := 1369) hM rfl rfl h133b ⟨rfl, (by decide)⟩ rfl rfl (hrf w930 hE1) (fun r939 w939 q939 => ?_)
  obtain ⟨rfl, hE2, q939s⟩ := q939
  have h1c := q939s.at (by unfold rg; omega) h1b
  have hC2 := g_C.same hC1 q939s (fun b h1 h2 => by unfold rg; omega)
  show am_Go 168 (942, [.ref 1, .ref 2, .ref 133, .int (nI (4 * j))], [.int x, .int x], w939, 148, 1369) _
  refine ar_icmp_eq (pc' := 945) hM rfl rfl (fun _ => ?_) (fun q => absurd rfl q)
  exact cont _ _ ⟨h1c, hV1, hC2, hE2⟩
set_option maxRecDepth 100000 in
set_option maxHeartbeats 4000000 in
theorem g_keep {L : Nat} {xs : Nat → Int32} (hL : L ≤ 256) {j : Nat} (hj : 4 * j + 4 ≤ L) {w : am_W} {t : Nat × (Nat → Int32)} {T : p_D} {S : s_S} {A : List s_S} {K : Nat → Option s_S} {N : x_N} {sd : Int64} (hJ : g_J L xs j w (t, T, S, A, K, N, sd)) (cont : ∀ w' σ', g_J L xs (j + 1) w' σ' → am_Go 168 (1016, [.ref 1, .ref 2, .ref 133, .int (nI (4 * j))], [], w', 148, 1369) (fun res w' => res = some (.int 1))) : am_Go 168 (947, [.ref 1, .ref 2, .ref 133, .int (nI (4 * j))], [], w, 148, 1369) (fun res w' => res = some (.int 1)) := by
  have hM : am_P[168]? = some zm_L_law := rfl
  obtain ⟨h1, hV, hC, hE⟩ := hJ
  have h2 := c_W.o hC
  obtain ⟨fs3, h133⟩ := d_W.o hE
  refine ar_aload_n (pc' := 948) hM rfl rfl rfl ?_
  refine ar_aload_n (pc' := 949) hM rfl rfl rfl ?_
  refine ar_iload_n (pc' := 950) hM rfl rfl rfl ?_
  refine ar_iconst (x := 1) (pc' := 951) hM rfl (by decide) rfl ?_
  refine ar_iadd (pc' := 952) hM rfl rfl ?_
  rw [show ((nI (4 * j)) + 1 : Int32) = nI (4 * j + 1) from nI_add (4 * j) 1]
  refine ar_ialoadN (j := (4 * j + 1)) (pc' := 953) hM rfl h1 rfl (by omega) (by omega) rfl ?_
  obtain ⟨x, σ1, hV1, hcl, hrf⟩ := p_keep j (by omega) t T S A K N sd hV (xs (4 * j + 1))
  refine ar_virtual (pc' := 956) (k3 := 148) (k4 := 1369) hM rfl rfl h2 ⟨rfl, (by decide)⟩ rfl rfl (hcl w hC) (fun r953 w953 q953 => ?_)
  obtain ⟨rfl, hC1, q953s⟩ := q953
  have h1b := q953s.at (by unfold rg; omega) h1
  have h133b := q953s.at (by unfold rg; omega) h133
  have hE1 := g_E.same hE q953s (fun b h1 h2 => by unfold rg; omega)
  show am_Go 168 (956, [.ref 1, .ref 2, .ref 133, .int (nI (4 * j))], [.int x], w953, 148, 1369) _
  refine ar_aload_n (pc' := 957) hM rfl rfl rfl ?_
  refine ar_aload_n (pc' := 958) hM rfl rfl rfl ?_
  refine ar_iload_n (pc' := 959) hM rfl rfl rfl ?_
  refine ar_iconst (x := 1) (pc' := 960) hM rfl (by decide) rfl ?_
  refine ar_iadd (pc' := 961) hM rfl rfl ?_
  rw [show ((nI (4 * j)) + 1 : Int32) = nI (4 * j + 1) from nI_add (4 * j) 1]
  refine ar_ialoadN (j := (4 * j + 1)) (pc' := 962) hM rfl h1b rfl (by omega) (by omega) rfl ?_
  refine ar_virtual (pc' := 965) (k3 := 148) (k4 := 1369) hM rfl rfl h133b ⟨rfl, (by decide)⟩ rfl rfl (hrf w953 hE1) (fun r962 w962 q962 => ?_)
  obtain ⟨rfl, hE2, q962s⟩ := q962
  have h1c := q962s.at (by unfold rg; omega) h1b
  have hC2 := g_C.same hC1 q962s (fun b h1 h2 => by unfold rg; omega)
  show am_Go 168 (965, [.ref 1, .ref 2, .ref 133, .int (nI (4 * j))], [.int x, .int x], w962, 148, 1369) _
  refine ar_icmp_eq (pc' := 968) hM rfl rfl (fun _ => ?_) (fun q => absurd rfl q)
  exact cont _ _ ⟨h1c, hV1, hC2, hE2⟩
set_option maxRecDepth 100000 in
set_option maxHeartbeats 4000000 in
theorem g_again {L : Nat} {xs : Nat → Int32} (hL : L ≤ 256) {j : Nat} (hj : 4 * j + 4 ≤ L) {w : am_W} {t : Nat × (Nat → Int32)} {T : p_D} {S : s_S} {A : List s_S} {K : Nat → Option s_S} {N : x_N} {sd : Int64} (hJ : g_J L xs j w (t, T, S, A, K, N, sd)) (cont : ∀ w' σ', g_J L xs (j + 1) w' σ' → am_Go 168 (1016, [.ref 1, .ref 2, .ref 133, .int (nI (4 * j))], [], w', 148, 1369) (fun res w' => res = some (.int 1))) : am_Go 168 (970, [.ref 1, .ref 2, .ref 133, .int (nI (4 * j))], [], w, 148, 1369) (fun res w' => res = some (.int 1)) := by
  have hM : am_P[168]? = some zm_L_law := rfl
  obtain ⟨h1, hV, hC, hE⟩ := hJ
  have h2 := c_W.o hC
  obtain ⟨fs3, h133⟩ := d_W.o hE
  refine ar_aload_n (pc' := 971) hM rfl rfl rfl ?_
  refine ar_aload_n (pc' := 972) hM rfl rfl rfl ?_
  refine ar_iload_n (pc' := 973) hM rfl rfl rfl ?_
  refine ar_iconst (x := 1) (pc' := 974) hM rfl (by decide) rfl ?_
  refine ar_iadd (pc' := 975) hM rfl rfl ?_
  rw [show ((nI (4 * j)) + 1 : Int32) = nI (4 * j + 1) from nI_add (4 * j) 1]
  refine ar_ialoadN (j := (4 * j + 1)) (pc' := 976) hM rfl h1 rfl (by omega) (by omega) rfl ?_
  obtain ⟨x, σ1, hV1, hcl, hrf⟩ := p_again j (by omega) t T S A K N sd hV (xs (4 * j + 1))
  refine ar_virtual (pc' := 979) (k3 := 148) (k4 := 1369) hM rfl rfl h2 ⟨rfl, (by decide)⟩ rfl rfl (hcl w hC) (fun r976 w976 q976 => ?_)
  obtain ⟨rfl, hC1, q976s⟩ := q976
  have h1b := q976s.at (by unfold rg; omega) h1
  have h133b := q976s.at (by unfold rg; omega) h133
  have hE1 := g_E.same hE q976s (fun b h1 h2 => by unfold rg; omega)
  show am_Go 168 (979, [.ref 1, .ref 2, .ref 133, .int (nI (4 * j))], [.int x], w976, 148, 1369) _
  refine ar_aload_n (pc' := 980) hM rfl rfl rfl ?_
  refine ar_aload_n (pc' := 981) hM rfl rfl rfl ?_
  refine ar_iload_n (pc' := 982) hM rfl rfl rfl ?_
  refine ar_iconst (x := 1) (pc' := 983) hM rfl (by decide) rfl ?_
  refine ar_iadd (pc' := 984) hM rfl rfl ?_
  rw [show ((nI (4 * j)) + 1 : Int32) = nI (4 * j + 1) from nI_add (4 * j) 1]
  refine ar_ialoadN (j := (4 * j + 1)) (pc' := 985) hM rfl h1b rfl (by omega) (by omega) rfl ?_
  refine ar_virtual (pc' := 988) (k3 := 148) (k4 := 1369) hM rfl rfl h133b ⟨rfl, (by decide)⟩ rfl rfl (hrf w976 hE1) (fun r985 w985 q985 => ?_)
  obtain ⟨rfl, hE2, q985s⟩ := q985
  have h1c := q985s.at (by unfold rg; omega) h1b
  have hC2 := g_C.same hC1 q985s (fun b h1 h2 => by unfold rg; omega)
  show am_Go 168 (988, [.ref 1, .ref 2, .ref 133, .int (nI (4 * j))], [.int x, .int x], w985, 148, 1369) _
  refine ar_icmp_eq (pc' := 991) hM rfl rfl (fun _ => ?_) (fun q => absurd rfl q)
  exact cont _ _ ⟨h1c, hV1, hC2, hE2⟩
set_option maxRecDepth 100000 in
set_option maxHeartbeats 4000000 in
theorem g_count {L : Nat} {xs : Nat → Int32} (hL : L ≤ 256) {j : Nat} (hj : 4 * j + 4 ≤ L) {w : am_W} {t : Nat × (Nat → Int32)} {T : p_D} {S : s_S} {A : List s_S} {K : Nat → Option s_S} {N : x_N} {sd : Int64} (hJ : g_J L xs j w (t, T, S, A, K, N, sd)) (cont : ∀ w' σ', g_J L xs (j + 1) w' σ' → am_Go 168 (1016, [.ref 1, .ref 2, .ref 133, .int (nI (4 * j))], [], w', 148, 1369) (fun res w' => res = some (.int 1))) : am_Go 168 (993, [.ref 1, .ref 2, .ref 133, .int (nI (4 * j))], [], w, 148, 1369) (fun res w' => res = some (.int 1)) := by
  have hM : am_P[168]? = some zm_L_law := rfl
  obtain ⟨h1, hV, hC, hE⟩ := hJ
  have h2 := c_W.o hC
  obtain ⟨fs3, h133⟩ := d_W.o hE
  refine ar_aload_n (pc' := 994) hM rfl rfl rfl ?_
  refine ar_aload_n (pc' := 995) hM rfl rfl rfl ?_
  refine ar_iload_n (pc' := 996) hM rfl rfl rfl ?_
  refine ar_iconst (x := 1) (pc' := 997) hM rfl (by decide) rfl ?_
  refine ar_iadd (pc' := 998) hM rfl rfl ?_
  rw [show ((nI (4 * j)) + 1 : Int32) = nI (4 * j + 1) from nI_add (4 * j) 1]
  refine ar_ialoadN (j := (4 * j + 1)) (pc' := 999) hM rfl h1 rfl (by omega) (by omega) rfl ?_
  obtain ⟨x, σ1, hV1, hcl, hrf⟩ := p_count j (by omega) t T S A K N sd hV (xs (4 * j + 1))
  refine ar_virtual (pc' := 1002) (k3 := 148) (k4 := 1369) hM rfl rfl h2 ⟨rfl, (by decide)⟩ rfl rfl (hcl w hC) (fun r999 w999 q999 => ?_)
  obtain ⟨rfl, hC1, q999s⟩ := q999
  have h1b := q999s.at (by unfold rg; omega) h1
  have h133b := q999s.at (by unfold rg; omega) h133
  have hE1 := g_E.same hE q999s (fun b h1 h2 => by unfold rg; omega)
  show am_Go 168 (1002, [.ref 1, .ref 2, .ref 133, .int (nI (4 * j))], [.int x], w999, 148, 1369) _
  refine ar_aload_n (pc' := 1003) hM rfl rfl rfl ?_
  refine ar_aload_n (pc' := 1004) hM rfl rfl rfl ?_
  refine ar_iload_n (pc' := 1005) hM rfl rfl rfl ?_
  refine ar_iconst (x := 1) (pc' := 1006) hM rfl (by decide) rfl ?_
  refine ar_iadd (pc' := 1007) hM rfl rfl ?_
  rw [show ((nI (4 * j)) + 1 : Int32) = nI (4 * j + 1) from nI_add (4 * j) 1]
  refine ar_ialoadN (j := (4 * j + 1)) (pc' := 1008) hM rfl h1b rfl (by omega) (by omega) rfl ?_
  refine ar_virtual (pc' := 1011) (k3 := 148) (k4 := 1369) hM rfl rfl h133b ⟨rfl, (by decide)⟩ rfl rfl (hrf w999 hE1) (fun r1008 w1008 q1008 => ?_)
  obtain ⟨rfl, hE2, q1008s⟩ := q1008
  have h1c := q1008s.at (by unfold rg; omega) h1b
  have hC2 := g_C.same hC1 q1008s (fun b h1 h2 => by unfold rg; omega)
  show am_Go 168 (1011, [.ref 1, .ref 2, .ref 133, .int (nI (4 * j))], [.int x, .int x], w1008, 148, 1369) _
  refine ar_icmp_eq (pc' := 1014) hM rfl rfl (fun _ => ?_) (fun q => absurd rfl q)
  exact cont _ _ ⟨h1c, hV1, hC2, hE2⟩
set_option maxRecDepth 100000 in
set_option maxHeartbeats 4000000 in
theorem g_loop {L : Nat} {xs : Nat → Int32} (hL : L ≤ 256) : ∀ (m j : Nat) (w : am_W) (σ : x_St), L < 4 * (j + m) + 4 → 4 * j ≤ 256 → g_J L xs j w σ → am_Go 168 (18, [.ref 1, .ref 2, .ref 133, .int (nI (4 * j))], [], w, 148, 1369) (fun res w' => res = some (.int 1)) := by
  have hM : am_P[168]? = some zm_L_law := rfl
  intro m
  induction m with
  | zero =>
    intro j w σ hm hj4 hJ
    obtain ⟨h1, -⟩ := id hJ
    refine ar_iload_n (pc' := 19) hM rfl rfl rfl ?_
    refine ar_aload_n (pc' := 20) hM rfl rfl rfl ?_
    refine ar_arraylength (x := nI L) (pc' := 21) hM rfl h1 rfl rfl ?_
    refine ar_iconst (x := 4) (pc' := 22) hM rfl (by decide) rfl ?_
    refine ar_isub (pc' := 23) hM rfl rfl ?_
    refine ar_icmp_gt (pc' := 26) hM rfl rfl (fun _ => ?_) (fun q => absurd ((i_gt4 hL (by omega)).mpr (by omega)) q)
    refine ar_iconst (x := 1) (pc' := 1023) hM rfl (by decide) rfl ?_
    refine ar_ireturn hM rfl (Or.inr (Or.inr rfl)) ?_
    rfl
  | succ m ih =>
    intro j w σ hm hj4 hJ
    obtain ⟨h1, -⟩ := id hJ
    by_cases hend : L < 4 * j + 4
    · refine ar_iload_n (pc' := 19) hM rfl rfl rfl ?_
      refine ar_aload_n (pc' := 20) hM rfl rfl rfl ?_
      refine ar_arraylength (x := nI L) (pc' := 21) hM rfl h1 rfl rfl ?_
      refine ar_iconst (x := 4) (pc' := 22) hM rfl (by decide) rfl ?_
      refine ar_isub (pc' := 23) hM rfl rfl ?_
      refine ar_icmp_gt (pc' := 26) hM rfl rfl (fun _ => ?_) (fun q => absurd ((i_gt4 hL (by omega)).mpr hend) q)
      refine ar_iconst (x := 1) (pc' := 1023) hM rfl (by decide) rfl ?_
      refine ar_ireturn hM rfl (Or.inr (Or.inr rfl)) ?_
      rfl
    · have cont : ∀ w' σ', g_J L xs (j + 1) w' σ' → am_Go 168 (1016, [.ref 1, .ref 2, .ref 133, .int (nI (4 * j))], [], w', 148, 1369) (fun res w' => res = some (.int 1)) := by
        intro w' σ' hJ'
        refine ar_iinc (z := nI (4 * (j + 1))) (pc' := 1019) hM rfl rfl (by rw [show 4 * (j + 1) = 4 * j + 4 by omega]; exact nI_add _ 4) rfl rfl rfl ?_
        refine ar_goto hM rfl ?_
        exact ih (j + 1) w' σ' (by omega) (by omega) hJ'
      refine ar_iload_n (pc' := 19) hM rfl rfl rfl ?_
      refine ar_aload_n (pc' := 20) hM rfl rfl rfl ?_
      refine ar_arraylength (x := nI L) (pc' := 21) hM rfl h1 rfl rfl ?_
      refine ar_iconst (x := 4) (pc' := 22) hM rfl (by decide) rfl ?_
      refine ar_isub (pc' := 23) hM rfl rfl ?_
      refine ar_icmp_gt (pc' := 26) hM rfl rfl (fun q => absurd q (fun q => hend ((i_gt4 hL (by omega)).mp q))) (fun _ => ?_)
      refine ar_aload_n (pc' := 27) hM rfl rfl rfl ?_
      refine ar_iload_n (pc' := 28) hM rfl rfl rfl ?_
      refine ar_ialoadN (j := (4 * j)) (pc' := 29) hM rfl h1 rfl (by omega) (by omega) rfl ?_
      refine ar_bipush (x := 31) (pc' := 31) hM rfl (by decide) rfl ?_
      refine ar_iand (pc' := 32) hM rfl rfl ?_
      obtain ⟨c, hc, ec⟩ := pk_andE (xs (4 * j)) (m := 31) 5 (by decide)
      rw [ec]
      obtain ⟨t, T, S, A, K, N, sd⟩ := σ
      match c, hc with
      | 0, _ =>
        show am_Go 168 (32, [.ref 1, .ref 2, .ref 133, .int (nI (4 * j))], [.int 0], w, 148, 1369) (fun res w' => res = some (.int 1))
        refine ar_tableIn (off := 132) (t := 164) hM rfl (by decide) (by decide) (by decide) ?_
        exact g_write hL (by omega) hJ cont
      | 1, _ =>
        show am_Go 168 (32, [.ref 1, .ref 2, .ref 133, .int (nI (4 * j))], [.int 1], w, 148, 1369) (fun res w' => res = some (.int 1))
        refine ar_tableIn (off := 155) (t := 187) hM rfl (by decide) (by decide) (by decide) ?_
        exact g_wipe hL (by omega) hJ cont
      | 2, _ =>
        show am_Go 168 (32, [.ref 1, .ref 2, .ref 133, .int (nI (4 * j))], [.int 2], w, 148, 1369) (fun res w' => res = some (.int 1))
        refine ar_tableIn (off := 168) (t := 200) hM rfl (by decide) (by decide) (by decide) ?_
        exact g_fault hL (by omega) hJ cont
      | 3, _ =>
        show am_Go 168 (32, [.ref 1, .ref 2, .ref 133, .int (nI (4 * j))], [.int 3], w, 148, 1369) (fun res w' => res = some (.int 1))
        refine ar_tableIn (off := 181) (t := 213) hM rfl (by decide) (by decide) (by decide) ?_
        exact g_row hL (by omega) hJ cont
      | 4, _ =>
        show am_Go 168 (32, [.ref 1, .ref 2, .ref 133, .int (nI (4 * j))], [.int 4], w, 148, 1369) (fun res w' => res = some (.int 1))
        refine ar_tableIn (off := 194) (t := 226) hM rfl (by decide) (by decide) (by decide) ?_
        exact g_house hL (by omega) hJ cont
      | 5, _ =>
        show am_Go 168 (32, [.ref 1, .ref 2, .ref 133, .int (nI (4 * j))], [.int 5], w, 148, 1369) (fun res w' => res = some (.int 1))
        refine ar_tableIn (off := 227) (t := 259) hM rfl (by decide) (by decide) (by decide) ?_
        exact g_today hL (by omega) hJ cont
      | 6, _ =>
        show am_Go 168 (32, [.ref 1, .ref 2, .ref 133, .int (nI (4 * j))], [.int 6], w, 148, 1369) (fun res w' => res = some (.int 1))
        refine ar_tableIn (off := 260) (t := 292) hM rfl (by decide) (by decide) (by decide) ?_
        exact g_at hL (by omega) hJ cont
      | 7, _ =>
        show am_Go 168 (32, [.ref 1, .ref 2, .ref 133, .int (nI (4 * j))], [.int 7], w, 148, 1369) (fun res w' => res = some (.int 1))
        refine ar_tableIn (off := 283) (t := 315) hM rfl (by decide) (by decide) (by decide) ?_
        exact g_day hL (by omega) hJ cont
      | 8, _ =>
        show am_Go 168 (32, [.ref 1, .ref 2, .ref 133, .int (nI (4 * j))], [.int 8], w, 148, 1369) (fun res w' => res = some (.int 1))
        refine ar_tableIn (off := 296) (t := 328) hM rfl (by decide) (by decide) (by decide) ?_
        exact g_swap hL (by omega) hJ cont
      | 9, _ =>
        show am_Go 168 (32, [.ref 1, .ref 2, .ref 133, .int (nI (4 * j))], [.int 9], w, 148, 1369) (fun res w' => res = some (.int 1))
        refine ar_tableIn (off := 329) (t := 361) hM rfl (by decide) (by decide) (by decide) ?_
        exact g_salt hL (by omega) hJ cont
      | 10, _ =>
        show am_Go 168 (32, [.ref 1, .ref 2, .ref 133, .int (nI (4 * j))], [.int 10], w, 148, 1369) (fun res w' => res = some (.int 1))
        refine ar_tableIn (off := 352) (t := 384) hM rfl (by decide) (by decide) (by decide) ?_
        exact g_away hL (by omega) hJ cont
      | 11, _ =>
        show am_Go 168 (32, [.ref 1, .ref 2, .ref 133, .int (nI (4 * j))], [.int 11], w, 148, 1369) (fun res w' => res = some (.int 1))
        refine ar_tableIn (off := 375) (t := 407) hM rfl (by decide) (by decide) (by decide) ?_
        exact g_undo hL (by omega) hJ cont
      | 12, _ =>
        show am_Go 168 (32, [.ref 1, .ref 2, .ref 133, .int (nI (4 * j))], [.int 12], w, 148, 1369) (fun res w' => res = some (.int 1))
        refine ar_tableIn (off := 388) (t := 420) hM rfl (by decide) (by decide) (by decide) ?_
        exact g_ahead hL (by omega) hJ cont
      | 13, _ =>
        show am_Go 168 (32, [.ref 1, .ref 2, .ref 133, .int (nI (4 * j))], [.int 13], w, 148, 1369) (fun res w' => res = some (.int 1))
        refine ar_tableIn (off := 421) (t := 453) hM rfl (by decide) (by decide) (by decide) ?_
        exact g_order hL (by omega) hJ cont
      | 14, _ =>
        show am_Go 168 (32, [.ref 1, .ref 2, .ref 133, .int (nI (4 * j))], [.int 14], w, 148, 1369) (fun res w' => res = some (.int 1))
        refine ar_tableIn (off := 460) (t := 492) hM rfl (by decide) (by decide) (by decide) ?_
        exact g_worst hL (by omega) hJ cont
      | 15, _ =>
        show am_Go 168 (32, [.ref 1, .ref 2, .ref 133, .int (nI (4 * j))], [.int 15], w, 148, 1369) (fun res w' => res = some (.int 1))
        refine ar_tableIn (off := 499) (t := 531) hM rfl (by decide) (by decide) (by decide) ?_
        exact g_salts hL (by omega) hJ cont
      | 16, _ =>
        show am_Go 168 (32, [.ref 1, .ref 2, .ref 133, .int (nI (4 * j))], [.int 16], w, 148, 1369) (fun res w' => res = some (.int 1))
        refine ar_tableIn (off := 522) (t := 554) hM rfl (by decide) (by decide) (by decide) ?_
        exact g_cask hL (by omega) hJ cont
      | 17, _ =>
        show am_Go 168 (32, [.ref 1, .ref 2, .ref 133, .int (nI (4 * j))], [.int 17], w, 148, 1369) (fun res w' => res = some (.int 1))
        refine ar_tableIn (off := 545) (t := 577) hM rfl (by decide) (by decide) (by decide) ?_
        exact g_judge hL (by omega) hJ cont
      | 18, _ =>
        show am_Go 168 (32, [.ref 1, .ref 2, .ref 133, .int (nI (4 * j))], [.int 18], w, 148, 1369) (fun res w' => res = some (.int 1))
        refine ar_tableIn (off := 608) (t := 640) hM rfl (by decide) (by decide) (by decide) ?_
        exact g_see hL (by omega) hJ cont
      | 19, _ =>
        show am_Go 168 (32, [.ref 1, .ref 2, .ref 133, .int (nI (4 * j))], [.int 19], w, 148, 1369) (fun res w' => res = some (.int 1))
        refine ar_tableIn (off := 651) (t := 683) hM rfl (by decide) (by decide) (by decide) ?_
        exact g_unsee hL (by omega) hJ cont
      | 20, _ =>
        show am_Go 168 (32, [.ref 1, .ref 2, .ref 133, .int (nI (4 * j))], [.int 20], w, 148, 1369) (fun res w' => res = some (.int 1))
        refine ar_tableIn (off := 664) (t := 696) hM rfl (by decide) (by decide) (by decide) ?_
        exact g_wants hL (by omega) hJ cont
      | 21, _ =>
        show am_Go 168 (32, [.ref 1, .ref 2, .ref 133, .int (nI (4 * j))], [.int 21], w, 148, 1369) (fun res w' => res = some (.int 1))
        refine ar_tableIn (off := 687) (t := 719) hM rfl (by decide) (by decide) (by decide) ?_
        exact g_share hL (by omega) hJ cont
      | 22, _ =>
        show am_Go 168 (32, [.ref 1, .ref 2, .ref 133, .int (nI (4 * j))], [.int 22], w, 148, 1369) (fun res w' => res = some (.int 1))
        refine ar_tableIn (off := 736) (t := 768) hM rfl (by decide) (by decide) (by decide) ?_
        exact g_rests hL (by omega) hJ cont
      | 23, _ =>
        show am_Go 168 (32, [.ref 1, .ref 2, .ref 133, .int (nI (4 * j))], [.int 23], w, 148, 1369) (fun res w' => res = some (.int 1))
        refine ar_tableIn (off := 779) (t := 811) hM rfl (by decide) (by decide) (by decide) ?_
        exact g_guests hL (by omega) hJ cont
      | 24, _ =>
        show am_Go 168 (32, [.ref 1, .ref 2, .ref 133, .int (nI (4 * j))], [.int 24], w, 148, 1369) (fun res w' => res = some (.int 1))
        refine ar_tableIn (off := 838) (t := 870) hM rfl (by decide) (by decide) (by decide) ?_
        exact g_seed hL (by omega) hJ cont
      | 25, _ =>
        show am_Go 168 (32, [.ref 1, .ref 2, .ref 133, .int (nI (4 * j))], [.int 25], w, 148, 1369) (fun res w' => res = some (.int 1))
        refine ar_tableIn (off := 892) (t := 924) hM rfl (by decide) (by decide) (by decide) ?_
        exact g_weeks hL (by omega) hJ cont
      | 26, _ =>
        show am_Go 168 (32, [.ref 1, .ref 2, .ref 133, .int (nI (4 * j))], [.int 26], w, 148, 1369) (fun res w' => res = some (.int 1))
        refine ar_tableIn (off := 915) (t := 947) hM rfl (by decide) (by decide) (by decide) ?_
        exact g_keep hL (by omega) hJ cont
      | 27, _ =>
        show am_Go 168 (32, [.ref 1, .ref 2, .ref 133, .int (nI (4 * j))], [.int 27], w, 148, 1369) (fun res w' => res = some (.int 1))
        refine ar_tableIn (off := 938) (t := 970) hM rfl (by decide) (by decide) (by decide) ?_
        exact g_again hL (by omega) hJ cont
      | 28, _ =>
        show am_Go 168 (32, [.ref 1, .ref 2, .ref 133, .int (nI (4 * j))], [.int 28], w, 148, 1369) (fun res w' => res = some (.int 1))
        refine ar_tableIn (off := 961) (t := 993) hM rfl (by decide) (by decide) (by decide) ?_
        exact g_count hL (by omega) hJ cont
      | 29, _ =>
        show am_Go 168 (32, [.ref 1, .ref 2, .ref 133, .int (nI (4 * j))], [.int 29], w, 148, 1369) (fun res w' => res = some (.int 1))
        refine ar_tableOut (t := 1016) hM rfl (by decide) (by decide) ?_
        exact cont w _ ⟨hJ.1, hJ.2.1.up (Nat.le_succ j), hJ.2.2⟩
      | 30, _ =>
        show am_Go 168 (32, [.ref 1, .ref 2, .ref 133, .int (nI (4 * j))], [.int 30], w, 148, 1369) (fun res w' => res = some (.int 1))
        refine ar_tableOut (t := 1016) hM rfl (by decide) (by decide) ?_
        exact cont w _ ⟨hJ.1, hJ.2.1.up (Nat.le_succ j), hJ.2.2⟩
      | 31, _ =>
        show am_Go 168 (32, [.ref 1, .ref 2, .ref 133, .int (nI (4 * j))], [.int 31], w, 148, 1369) (fun res w' => res = some (.int 1))
        refine ar_tableOut (t := 1016) hM rfl (by decide) (by decide) ?_
        exact cont w _ ⟨hJ.1, hJ.2.1.up (Nat.le_succ j), hJ.2.2⟩
      | c + 32, h => exact absurd h (by omega)
theorem v_D0 : v_T p_D0 ∧ v_F p_D0 := ⟨⟨Nat.zero_le _, Nat.zero_le _, Or.inl rfl⟩, ⟨0, Nat.zero_le _, rfl⟩, fun h hh => absurd hh (Nat.not_lt_zero _), fun h hh => absurd hh (Nat.not_lt_zero _)⟩
set_option maxRecDepth 100000 in
set_option maxHeartbeats 4000000 in
theorem g_start {L : Nat} {xs : Nat → Int32} (hL : L ≤ 256) (w : am_W) (hLw : w.length = 2) (h0 : w[0]? = some (.inl (0, 7, .inl am_fac))) (h1 : w[1]? = some (.inl (0, L, .inl xs))) : am_Go 168 (0, [.ref 1, .float 0, .float 0, .float 0], [], w, 0, 0) (fun res w' => res = some (.int 1)) := by
  have hM : am_P[168]? = some zm_L_law := rfl
  refine ar_newF (pc' := 3) (k3 := 1) (k4 := 11) (L := 2) hM rfl rfl rfl rfl (Nat.le_of_ble_eq_true rfl) (Nat.le_of_ble_eq_true rfl) rfl hLw (fun w1 hL1 hw1 hc1 => ?_)
  have hs1 : am_same (ge3 2 2 2) w w1 := (am_same.rf : am_same (ge3 2 2 2) w w).tr (hw1.mono (fun b hb => Or.inr (Or.inr hb)))
  have ts1 : am_same (ge_ 2) w w1 := (am_same.rf).tr (hs1.mono (fun b hb => by unfold ge3 at hb; unfold ge_; omega))
  have f1_0 : w1[0]? = some (.inl (0, 7, .inl am_fac)) := hw1.at (by unfold ge_; omega) h0
  have f1_1 : w1[1]? = some (.inl (0, L, .inl xs)) := hw1.at (by unfold ge_; omega) h1
  show am_Go 168 (3, [.ref 1, .float 0, .float 0, .float 0], [.ref 2], w1, 1, 11) _
  refine ar_dup (pc' := 4) hM rfl rfl rfl ?_
  refine ar_special (pc' := 7) (k3 := 131) (k4 := 813) hM rfl (by decide) rfl rfl (n_X10 w1 f1_0 hL1 hc1) (fun r2 w2 q2 => ?_)
  obtain ⟨rfl, hL2, hw2, hp2⟩ := q2
  have hs2 : am_same (ge3 2 2 2) w1 w2 := (am_same.rf : am_same (ge3 2 2 2) w1 w1).tr (hw2.mono (fun b hb => Or.inr (Or.inr hb)))
  have ts2 : am_same (ge_ 2) w w2 := (ts1).tr (hs2.mono (fun b hb => by unfold ge3 at hb; unfold ge_; omega))
  have f2_0 : w2[0]? = some (.inl (0, 7, .inl am_fac)) := hw2.at (by unfold ge_; omega) f1_0
  have f2_1 : w2[1]? = some (.inl (0, L, .inl xs)) := hw2.at (by unfold ge_; omega) f1_1
  show am_Go 168 (7, [.ref 1, .float 0, .float 0, .float 0], [.ref 2], w2, 131, 813) _
  refine ar_astore_n (pc' := 8) hM rfl rfl rfl rfl ?_
  refine ar_newF (pc' := 11) (k3 := 132) (k4 := 843) (L := 133) hM rfl rfl rfl rfl (Nat.le_of_ble_eq_true rfl) (Nat.le_of_ble_eq_true rfl) rfl hL2 (fun w3 hL3 hw3 hc3 => ?_)
  have hs3 : am_same (ge3 133 133 133) w2 w3 := (am_same.rf : am_same (ge3 133 133 133) w2 w2).tr (hw3.mono (fun b hb => Or.inr (Or.inr hb)))
  have ts3 : am_same (ge_ 2) w w3 := (ts2).tr (hs3.mono (fun b hb => by unfold ge3 at hb; unfold ge_; omega))
  have f3_0 : w3[0]? = some (.inl (0, 7, .inl am_fac)) := hw3.at (by unfold ge_; omega) f2_0
  have f3_1 : w3[1]? = some (.inl (0, L, .inl xs)) := hw3.at (by unfold ge_; omega) f2_1
  have pW_3 := hp2.same hs3 (fun b h1 h2 => by unfold ge3; omega)
  show am_Go 168 (11, [.ref 1, .ref 2, .float 0, .float 0], [.ref 133], w3, 132, 843) _
  refine ar_dup (pc' := 12) hM rfl rfl rfl ?_
  refine ar_special (pc' := 15) (k3 := 148) (k4 := 1369) hM rfl (by decide) rfl rfl (n_X11 w3 hL3 hc3) (fun r4 w4 q4 => ?_)
  obtain ⟨rfl, hL4, hw4, hp4⟩ := q4
  have hs4 : am_same (ge3 133 133 133) w3 w4 := (am_same.rf : am_same (ge3 133 133 133) w3 w3).tr (hw4.mono (fun b hb => Or.inr (Or.inr hb)))
  have ts4 : am_same (ge_ 2) w w4 := (ts3).tr (hs4.mono (fun b hb => by unfold ge3 at hb; unfold ge_; omega))
  have f4_0 : w4[0]? = some (.inl (0, 7, .inl am_fac)) := hw4.at (by unfold ge_; omega) f3_0
  have f4_1 : w4[1]? = some (.inl (0, L, .inl xs)) := hw4.at (by unfold ge_; omega) f3_1
  have pW_4 := pW_3.same hs4 (fun b h1 h2 => by unfold ge3; omega)
  show am_Go 168 (15, [.ref 1, .ref 2, .float 0, .float 0], [.ref 133], w4, 148, 1369) _
  refine ar_astore_n (pc' := 16) hM rfl rfl rfl rfl ?_
  refine ar_iconst (x := 0) (pc' := 17) hM rfl (by decide) rfl ?_
  refine ar_istore_n (pc' := 18) hM rfl rfl rfl rfl ?_
  exact g_loop hL 64 0 _ ((0, (fun _ => 0)), p_D0, m_S0, [], (fun _ => none), (0, (fun _ => 0), (fun _ => 0), (fun _ => 0)), 0) (by omega) (by omega) ⟨f4_1, v_W0 0 v_D0, pW_4, hp4⟩
