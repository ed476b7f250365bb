/-! Chances: guests, weeks -/
def m_ways (T : p_D) (S : s_S) (A : Nat) (m : Int32) (x : Nat) : Nat → Int32
  | 0 => 0
  | g + 1 => if nI g &&& S.2.2.2.2.2.1 = 0 ∧ m ≤ i_sum (m_lk T S (nI g)) T.2.2.1 then m_ways T S A m x g + i_pow (nI x) (n_pop g) * i_pow (nI (10 - x)) (T.2.2.1 - n_pop A - n_pop g) else m_ways T S A m x g
def n_popc (n : Nat) : Bool := (List.range (2 ^ n)).all fun A => (List.range (2 ^ n)).all fun g => !(Nat.beq (Nat.land g A) 0) || Nat.ble (n_pop g + n_pop A) n
theorem n_popc_ok : (List.range 7).all n_popc = true := by decide +kernel
theorem i_and (g A : Nat) : nI g &&& nI A = nI (g &&& A) := by
  apply Int32.toBitVec_inj.mp
  show BitVec.ofNat 32 g &&& BitVec.ofNat 32 A = BitVec.ofNat 32 (g &&& A)
  exact BitVec.ofNat_and.symm
theorem i_popd {n : Nat} (hn : n < 7) {A : Nat} (hA : A < 2 ^ n) {g : Nat} (hg : g < 2 ^ n) (h : nI g &&& nI A = 0) : n_pop g + n_pop A ≤ n := by
  have h1 := List.all_eq_true.mp n_popc_ok n (List.mem_range.mpr hn)
  have h2 := List.all_eq_true.mp (List.all_eq_true.mp h1 A (List.mem_range.mpr hA)) g (List.mem_range.mpr hg)
  have h64 : 2 ^ n ≤ 64 := by have := Nat.pow_le_pow_right (show 0 < 2 by decide) (show n ≤ 6 by omega); omega
  rw [i_and] at h
  have h3 : g &&& A = 0 := (nI_eq (b := 0) (Nat.lt_of_le_of_lt Nat.and_le_left (by omega)) (by decide)).mp h
  rw [show Nat.land g A = 0 from h3] at h2
  exact Nat.le_of_ble_eq_true h2
def m_hap (T : p_D) (S : s_S) (v : Nat) : s_S × Int32 := if 12 ≤ v then (m_pass T S, i_sum (m_lk T S 0) T.2.2.1) else (if v % 6 < T.2.2.1 then (if v < 6 then m_salt S (nI (v % 6)) else m_away S (nI (v % 6))) else S, 0)
/-- what chance a seed gives -/
def l_v (x : Int64) : Nat := x.toUInt64.toNat / 2 ^ 33 % 18
def l_sd (x : Int64) : Int64 := x * 6364136223846793005 + 1442695040888963407
theorem l_ushr (x : Int64) : (Int64.toUInt64 x >>> (Int64.toUInt64 (Int32.toInt64 33) &&& Int64.toUInt64 63)).toInt64 = lN (x.toUInt64.toNat / 2 ^ 33) := by
  rw [show Int64.toUInt64 (Int32.toInt64 33) &&& Int64.toUInt64 63 = 33 from by decide]
  apply Int64.toBitVec_inj.mp
  apply BitVec.eq_of_toNat_eq
  have h1 : (x.toUInt64 >>> 33).toInt64.toBitVec.toNat = (x.toUInt64 >>> 33).toNat := rfl
  have h2 : (lN (x.toUInt64.toNat / 2 ^ 33)).toBitVec.toNat = x.toUInt64.toNat / 2 ^ 33 % 2 ^ 64 := rfl
  rw [h1, h2, UInt64.toNat_shiftRight, Nat.shiftRight_eq_div_pow, Nat.mod_eq_of_lt (a := x.toUInt64.toNat / 2 ^ 33)]
  · rfl
  · exact Nat.lt_of_le_of_lt (Nat.div_le_self _ _) x.toUInt64.toNat_lt
theorem l_v18 (x : Int64) : Int64.toInt32 (lN (x.toUInt64.toNat / 2 ^ 33) - lN (x.toUInt64.toNat / 2 ^ 33) / 18 * 18) = nI (l_v x) := by
  have h : x.toUInt64.toNat / 2 ^ 33 < 2 ^ 31 := by have := x.toUInt64.toNat_lt; omega
  rw [show (18 : Int64) = lN 18 from rfl, pk_lRem (by omega) (by decide) (by decide)]
  exact l_toI (Nat.lt_of_lt_of_le (Nat.mod_lt _ (by decide)) (by decide))
/-- k weeks: the standing, what was lacked, the seed -/
def m_wk (vf : Int64 → Nat) (sf : Int64 → Int64) (T : p_D) (S : s_S) (sd : Int64) : Nat → s_S × Int32 × Int64
  | 0 => (S, 0, sd)
  | k + 1 => ((m_hap T (m_wk vf sf T S sd k).1 (vf (sf (m_wk vf sf T S sd k).2.2))).1, (m_wk vf sf T S sd k).2.1 + (m_hap T (m_wk vf sf T S sd k).1 (vf (sf (m_wk vf sf T S sd k).2.2))).2, sf (m_wk vf sf T S sd k).2.2)
theorem m_hap_v {n : Nat} {T : p_D} {S : s_S} (h : v_S n S) (hd : S.2.2.2.2.2.2 + 1 < 2 ^ 30) (v : Nat) : v_S n (m_hap T S v).1 ∧ (m_hap T S v).1.2.2.2.2.2.2 ≤ S.2.2.2.2.2.2 + 1 := by
  unfold m_hap
  split
  · exact ⟨m_pass_v h hd, Nat.le_refl _⟩
  · show v_S n (if v % 6 < T.2.2.1 then (if v < 6 then m_salt S (nI (v % 6)) else m_away S (nI (v % 6))) else S) ∧ (if v % 6 < T.2.2.1 then (if v < 6 then m_salt S (nI (v % 6)) else m_away S (nI (v % 6))) else S).2.2.2.2.2.2 ≤ _
    split
    · split
      · exact ⟨h, Nat.le_succ _⟩
      · exact ⟨h, Nat.le_succ _⟩
    · exact ⟨h, Nat.le_succ _⟩
theorem m_wk_v {vf : Int64 → Nat} {sf : Int64 → Int64} {n : Nat} {T : p_D} {S : s_S} {sd : Int64} (h : v_S n S) (k : Nat) : S.2.2.2.2.2.2 + k < 2 ^ 30 → v_S n (m_wk vf sf T S sd k).1 ∧ (m_wk vf sf T S sd k).1.2.2.2.2.2.2 ≤ S.2.2.2.2.2.2 + k := by
  induction k with
  | zero => exact fun _ => ⟨h, Nat.le_refl _⟩
  | succ k ih =>
    intro hd
    obtain ⟨a, b⟩ := ih (by omega)
    obtain ⟨c, d⟩ := m_hap_v (T := T) a (by omega) (vf (sf (m_wk vf sf T S sd k).2.2))
    exact ⟨c, Nat.le_trans d (by omega)⟩
set_option maxRecDepth 100000 in
set_option maxHeartbeats 4000000 in
theorem k_ways (w : am_W) (T : p_D) (S : s_S) (rc fr : Int32) (sd : Int64) (hvT : v_T T) (hvS : v_S T.2.2.1 S) (hT : c_T w 11 T) (hN : c_S w 16 T.2.2.1 S) (hc0 : w[118]? = some (.inr (1, [.ref 119, .ref 123, .ref 131, .ref 132, .int rc, .int fr, .long sd]))) (hD : c_D w 123) (A : Nat) (hA : S.2.2.2.2.2.1 = nI A) (hA2 : A < 2 ^ T.2.2.1) (m : Int32) (x : Nat) (hx10 : x ≤ 10) : am_Go 9 (0, [.ref 118, .ref 11, .ref 16, .int m, .int (nI x), .float 0, .float 0, .float 0, .float 0], [], w, 0, 0) (fun res w' => res = some (.int (m_ways T S A m x (2 ^ T.2.2.1))) ∧ am_same (rg 123 8) w w' ∧ c_D w' 123) := by
  have hM : am_P[9]? = some zm_X1_waysToLack := rfl
  have hn6 : T.2.2.1 ≤ 6 := hvT.1
  have h64 : 2 ^ T.2.2.1 ≤ 64 := by have := Nat.pow_le_pow_right (show 0 < 2 by decide) hn6; omega
  have hpA : n_pop A ≤ T.2.2.1 := by have := i_popd (show T.2.2.1 < 7 by omega) hA2 (g := 0) (by omega) (by rw [i_and, Nat.zero_and]; rfl); omega
  refine ar_aload_n (pc' := 1) hM rfl rfl rfl ?_
  refine ar_aload_n (pc' := 2) hM rfl rfl rfl ?_
  refine ar_getfield (pc' := 5) hM rfl hT.o rfl rfl ?_
  refine ar_virtual (pc' := 8) (k3 := 0) (k4 := 0) hM rfl rfl hN.o ⟨rfl, (by decide)⟩ rfl rfl (by obtain ⟨so, ss, sl, g0, g1, g2, g3, -⟩ := hN; exact c_countPresent _ 16 (by decide) so ss sl _ _ _ g0 g1 g2 g3 (nI T.2.2.1)) (fun r5 w5 q5 => ?_)
  obtain ⟨rfl, q5w⟩ := q5
  rw [q5w]
  rw [show nI T.2.2.1 - i_bc S.2.2.2.2.2.1 = nI (T.2.2.1 - n_pop A) from by rw [hA, i_bc_tab A (by omega), pk_sub hpA]]
  show am_Go 9 (8, [.ref 118, .ref 11, .ref 16, .int m, .int (nI x), .float 0, .float 0, .float 0, .float 0], [.int (nI (T.2.2.1 - n_pop A))], w, 0, 0) _
  refine ar_istore (pc' := 10) hM rfl rfl rfl rfl ?_
  refine ar_iconst (x := 0) (pc' := 11) hM rfl (by decide) rfl ?_
  refine ar_istore (pc' := 13) hM rfl rfl rfl rfl ?_
  refine ar_iconst (x := 0) (pc' := 14) hM rfl (by decide) rfl ?_
  refine ar_istore (pc' := 16) hM rfl rfl rfl rfl ?_
  have loop : ∀ (dj j : Nat) (y : Int32) (wj : am_W) (z8 : Value), dj + j = 2 ^ T.2.2.1 → (y = m_ways T S A m x j) → (c_D wj 123) → (am_same (rg 123 8) w wj) → am_Go 9 (16, [.ref 118, .ref 11, .ref 16, .int m, .int (nI x), .int (nI (T.2.2.1 - n_pop A)), .int y, .int (nI j), z8], [], wj, 0, 0) (fun res w' => res = some (.int (m_ways T S A m x (2 ^ T.2.2.1))) ∧ am_same (rg 123 8) w w' ∧ c_D w' 123) := by
    intro dj
    induction dj with
    | zero =>
      intro j y wj z8 hj hx hD hsm
      refine ar_iload (pc' := 18) hM rfl rfl rfl ?_
      refine ar_iconst (x := 1) (pc' := 19) hM rfl (by decide) rfl ?_
      refine ar_aload_n (pc' := 20) hM rfl rfl rfl ?_
      refine ar_getfield (pc' := 23) hM rfl (hsm.at (by unfold rg; omega) hT.o) rfl rfl ?_
      refine ar_ishl (pc' := 24) hM rfl rfl ?_
      rw [show (1 <<< ((nI T.2.2.1) &&& 31) : Int32) = nI (2 ^ T.2.2.1) from i_shl1 _ hn6]
      refine ar_icmp_ge (pc' := 27) hM rfl rfl (fun _ => ?_) (fun q => absurd (nI_le (a := 2 ^ T.2.2.1) (b := j) (by omega) (by omega)) q)
      refine ar_iload (pc' := 116) hM rfl rfl rfl ?_
      refine ar_ireturn hM rfl (Or.inl rfl) ?_
      exact ⟨by rw [hx, show j = 2 ^ T.2.2.1 by omega], hsm, hD⟩
    | succ dj ih =>
      intro j y wj z8 hj hx hD hsm
      refine ar_iload (pc' := 18) hM rfl rfl rfl ?_
      refine ar_iconst (x := 1) (pc' := 19) hM rfl (by decide) rfl ?_
      refine ar_aload_n (pc' := 20) hM rfl rfl rfl ?_
      refine ar_getfield (pc' := 23) hM rfl (hsm.at (by unfold rg; omega) hT.o) rfl rfl ?_
      refine ar_ishl (pc' := 24) hM rfl rfl ?_
      rw [show (1 <<< ((nI T.2.2.1) &&& 31) : Int32) = nI (2 ^ T.2.2.1) from i_shl1 _ hn6]
      refine ar_icmp_ge (pc' := 27) hM rfl rfl (fun q => absurd q (nI_ge (a := j) (b := 2 ^ T.2.2.1) (by omega) (by omega))) (fun _ => ?_)
      refine ar_iload (pc' := 29) hM rfl rfl rfl ?_
      refine ar_aload_n (pc' := 30) hM rfl rfl rfl ?_
      refine ar_getfield (pc' := 33) hM rfl (hsm.at (by unfold rg; omega) hN.o) rfl rfl ?_
      refine ar_iand (pc' := 34) hM rfl rfl ?_
      refine ar_if_ne (pc' := 37) hM rfl rfl (fun c34 => ?_) (fun c34 => ?_)
      · refine ar_iinc (z := nI (j + 1)) (pc' := 111) hM rfl rfl (nI_1 _) rfl rfl rfl ?_
        refine ar_goto hM rfl ?_
        exact ih (j + 1) y wj (z8) (by omega) (by show _ = if _ then _ else _; rw [if_neg (fun q => c34 q.1)]; exact hx) hD hsm
      · refine ar_aload_n (pc' := 38) hM rfl rfl rfl ?_
        refine ar_getfield (pc' := 41) hM rfl (hsm.at (by unfold rg; omega) hc0) rfl rfl ?_
        refine ar_aload_n (pc' := 42) hM rfl rfl rfl ?_
        refine ar_aload_n (pc' := 43) hM rfl rfl rfl ?_
        refine ar_iload (pc' := 45) hM rfl rfl rfl ?_
        refine ar_virtual (pc' := 48) (k3 := 0) (k4 := 0) hM rfl rfl (hD.o) ⟨rfl, (by decide)⟩ rfl rfl (k_hear _ 123 11 16 T S hvT hvS.2.2.2 (hT.same hsm (fun b h1 h2 => by unfold rg; omega)) (hN.same hsm (fun b h1 h2 => by unfold rg; omega)) hD (by decide) (by decide) (by decide) (by omega) (by omega) (by omega) (nI j)) (fun r45 w45 q45 => ?_)
        obtain ⟨rfl, hH2, q45s⟩ := q45
        have hsm2 : am_same (rg 123 8) w w45 := hsm.tr q45s
        show am_Go 9 (48, [.ref 118, .ref 11, .ref 16, .int m, .int (nI x), .int (nI (T.2.2.1 - n_pop A)), .int y, .int (nI j), z8], [], w45, 0, 0) _
        refine ar_aload_n (pc' := 49) hM rfl rfl rfl ?_
        refine ar_getfield (pc' := 52) hM rfl (hsm2.at (by unfold rg; omega) hc0) rfl rfl ?_
        refine ar_aload_n (pc' := 53) hM rfl rfl rfl ?_
        refine ar_aload_n (pc' := 54) hM rfl rfl rfl ?_
        refine ar_virtual (pc' := 57) (k3 := 0) (k4 := 0) hM rfl rfl (hH2.d.o) ⟨rfl, (by decide)⟩ rfl rfl (k_pour _ 123 11 16 T S (nI j) hvT hvS (hT.same hsm2 (fun b h1 h2 => by unfold rg; omega)) (hN.same hsm2 (fun b h1 h2 => by unfold rg; omega)) hH2 (by decide) (by decide) (by decide) (by omega) (by omega) (by omega)) (fun r54 w54 q54 => ?_)
        obtain ⟨rfl, hL3, q54s⟩ := q54
        have hsm3 : am_same (rg 123 8) w w54 := hsm2.tr q54s
        obtain ⟨dw, ds, dg, dd, dl, df, dv, ⟨hd0, hd1, hd2, hd3, hd4, hd5, hd6, hd7⟩, hdl⟩ := id hL3
        show am_Go 9 (57, [.ref 118, .ref 11, .ref 16, .int m, .int (nI x), .int (nI (T.2.2.1 - n_pop A)), .int y, .int (nI j), z8], [], w54, 0, 0) _
        refine ar_aload_n (pc' := 58) hM rfl rfl rfl ?_
        refine ar_getfield (pc' := 61) hM rfl (hsm3.at (by unfold rg; omega) hc0) rfl rfl ?_
        refine ar_getfield (pc' := 64) hM rfl hd0 rfl rfl ?_
        refine ar_aload_n (pc' := 65) hM rfl rfl rfl ?_
        refine ar_getfield (pc' := 68) hM rfl (hsm3.at (by unfold rg; omega) hT.o) rfl rfl ?_
        refine ar_static (pc' := 71) (k3 := 0) (k4 := 0) hM rfl (by decide) rfl rfl (c_sum _ 128 _ hd5 _ hn6) (fun r68 w68 q68 => ?_)
        obtain ⟨rfl, q68w⟩ := q68
        rw [q68w]
        rw [show i_sum dl T.2.2.1 = i_sum (m_lk T S (nI j)) T.2.2.1 from i_sum_congr (fun h hh => (hdl h hh).2.2.2.2.1)]
        show am_Go 9 (71, [.ref 118, .ref 11, .ref 16, .int m, .int (nI x), .int (nI (T.2.2.1 - n_pop A)), .int y, .int (nI j), z8], [.int (i_sum (m_lk T S (nI j)) T.2.2.1)], w54, 0, 0) _
        refine ar_iload_n (pc' := 72) hM rfl rfl rfl ?_
        refine ar_icmp_lt (pc' := 75) hM rfl rfl (fun c72 => ?_) (fun c72 => ?_)
        · refine ar_iinc (z := nI (j + 1)) (pc' := 111) hM rfl rfl (nI_1 _) rfl rfl rfl ?_
          refine ar_goto hM rfl ?_
          exact ih (j + 1) y w54 (z8) (by omega) (by show _ = if _ then _ else _; rw [if_neg (fun q => absurd q.2 (Int32.not_le.mpr c72))]; exact hx) hL3.d hsm3
        · have hpp := i_popd (show T.2.2.1 < 7 by omega) hA2 (g := j) (by omega) (by rw [← hA]; exact c34)
          refine ar_iload (pc' := 77) hM rfl rfl rfl ?_
          refine ar_static (pc' := 80) (k3 := 0) (k4 := 0) hM rfl (by decide) rfl rfl (c_bitCount _ (nI j)) (fun r77 w77 q77 => ?_)
          obtain ⟨rfl, q77w⟩ := q77
          rw [q77w, i_bc_tab j (by omega)]
          show am_Go 9 (80, [.ref 118, .ref 11, .ref 16, .int m, .int (nI x), .int (nI (T.2.2.1 - n_pop A)), .int y, .int (nI j), z8], [.int (nI (n_pop j))], w54, 0, 0) _
          refine ar_istore (pc' := 82) hM rfl rfl rfl rfl ?_
          refine ar_iload (pc' := 84) hM rfl rfl rfl ?_
          refine ar_iload (pc' := 86) hM rfl rfl rfl ?_
          refine ar_iload (pc' := 88) hM rfl rfl rfl ?_
          refine ar_static (pc' := 91) (k3 := 0) (k4 := 0) hM rfl (by decide) rfl rfl (c_power _ (nI x) (n_pop j) (by omega)) (fun r88 w88 q88 => ?_)
          obtain ⟨rfl, q88w⟩ := q88
          rw [q88w]
          show am_Go 9 (91, [.ref 118, .ref 11, .ref 16, .int m, .int (nI x), .int (nI (T.2.2.1 - n_pop A)), .int y, .int (nI j), .int (nI (n_pop j))], [.int (i_pow (nI x) (n_pop j)), .int y], w54, 0, 0) _
          refine ar_bipush (x := 10) (pc' := 93) hM rfl (by decide) rfl ?_
          refine ar_iload (pc' := 95) hM rfl rfl rfl ?_
          refine ar_isub (pc' := 96) hM rfl rfl ?_
          rw [show (10 - (nI x) : Int32) = nI (10 - x) from (pk_sub (a := 10) hx10)]
          refine ar_iload (pc' := 98) hM rfl rfl rfl ?_
          refine ar_iload (pc' := 100) hM rfl rfl rfl ?_
          refine ar_isub (pc' := 101) hM rfl rfl ?_
          rw [show ((nI (T.2.2.1 - n_pop A)) - (nI (n_pop j)) : Int32) = nI (T.2.2.1 - n_pop A - n_pop j) from (pk_sub (by omega))]
          refine ar_static (pc' := 104) (k3 := 0) (k4 := 0) hM rfl (by decide) rfl rfl (c_power _ (nI (10 - x)) (T.2.2.1 - n_pop A - n_pop j) (by omega)) (fun r101 w101 q101 => ?_)
          obtain ⟨rfl, q101w⟩ := q101
          rw [q101w]
          show am_Go 9 (104, [.ref 118, .ref 11, .ref 16, .int m, .int (nI x), .int (nI (T.2.2.1 - n_pop A)), .int y, .int (nI j), .int (nI (n_pop j))], [.int (i_pow (nI (10 - x)) (T.2.2.1 - n_pop A - n_pop j)), .int (i_pow (nI x) (n_pop j)), .int y], w54, 0, 0) _
          refine ar_imul (pc' := 105) hM rfl rfl ?_
          refine ar_iadd (pc' := 106) hM rfl rfl ?_
          refine ar_istore (pc' := 108) hM rfl rfl rfl rfl ?_
          refine ar_iinc (z := nI (j + 1)) (pc' := 111) hM rfl rfl (nI_1 _) rfl rfl rfl ?_
          refine ar_goto hM rfl ?_
          exact ih (j + 1) (y + ((i_pow (nI x) (n_pop j)) * (i_pow (nI (10 - x)) (T.2.2.1 - n_pop A - n_pop j)))) w54 (.int (nI (n_pop j))) (by omega) (by show _ = if _ then _ else _; rw [if_pos ⟨c34, Int32.not_lt.mp c72⟩, hx]) hL3.d hsm3
  exact loop (2 ^ T.2.2.1) 0 0 w (.float 0) (by omega) rfl hD am_same.rf
set_option maxRecDepth 100000 in
set_option maxHeartbeats 4000000 in
theorem k_happen (w : am_W) (T : p_D) (S1 : s_S) (rc fr : Int32) (sd : Int64) (hvT : v_T T) (hvS1 : v_S T.2.2.1 S1) (hT : c_T w 11 T) (hS1 : c_S w 119 T.2.2.1 S1) (hD : c_D w 123) (hc0 : w[118]? = some (.inr (1, [.ref 119, .ref 123, .ref 131, .ref 132, .int rc, .int fr, .long sd]))) (v : Nat) (hv : v < 18) : am_Go 11 (0, [.ref 118, .ref 11, .int (nI v), .float 0], [], w, 0, 0) (fun res w' => res = some (.int (m_hap T S1 v).2) ∧ c_S w' 119 T.2.2.1 (m_hap T S1 v).1 ∧ am_same (rg 119 12) w w' ∧ c_D w' 123) := by
  have hM : am_P[11]? = some zm_X1_happen := rfl
  have hn6 : T.2.2.1 ≤ 6 := hvT.1
  refine ar_iload_n (pc' := 1) hM rfl rfl rfl ?_
  refine ar_bipush (x := 12) (pc' := 3) hM rfl (by decide) rfl ?_
  refine ar_icmp_lt (pc' := 6) hM rfl rfl (fun c3 => ?_) (fun c3 => ?_)
  · refine ar_iload_n (pc' := 34) hM rfl rfl rfl ?_
    refine ar_bipush (x := 6) (pc' := 36) hM rfl (by decide) rfl ?_
    refine ar_irem (pc' := 37) hM rfl (by decide) rfl ?_
    rw [show ((nI v) - (nI v) / 6 * 6 : Int32) = nI (v % 6) from (pk_rem (d := 6) (by omega) (by decide) (by decide))]
    refine ar_istore_n (pc' := 38) hM rfl rfl rfl rfl ?_
    refine ar_iload_n (pc' := 39) hM rfl rfl rfl ?_
    refine ar_aload_n (pc' := 40) hM rfl rfl rfl ?_
    refine ar_getfield (pc' := 43) hM rfl hT.o rfl rfl ?_
    refine ar_icmp_ge (pc' := 46) hM rfl rfl (fun c43 => ?_) (fun c43 => ?_)
    · refine ar_iconst (x := 0) (pc' := 72) hM rfl (by decide) rfl ?_
      refine ar_ireturn hM rfl (Or.inl rfl) ?_
      have e : m_hap T S1 v = (S1, 0) := by unfold m_hap; rw [if_neg (fun q => absurd c3 (nI_nlt (b := 12) q (by omega))), if_neg (fun q => absurd c43 (nI_ge q (by omega)))]
      rw [e]
      exact ⟨rfl, hS1, am_same.rf, hD⟩
    · refine ar_iload_n (pc' := 47) hM rfl rfl rfl ?_
      refine ar_bipush (x := 6) (pc' := 49) hM rfl (by decide) rfl ?_
      refine ar_icmp_ge (pc' := 52) hM rfl rfl (fun c49 => ?_) (fun c49 => ?_)
      · refine ar_aload_n (pc' := 64) hM rfl rfl rfl ?_
        refine ar_getfield (pc' := 67) hM rfl hc0 rfl rfl ?_
        refine ar_iload_n (pc' := 68) hM rfl rfl rfl ?_
        refine ar_virtual (pc' := 71) (k3 := 0) (k4 := 0) hM rfl rfl (hS1.o) ⟨rfl, (by decide)⟩ rfl rfl (k_turnAway _ 119 _ S1 hS1 (by decide) (nI (v % 6))) (fun r68 w68 q68 => ?_)
        obtain ⟨rfl, hS2, q68s⟩ := q68
        have hsm2 : am_same (rg 119 12) w w68 := q68s.mono (fun b hb => by unfold rg at *; omega)
        have hD2 := hD.same q68s (fun b h1 h2 => by unfold rg; omega)
        show am_Go 11 (71, [.ref 118, .ref 11, .int (nI v), .int (nI (v % 6))], [], w68, 0, 0) _
        refine ar_iconst (x := 0) (pc' := 72) hM rfl (by decide) rfl ?_
        refine ar_ireturn hM rfl (Or.inl rfl) ?_
        have e : m_hap T S1 v = (m_away S1 (nI (v % 6)), 0) := by unfold m_hap; rw [if_neg (fun q => absurd c3 (nI_nlt (b := 12) q (by omega))), if_pos (by rcases Nat.lt_or_ge (v % 6) T.2.2.1 with q | q; exact q; exact absurd (nI_le q (by omega)) c43), if_neg (fun q => absurd c49 (nI_ge (b := 6) q (by decide)))]
        rw [e]
        exact ⟨rfl, hS2, hsm2, hD2⟩
      · refine ar_aload_n (pc' := 53) hM rfl rfl rfl ?_
        refine ar_getfield (pc' := 56) hM rfl hc0 rfl rfl ?_
        refine ar_iload_n (pc' := 57) hM rfl rfl rfl ?_
        refine ar_virtual (pc' := 60) (k3 := 0) (k4 := 0) hM rfl rfl (hS1.o) ⟨rfl, (by decide)⟩ rfl rfl (k_giveSalt _ 119 _ S1 hS1 (by decide) (nI (v % 6))) (fun r57 w57 q57 => ?_)
        obtain ⟨rfl, hS2, q57s⟩ := q57
        have hsm2 : am_same (rg 119 12) w w57 := q57s.mono (fun b hb => by unfold rg at *; omega)
        have hD2 := hD.same q57s (fun b h1 h2 => by unfold rg; omega)
        show am_Go 11 (60, [.ref 118, .ref 11, .int (nI v), .int (nI (v % 6))], [], w57, 0, 0) _
        refine ar_goto hM rfl ?_
        refine ar_iconst (x := 0) (pc' := 72) hM rfl (by decide) rfl ?_
        refine ar_ireturn hM rfl (Or.inl rfl) ?_
        have e : m_hap T S1 v = (m_salt S1 (nI (v % 6)), 0) := by unfold m_hap; rw [if_neg (fun q => absurd c3 (nI_nlt (b := 12) q (by omega))), if_pos (by rcases Nat.lt_or_ge (v % 6) T.2.2.1 with q | q; exact q; exact absurd (nI_le q (by omega)) c43), if_pos (by rcases Nat.lt_or_ge v 6 with q | q; exact q; exact absurd (nI_le (a := 6) q (by omega)) c49)]
        rw [e]
        exact ⟨rfl, hS2, hsm2, hD2⟩
  · refine ar_aload_n (pc' := 7) hM rfl rfl rfl ?_
    refine ar_getfield (pc' := 10) hM rfl hc0 rfl rfl ?_
    refine ar_aload_n (pc' := 11) hM rfl rfl rfl ?_
    refine ar_aload_n (pc' := 12) hM rfl rfl rfl ?_
    refine ar_getfield (pc' := 15) hM rfl hc0 rfl rfl ?_
    refine ar_virtual (pc' := 18) (k3 := 0) (k4 := 0) hM rfl rfl (hD.o) ⟨rfl, (by decide)⟩ rfl rfl (k_pass _ 123 11 119 T S1 hvT hvS1 hT hS1 hD (by decide) (by decide) (by decide) (by omega) (by omega) (by omega)) (fun r15 w15 q15 => ?_)
    obtain ⟨rfl, hS2, hL2, q15s⟩ := q15
    have hsm2 : am_same (rg 119 12) w w15 := q15s.mono (fun b hb => by rcases hb with hb | hb <;> unfold rg at * <;> omega)
    obtain ⟨dw, ds, dg, dd, dl, df, dv, ⟨hd0, hd1, hd2, hd3, hd4, hd5, hd6, hd7⟩, hdl⟩ := id hL2
    show am_Go 11 (18, [.ref 118, .ref 11, .int (nI v), .float 0], [], w15, 0, 0) _
    refine ar_aload_n (pc' := 19) hM rfl rfl rfl ?_
    refine ar_getfield (pc' := 22) hM rfl (hsm2.at (by unfold rg; omega) hc0) rfl rfl ?_
    refine ar_getfield (pc' := 25) hM rfl hd0 rfl rfl ?_
    refine ar_aload_n (pc' := 26) hM rfl rfl rfl ?_
    refine ar_getfield (pc' := 29) hM rfl (hsm2.at (by unfold rg; omega) hT.o) rfl rfl ?_
    refine ar_static (pc' := 32) (k3 := 0) (k4 := 0) hM rfl (by decide) rfl rfl (c_sum _ 128 _ hd5 _ hn6) (fun r29 w29 q29 => ?_)
    obtain ⟨rfl, q29w⟩ := q29
    rw [q29w]
    rw [show i_sum dl T.2.2.1 = i_sum (m_lk T S1 0) T.2.2.1 from i_sum_congr (fun h hh => (hdl h hh).2.2.2.2.1)]
    show am_Go 11 (32, [.ref 118, .ref 11, .int (nI v), .float 0], [.int (i_sum (m_lk T S1 0) T.2.2.1)], w15, 0, 0) _
    refine ar_ireturn hM rfl (Or.inl rfl) ?_
    have e : m_hap T S1 v = (m_pass T S1, i_sum (m_lk T S1 0) T.2.2.1) := by unfold m_hap; rw [if_pos (by rcases Nat.lt_or_ge v 12 with q | q; exact absurd (nI_lt (b := 12) q (by decide)) c3; exact q)]
    rw [e]
    exact ⟨rfl, hS2, hsm2, hL2.d⟩
set_option maxRecDepth 100000 in
set_option maxHeartbeats 4000000 in
theorem k_chance (w : am_W) (T : p_D) (S : s_S) (rc fr : Int32) (sd : Int64) (hvT : v_T T) (hvS : v_S T.2.2.1 S) (hT : c_T w 11 T) (hN : c_S w 16 T.2.2.1 S) (hc0 : w[118]? = some (.inr (1, [.ref 119, .ref 123, .ref 131, .ref 132, .int rc, .int fr, .long sd]))) (hR : c_R w 119) (hD : c_D w 123) (k : Nat) (hk : k ≤ 30) (hdy : S.2.2.2.2.2.2 + 100 < 2 ^ 30) (s0 : Int64) (vf : Int64 → Nat) (sf : Int64 → Int64) (hv18 : ∀ x, vf x < 18) (hsf : ∀ x : Int64, x * 6364136223846793005 + 1442695040888963407 = sf x) (hvf : ∀ x : Int64, Int64.toInt32 ((Int64.toUInt64 x >>> (Int64.toUInt64 (Int32.toInt64 33) &&& Int64.toUInt64 63)).toInt64 - (Int64.toUInt64 x >>> (Int64.toUInt64 (Int32.toInt64 33) &&& Int64.toUInt64 63)).toInt64 / 18 * 18) = nI (vf x)) : am_Go 10 (0, [.ref 118, .ref 11, .ref 16, .int (nI k), .long s0, .float 0, .float 0, .float 0], [], w, 0, 0) (fun res w' => res = some (.int (m_wk vf sf T S s0 k).2.1) ∧ w'[118]? = some (.inr (1, [.ref 119, .ref 123, .ref 131, .ref 132, .int rc, .int fr, .long (m_wk vf sf T S s0 k).2.2])) ∧ am_same (rg 118 13) w w' ∧ c_R w' 119 ∧ c_D w' 123) := by
  have hM : am_P[10]? = some zm_X1_lackedByChance := rfl
  have hn6 : T.2.2.1 ≤ 6 := hvT.1
  obtain ⟨x9, y9, z9, hr9⟩ := hR.o
  refine ar_aload_n (pc' := 1) hM rfl rfl rfl ?_
  refine ar_getfield (pc' := 4) hM rfl hc0 rfl rfl ?_
  refine ar_aload_n (pc' := 5) hM rfl rfl rfl ?_
  refine ar_virtual (pc' := 8) (k3 := 0) (k4 := 0) hM rfl rfl hr9 ⟨rfl, (by decide)⟩ rfl rfl (k_copyR _ 119 16 _ S hR hN hn6 (by decide) (by decide) (by omega)) (fun r5 w5 q5 => ?_)
  obtain ⟨rfl, hS1, hsm1⟩ := q5
  show am_Go 10 (8, [.ref 118, .ref 11, .ref 16, .int (nI k), .long s0, .float 0, .float 0, .float 0], [], w5, 0, 0) _
  refine ar_aload_n (pc' := 9) hM rfl rfl rfl ?_
  refine ar_lload (pc' := 11) hM rfl rfl rfl ?_
  refine ar_putfield (pc' := 14) hM rfl (hsm1.at (by unfold rg; omega) hc0) (Nat.le_of_ble_eq_true rfl) rfl (by decide) rfl ?_
  show am_Go 10 (14, [.ref 118, .ref 11, .ref 16, .int (nI k), .long s0, .float 0, .float 0, .float 0], [], (w5.set 118 (.inr (1, [.ref 119, .ref 123, .ref 131, .ref 132, .int rc, .int fr, .long s0]))), 0, 0) _
  refine ar_iconst (x := 0) (pc' := 15) hM rfl (by decide) rfl ?_
  refine ar_istore (pc' := 17) hM rfl rfl rfl rfl ?_
  refine ar_iconst (x := 0) (pc' := 18) hM rfl (by decide) rfl ?_
  refine ar_istore (pc' := 20) hM rfl rfl rfl rfl ?_
  have loop : ∀ (dj j : Nat) (y : Int32) (wj : am_W), dj + j = k → (y = (m_wk vf sf T S s0 j).2.1) → (c_S wj 119 T.2.2.1 (m_wk vf sf T S s0 j).1) → (c_D wj 123) → (wj[118]? = some (.inr (1, [.ref 119, .ref 123, .ref 131, .ref 132, .int rc, .int fr, .long ((m_wk vf sf T S s0 j).2.2)]))) → (am_same (rg 118 13) w wj) → am_Go 10 (20, [.ref 118, .ref 11, .ref 16, .int (nI k), .long s0, .float 0, .int y, .int (nI j)], [], wj, 0, 0) (fun res w' => res = some (.int (m_wk vf sf T S s0 k).2.1) ∧ w'[118]? = some (.inr (1, [.ref 119, .ref 123, .ref 131, .ref 132, .int rc, .int fr, .long (m_wk vf sf T S s0 k).2.2])) ∧ am_same (rg 118 13) w w' ∧ c_R w' 119 ∧ c_D w' 123) := by
    intro dj
    induction dj with
    | zero =>
      intro j y wj hj hx hS hD hO hsm
      refine ar_iload (pc' := 22) hM rfl rfl rfl ?_
      refine ar_iload_n (pc' := 23) hM rfl rfl rfl ?_
      refine ar_icmp_ge (pc' := 26) hM rfl rfl (fun _ => ?_) (fun q => absurd (nI_le (a := k) (b := j) (by omega) (by omega)) q)
      refine ar_iload (pc' := 72) hM rfl rfl rfl ?_
      refine ar_ireturn hM rfl (Or.inl rfl) ?_
      exact ⟨by rw [hx, show j = k by omega], by rw [show k = j by omega]; exact hO, hsm, hS.r, hD⟩
    | succ dj ih =>
      intro j y wj hj hx hS hD hO hsm
      have hvj := m_wk_v (vf := vf) (sf := sf) (T := T) (sd := s0) hvS j (by omega)
      refine ar_iload (pc' := 22) hM rfl rfl rfl ?_
      refine ar_iload_n (pc' := 23) hM rfl rfl rfl ?_
      refine ar_icmp_ge (pc' := 26) hM rfl rfl (fun q => absurd q (nI_ge (a := j) (b := k) (by omega) (by omega))) (fun _ => ?_)
      refine ar_aload_n (pc' := 27) hM rfl rfl rfl ?_
      refine ar_aload_n (pc' := 28) hM rfl rfl rfl ?_
      refine ar_getfield (pc' := 31) hM rfl hO rfl rfl ?_
      refine ar_ldc2_w (x := 6364136223846793005) (pc' := 34) hM rfl (by decide) rfl ?_
      refine ar_lmul (pc' := 35) hM rfl rfl ?_
      refine ar_ldc2_w (x := 1442695040888963407) (pc' := 38) hM rfl (by decide) rfl ?_
      refine ar_ladd (pc' := 39) hM rfl rfl ?_
      rw [show ((((m_wk vf sf T S s0 j).2.2) * 6364136223846793005) + 1442695040888963407 : Int64) = (sf (m_wk vf sf T S s0 j).2.2) from (hsf _)]
      refine ar_putfield (pc' := 42) hM rfl hO (Nat.le_of_ble_eq_true rfl) rfl (by decide) rfl ?_
      show am_Go 10 (42, [.ref 118, .ref 11, .ref 16, .int (nI k), .long s0, .float 0, .int y, .int (nI j)], [], (wj.set 118 (.inr (1, [.ref 119, .ref 123, .ref 131, .ref 132, .int rc, .int fr, .long (sf (m_wk vf sf T S s0 j).2.2)]))), 0, 0) _
      refine ar_iload (pc' := 44) hM rfl rfl rfl ?_
      refine ar_aload_n (pc' := 45) hM rfl rfl rfl ?_
      refine ar_aload_n (pc' := 46) hM rfl rfl rfl ?_
      refine ar_aload_n (pc' := 47) hM rfl rfl rfl ?_
      refine ar_getfield (pc' := 50) hM rfl (am_gs hO) rfl rfl ?_
      refine ar_bipush (x := 33) (pc' := 52) hM rfl (by decide) rfl ?_
      refine ar_lushr (pc' := 53) hM rfl rfl ?_
      refine ar_ldc2_w (x := 18) (pc' := 56) hM rfl (by decide) rfl ?_
      refine ar_lrem (pc' := 57) hM rfl (by decide) rfl ?_
      refine ar_l2i (pc' := 58) hM rfl rfl ?_
      rw [show (Int64.toInt32 (((Int64.toUInt64 (sf (m_wk vf sf T S s0 j).2.2) >>> (Int64.toUInt64 (Int32.toInt64 33) &&& Int64.toUInt64 63)).toInt64) - ((Int64.toUInt64 (sf (m_wk vf sf T S s0 j).2.2) >>> (Int64.toUInt64 (Int32.toInt64 33) &&& Int64.toUInt64 63)).toInt64) / 18 * 18) : Int32) = nI (vf (sf (m_wk vf sf T S s0 j).2.2)) from (hvf _)]
      refine ar_virtual (pc' := 61) (k3 := 0) (k4 := 0) hM rfl rfl (am_gs hO) ⟨rfl, (by decide)⟩ rfl rfl (k_happen _ T (m_wk vf sf T S s0 j).1 rc fr (sf (m_wk vf sf T S s0 j).2.2) hvT hvj.1 (hT.same (am_same.set hsm (by unfold rg; omega)) (fun b h1 h2 => by unfold rg; omega)) (hS.same (am_same.set (X := rg 118 1) am_same.rf (by unfold rg; omega)) (fun b h1 h2 => by unfold rg; omega)) (hD.same (am_same.set (X := rg 118 1) am_same.rf (by unfold rg; omega)) (fun b h1 h2 => by unfold rg; omega)) (am_gs hO) (vf (sf (m_wk vf sf T S s0 j).2.2)) (hv18 _)) (fun r58 w58 q58 => ?_)
      obtain ⟨rfl, hS3, q58s, hD3⟩ := q58
      have hsm3 : am_same (rg 118 13) w w58 := (am_same.set hsm (by unfold rg; omega)).tr (q58s.mono (fun b hb => by unfold rg at *; omega))
      have hO3 : w58[118]? = some (.inr (1, [.ref 119, .ref 123, .ref 131, .ref 132, .int rc, .int fr, .long (sf (m_wk vf sf T S s0 j).2.2)])) := q58s.at (by unfold rg; omega) (am_gs hO)
      show am_Go 10 (61, [.ref 118, .ref 11, .ref 16, .int (nI k), .long s0, .float 0, .int y, .int (nI j)], [.int ((m_hap T (m_wk vf sf T S s0 j).1 (vf (sf (m_wk vf sf T S s0 j).2.2))).2), .int y], w58, 0, 0) _
      refine ar_iadd (pc' := 62) hM rfl rfl ?_
      refine ar_istore (pc' := 64) hM rfl rfl rfl rfl ?_
      refine ar_iinc (z := nI (j + 1)) (pc' := 67) hM rfl rfl (nI_1 _) rfl rfl rfl ?_
      refine ar_goto hM rfl ?_
      exact ih (j + 1) (y + ((m_hap T (m_wk vf sf T S s0 j).1 (vf (sf (m_wk vf sf T S s0 j).2.2))).2)) w58 (by omega) (by rw [hx]; rfl) hS3 hD3 hO3 hsm3
  exact loop (k) 0 0 (w5.set 118 (.inr (1, [.ref 119, .ref 123, .ref 131, .ref 132, .int rc, .int fr, .long s0]))) (by omega) rfl (hS1.same (am_same.set (X := rg 118 1) am_same.rf (by unfold rg; omega)) (fun b h1 h2 => by unfold rg; omega)) ((hD.same hsm1 (fun b h1 h2 => by unfold rg; omega)).same (am_same.set (X := rg 118 1) am_same.rf (by unfold rg; omega)) (fun b h1 h2 => by unfold rg; omega)) (am_gs (hsm1.at (by unfold rg; omega) hc0)) (am_same.set (hsm1.mono (fun b hb => by unfold rg at *; omega)) (by unfold rg; omega))
