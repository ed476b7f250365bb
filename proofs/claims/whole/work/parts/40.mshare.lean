/-! the reference whole: shares, rests; how large numbers are -/
theorem i_fg_add {a b : Nat} {x y : Int32} (h : i_fg a x) (h' : i_fg b y) : i_fg (a + b) (x + y) := by
  obtain ⟨p, hp, rfl⟩ := h
  obtain ⟨q, hq, rfl⟩ := h'
  exact ⟨p + q, by omega, nI_add p q⟩
theorem i_fg_mono {a b : Nat} {x : Int32} (h : i_fg a x) (hab : a ≤ b) : i_fg b x := by
  obtain ⟨p, hp, e⟩ := h
  exact ⟨p, by omega, e⟩
theorem i_fg_0 (a : Nat) : i_fg a 0 := ⟨0, Nat.zero_le _, rfl⟩
theorem i_fg_if {a : Nat} {P : Prop} [Decidable P] {x y : Int32} (h : i_fg a x) (h' : i_fg a y) : i_fg a (if P then x else y) := by
  split
  · exact h
  · exact h'
theorem i_fg_min {a b : Nat} {x y : Int32} (ha : a < 2 ^ 31) (hb : b < 2 ^ 31) (h : i_fg a x) (h' : i_fg b y) : ∃ p q, p ≤ a ∧ q ≤ p ∧ x = nI p ∧ i_min x y = nI q := by
  obtain ⟨p, hp, rfl⟩ := h
  obtain ⟨q, hq, rfl⟩ := h'
  unfold i_min
  by_cases e : nI q < nI p
  · rw [if_pos e]
    have := (nI_ltI (by omega) (by omega)).mp e
    exact ⟨p, q, hp, by omega, rfl, rfl⟩
  · rw [if_neg e]
    exact ⟨p, p, hp, Nat.le_refl _, rfl, rfl⟩
theorem i_fg_wbk {x k : Int32} (h : i_fg 9 x) : i_fg 18 (i_wbk x k) := by
  unfold i_wbk
  obtain ⟨p, hp, rfl⟩ := h
  refine i_fg_if ⟨p + 3, by omega, nI_add p 3⟩ (i_fg_if ⟨2 * p, by omega, pk_mul 2 p⟩ ⟨p, by omega, rfl⟩)
def v_G (T : p_D) (S : s_S) : Prop := (v_T T ∧ v_F T) ∧ v_S T.2.2.1 S ∧ ∀ h, h < T.2.2.1 → i_fg 9 (S.2.2.1 h)
theorem m_wt_fg {T : p_D} {S : s_S} (hv : v_G T S) (g : Int32) {h : Nat} (hh : h < T.2.2.1) : i_fg 26 (m_wt T S g h) := by
  rw [m_wt_eq]
  have hht : i_fg 3 (i_heat T.2.2.2.1 T.2.2.2.2.2.2.2 S.2.2.2.2.2.2) := by
    unfold i_heat
    by_cases q : T.2.2.2.1 = 0
    · rw [if_pos q]; exact i_fg_0 _
    · rw [if_neg q]; exact hv.1.2.2.2 _ (Nat.mod_lt _ (by omega))
  refine i_fg_if (i_fg_0 _) ?_
  exact i_fg_add (i_fg_add (i_fg_add (i_fg_wbk (hv.1.2.2.1 h hh).1) hht) (i_fg_if (a := 3) ⟨3, by omega, rfl⟩ (i_fg_0 _))) (i_fg_if (a := 2) ⟨2, by omega, rfl⟩ (i_fg_0 _))
theorem m_sy_fg {T : p_D} {S : s_S} (hv : v_G T S) (g : Int32) {h : Nat} (hh : h < T.2.2.1) : i_fg 28 (m_sy T S g h) := by
  rw [m_sy_eq]
  exact i_fg_if (i_fg_0 _) (i_fg_if (i_fg_add (m_wt_fg hv g hh) ⟨2, Nat.le_refl 2, rfl⟩) (i_fg_mono (m_wt_fg hv g hh) (by omega)))
theorem m_gv_fg {T : p_D} {S : s_S} (hv : v_G T S) (g : Int32) {h : Nat} (hh : h < T.2.2.1) : i_fg 28 (m_gv T S g h) := by
  have hp := hv.2.1.2.1 h hh
  unfold m_gv i_gv
  split
  · exact i_fg_if (i_fg_mono hv.1.2.1 (by omega)) (m_sy_fg hv g (hv.2.1.1 _ (by omega)).1)
  · exact m_sy_fg hv g (hv.2.1.1 _ (by omega)).1
theorem m_dl_fg {T : p_D} {S : s_S} (hv : v_G T S) (g : Int32) {h : Nat} (hh : h < T.2.2.1) : i_fg 26 (m_dr T S g h) ∧ i_fg 26 (m_lk T S g h) := by
  obtain ⟨p, q, hp, hq, e1, e2⟩ := i_fg_min (by omega) (by omega) (m_wt_fg hv g hh) (i_fg_add (m_gv_fg hv g hh) (hv.2.2 h hh))
  refine ⟨⟨q, by omega, e2⟩, ⟨p - q, by omega, ?_⟩⟩
  unfold m_lk i_lk i_dr
  rw [e2, e1, pk_sub hq]
theorem i_sum_fg {f : Nat → Int32} {m : Nat} : ∀ n, (∀ h, h < n → i_fg m (f h)) → i_fg (m * n) (i_sum f n)
  | 0, _ => i_fg_0 _
  | n + 1, h => by
    rw [Nat.mul_succ]
    exact i_fg_add (i_sum_fg n (fun k hk => h k (by omega))) (h n (by omega))
theorem i_b0 {y : Int32} (h : ¬ y &&& 1 = 1) : y &&& 1 = 0 := by rw [i_bit01, if_neg h]
theorem m_dby_fg {T : p_D} {S : s_S} (hv : v_G T S) (c : Int32) : i_fg 156 (m_dby T S c) := by
  have h := i_sum_fg (m := 26) T.2.2.1 (fun h hh => (m_dl_fg (S := m_set S S.2.2.2.2.1 (S.2.2.2.2.2.1 ||| (nI (2 ^ T.2.2.1) - 1) &&& (c ^^^ (-1))) S.2.2.2.2.2.2) ⟨hv.1, hv.2.1, hv.2.2⟩ 0 hh).1)
  exact i_fg_mono h (by have := hv.1.1.1; omega)
theorem i_fac2 : ∀ n, n < 7 → ∀ p, p < n → i_fg 120 (am_fac p * am_fac (n - 1 - p)) := by
  intro n hn p hp
  have h : ∀ n, n < 7 → ∀ p, p < n → am_fac p * am_fac (n - 1 - p) = nI (am_fac p * am_fac (n - 1 - p)).toNatClampNeg ∧ (am_fac p * am_fac (n - 1 - p)).toNatClampNeg ≤ 120 := by decide +kernel
  exact ⟨_, (h n hn p hp).2, (h n hn p hp).1⟩
theorem i_msub {f a b x y z : Nat} (hf : f ≤ 120) (ha : a ≤ 156) (hb : b ≤ 156) (P Q : Nat) (hP : P ≤ z) (hQ : Q ≤ z) : ∃ P' Q', P' ≤ z + 18720 ∧ Q' ≤ z + 18720 ∧ (nI P - nI Q) + nI f * (nI a - nI b) = nI P' - nI Q' := by
  refine ⟨P + f * a, Q + f * b, ?_, ?_, ?_⟩
  · have := Nat.mul_le_mul hf ha; omega
  · have := Nat.mul_le_mul hf hb; omega
  · rw [Int32.mul_sub, pk_mul, pk_mul, ← nI_add, ← nI_add]
    generalize nI P = p
    generalize nI Q = q
    generalize nI (f * a) = c
    generalize nI (f * b) = d
    grind
theorem m_add_b {T : p_D} {S : s_S} (hv : v_G T S) {h : Nat} (hh : h < T.2.2.1) : ∀ c, c ≤ 2 ^ T.2.2.1 → ∃ P Q, P ≤ c * 18720 ∧ Q ≤ c * 18720 ∧ m_add T S h c = nI P - nI Q
  | 0, _ => ⟨0, 0, Nat.zero_le _, Nat.zero_le _, by show (0 : Int32) = nI 0 - nI 0; decide⟩
  | c + 1, hc => by
    obtain ⟨P, Q, hP, hQ, e⟩ := m_add_b hv hh c (by omega)
    have hn : T.2.2.1 < 7 := by have := hv.1.1.1; omega
    have ee : m_add T S h (c + 1) = if (nI c >>> (nI h &&& 31)) &&& 1 = 0 then m_add T S h c + am_fac (n_pop c) * am_fac (T.2.2.1 - 1 - n_pop c) * (m_dby T S (nI c ||| 1 <<< (nI h &&& 31)) - m_dby T S (nI c)) else m_add T S h c := rfl
    rw [ee]
    by_cases hb : (nI c >>> (nI h &&& 31)) &&& 1 = 0
    · rw [if_pos hb]
      have hpp := i_popb T.2.2.1 hn c (by omega) h hh hb
      obtain ⟨f, hf, ef⟩ := i_fac2 T.2.2.1 hn (n_pop c) (by omega)
      obtain ⟨a, ha, ea⟩ := m_dby_fg hv (nI c ||| 1 <<< (nI h &&& 31))
      obtain ⟨b, hb', eb⟩ := m_dby_fg hv (nI c)
      rw [e, ef, ea, eb]
      obtain ⟨P', Q', h1, h2, h3⟩ := i_msub (x := 0) (y := 0) hf ha hb' P Q hP hQ
      exact ⟨P', Q', by omega, by omega, h3⟩
    · rw [if_neg hb]
      exact ⟨P, Q, Nat.le_trans hP (Nat.mul_le_mul_right _ (Nat.le_succ c)), Nat.le_trans hQ (Nat.mul_le_mul_right _ (Nat.le_succ c)), e⟩
theorem i_abs_sub {P Q : Nat} (hP : P < 2 ^ 30) (hQ : Q < 2 ^ 30) : ∃ a, a < 2 ^ 30 ∧ i_abs (nI P - nI Q) = nI a := by
  unfold i_abs
  rcases Nat.lt_or_ge P Q with h | h
  · rw [if_neg (Int32.not_le.mpr (pk_sneg hQ h))]
    exact ⟨Q - P, by omega, by rw [← pk_sub (by omega)]; generalize nI P = p; generalize nI Q = q; grind⟩
  · rw [pk_sub h, if_pos (nI_pos' (by omega))]
    exact ⟨P - Q, by omega, rfl⟩
theorem n_gcd (a b : Nat) : Nat.gcd a b = Nat.gcd b (a % b) := by rw [Nat.gcd_comm a b, Nat.gcd_rec b a, Nat.gcd_comm]
theorem i_eu_gcd : ∀ (k a b : Nat), b < 2 ^ k → a < 2 ^ 31 → b < 2 ^ 31 → ∀ f, 2 * k + 1 ≤ f → i_eu f (nI a) (nI b) = nI (Nat.gcd a b)
  | 0, a, b, hk, ha, hb, f, hf => by
    obtain ⟨f, rfl⟩ : ∃ g, f = g + 1 := ⟨f - 1, by omega⟩
    have : b = 0 := by simpa using hk
    subst this
    unfold i_eu
    rw [if_pos (show nI 0 = 0 from rfl), Nat.gcd_zero_right]
  | k + 1, a, b, hk, ha, hb, f, hf => by
    obtain ⟨f, rfl⟩ : ∃ g, f = g + 2 := ⟨f - 2, by omega⟩
    unfold i_eu
    rcases Nat.eq_zero_or_pos b with h0 | h0
    · subst h0
      rw [if_pos (show nI 0 = 0 from rfl), Nat.gcd_zero_right]
    · rw [if_neg (nI_ne0 h0 hb), pk_rem ha h0 hb]
      have hr := Nat.mod_lt a h0
      unfold i_eu
      rcases Nat.eq_zero_or_pos (a % b) with r0 | r0
      · rw [r0, if_pos (show nI 0 = 0 from rfl), n_gcd, r0, Nat.gcd_zero_right]
      · rw [if_neg (nI_ne0 r0 (by omega)), pk_rem hb r0 (by omega)]
        have h2 := Nat.mod_lt b r0
        have h3 : b % (a % b) + (a % b) ≤ b := by
          have := Nat.div_add_mod b (a % b)
          have h4 : 1 ≤ b / (a % b) := Nat.div_pos (by omega) r0
          have := Nat.mul_le_mul_left (a % b) h4
          omega
        rw [i_eu_gcd k (a % b) (b % (a % b)) (by rw [Nat.pow_succ] at hk; omega) (by omega) (by omega) f (by omega), n_gcd a b, n_gcd b (a % b)]
theorem i_com_gcd {x : Int32} {a b : Nat} (hx : i_abs x = nI a) (ha : a < 2 ^ 31) (h0 : 0 < b) (hb : b < 2 ^ 30) : i_com x (nI b) = nI (Nat.gcd a b) := by
  unfold i_com
  rw [hx, i_eu_gcd 30 a b hb ha (by omega) 64 (by omega)]
  have hg : 0 < Nat.gcd a b := Nat.gcd_pos_of_pos_right a h0
  have hl : Nat.gcd a b ≤ b := Nat.gcd_le_right a h0
  unfold i_max
  by_cases e : (1 : Int32) < nI (Nat.gcd a b)
  · rw [if_pos e]
  · rw [if_neg e]
    have : ¬ 1 < Nat.gcd a b := fun q => e (nI_lt (a := 1) q (by omega))
    rw [show Nat.gcd a b = 1 by omega]; rfl
theorem i_facs : ∀ j, j < 7 → 2 ≤ j → am_fac (j - 1) * nI j = am_fac (j + 1 - 1) := by decide
set_option maxRecDepth 100000 in
set_option maxHeartbeats 4000000 in
theorem d_facP (w : am_W) (m : Nat) (hm : m ≤ 6) (h1 : 1 ≤ m) : am_Go 151 (0, [.int (nI m), .float 0, .float 0], [], w, 0, 0) (fun res w' => res = some (.int (am_fac m)) ∧ w' = w) := by
  have hM : am_P[151]? = some zm_X11_factorial := rfl
  refine ar_iconst (x := 1) (pc' := 1) hM rfl (by decide) rfl ?_
  refine ar_istore_n (pc' := 2) hM rfl rfl rfl rfl ?_
  refine ar_iconst (x := 2) (pc' := 3) hM rfl (by decide) rfl ?_
  refine ar_istore_n (pc' := 4) hM rfl rfl rfl rfl ?_
  have loop : ∀ (dj j : Nat) (y : Int32), dj + j = m + 1 → (2 ≤ j) → (y = am_fac (j - 1)) → am_Go 151 (4, [.int (nI m), .int y, .int (nI j)], [], w, 0, 0) (fun res w' => res = some (.int (am_fac m)) ∧ w' = w) := by
    intro dj
    induction dj with
    | zero =>
      intro j y hj h2 hy
      refine ar_iload_n (pc' := 5) hM rfl rfl rfl ?_
      refine ar_iload_n (pc' := 6) hM rfl rfl rfl ?_
      refine ar_icmp_gt (pc' := 9) hM rfl rfl (fun _ => ?_) (fun q => absurd (nI_lt (by omega) (by omega)) q)
      refine ar_iload_n (pc' := 20) hM rfl rfl rfl ?_
      refine ar_ireturn hM rfl (Or.inl rfl) ?_
      exact ⟨by rw [hy, show j - 1 = m by omega], rfl⟩
    | succ dj ih =>
      intro j y hj h2 hy
      refine ar_iload_n (pc' := 5) hM rfl rfl rfl ?_
      refine ar_iload_n (pc' := 6) hM rfl rfl rfl ?_
      refine ar_icmp_gt (pc' := 9) hM rfl rfl (fun q => absurd q (nI_nlt (by omega) (by omega))) (fun _ => ?_)
      refine ar_iload_n (pc' := 10) hM rfl rfl rfl ?_
      refine ar_iload_n (pc' := 11) hM rfl rfl rfl ?_
      refine ar_imul (pc' := 12) hM rfl rfl ?_
      refine ar_istore_n (pc' := 13) hM rfl rfl rfl rfl ?_
      refine ar_iinc (z := nI (j + 1)) (pc' := 16) hM rfl rfl (nI_1 _) rfl rfl rfl ?_
      refine ar_goto hM rfl ?_
      exact ih (j + 1) (y * (nI j)) (by omega) (by omega) (by rw [hy]; exact i_facs j (by omega) h2)
  exact loop (m + 1 - 2) 2 1 (by omega) (by omega) rfl
set_option maxRecDepth 100000 in
set_option maxHeartbeats 4000000 in
theorem d_fac0 (w : am_W) : am_Go 151 (0, [.int 0, .float 0, .float 0], [], w, 0, 0) (fun res w' => res = some (.int 1) ∧ w' = w) := by
  have hM : am_P[151]? = some zm_X11_factorial := rfl
  refine ar_iconst (x := 1) (pc' := 1) hM rfl (by decide) rfl ?_
  refine ar_istore_n (pc' := 2) hM rfl rfl rfl rfl ?_
  refine ar_iconst (x := 2) (pc' := 3) hM rfl (by decide) rfl ?_
  refine ar_istore_n (pc' := 4) hM rfl rfl rfl rfl ?_
  refine ar_iload_n (pc' := 5) hM rfl rfl rfl ?_
  refine ar_iload_n (pc' := 6) hM rfl rfl rfl ?_
  refine ar_icmp_gt (pc' := 9) hM rfl rfl (fun _ => ?_) (fun q => absurd (by decide) q)
  refine ar_iload_n (pc' := 20) hM rfl rfl rfl ?_
  refine ar_ireturn hM rfl (Or.inl rfl) ?_
  exact ⟨rfl, rfl⟩
theorem d_fac (w : am_W) (m : Nat) (hm : m ≤ 6) : am_Go 151 (0, [.int (nI m), .float 0, .float 0], [], w, 0, 0) (fun res w' => res = some (.int (am_fac m)) ∧ w' = w) := by
  rcases Nat.eq_zero_or_pos m with h | h
  · subst h; exact d_fac0 w
  · exact d_facP w m hm h
theorem d_gcdL (w : am_W) (x y0 : Int32) : ∀ (m a b : Nat) (z4 : Value), b ≤ m → a < 2 ^ 31 → b < 2 ^ 31 → am_Go 152 (13, [.int x, .int y0, .int (nI a), .int (nI b), z4], [], w, 0, 0) (fun res w' => res = some (.int (nI (Nat.gcd a b))) ∧ w' = w) := by
  have hM : am_P[152]? = some zm_X11_common := rfl
  have loop : ∀ (m a b : Nat) (z4 : Value), b ≤ m → a < 2 ^ 31 → b < 2 ^ 31 → am_Go 152 (13, [.int x, .int y0, .int (nI a), .int (nI b), z4], [], w, 0, 0) (fun res w' => res = some (.int (nI (Nat.gcd a b))) ∧ w' = w) := by
    intro m
    induction m with
    | zero =>
      intro a b z4 hbm ha hb
      refine ar_iload_n (pc' := 14) hM rfl rfl rfl ?_
      refine ar_if_eq (pc' := 17) hM rfl rfl (fun _ => ?_) (fun q => absurd (by rw [show b = 0 by omega]; rfl) q)
      refine ar_iload_n (pc' := 31) hM rfl rfl rfl ?_
      refine ar_ireturn hM rfl (Or.inl rfl) ?_
      exact ⟨by rw [show b = 0 by omega, Nat.gcd_zero_right], rfl⟩
    | succ m ih =>
      intro a b z4 hbm ha hb
      refine ar_iload_n (pc' := 14) hM rfl rfl rfl ?_
      refine ar_if_eq (pc' := 17) hM rfl rfl (fun c14 => ?_) (fun c14 => ?_)
      · refine ar_iload_n (pc' := 31) hM rfl rfl rfl ?_
        refine ar_ireturn hM rfl (Or.inl rfl) ?_
        exact ⟨by rw [show b = 0 by exact (nI_eq (b := 0) (by omega) (by omega)).mp c14, Nat.gcd_zero_right], rfl⟩
      · refine ar_iload_n (pc' := 18) hM rfl rfl rfl ?_
        refine ar_iload_n (pc' := 19) hM rfl rfl rfl ?_
        refine ar_irem (pc' := 20) hM rfl c14 rfl ?_
        rw [show ((nI a) - (nI a) / (nI b) * (nI b) : Int32) = nI (a % b) from (pk_rem (by omega) (nI_ne c14) (by omega))]
        refine ar_istore (pc' := 22) hM rfl rfl rfl rfl ?_
        refine ar_iload_n (pc' := 23) hM rfl rfl rfl ?_
        refine ar_istore_n (pc' := 24) hM rfl rfl rfl rfl ?_
        refine ar_iload (pc' := 26) hM rfl rfl rfl ?_
        refine ar_istore_n (pc' := 27) hM rfl rfl rfl rfl ?_
        refine ar_goto hM rfl ?_
        rw [n_gcd a b]
        exact ih b (a % b) _ (by have := Nat.mod_lt a (nI_ne c14); omega) (by omega) (by have := Nat.mod_lt a (nI_ne c14); omega)
  exact loop
set_option maxRecDepth 100000 in
set_option maxHeartbeats 4000000 in
theorem d_common (w : am_W) (x : Int32) (a b : Nat) (hx : i_abs x = nI a) (ha : a < 2 ^ 31) (h0 : 0 < b) (hb : b < 2 ^ 30) : am_Go 152 (0, [.int x, .int (nI b), .float 0, .float 0, .float 0], [], w, 0, 0) (fun res w' => res = some (.int (i_com x (nI b))) ∧ w' = w) := by
  have hM : am_P[152]? = some zm_X11_common := rfl
  refine ar_iload_n (pc' := 1) hM rfl rfl rfl ?_
  suffices hj1 : ∀ z_1 : Int32, z_1 = (if (0 : Int32) ≤ x then x else -x) → am_Go 152 (10, [.int x, .int (nI b), .float 0, .float 0, .float 0], [.int z_1], w, 0, 0) _ by
    refine ar_if_ge (pc' := 4) hM rfl rfl (fun c => ?_) (fun c => ?_)
    · refine ar_iload_n (pc' := 10) hM rfl rfl rfl ?_
      exact hj1 _ (if_pos c).symm
    · refine ar_iload_n (pc' := 5) hM rfl rfl rfl ?_
      refine ar_ineg (pc' := 6) hM rfl rfl ?_
      refine ar_goto hM rfl ?_
      exact hj1 _ (if_neg c).symm
  rintro _ rfl
  refine ar_istore_n (pc' := 11) hM rfl rfl rfl rfl ?_
  refine ar_iload_n (pc' := 12) hM rfl rfl rfl ?_
  refine ar_istore_n (pc' := 13) hM rfl rfl rfl rfl ?_
  rw [i_com_gcd hx ha h0 hb, show (if (0 : Int32) ≤ x then x else -x : Int32) = nI a from hx]
  exact d_gcdL w x (nI b) b a b _ (Nat.le_refl _) ha (by omega)
set_option maxRecDepth 100000 in
set_option maxHeartbeats 4000000 in
theorem d_dby {w : am_W} (T : p_D) {rh rk wh fa gu : Int32} {tl ac nx sc : Nat} {sd : Int64} {ne ki ba he nw td : Nat → Int32} (hm : w[133]? = some (d_O T rh rk tl wh fa gu ac nx sc sd)) (h134 : w[134]? = some (.inl (0, 6, .inl ne))) (h135 : w[135]? = some (.inl (0, 6, .inl ki))) (h136 : w[136]? = some (.inl (0, 6, .inl ba))) (h137 : w[137]? = some (.inl (0, 5, .inl he))) (h138 : w[138]? = some (.inl (0, 42, .inl nw))) (h142 : w[142]? = some (.inl (0, 36, .inl td))) (hT : d_T ne ki ba he T) (hg : gu = 0) (S : s_S) (hvT : v_T T) (hvS : v_S T.2.2.1 S) (hS : d_S nw 0 T.2.2.1 S) (c : Int32) : am_Go 153 (0, [.ref 133, .int c], [], w, 0, 0) (fun res w' => ∃ td' nw', res = some (.int (m_dby T S c)) ∧ w' = (w.set 138 (.inl (0, 42, .inl nw'))).set 142 (.inl (0, 36, .inl td')) ∧ ∀ k, k < 21 → nw' k = nw k) := by
  have hM : am_P[153]? = some zm_X11_drawnBy := rfl
  have hn6 : T.2.2.1 ≤ 6 := hvT.1
  subst hg
  refine ar_aload_n (pc' := 1) hM rfl rfl rfl ?_
  refine ar_virtual (pc' := 4) (k3 := 0) (k4 := 0) hM rfl rfl hm ⟨rfl, (by decide)⟩ rfl rfl (d_trial T hm h138) (fun r1 w1 q1 => ?_)
  obtain ⟨nw1, rfl, q1w, hl1, hh1⟩ := q1
  rw [q1w]
  show am_Go 153 (4, [.ref 133, .int c], [], (w.set 138 (.inl (0, 42, .inl nw1))), 0, 0) _
  refine ar_aload_n (pc' := 5) hM rfl rfl rfl ?_
  refine ar_getfield (pc' := 8) hM rfl (am_gn (by decide) hm) rfl rfl ?_
  refine ar_bipush (x := 40) (pc' := 10) hM rfl (by decide) rfl ?_
  refine ar_dup2 (pc' := 11) hM rfl rfl rfl rfl ?_
  refine ar_ialoadN (j := 40) (pc' := 12) hM rfl (am_gs h138) (by decide) (by omega) (Nat.le_of_ble_eq_true rfl) rfl ?_
  rw [show (nw1 40 : Int32) = S.2.2.2.2.2.1 from ((hh1 19 (by omega)).trans (by have h0 := hS.2.2.1; rw [Nat.zero_add] at h0; exact h0))]
  refine ar_aload_n (pc' := 13) hM rfl rfl rfl ?_
  refine ar_virtual (pc' := 16) (k3 := 0) (k4 := 0) hM rfl rfl (am_gn (by decide) hm) ⟨rfl, (by decide)⟩ rfl rfl (d_every T (am_gn (by decide) hm) hn6) (fun r13 w13 q13 => ?_)
  obtain ⟨rfl, q13w⟩ := q13
  rw [q13w]
  show am_Go 153 (16, [.ref 133, .int c], [.int (nI (2 ^ T.2.2.1) - 1), .int S.2.2.2.2.2.1, .int 40, .ref 138], (w.set 138 (.inl (0, 42, .inl nw1))), 0, 0) _
  refine ar_iload_n (pc' := 17) hM rfl rfl rfl ?_
  refine ar_iconst (x := (-1)) (pc' := 18) hM rfl (by decide) rfl ?_
  refine ar_ixor (pc' := 19) hM rfl rfl ?_
  refine ar_iand (pc' := 20) hM rfl rfl ?_
  refine ar_ior (pc' := 21) hM rfl rfl ?_
  refine ar_iastoreN (j := 40) (pc' := 22) hM rfl (am_gs h138) (by decide) (by omega) (Nat.le_of_ble_eq_true rfl) (by decide) rfl ?_
  rw [show ((w.set 138 (.inl (0, 42, .inl nw1))).set 138 (.inl (0, 42, .inl (upd nw1 40 (S.2.2.2.2.2.1 ||| ((nI (2 ^ T.2.2.1) - 1) &&& (c ^^^ (-1)))))))) = (w.set 138 (.inl (0, 42, .inl (upd nw1 40 (S.2.2.2.2.2.1 ||| ((nI (2 ^ T.2.2.1) - 1) &&& (c ^^^ (-1)))))))) from by rw [List.set_set]]
  refine ar_aload_n (pc' := 23) hM rfl rfl rfl ?_
  refine ar_iconst (x := 1) (pc' := 24) hM rfl (by decide) rfl ?_
  refine ar_virtual (pc' := 27) (k3 := 0) (k4 := 0) hM rfl rfl (am_gn (by decide) hm) ⟨rfl, (by decide)⟩ rfl rfl (d_lay T (am_gn (by decide) hm) (am_gn (by decide) h134) (am_gn (by decide) h135) (am_gn (by decide) h136) (am_gn (by decide) h137) (am_gs h138) (am_gn (by decide) h142) hT 1 (by omega) (m_set S S.2.2.2.2.1 (S.2.2.2.2.2.1 ||| (nI (2 ^ T.2.2.1) - 1) &&& (c ^^^ (-1))) S.2.2.2.2.2.2) hvT (show v_S T.2.2.1 (m_set S S.2.2.2.2.1 (S.2.2.2.2.2.1 ||| (nI (2 ^ T.2.2.1) - 1) &&& (c ^^^ (-1))) S.2.2.2.2.2.2) from hvS) (d_S_b19 hn6 (hS.cg (b' := 21 * 1) hn6 (fun i hi => by rw [Nat.zero_add]; exact hh1 i hi)) (S.2.2.2.2.2.1 ||| (nI (2 ^ T.2.2.1) - 1) &&& (c ^^^ (-1))))) (fun r24 w24 q24 => ?_)
  obtain ⟨td6, rfl, q24w, hY6⟩ := q24
  rw [q24w]
  show am_Go 153 (27, [.ref 133, .int c], [], ((w.set 138 (.inl (0, 42, .inl (upd nw1 40 (S.2.2.2.2.2.1 ||| ((nI (2 ^ T.2.2.1) - 1) &&& (c ^^^ (-1)))))))).set 142 (.inl (0, 36, .inl td6))), 0, 0) _
  refine ar_aload_n (pc' := 28) hM rfl rfl rfl ?_
  refine ar_iconst (x := 3) (pc' := 29) hM rfl (by decide) rfl ?_
  refine ar_virtual (pc' := 32) (k3 := 0) (k4 := 0) hM rfl rfl (am_gn (by decide) (am_gn (by decide) hm)) ⟨rfl, (by decide)⟩ rfl rfl (by have h0 := d_sumOf (w := ((w.set 138 (.inl (0, 42, .inl (upd nw1 40 (S.2.2.2.2.2.1 ||| ((nI (2 ^ T.2.2.1) - 1) &&& (c ^^^ (-1)))))))).set 142 (.inl (0, 36, .inl td6)))) T (am_gn (by decide) (am_gn (by decide) hm)) (am_gs (am_gn (by decide) h142)) 3 (by omega) hn6; rw [i_sum_congr (fun h hh => (hY6 h hh).2.2.2.1)] at h0; exact h0) (fun r29 w29 q29 => ?_)
  obtain ⟨rfl, q29w⟩ := q29
  rw [q29w]
  show am_Go 153 (32, [.ref 133, .int c], [.int (m_dby T S c)], ((w.set 138 (.inl (0, 42, .inl (upd nw1 40 (S.2.2.2.2.2.1 ||| ((nI (2 ^ T.2.2.1) - 1) &&& (c ^^^ (-1)))))))).set 142 (.inl (0, 36, .inl td6))), 0, 0) _
  refine ar_ireturn hM rfl (Or.inl rfl) ?_
  exact ⟨_, _, rfl, rfl, fun i hi => by rw [pk_un (by omega)]; exact hl1 i hi⟩
set_option maxRecDepth 100000 in
set_option maxHeartbeats 4000000 in
theorem e_shareN (w : am_W) (t : Nat × (Nat → Int32)) (T : p_D) (S : s_S) (A : List s_S) (K : Nat → Option s_S) (N : x_N) (sd : Int64) (d : Nat) (hd : d ≤ 1000) (hv : v_W d T S A K) (hW : d_W w t T S A K N sd) (h : Int32) (hh : ¬ i_H T.2.2.1 h) (u : Int32) : am_Go 154 (0, [.ref 133, .int h, .int u, .float 0, .float 0, .float 0], [], w, 0, 0) (fun res w' => res = some (.int (-1)) ∧ d_W w' t T S A K N sd ∧ am_same (rg 133 17) w w') := by
  have hM : am_P[154]? = some zm_X11_share := rfl
  have hn6 : T.2.2.1 ≤ 6 := hv.1.1.1
  have hvT := hv.1.1
  have hvS := hv.2.1.1
  have hdy := hv.2.1.2.1
  obtain ⟨rh, rk, wh, fa, nx, ne, ki, ba, he, nw, rH, rT, tx, td, rw_, oo, s1, s2, s3, ik, kp, hm, h134, h135, h136, h137, h138, h139, h140, h141, h142, h143, h144, h145, h146, h147, h148, h149, ⟨ht40, hN6⟩, hT, hS, htx, hA, hK, hN⟩ := hW
  have hnx := hA.1
  have hal := hA.2.1
  refine ar_aload_n (pc' := 1) hM rfl rfl rfl ?_
  refine ar_iload_n (pc' := 2) hM rfl rfl rfl ?_
  refine ar_virtual (pc' := 5) (k3 := 0) (k4 := 0) hM rfl rfl hm ⟨rfl, (by decide)⟩ rfl rfl (by have h0 := d_isH (w := w) T hm h; rw [if_neg (fun q => hh ((i_H_iff hn6 _).mp q))] at h0; exact h0) (fun r2 w2 q2 => ?_)
  obtain ⟨rfl, q2w⟩ := q2
  rw [q2w]
  show am_Go 154 (5, [.ref 133, .int h, .int u, .float 0, .float 0, .float 0], [.int 0], w, 0, 0) _
  refine ar_if_ne (pc' := 8) hM rfl rfl (fun q => absurd (by decide) q) (fun _ => ?_)
  refine ar_iconst (x := (-1)) (pc' := 9) hM rfl (by decide) rfl ?_
  refine ar_ireturn hM rfl (Or.inl rfl) ?_
  exact ⟨rfl, ⟨_, _, _, _, _, _, _, _, _, _, _, _, _, _, _, _, _, _, _, _, _, hm, h134, h135, h136, h137, h138, h139, h140, h141, h142, h143, h144, h145, h146, h147, h148, h149, ⟨ht40, hN6⟩, hT, hS, htx, hA, hK, hN⟩, am_same.rf⟩
theorem i_facn : ∀ n, n < 7 → am_fac n = nI (n_fac n) := by decide
set_option maxRecDepth 100000 in
set_option maxHeartbeats 4000000 in
theorem e_share (w : am_W) (t : Nat × (Nat → Int32)) (T : p_D) (S : s_S) (A : List s_S) (K : Nat → Option s_S) (N : x_N) (sd : Int64) (d : Nat) (hd : d ≤ 1000) (hv : v_W d T S A K) (hW : d_W w t T S A K N sd) (k : Nat) (hk : k < T.2.2.1) (u : Int32) : am_Go 154 (0, [.ref 133, .int (nI k), .int u, .float 0, .float 0, .float 0], [], w, 0, 0) (fun res w' => res = some (.int ((if u = 0 then am_fac T.2.2.1 else m_add T S k (2 ^ T.2.2.1)) / i_com (m_add T S k (2 ^ T.2.2.1)) (am_fac T.2.2.1))) ∧ d_W w' t T S A K N sd ∧ am_same (rg 133 17) w w') := by
  have hM : am_P[154]? = some zm_X11_share := rfl
  have hn6 : T.2.2.1 ≤ 6 := hv.1.1.1
  have hvT := hv.1.1
  have hvS := hv.2.1.1
  have hdy := hv.2.1.2.1
  obtain ⟨rh, rk, wh, fa, nx, ne, ki, ba, he, nw, rH, rT, tx, td, rw_, oo, s1, s2, s3, ik, kp, hm, h134, h135, h136, h137, h138, h139, h140, h141, h142, h143, h144, h145, h146, h147, h148, h149, ⟨ht40, hN6⟩, hT, hS, htx, hA, hK, hN⟩ := hW
  have hnx := hA.1
  have hal := hA.2.1
  have h64 : 2 ^ T.2.2.1 ≤ 64 := by have := Nat.pow_le_pow_right (show 0 < 2 by decide) hn6; omega
  have hp2 : 0 < 2 ^ T.2.2.1 := Nat.two_pow_pos _
  refine ar_aload_n (pc' := 1) hM rfl rfl rfl ?_
  refine ar_iload_n (pc' := 2) hM rfl rfl rfl ?_
  refine ar_virtual (pc' := 5) (k3 := 0) (k4 := 0) hM rfl rfl hm ⟨rfl, (by decide)⟩ rfl rfl (by have h0 := d_isH (w := w) T hm (nI k); rw [if_pos ((i_H_iff hn6 _).mpr ⟨k, hk, rfl⟩)] at h0; exact h0) (fun r2 w2 q2 => ?_)
  obtain ⟨rfl, q2w⟩ := q2
  rw [q2w]
  show am_Go 154 (5, [.ref 133, .int (nI k), .int u, .float 0, .float 0, .float 0], [.int 1], w, 0, 0) _
  refine ar_if_ne (pc' := 8) hM rfl rfl (fun _ => ?_) (fun q => absurd q (by decide))
  refine ar_iconst (x := 0) (pc' := 11) hM rfl (by decide) rfl ?_
  refine ar_istore_n (pc' := 12) hM rfl rfl rfl rfl ?_
  refine ar_iconst (x := 0) (pc' := 13) hM rfl (by decide) rfl ?_
  refine ar_istore (pc' := 15) hM rfl rfl rfl rfl ?_
  have loop : ∀ (dj j : Nat) (y : Int32) (g : Nat → Int32) (f : Nat → Int32) (z5 : Value), dj + j = 2 ^ T.2.2.1 → (y = m_add T S k j) → (∀ i, i < 21 → g i = nw i) → am_Go 154 (15, [.ref 133, .int (nI k), .int u, .int y, .int (nI j), z5], [], ((w.set 138 (.inl (0, 42, .inl g))).set 142 (.inl (0, 36, .inl f))), 0, 0) (fun res w' => res = some (.int ((if u = 0 then am_fac T.2.2.1 else m_add T S k (2 ^ T.2.2.1)) / i_com (m_add T S k (2 ^ T.2.2.1)) (am_fac T.2.2.1))) ∧ d_W w' t T S A K N sd ∧ am_same (rg 133 17) w w') := by
    intro dj
    induction dj with
    | zero =>
      intro j y g f z5 hj hy q1
      refine ar_iload (pc' := 17) hM rfl rfl rfl ?_
      refine ar_aload_n (pc' := 18) hM rfl rfl rfl ?_
      refine ar_virtual (pc' := 21) (k3 := 0) (k4 := 0) hM rfl rfl (am_gn (by decide) (am_gn (by decide) hm)) ⟨rfl, (by decide)⟩ rfl rfl (by have h0 := d_every (w := ((w.set 138 (.inl (0, 42, .inl g))).set 142 (.inl (0, 36, .inl f)))) T (am_gn (by decide) (am_gn (by decide) hm)) hn6; rw [i_pred (Nat.two_pow_pos _)] at h0; exact h0) (fun r18 w18 q18 => ?_)
      obtain ⟨rfl, q18w⟩ := q18
      rw [q18w]
      show am_Go 154 (21, [.ref 133, .int (nI k), .int u, .int y, .int (nI j), z5], [.int (nI (2 ^ T.2.2.1 - 1)), .int (nI j)], ((w.set 138 (.inl (0, 42, .inl g))).set 142 (.inl (0, 36, .inl f))), 0, 0) _
      refine ar_icmp_gt (pc' := 24) hM rfl rfl (fun _ => ?_) (fun q => absurd (nI_lt (by omega) (by omega)) q)
      obtain ⟨P0, Q0, hP0, hQ0, he0⟩ := m_add_b (S := S) ⟨hv.1, hvS, hv.2.1.2.2.2.2⟩ hk j (by omega)
      obtain ⟨ca, hca2, hca⟩ := i_abs_sub (P := P0) (Q := Q0) (by omega) (by omega)
      rw [← he0, ← hy] at hca
      refine ar_iload_n (pc' := 89) hM rfl rfl rfl ?_
      refine ar_aload_n (pc' := 90) hM rfl rfl rfl ?_
      refine ar_getfield (pc' := 93) hM rfl (am_gn (by decide) (am_gn (by decide) hm)) rfl rfl ?_
      refine ar_static (pc' := 96) (k3 := 0) (k4 := 0) hM rfl (by decide) rfl rfl (d_fac _ T.2.2.1 (by omega)) (fun r93 w93 q93 => ?_)
      obtain ⟨rfl, q93w⟩ := q93
      rw [q93w]
      show am_Go 154 (96, [.ref 133, .int (nI k), .int u, .int y, .int (nI j), z5], [.int (am_fac T.2.2.1), .int y], ((w.set 138 (.inl (0, 42, .inl g))).set 142 (.inl (0, 36, .inl f))), 0, 0) _
      refine ar_static (pc' := 99) (k3 := 0) (k4 := 0) hM rfl (by decide) rfl rfl (by have h0 := d_common ((w.set 138 (.inl (0, 42, .inl g))).set 142 (.inl (0, 36, .inl f))) y ca (n_fac T.2.2.1) hca (by omega) (n_fac_pos _ (by omega)) (by have := n_fac_le _ (show T.2.2.1 < 7 by omega); omega); rw [← i_facn _ (show T.2.2.1 < 7 by omega)] at h0; exact h0) (fun r96 w96 q96 => ?_)
      obtain ⟨rfl, q96w⟩ := q96
      rw [q96w]
      show am_Go 154 (99, [.ref 133, .int (nI k), .int u, .int y, .int (nI j), z5], [.int (i_com y (am_fac T.2.2.1))], ((w.set 138 (.inl (0, 42, .inl g))).set 142 (.inl (0, 36, .inl f))), 0, 0) _
      refine ar_istore (pc' := 101) hM rfl rfl rfl rfl ?_
      refine ar_iload_n (pc' := 102) hM rfl rfl rfl ?_
      refine ar_if_eq (pc' := 105) hM rfl rfl (fun c102 => ?_) (fun c102 => ?_)
      · refine ar_aload_n (pc' := 113) hM rfl rfl rfl ?_
        refine ar_getfield (pc' := 116) hM rfl (am_gn (by decide) (am_gn (by decide) hm)) rfl rfl ?_
        refine ar_static (pc' := 119) (k3 := 0) (k4 := 0) hM rfl (by decide) rfl rfl (d_fac _ T.2.2.1 (by omega)) (fun r116 w116 q116 => ?_)
        obtain ⟨rfl, q116w⟩ := q116
        rw [q116w]
        show am_Go 154 (119, [.ref 133, .int (nI k), .int u, .int y, .int (i_com y (am_fac T.2.2.1)), z5], [.int (am_fac T.2.2.1)], ((w.set 138 (.inl (0, 42, .inl g))).set 142 (.inl (0, 36, .inl f))), 0, 0) _
        refine ar_iload (pc' := 121) hM rfl rfl rfl ?_
        refine ar_idiv (pc' := 122) hM rfl (i_com_ne _ _) rfl ?_
        refine ar_ireturn hM rfl (Or.inl rfl) ?_
        exact ⟨by rw [show 2 ^ T.2.2.1 = j by omega, ← hy, if_pos c102], ⟨_, _, _, _, _, _, _, _, _, _, _, _, _, _, _, _, _, _, _, _, _, (am_gn (by decide) (am_gn (by decide) hm)), (am_gn (by decide) (am_gn (by decide) h134)), (am_gn (by decide) (am_gn (by decide) h135)), (am_gn (by decide) (am_gn (by decide) h136)), (am_gn (by decide) (am_gn (by decide) h137)), (am_gn (by decide) (am_gs h138)), (am_gn (by decide) (am_gn (by decide) h139)), (am_gn (by decide) (am_gn (by decide) h140)), (am_gn (by decide) (am_gn (by decide) h141)), (am_gs (am_gn (by decide) h142)), (am_gn (by decide) (am_gn (by decide) h143)), (am_gn (by decide) (am_gn (by decide) h144)), (am_gn (by decide) (am_gn (by decide) h145)), (am_gn (by decide) (am_gn (by decide) h146)), (am_gn (by decide) (am_gn (by decide) h147)), (am_gn (by decide) (am_gn (by decide) h148)), (am_gn (by decide) (am_gn (by decide) h149)), ⟨ht40, hN6⟩, hT, (hS.cg hn6 (fun i hi => by rw [Nat.zero_add]; exact q1 i hi)), htx, hA, hK, hN⟩, (am_same.set (am_same.set am_same.rf (by unfold rg; omega)) (by unfold rg; omega))⟩
      · refine ar_iload_n (pc' := 106) hM rfl rfl rfl ?_
        refine ar_iload (pc' := 108) hM rfl rfl rfl ?_
        refine ar_idiv (pc' := 109) hM rfl (i_com_ne _ _) rfl ?_
        refine ar_goto hM rfl ?_
        refine ar_ireturn hM rfl (Or.inl rfl) ?_
        exact ⟨by rw [show 2 ^ T.2.2.1 = j by omega, ← hy, if_neg c102], ⟨_, _, _, _, _, _, _, _, _, _, _, _, _, _, _, _, _, _, _, _, _, (am_gn (by decide) (am_gn (by decide) hm)), (am_gn (by decide) (am_gn (by decide) h134)), (am_gn (by decide) (am_gn (by decide) h135)), (am_gn (by decide) (am_gn (by decide) h136)), (am_gn (by decide) (am_gn (by decide) h137)), (am_gn (by decide) (am_gs h138)), (am_gn (by decide) (am_gn (by decide) h139)), (am_gn (by decide) (am_gn (by decide) h140)), (am_gn (by decide) (am_gn (by decide) h141)), (am_gs (am_gn (by decide) h142)), (am_gn (by decide) (am_gn (by decide) h143)), (am_gn (by decide) (am_gn (by decide) h144)), (am_gn (by decide) (am_gn (by decide) h145)), (am_gn (by decide) (am_gn (by decide) h146)), (am_gn (by decide) (am_gn (by decide) h147)), (am_gn (by decide) (am_gn (by decide) h148)), (am_gn (by decide) (am_gn (by decide) h149)), ⟨ht40, hN6⟩, hT, (hS.cg hn6 (fun i hi => by rw [Nat.zero_add]; exact q1 i hi)), htx, hA, hK, hN⟩, (am_same.set (am_same.set am_same.rf (by unfold rg; omega)) (by unfold rg; omega))⟩
    | succ dj ih =>
      intro j y g f z5 hj hy q1
      refine ar_iload (pc' := 17) hM rfl rfl rfl ?_
      refine ar_aload_n (pc' := 18) hM rfl rfl rfl ?_
      refine ar_virtual (pc' := 21) (k3 := 0) (k4 := 0) hM rfl rfl (am_gn (by decide) (am_gn (by decide) hm)) ⟨rfl, (by decide)⟩ rfl rfl (by have h0 := d_every (w := ((w.set 138 (.inl (0, 42, .inl g))).set 142 (.inl (0, 36, .inl f)))) T (am_gn (by decide) (am_gn (by decide) hm)) hn6; rw [i_pred (Nat.two_pow_pos _)] at h0; exact h0) (fun r18 w18 q18 => ?_)
      obtain ⟨rfl, q18w⟩ := q18
      rw [q18w]
      show am_Go 154 (21, [.ref 133, .int (nI k), .int u, .int y, .int (nI j), z5], [.int (nI (2 ^ T.2.2.1 - 1)), .int (nI j)], ((w.set 138 (.inl (0, 42, .inl g))).set 142 (.inl (0, 36, .inl f))), 0, 0) _
      refine ar_icmp_gt (pc' := 24) hM rfl rfl (fun q => absurd q (nI_nlt (by omega) (by omega))) (fun _ => ?_)
      refine ar_iload (pc' := 26) hM rfl rfl rfl ?_
      refine ar_iload_n (pc' := 27) hM rfl rfl rfl ?_
      refine ar_static (pc' := 30) (k3 := 0) (k4 := 0) hM rfl (by decide) rfl rfl (d_has _ _ _) (fun r27 w27 q27 => ?_)
      obtain ⟨rfl, q27w⟩ := q27
      rw [q27w]
      show am_Go 154 (30, [.ref 133, .int (nI k), .int u, .int y, .int (nI j), z5], [.int (if ((nI j) >>> ((nI k) &&& 31)) &&& 1 = 1 then 1 else 0)], ((w.set 138 (.inl (0, 42, .inl g))).set 142 (.inl (0, 36, .inl f))), 0, 0) _
      refine ar_if_ne (pc' := 33) hM rfl rfl (fun c30 => ?_) (fun c30 => ?_)
      · refine ar_iinc (z := nI (j + 1)) (pc' := 85) hM rfl rfl (nI_1 _) rfl rfl rfl ?_
        refine ar_goto hM rfl ?_
        exact ih (j + 1) y g f (z5) (by omega) (by show _ = if _ then _ else _; rw [if_neg (by rw [am_ne0 c30]; decide)]; exact hy) q1
      · have hb0 := i_b0 (am_eq0 c30)
        have hpp := i_popb T.2.2.1 (by omega) j (by omega) k hk hb0
        refine ar_iload (pc' := 35) hM rfl rfl rfl ?_
        refine ar_static (pc' := 38) (k3 := 0) (k4 := 0) hM rfl (by decide) rfl rfl (d_ones _ j (by omega)) (fun r35 w35 q35 => ?_)
        obtain ⟨rfl, q35w⟩ := q35
        rw [q35w]
        show am_Go 154 (38, [.ref 133, .int (nI k), .int u, .int y, .int (nI j), z5], [.int (nI (n_pop j))], ((w.set 138 (.inl (0, 42, .inl g))).set 142 (.inl (0, 36, .inl f))), 0, 0) _
        refine ar_static (pc' := 41) (k3 := 0) (k4 := 0) hM rfl (by decide) rfl rfl (d_fac _ (n_pop j) (by omega)) (fun r38 w38 q38 => ?_)
        obtain ⟨rfl, q38w⟩ := q38
        rw [q38w]
        show am_Go 154 (41, [.ref 133, .int (nI k), .int u, .int y, .int (nI j), z5], [.int (am_fac (n_pop j))], ((w.set 138 (.inl (0, 42, .inl g))).set 142 (.inl (0, 36, .inl f))), 0, 0) _
        refine ar_aload_n (pc' := 42) hM rfl rfl rfl ?_
        refine ar_getfield (pc' := 45) hM rfl (am_gn (by decide) (am_gn (by decide) hm)) rfl rfl ?_
        refine ar_iconst (x := 1) (pc' := 46) hM rfl (by decide) rfl ?_
        refine ar_isub (pc' := 47) hM rfl rfl ?_
        rw [show ((nI T.2.2.1) - 1 : Int32) = nI (T.2.2.1 - 1) from (i_pred (by omega))]
        refine ar_iload (pc' := 49) hM rfl rfl rfl ?_
        refine ar_static (pc' := 52) (k3 := 0) (k4 := 0) hM rfl (by decide) rfl rfl (d_ones _ j (by omega)) (fun r49 w49 q49 => ?_)
        obtain ⟨rfl, q49w⟩ := q49
        rw [q49w]
        show am_Go 154 (52, [.ref 133, .int (nI k), .int u, .int y, .int (nI j), z5], [.int (nI (n_pop j)), .int (nI (T.2.2.1 - 1)), .int (am_fac (n_pop j))], ((w.set 138 (.inl (0, 42, .inl g))).set 142 (.inl (0, 36, .inl f))), 0, 0) _
        refine ar_isub (pc' := 53) hM rfl rfl ?_
        rw [show ((nI (T.2.2.1 - 1)) - (nI (n_pop j)) : Int32) = nI (T.2.2.1 - 1 - n_pop j) from (pk_sub (by omega))]
        refine ar_static (pc' := 56) (k3 := 0) (k4 := 0) hM rfl (by decide) rfl rfl (d_fac _ (T.2.2.1 - 1 - n_pop j) (by omega)) (fun r53 w53 q53 => ?_)
        obtain ⟨rfl, q53w⟩ := q53
        rw [q53w]
        show am_Go 154 (56, [.ref 133, .int (nI k), .int u, .int y, .int (nI j), z5], [.int (am_fac (T.2.2.1 - 1 - n_pop j)), .int (am_fac (n_pop j))], ((w.set 138 (.inl (0, 42, .inl g))).set 142 (.inl (0, 36, .inl f))), 0, 0) _
        refine ar_imul (pc' := 57) hM rfl rfl ?_
        refine ar_istore (pc' := 59) hM rfl rfl rfl rfl ?_
        refine ar_iload_n (pc' := 60) hM rfl rfl rfl ?_
        refine ar_iload (pc' := 62) hM rfl rfl rfl ?_
        refine ar_aload_n (pc' := 63) hM rfl rfl rfl ?_
        refine ar_iload (pc' := 65) hM rfl rfl rfl ?_
        refine ar_iconst (x := 1) (pc' := 66) hM rfl (by decide) rfl ?_
        refine ar_iload_n (pc' := 67) hM rfl rfl rfl ?_
        refine ar_ishl (pc' := 68) hM rfl rfl ?_
        refine ar_ior (pc' := 69) hM rfl rfl ?_
        refine ar_virtual (pc' := 72) (k3 := 0) (k4 := 0) hM rfl rfl (am_gn (by decide) (am_gn (by decide) hm)) ⟨rfl, (by decide)⟩ rfl rfl (d_dby T (am_gn (by decide) (am_gn (by decide) hm)) (am_gn (by decide) (am_gn (by decide) h134)) (am_gn (by decide) (am_gn (by decide) h135)) (am_gn (by decide) (am_gn (by decide) h136)) (am_gn (by decide) (am_gn (by decide) h137)) (am_gn (by decide) (am_gs h138)) (am_gs (am_gn (by decide) h142)) hT rfl S hvT hvS (hS.cg hn6 (fun i hi => by rw [Nat.zero_add]; exact q1 i hi)) ((nI j) ||| (1 <<< ((nI k) &&& 31)))) (fun r69 w69 q69 => ?_)
        obtain ⟨td1, nw1, rfl, q69w, hl1⟩ := q69
        rw [q69w]
        show am_Go 154 (72, [.ref 133, .int (nI k), .int u, .int y, .int (nI j), .int ((am_fac (n_pop j)) * (am_fac (T.2.2.1 - 1 - n_pop j)))], [.int (m_dby T S ((nI j) ||| (1 <<< ((nI k) &&& 31)))), .int ((am_fac (n_pop j)) * (am_fac (T.2.2.1 - 1 - n_pop j))), .int y], ((((w.set 138 (.inl (0, 42, .inl g))).set 142 (.inl (0, 36, .inl f))).set 138 (.inl (0, 42, .inl nw1))).set 142 (.inl (0, 36, .inl td1))), 0, 0) _
        rw [show (((w.set 138 (.inl (0, 42, .inl g))).set 142 (.inl (0, 36, .inl f))).set 138 (.inl (0, 42, .inl nw1))) = ((w.set 138 (.inl (0, 42, .inl nw1))).set 142 (.inl (0, 36, .inl f))) from by rw [List.set_comm _ _ (show 142 ≠ 138 by decide), List.set_set]]
        rw [show (((w.set 138 (.inl (0, 42, .inl nw1))).set 142 (.inl (0, 36, .inl f))).set 142 (.inl (0, 36, .inl td1))) = ((w.set 138 (.inl (0, 42, .inl nw1))).set 142 (.inl (0, 36, .inl td1))) from by rw [List.set_set]]
        refine ar_aload_n (pc' := 73) hM rfl rfl rfl ?_
        refine ar_iload (pc' := 75) hM rfl rfl rfl ?_
        refine ar_virtual (pc' := 78) (k3 := 0) (k4 := 0) hM rfl rfl (am_gn (by decide) (am_gn (by decide) hm)) ⟨rfl, (by decide)⟩ rfl rfl (d_dby T (am_gn (by decide) (am_gn (by decide) hm)) (am_gn (by decide) (am_gn (by decide) h134)) (am_gn (by decide) (am_gn (by decide) h135)) (am_gn (by decide) (am_gn (by decide) h136)) (am_gn (by decide) (am_gn (by decide) h137)) (am_gn (by decide) (am_gs h138)) (am_gs (am_gn (by decide) h142)) hT rfl S hvT hvS (hS.cg hn6 (fun i hi => by rw [Nat.zero_add]; exact (hl1 i hi).trans (q1 i hi))) (nI j)) (fun r75 w75 q75 => ?_)
        obtain ⟨td4, nw4, rfl, q75w, hl4⟩ := q75
        rw [q75w]
        show am_Go 154 (78, [.ref 133, .int (nI k), .int u, .int y, .int (nI j), .int ((am_fac (n_pop j)) * (am_fac (T.2.2.1 - 1 - n_pop j)))], [.int (m_dby T S (nI j)), .int (m_dby T S ((nI j) ||| (1 <<< ((nI k) &&& 31)))), .int ((am_fac (n_pop j)) * (am_fac (T.2.2.1 - 1 - n_pop j))), .int y], ((((w.set 138 (.inl (0, 42, .inl nw1))).set 142 (.inl (0, 36, .inl td1))).set 138 (.inl (0, 42, .inl nw4))).set 142 (.inl (0, 36, .inl td4))), 0, 0) _
        rw [show (((w.set 138 (.inl (0, 42, .inl nw1))).set 142 (.inl (0, 36, .inl td1))).set 138 (.inl (0, 42, .inl nw4))) = ((w.set 138 (.inl (0, 42, .inl nw4))).set 142 (.inl (0, 36, .inl td1))) from by rw [List.set_comm _ _ (show 142 ≠ 138 by decide), List.set_set]]
        rw [show (((w.set 138 (.inl (0, 42, .inl nw4))).set 142 (.inl (0, 36, .inl td1))).set 142 (.inl (0, 36, .inl td4))) = ((w.set 138 (.inl (0, 42, .inl nw4))).set 142 (.inl (0, 36, .inl td4))) from by rw [List.set_set]]
        refine ar_isub (pc' := 79) hM rfl rfl ?_
        refine ar_imul (pc' := 80) hM rfl rfl ?_
        refine ar_iadd (pc' := 81) hM rfl rfl ?_
        refine ar_istore_n (pc' := 82) hM rfl rfl rfl rfl ?_
        refine ar_iinc (z := nI (j + 1)) (pc' := 85) hM rfl rfl (nI_1 _) rfl rfl rfl ?_
        refine ar_goto hM rfl ?_
        exact ih (j + 1) (y + (((am_fac (n_pop j)) * (am_fac (T.2.2.1 - 1 - n_pop j))) * ((m_dby T S ((nI j) ||| (1 <<< ((nI k) &&& 31)))) - (m_dby T S (nI j))))) nw4 td4 (.int ((am_fac (n_pop j)) * (am_fac (T.2.2.1 - 1 - n_pop j)))) (by omega) (by rw [hy]; show _ = if _ then _ else _; rw [if_pos hb0]) (fun i hi => (hl4 i hi).trans ((hl1 i hi).trans (q1 i hi)))
  have hl0 := loop (2 ^ T.2.2.1) 0 0 nw td (.float 0) (by omega) rfl (fun _ _ => rfl)
  rw [am_si h138, am_si h142] at hl0
  exact hl0
def m_gs (S : s_S) (a b u v : Nat) : s_S := m_set S (S.2.2.2.2.1 ||| ((if nI u = 1 then 1 <<< (nI a &&& 31) else 0) ||| (if nI v = 1 then 1 <<< (nI b &&& 31) else 0))) S.2.2.2.2.2.1 S.2.2.2.2.2.2
theorem i_rs0 : ∀ j, j < 4 → ∀ a, a < 6 → (nI j >>> (1 &&& 31)) <<< (nI a &&& 31) = (if nI (j / 2) = 1 then 1 <<< (nI a &&& 31) else 0) ∧ (nI j &&& 1) <<< (nI a &&& 31) = (if nI (j % 2) = 1 then 1 <<< (nI a &&& 31) else 0) := by decide
theorem m_gs_a {S : s_S} {a b j : Nat} (ha : a < 6) (hb : b < 6) (hj : j < 4) : m_gs S a b (j / 2) (j % 2) = m_rs S a b j := by
  unfold m_gs m_rs
  rw [(i_rs0 j hj a ha).1, (i_rs0 j hj b hb).2, Int32.or_assoc]
theorem m_gs_b {S : s_S} {a b j : Nat} (ha : a < 6) (hb : b < 6) (hj : j < 4) : m_gs S b a (j % 2) (j / 2) = m_rs S a b j := by
  unfold m_gs m_rs
  rw [(i_rs0 j hj a ha).1, (i_rs0 j hj b hb).2, Int32.or_assoc, Int32.or_comm (if nI (j % 2) = 1 then _ else _)]
theorem i_x2 : ∀ j, j < 4 → j ^^^ 2 < 4 ∧ j ^^^ 1 < 4 ∧ 1 - j / 2 = (j ^^^ 2) / 2 ∧ j % 2 = (j ^^^ 2) % 2 ∧ 1 - j % 2 = (j ^^^ 1) % 2 ∧ j / 2 = (j ^^^ 1) / 2 := by decide
/-- pairs at rest, from the first one on -/
def m_up (o t : Nat → Int32) : Nat → Int32 × Int32
  | 0 => (0, -9)
  | k + 1 => if o (k ^^^ 2) ≤ o k ∧ t (k ^^^ 1) ≤ t k then ((m_up o t k).1 + 1, if (m_up o t k).1 = 0 then nI (10 * (k / 2) + k % 2) else (m_up o t k).2) else m_up o t k
theorem m_up_dn (o t : Nat → Int32) : m_up o t 4 = m_dn o t 4 (0, -9) := by
  have e : ∀ (a b c d : Bool), (let x0 : Int32 × Int32 := (0, -9); let x1 := if a = true then (x0.1 + 1, if x0.1 = 0 then nI (10 * (0 / 2) + 0 % 2) else x0.2) else x0; let x2 := if b = true then (x1.1 + 1, if x1.1 = 0 then nI (10 * (1 / 2) + 1 % 2) else x1.2) else x1; let x3 := if c = true then (x2.1 + 1, if x2.1 = 0 then nI (10 * (2 / 2) + 2 % 2) else x2.2) else x2; let x4 := if d = true then (x3.1 + 1, if x3.1 = 0 then nI (10 * (3 / 2) + 3 % 2) else x3.2) else x3; x4) = (let x0 : Int32 × Int32 := (0, -9); let x1 := if d = true then (x0.1 + 1, nI (10 * (3 / 2) + 3 % 2)) else x0; let x2 := if c = true then (x1.1 + 1, nI (10 * (2 / 2) + 2 % 2)) else x1; let x3 := if b = true then (x2.1 + 1, nI (10 * (1 / 2) + 1 % 2)) else x2; let x4 := if a = true then (x3.1 + 1, nI (10 * (0 / 2) + 0 % 2)) else x3; x4) := by decide
  have h := e (decide (o (0 ^^^ 2) ≤ o 0 ∧ t (0 ^^^ 1) ≤ t 0)) (decide (o (1 ^^^ 2) ≤ o 1 ∧ t (1 ^^^ 1) ≤ t 1)) (decide (o (2 ^^^ 2) ≤ o 2 ∧ t (2 ^^^ 1) ≤ t 2)) (decide (o (3 ^^^ 2) ≤ o 3 ∧ t (3 ^^^ 1) ≤ t 3))
  simp only [decide_eq_true_eq] at h
  exact h
set_option maxRecDepth 100000 in
set_option maxHeartbeats 4000000 in
theorem d_gain {w : am_W} (T : p_D) {rh rk wh fa gu : Int32} {tl ac nx sc : Nat} {sd : Int64} {ne ki ba he nw td : Nat → Int32} (hm : w[133]? = some (d_O T rh rk tl wh fa gu ac nx sc sd)) (h134 : w[134]? = some (.inl (0, 6, .inl ne))) (h135 : w[135]? = some (.inl (0, 6, .inl ki))) (h136 : w[136]? = some (.inl (0, 6, .inl ba))) (h137 : w[137]? = some (.inl (0, 5, .inl he))) (h138 : w[138]? = some (.inl (0, 42, .inl nw))) (h142 : w[142]? = some (.inl (0, 36, .inl td))) (hT : d_T ne ki ba he T) (hg : gu = 0) (S : s_S) (hvT : v_T T) (hvS : v_S T.2.2.1 S) (hS : d_S nw 0 T.2.2.1 S) (a b u v : Nat) (ha : a < T.2.2.1) (hb : b < T.2.2.1) : am_Go 155 (0, [.ref 133, .int (nI a), .int (nI b), .int (nI u), .int (nI v)], [], w, 0, 0) (fun res w' => ∃ td' nw', res = some (.int (m_has T (m_gs S a b u v) a)) ∧ w' = (w.set 138 (.inl (0, 42, .inl nw'))).set 142 (.inl (0, 36, .inl td')) ∧ ∀ k, k < 21 → nw' k = nw k) := by
  have hM : am_P[155]? = some zm_X11_gain := rfl
  have hn6 : T.2.2.1 ≤ 6 := hvT.1
  subst hg
  refine ar_aload_n (pc' := 1) hM rfl rfl rfl ?_
  refine ar_virtual (pc' := 4) (k3 := 0) (k4 := 0) hM rfl rfl hm ⟨rfl, (by decide)⟩ rfl rfl (d_trial T hm h138) (fun r1 w1 q1 => ?_)
  obtain ⟨nw1, rfl, q1w, hl1, hh1⟩ := q1
  rw [q1w]
  show am_Go 155 (4, [.ref 133, .int (nI a), .int (nI b), .int (nI u), .int (nI v)], [], (w.set 138 (.inl (0, 42, .inl nw1))), 0, 0) _
  refine ar_aload_n (pc' := 5) hM rfl rfl rfl ?_
  refine ar_getfield (pc' := 8) hM rfl (am_gn (by decide) hm) rfl rfl ?_
  refine ar_bipush (x := 39) (pc' := 10) hM rfl (by decide) rfl ?_
  refine ar_dup2 (pc' := 11) hM rfl rfl rfl rfl ?_
  refine ar_ialoadN (j := 39) (pc' := 12) hM rfl (am_gs h138) (by decide) (by omega) (Nat.le_of_ble_eq_true rfl) rfl ?_
  rw [show (nw1 39 : Int32) = S.2.2.2.2.1 from ((hh1 18 (by omega)).trans (by have h0 := hS.2.1; rw [Nat.zero_add] at h0; exact h0))]
  refine ar_iload_n (pc' := 13) hM rfl rfl rfl ?_
  refine ar_iconst (x := 1) (pc' := 14) hM rfl (by decide) rfl ?_
  suffices hj14 : ∀ z_14 : Int32, z_14 = (if (nI u) = (1 : Int32) then 1 <<< ((nI a) &&& 31) else 0) → am_Go 155 (24, [.ref 133, .int (nI a), .int (nI b), .int (nI u), .int (nI v)], [.int z_14, .int S.2.2.2.2.1, .int 39, .ref 138], (w.set 138 (.inl (0, 42, .inl nw1))), 0, 0) _ by
    refine ar_icmp_ne (pc' := 17) hM rfl rfl (fun c => ?_) (fun c => ?_)
    · refine ar_iconst (x := 0) (pc' := 24) hM rfl (by decide) rfl ?_
      exact hj14 _ (if_neg c).symm
    · refine ar_iconst (x := 1) (pc' := 18) hM rfl (by decide) rfl ?_
      refine ar_iload_n (pc' := 19) hM rfl rfl rfl ?_
      refine ar_ishl (pc' := 20) hM rfl rfl ?_
      refine ar_goto hM rfl ?_
      exact hj14 _ (if_pos c).symm
  rintro _ rfl
  refine ar_iload (pc' := 26) hM rfl rfl rfl ?_
  refine ar_iconst (x := 1) (pc' := 27) hM rfl (by decide) rfl ?_
  suffices hj27 : ∀ z_27 : Int32, z_27 = (if (nI v) = (1 : Int32) then 1 <<< ((nI b) &&& 31) else 0) → am_Go 155 (37, [.ref 133, .int (nI a), .int (nI b), .int (nI u), .int (nI v)], [.int z_27, .int (if (nI u) = (1 : Int32) then 1 <<< ((nI a) &&& 31) else 0), .int S.2.2.2.2.1, .int 39, .ref 138], (w.set 138 (.inl (0, 42, .inl nw1))), 0, 0) _ by
    refine ar_icmp_ne (pc' := 30) hM rfl rfl (fun c => ?_) (fun c => ?_)
    · refine ar_iconst (x := 0) (pc' := 37) hM rfl (by decide) rfl ?_
      exact hj27 _ (if_neg c).symm
    · refine ar_iconst (x := 1) (pc' := 31) hM rfl (by decide) rfl ?_
      refine ar_iload_n (pc' := 32) hM rfl rfl rfl ?_
      refine ar_ishl (pc' := 33) hM rfl rfl ?_
      refine ar_goto hM rfl ?_
      exact hj27 _ (if_pos c).symm
  rintro _ rfl
  refine ar_ior (pc' := 38) hM rfl rfl ?_
  refine ar_ior (pc' := 39) hM rfl rfl ?_
  refine ar_iastoreN (j := 39) (pc' := 40) hM rfl (am_gs h138) (by decide) (by omega) (Nat.le_of_ble_eq_true rfl) (by decide) rfl ?_
  rw [show ((w.set 138 (.inl (0, 42, .inl nw1))).set 138 (.inl (0, 42, .inl (upd nw1 39 (S.2.2.2.2.1 ||| ((if (nI u) = (1 : Int32) then 1 <<< ((nI a) &&& 31) else 0) ||| (if (nI v) = (1 : Int32) then 1 <<< ((nI b) &&& 31) else 0))))))) = (w.set 138 (.inl (0, 42, .inl (upd nw1 39 (S.2.2.2.2.1 ||| ((if (nI u) = (1 : Int32) then 1 <<< ((nI a) &&& 31) else 0) ||| (if (nI v) = (1 : Int32) then 1 <<< ((nI b) &&& 31) else 0))))))) from by rw [List.set_set]]
  refine ar_aload_n (pc' := 41) hM rfl rfl rfl ?_
  refine ar_iconst (x := 1) (pc' := 42) hM rfl (by decide) rfl ?_
  refine ar_virtual (pc' := 45) (k3 := 0) (k4 := 0) hM rfl rfl (am_gn (by decide) hm) ⟨rfl, (by decide)⟩ rfl rfl (d_lay T (am_gn (by decide) hm) (am_gn (by decide) h134) (am_gn (by decide) h135) (am_gn (by decide) h136) (am_gn (by decide) h137) (am_gs h138) (am_gn (by decide) h142) hT 1 (by omega) (m_gs S a b u v) hvT (show v_S T.2.2.1 (m_gs S a b u v) from hvS) (d_S_b18 hn6 (hS.cg (b' := 21 * 1) hn6 (fun i hi => by rw [Nat.zero_add]; exact hh1 i hi)) (S.2.2.2.2.1 ||| ((if nI u = 1 then 1 <<< (nI a &&& 31) else 0) ||| (if nI v = 1 then 1 <<< (nI b &&& 31) else 0))))) (fun r42 w42 q42 => ?_)
  obtain ⟨td7, rfl, q42w, hY7⟩ := q42
  rw [q42w]
  show am_Go 155 (45, [.ref 133, .int (nI a), .int (nI b), .int (nI u), .int (nI v)], [], ((w.set 138 (.inl (0, 42, .inl (upd nw1 39 (S.2.2.2.2.1 ||| ((if (nI u) = (1 : Int32) then 1 <<< ((nI a) &&& 31) else 0) ||| (if (nI v) = (1 : Int32) then 1 <<< ((nI b) &&& 31) else 0))))))).set 142 (.inl (0, 36, .inl td7))), 0, 0) _
  refine ar_aload_n (pc' := 46) hM rfl rfl rfl ?_
  refine ar_getfield (pc' := 49) hM rfl (am_gn (by decide) (am_gn (by decide) hm)) rfl rfl ?_
  refine ar_bipush (x := 39) (pc' := 51) hM rfl (by decide) rfl ?_
  refine ar_ialoadN (j := 39) (pc' := 52) hM rfl (am_gn (by decide) (am_gs h138)) (by decide) (by omega) (Nat.le_of_ble_eq_true rfl) rfl ?_
  rw [show ((upd nw1 39 (S.2.2.2.2.1 ||| ((if (nI u) = (1 : Int32) then 1 <<< ((nI a) &&& 31) else 0) ||| (if (nI v) = (1 : Int32) then 1 <<< ((nI b) &&& 31) else 0)))) 39 : Int32) = (m_gs S a b u v).2.2.2.2.1 from pk_us]
  refine ar_iload_n (pc' := 53) hM rfl rfl rfl ?_
  refine ar_static (pc' := 56) (k3 := 0) (k4 := 0) hM rfl (by decide) rfl rfl (d_has _ _ _) (fun r53 w53 q53 => ?_)
  obtain ⟨rfl, q53w⟩ := q53
  rw [q53w]
  show am_Go 155 (56, [.ref 133, .int (nI a), .int (nI b), .int (nI u), .int (nI v)], [.int (if (((m_gs S a b u v).2.2.2.2.1) >>> ((nI a) &&& 31)) &&& 1 = 1 then 1 else 0)], ((w.set 138 (.inl (0, 42, .inl (upd nw1 39 (S.2.2.2.2.1 ||| ((if (nI u) = (1 : Int32) then 1 <<< ((nI a) &&& 31) else 0) ||| (if (nI v) = (1 : Int32) then 1 <<< ((nI b) &&& 31) else 0))))))).set 142 (.inl (0, 36, .inl td7))), 0, 0) _
  suffices hj56 : ∀ z_56 : Int32, z_56 = (if (if (((m_gs S a b u v).2.2.2.2.1) >>> ((nI a) &&& 31)) &&& 1 = 1 then 1 else 0) = (0 : Int32) then 0 else 2) → am_Go 155 (64, [.ref 133, .int (nI a), .int (nI b), .int (nI u), .int (nI v)], [.int z_56], ((w.set 138 (.inl (0, 42, .inl (upd nw1 39 (S.2.2.2.2.1 ||| ((if (nI u) = (1 : Int32) then 1 <<< ((nI a) &&& 31) else 0) ||| (if (nI v) = (1 : Int32) then 1 <<< ((nI b) &&& 31) else 0))))))).set 142 (.inl (0, 36, .inl td7))), 0, 0) _ by
    refine ar_if_eq (pc' := 59) hM rfl rfl (fun c => ?_) (fun c => ?_)
    · refine ar_iconst (x := 0) (pc' := 64) hM rfl (by decide) rfl ?_
      exact hj56 _ (if_pos c).symm
    · refine ar_iconst (x := 2) (pc' := 60) hM rfl (by decide) rfl ?_
      refine ar_goto hM rfl ?_
      exact hj56 _ (if_neg c).symm
  rintro _ rfl
  refine ar_aload_n (pc' := 65) hM rfl rfl rfl ?_
  refine ar_getfield (pc' := 68) hM rfl (am_gn (by decide) (am_gn (by decide) hm)) rfl rfl ?_
  refine ar_bipush (x := 24) (pc' := 70) hM rfl (by decide) rfl ?_
  refine ar_iload_n (pc' := 71) hM rfl rfl rfl ?_
  refine ar_iadd (pc' := 72) hM rfl rfl ?_
  rw [show (24 + (nI a) : Int32) = nI (24 + a) from nI_add 24 a]
  refine ar_ialoadN (j := (24 + a)) (pc' := 73) hM rfl (am_gs (am_gn (by decide) h142)) rfl (by omega) (Nat.le_of_ble_eq_true rfl) rfl ?_
  rw [show (td7 (24 + a) : Int32) = m_lk T (m_gs S a b u v) 0 a from (hY7 a ha).2.2.2.2.1]
  refine ar_isub (pc' := 74) hM rfl rfl ?_
  refine ar_ireturn hM rfl (Or.inl rfl) ?_
  exact ⟨_, _, by unfold m_has; rw [i_if0], rfl, fun i hi => by rw [pk_un (by omega)]; exact hl1 i hi⟩
set_option maxRecDepth 100000 in
set_option maxHeartbeats 4000000 in
theorem e_restsN (w : am_W) (t : Nat × (Nat → Int32)) (T : p_D) (S : s_S) (A : List s_S) (K : Nat → Option s_S) (N : x_N) (sd : Int64) (d : Nat) (hd : d ≤ 1000) (hv : v_W d T S A K) (hW : d_W w t T S A K N sd) (h : Int32) (hh : ¬ i_H T.2.2.1 h) (b c : Int32) : am_Go 156 (0, [.ref 133, .int h, .int b, .int c, .float 0, .float 0, .float 0, .float 0, .float 0, .float 0], [], w, 0, 0) (fun res w' => res = some (.int (-1)) ∧ d_W w' t T S A K N sd ∧ am_same (rg 133 17) w w') := by
  have hM : am_P[156]? = some zm_X11_rests := rfl
  have hn6 : T.2.2.1 ≤ 6 := hv.1.1.1
  have hvT := hv.1.1
  have hvS := hv.2.1.1
  have hdy := hv.2.1.2.1
  obtain ⟨rh, rk, wh, fa, nx, ne, ki, ba, he, nw, rH, rT, tx, td, rw_, oo, s1, s2, s3, ik, kp, hm, h134, h135, h136, h137, h138, h139, h140, h141, h142, h143, h144, h145, h146, h147, h148, h149, ⟨ht40, hN6⟩, hT, hS, htx, hA, hK, hN⟩ := hW
  have hnx := hA.1
  have hal := hA.2.1
  refine ar_aload_n (pc' := 1) hM rfl rfl rfl ?_
  refine ar_iload_n (pc' := 2) hM rfl rfl rfl ?_
  refine ar_virtual (pc' := 5) (k3 := 0) (k4 := 0) hM rfl rfl hm ⟨rfl, (by decide)⟩ rfl rfl (by have h0 := d_isH (w := w) T hm h; rw [if_neg (fun q => hh ((i_H_iff hn6 _).mp q))] at h0; exact h0) (fun r2 w2 q2 => ?_)
  obtain ⟨rfl, q2w⟩ := q2
  rw [q2w]
  show am_Go 156 (5, [.ref 133, .int h, .int b, .int c, .float 0, .float 0, .float 0, .float 0, .float 0, .float 0], [.int 0], w, 0, 0) _
  refine ar_if_eq (pc' := 8) hM rfl rfl (fun _ => ?_) (fun q => absurd (by decide) q)
  refine ar_iconst (x := (-1)) (pc' := 17) hM rfl (by decide) rfl ?_
  refine ar_ireturn hM rfl (Or.inl rfl) ?_
  exact ⟨rfl, ⟨_, _, _, _, _, _, _, _, _, _, _, _, _, _, _, _, _, _, _, _, _, hm, h134, h135, h136, h137, h138, h139, h140, h141, h142, h143, h144, h145, h146, h147, h148, h149, ⟨ht40, hN6⟩, hT, hS, htx, hA, hK, hN⟩, am_same.rf⟩
set_option maxRecDepth 100000 in
set_option maxHeartbeats 4000000 in
theorem e_restsM (w : am_W) (t : Nat × (Nat → Int32)) (T : p_D) (S : s_S) (A : List s_S) (K : Nat → Option s_S) (N : x_N) (sd : Int64) (d : Nat) (hd : d ≤ 1000) (hv : v_W d T S A K) (hW : d_W w t T S A K N sd) (k : Nat) (hk : k < T.2.2.1) (h : Int32) (hh : ¬ i_H T.2.2.1 h) (c : Int32) : am_Go 156 (0, [.ref 133, .int (nI k), .int h, .int c, .float 0, .float 0, .float 0, .float 0, .float 0, .float 0], [], w, 0, 0) (fun res w' => res = some (.int (-1)) ∧ d_W w' t T S A K N sd ∧ am_same (rg 133 17) w w') := by
  have hM : am_P[156]? = some zm_X11_rests := rfl
  have hn6 : T.2.2.1 ≤ 6 := hv.1.1.1
  have hvT := hv.1.1
  have hvS := hv.2.1.1
  have hdy := hv.2.1.2.1
  obtain ⟨rh, rk, wh, fa, nx, ne, ki, ba, he, nw, rH, rT, tx, td, rw_, oo, s1, s2, s3, ik, kp, hm, h134, h135, h136, h137, h138, h139, h140, h141, h142, h143, h144, h145, h146, h147, h148, h149, ⟨ht40, hN6⟩, hT, hS, htx, hA, hK, hN⟩ := hW
  have hnx := hA.1
  have hal := hA.2.1
  refine ar_aload_n (pc' := 1) hM rfl rfl rfl ?_
  refine ar_iload_n (pc' := 2) hM rfl rfl rfl ?_
  refine ar_virtual (pc' := 5) (k3 := 0) (k4 := 0) hM rfl rfl hm ⟨rfl, (by decide)⟩ rfl rfl (by have h0 := d_isH (w := w) T hm (nI k); rw [if_pos ((i_H_iff hn6 _).mpr ⟨k, hk, rfl⟩)] at h0; exact h0) (fun r2 w2 q2 => ?_)
  obtain ⟨rfl, q2w⟩ := q2
  rw [q2w]
  show am_Go 156 (5, [.ref 133, .int (nI k), .int h, .int c, .float 0, .float 0, .float 0, .float 0, .float 0, .float 0], [.int 1], w, 0, 0) _
  refine ar_if_eq (pc' := 8) hM rfl rfl (fun q => absurd q (by decide)) (fun _ => ?_)
  refine ar_aload_n (pc' := 9) hM rfl rfl rfl ?_
  refine ar_iload_n (pc' := 10) hM rfl rfl rfl ?_
  refine ar_virtual (pc' := 13) (k3 := 0) (k4 := 0) hM rfl rfl hm ⟨rfl, (by decide)⟩ rfl rfl (by have h0 := d_isH (w := w) T hm h; rw [if_neg (fun q => hh ((i_H_iff hn6 _).mp q))] at h0; exact h0) (fun r10 w10 q10 => ?_)
  obtain ⟨rfl, q10w⟩ := q10
  rw [q10w]
  show am_Go 156 (13, [.ref 133, .int (nI k), .int h, .int c, .float 0, .float 0, .float 0, .float 0, .float 0, .float 0], [.int 0], w, 0, 0) _
  refine ar_if_ne (pc' := 16) hM rfl rfl (fun q => absurd (by decide) q) (fun _ => ?_)
  refine ar_iconst (x := (-1)) (pc' := 17) hM rfl (by decide) rfl ?_
  refine ar_ireturn hM rfl (Or.inl rfl) ?_
  exact ⟨rfl, ⟨_, _, _, _, _, _, _, _, _, _, _, _, _, _, _, _, _, _, _, _, _, hm, h134, h135, h136, h137, h138, h139, h140, h141, h142, h143, h144, h145, h146, h147, h148, h149, ⟨ht40, hN6⟩, hT, hS, htx, hA, hK, hN⟩, am_same.rf⟩
set_option maxRecDepth 100000 in
set_option maxHeartbeats 4000000 in
theorem e_restsE (w : am_W) (t : Nat × (Nat → Int32)) (T : p_D) (S : s_S) (A : List s_S) (K : Nat → Option s_S) (N : x_N) (sd : Int64) (d : Nat) (hd : d ≤ 1000) (hv : v_W d T S A K) (hW : d_W w t T S A K N sd) (k : Nat) (hk : k < T.2.2.1) (c : Int32) : am_Go 156 (0, [.ref 133, .int (nI k), .int (nI k), .int c, .float 0, .float 0, .float 0, .float 0, .float 0, .float 0], [], w, 0, 0) (fun res w' => res = some (.int (-2)) ∧ d_W w' t T S A K N sd ∧ am_same (rg 133 17) w w') := by
  have hM : am_P[156]? = some zm_X11_rests := rfl
  have hn6 : T.2.2.1 ≤ 6 := hv.1.1.1
  have hvT := hv.1.1
  have hvS := hv.2.1.1
  have hdy := hv.2.1.2.1
  obtain ⟨rh, rk, wh, fa, nx, ne, ki, ba, he, nw, rH, rT, tx, td, rw_, oo, s1, s2, s3, ik, kp, hm, h134, h135, h136, h137, h138, h139, h140, h141, h142, h143, h144, h145, h146, h147, h148, h149, ⟨ht40, hN6⟩, hT, hS, htx, hA, hK, hN⟩ := hW
  have hnx := hA.1
  have hal := hA.2.1
  refine ar_aload_n (pc' := 1) hM rfl rfl rfl ?_
  refine ar_iload_n (pc' := 2) hM rfl rfl rfl ?_
  refine ar_virtual (pc' := 5) (k3 := 0) (k4 := 0) hM rfl rfl hm ⟨rfl, (by decide)⟩ rfl rfl (by have h0 := d_isH (w := w) T hm (nI k); rw [if_pos ((i_H_iff hn6 _).mpr ⟨k, hk, rfl⟩)] at h0; exact h0) (fun r2 w2 q2 => ?_)
  obtain ⟨rfl, q2w⟩ := q2
  rw [q2w]
  show am_Go 156 (5, [.ref 133, .int (nI k), .int (nI k), .int c, .float 0, .float 0, .float 0, .float 0, .float 0, .float 0], [.int 1], w, 0, 0) _
  refine ar_if_eq (pc' := 8) hM rfl rfl (fun q => absurd q (by decide)) (fun _ => ?_)
  refine ar_aload_n (pc' := 9) hM rfl rfl rfl ?_
  refine ar_iload_n (pc' := 10) hM rfl rfl rfl ?_
  refine ar_virtual (pc' := 13) (k3 := 0) (k4 := 0) hM rfl rfl hm ⟨rfl, (by decide)⟩ rfl rfl (by have h0 := d_isH (w := w) T hm (nI k); rw [if_pos ((i_H_iff hn6 _).mpr ⟨k, hk, rfl⟩)] at h0; exact h0) (fun r10 w10 q10 => ?_)
  obtain ⟨rfl, q10w⟩ := q10
  rw [q10w]
  show am_Go 156 (13, [.ref 133, .int (nI k), .int (nI k), .int c, .float 0, .float 0, .float 0, .float 0, .float 0, .float 0], [.int 1], w, 0, 0) _
  refine ar_if_ne (pc' := 16) hM rfl rfl (fun _ => ?_) (fun q => absurd q (by decide))
  refine ar_iload_n (pc' := 19) hM rfl rfl rfl ?_
  refine ar_iload_n (pc' := 20) hM rfl rfl rfl ?_
  refine ar_icmp_eq (pc' := 23) hM rfl rfl (fun _ => ?_) (fun q => absurd rfl q)
  refine ar_bipush (x := (-2)) (pc' := 35) hM rfl (by decide) rfl ?_
  refine ar_ireturn hM rfl (Or.inl rfl) ?_
  exact ⟨rfl, ⟨_, _, _, _, _, _, _, _, _, _, _, _, _, _, _, _, _, _, _, _, _, hm, h134, h135, h136, h137, h138, h139, h140, h141, h142, h143, h144, h145, h146, h147, h148, h149, ⟨ht40, hN6⟩, hT, hS, htx, hA, hK, hN⟩, am_same.rf⟩
set_option maxRecDepth 100000 in
set_option maxHeartbeats 4000000 in
theorem e_restsO (w : am_W) (t : Nat × (Nat → Int32)) (T : p_D) (S : s_S) (A : List s_S) (K : Nat → Option s_S) (N : x_N) (sd : Int64) (d : Nat) (hd : d ≤ 1000) (hv : v_W d T S A K) (hW : d_W w t T S A K N sd) (k : Nat) (hk : k < T.2.2.1) (j : Nat) (hj : j < T.2.2.1) (hkj : k ≠ j) (c : Int32) (hno : ¬ (0 ≤ c ∧ c ≤ 1)) : am_Go 156 (0, [.ref 133, .int (nI k), .int (nI j), .int c, .float 0, .float 0, .float 0, .float 0, .float 0, .float 0], [], w, 0, 0) (fun res w' => res = some (.int (-2)) ∧ d_W w' t T S A K N sd ∧ am_same (rg 133 17) w w') := by
  have hM : am_P[156]? = some zm_X11_rests := rfl
  have hn6 : T.2.2.1 ≤ 6 := hv.1.1.1
  have hvT := hv.1.1
  have hvS := hv.2.1.1
  have hdy := hv.2.1.2.1
  obtain ⟨rh, rk, wh, fa, nx, ne, ki, ba, he, nw, rH, rT, tx, td, rw_, oo, s1, s2, s3, ik, kp, hm, h134, h135, h136, h137, h138, h139, h140, h141, h142, h143, h144, h145, h146, h147, h148, h149, ⟨ht40, hN6⟩, hT, hS, htx, hA, hK, hN⟩ := hW
  have hnx := hA.1
  have hal := hA.2.1
  refine ar_aload_n (pc' := 1) hM rfl rfl rfl ?_
  refine ar_iload_n (pc' := 2) hM rfl rfl rfl ?_
  refine ar_virtual (pc' := 5) (k3 := 0) (k4 := 0) hM rfl rfl hm ⟨rfl, (by decide)⟩ rfl rfl (by have h0 := d_isH (w := w) T hm (nI k); rw [if_pos ((i_H_iff hn6 _).mpr ⟨k, hk, rfl⟩)] at h0; exact h0) (fun r2 w2 q2 => ?_)
  obtain ⟨rfl, q2w⟩ := q2
  rw [q2w]
  show am_Go 156 (5, [.ref 133, .int (nI k), .int (nI j), .int c, .float 0, .float 0, .float 0, .float 0, .float 0, .float 0], [.int 1], w, 0, 0) _
  refine ar_if_eq (pc' := 8) hM rfl rfl (fun q => absurd q (by decide)) (fun _ => ?_)
  refine ar_aload_n (pc' := 9) hM rfl rfl rfl ?_
  refine ar_iload_n (pc' := 10) hM rfl rfl rfl ?_
  refine ar_virtual (pc' := 13) (k3 := 0) (k4 := 0) hM rfl rfl hm ⟨rfl, (by decide)⟩ rfl rfl (by have h0 := d_isH (w := w) T hm (nI j); rw [if_pos ((i_H_iff hn6 _).mpr ⟨j, hj, rfl⟩)] at h0; exact h0) (fun r10 w10 q10 => ?_)
  obtain ⟨rfl, q10w⟩ := q10
  rw [q10w]
  show am_Go 156 (13, [.ref 133, .int (nI k), .int (nI j), .int c, .float 0, .float 0, .float 0, .float 0, .float 0, .float 0], [.int 1], w, 0, 0) _
  refine ar_if_ne (pc' := 16) hM rfl rfl (fun _ => ?_) (fun q => absurd q (by decide))
  refine ar_iload_n (pc' := 19) hM rfl rfl rfl ?_
  refine ar_iload_n (pc' := 20) hM rfl rfl rfl ?_
  refine ar_icmp_eq (pc' := 23) hM rfl rfl (fun q => absurd q (fun q => hkj ((nI_eq (by omega) (by omega)).mp q))) (fun _ => ?_)
  refine ar_iload_n (pc' := 24) hM rfl rfl rfl ?_
  refine ar_i2l (pc' := 25) hM rfl rfl ?_
  refine ar_lconst (x := 0) (pc' := 26) hM rfl (by decide) rfl ?_
  refine ar_lconst (x := 1) (pc' := 27) hM rfl (by decide) rfl ?_
  refine ar_static (pc' := 30) (k3 := 0) (k4 := 0) hM rfl (by decide) rfl rfl (by have h0 := d_in w c 0 1 0 1 (by decide) (by decide); rw [if_neg hno] at h0; exact h0) (fun r27 w27 q27 => ?_)
  obtain ⟨rfl, q27w⟩ := q27
  rw [q27w]
  show am_Go 156 (30, [.ref 133, .int (nI k), .int (nI j), .int c, .float 0, .float 0, .float 0, .float 0, .float 0, .float 0], [.int 0], w, 0, 0) _
  refine ar_if_ne (pc' := 33) hM rfl rfl (fun q => absurd (by decide) q) (fun _ => ?_)
  refine ar_bipush (x := (-2)) (pc' := 35) hM rfl (by decide) rfl ?_
  refine ar_ireturn hM rfl (Or.inl rfl) ?_
  exact ⟨rfl, ⟨_, _, _, _, _, _, _, _, _, _, _, _, _, _, _, _, _, _, _, _, _, hm, h134, h135, h136, h137, h138, h139, h140, h141, h142, h143, h144, h145, h146, h147, h148, h149, ⟨ht40, hN6⟩, hT, hS, htx, hA, hK, hN⟩, am_same.rf⟩
set_option maxRecDepth 100000 in
set_option maxHeartbeats 4000000 in
theorem e_rests0 (w : am_W) (t : Nat × (Nat → Int32)) (T : p_D) (S : s_S) (A : List s_S) (K : Nat → Option s_S) (N : x_N) (sd : Int64) (d : Nat) (hd : d ≤ 1000) (hv : v_W d T S A K) (hW : d_W w t T S A K N sd) (k : Nat) (hk : k < T.2.2.1) (j : Nat) (hj : j < T.2.2.1) (hkj : k ≠ j) : am_Go 156 (0, [.ref 133, .int (nI k), .int (nI j), .int 0, .float 0, .float 0, .float 0, .float 0, .float 0, .float 0], [], w, 0, 0) (fun res w' => res = some (.int ((m_rests T S k j).1)) ∧ d_W w' t T S A K N sd ∧ am_same (rg 133 17) w w') := by
  have hM : am_P[156]? = some zm_X11_rests := rfl
  have hn6 : T.2.2.1 ≤ 6 := hv.1.1.1
  have hvT := hv.1.1
  have hvS := hv.2.1.1
  have hdy := hv.2.1.2.1
  obtain ⟨rh, rk, wh, fa, nx, ne, ki, ba, he, nw, rH, rT, tx, td, rw_, oo, s1, s2, s3, ik, kp, hm, h134, h135, h136, h137, h138, h139, h140, h141, h142, h143, h144, h145, h146, h147, h148, h149, ⟨ht40, hN6⟩, hT, hS, htx, hA, hK, hN⟩ := hW
  have hnx := hA.1
  have hal := hA.2.1
  have hjj := hj
  refine ar_aload_n (pc' := 1) hM rfl rfl rfl ?_
  refine ar_iload_n (pc' := 2) hM rfl rfl rfl ?_
  refine ar_virtual (pc' := 5) (k3 := 0) (k4 := 0) hM rfl rfl hm ⟨rfl, (by decide)⟩ rfl rfl (by have h0 := d_isH (w := w) T hm (nI k); rw [if_pos ((i_H_iff hn6 _).mpr ⟨k, hk, rfl⟩)] at h0; exact h0) (fun r2 w2 q2 => ?_)
  obtain ⟨rfl, q2w⟩ := q2
  rw [q2w]
  show am_Go 156 (5, [.ref 133, .int (nI k), .int (nI j), .int 0, .float 0, .float 0, .float 0, .float 0, .float 0, .float 0], [.int 1], w, 0, 0) _
  refine ar_if_eq (pc' := 8) hM rfl rfl (fun q => absurd q (by decide)) (fun _ => ?_)
  refine ar_aload_n (pc' := 9) hM rfl rfl rfl ?_
  refine ar_iload_n (pc' := 10) hM rfl rfl rfl ?_
  refine ar_virtual (pc' := 13) (k3 := 0) (k4 := 0) hM rfl rfl hm ⟨rfl, (by decide)⟩ rfl rfl (by have h0 := d_isH (w := w) T hm (nI j); rw [if_pos ((i_H_iff hn6 _).mpr ⟨j, hj, rfl⟩)] at h0; exact h0) (fun r10 w10 q10 => ?_)
  obtain ⟨rfl, q10w⟩ := q10
  rw [q10w]
  show am_Go 156 (13, [.ref 133, .int (nI k), .int (nI j), .int 0, .float 0, .float 0, .float 0, .float 0, .float 0, .float 0], [.int 1], w, 0, 0) _
  refine ar_if_ne (pc' := 16) hM rfl rfl (fun _ => ?_) (fun q => absurd q (by decide))
  refine ar_iload_n (pc' := 19) hM rfl rfl rfl ?_
  refine ar_iload_n (pc' := 20) hM rfl rfl rfl ?_
  refine ar_icmp_eq (pc' := 23) hM rfl rfl (fun q => absurd q (fun q => hkj ((nI_eq (by omega) (by omega)).mp q))) (fun _ => ?_)
  refine ar_iload_n (pc' := 24) hM rfl rfl rfl ?_
  refine ar_i2l (pc' := 25) hM rfl rfl ?_
  refine ar_lconst (x := 0) (pc' := 26) hM rfl (by decide) rfl ?_
  refine ar_lconst (x := 1) (pc' := 27) hM rfl (by decide) rfl ?_
  refine ar_static (pc' := 30) (k3 := 0) (k4 := 0) hM rfl (by decide) rfl rfl (by have h0 := d_in w 0 0 1 0 1 (by decide) (by decide); rw [if_pos (by decide)] at h0; exact h0) (fun r27 w27 q27 => ?_)
  obtain ⟨rfl, q27w⟩ := q27
  rw [q27w]
  show am_Go 156 (30, [.ref 133, .int (nI k), .int (nI j), .int 0, .float 0, .float 0, .float 0, .float 0, .float 0, .float 0], [.int 1], w, 0, 0) _
  refine ar_if_ne (pc' := 33) hM rfl rfl (fun _ => ?_) (fun q => absurd q (by decide))
  refine ar_iconst (x := 0) (pc' := 37) hM rfl (by decide) rfl ?_
  refine ar_istore (pc' := 39) hM rfl rfl rfl rfl ?_
  refine ar_bipush (x := (-9)) (pc' := 41) hM rfl (by decide) rfl ?_
  refine ar_istore (pc' := 43) hM rfl rfl rfl rfl ?_
  refine ar_iconst (x := 0) (pc' := 44) hM rfl (by decide) rfl ?_
  refine ar_istore (pc' := 46) hM rfl rfl rfl rfl ?_
  have loop : ∀ (dj i : Nat) (y4 : Int32) (y5 : Int32) (g : Nat → Int32) (f : Nat → Int32) (z7 : Value) (z8 : Value) (z9 : Value), dj + i = 4 → ((y4, y5) = m_up (m_one T S k j) (m_oth T S k j) i) → (∀ i, i < 21 → g i = nw i) → am_Go 156 (46, [.ref 133, .int (nI k), .int (nI j), .int 0, .int y4, .int y5, .int (nI i), z7, z8, z9], [], ((w.set 138 (.inl (0, 42, .inl g))).set 142 (.inl (0, 36, .inl f))), 0, 0) (fun res w' => res = some (.int ((m_rests T S k j).1)) ∧ d_W w' t T S A K N sd ∧ am_same (rg 133 17) w w') := by
    intro dj
    induction dj with
    | zero =>
      intro i y4 y5 g f z7 z8 z9 hj hy q1
      refine ar_iload (pc' := 48) hM rfl rfl rfl ?_
      refine ar_iconst (x := 4) (pc' := 49) hM rfl (by decide) rfl ?_
      refine ar_icmp_ge (pc' := 52) hM rfl rfl (fun _ => ?_) (fun q => absurd (nI_le (a := 4) (b := i) (by omega) (by omega)) q)
      refine ar_iload_n (pc' := 168) hM rfl rfl rfl ?_
      refine ar_if_ne (pc' := 171) hM rfl rfl (fun q => absurd rfl q) (fun _ => ?_)
      refine ar_iload (pc' := 173) hM rfl rfl rfl ?_
      refine ar_goto hM rfl ?_
      refine ar_ireturn hM rfl (Or.inl rfl) ?_
      exact ⟨by have h0 := hy; rw [show i = 4 by omega, m_up_dn] at h0; exact congrArg (fun q : Int32 × Int32 => some (Value.int q.1)) h0, ⟨_, _, _, _, _, _, _, _, _, _, _, _, _, _, _, _, _, _, _, _, _, (am_gn (by decide) (am_gn (by decide) hm)), (am_gn (by decide) (am_gn (by decide) h134)), (am_gn (by decide) (am_gn (by decide) h135)), (am_gn (by decide) (am_gn (by decide) h136)), (am_gn (by decide) (am_gn (by decide) h137)), (am_gn (by decide) (am_gs h138)), (am_gn (by decide) (am_gn (by decide) h139)), (am_gn (by decide) (am_gn (by decide) h140)), (am_gn (by decide) (am_gn (by decide) h141)), (am_gs (am_gn (by decide) h142)), (am_gn (by decide) (am_gn (by decide) h143)), (am_gn (by decide) (am_gn (by decide) h144)), (am_gn (by decide) (am_gn (by decide) h145)), (am_gn (by decide) (am_gn (by decide) h146)), (am_gn (by decide) (am_gn (by decide) h147)), (am_gn (by decide) (am_gn (by decide) h148)), (am_gn (by decide) (am_gn (by decide) h149)), ⟨ht40, hN6⟩, hT, (hS.cg hn6 (fun i hi => by rw [Nat.zero_add]; exact q1 i hi)), htx, hA, hK, hN⟩, (am_same.set (am_same.set am_same.rf (by unfold rg; omega)) (by unfold rg; omega))⟩
    | succ dj ih =>
      intro i y4 y5 g f z7 z8 z9 hj hy q1
      refine ar_iload (pc' := 48) hM rfl rfl rfl ?_
      refine ar_iconst (x := 4) (pc' := 49) hM rfl (by decide) rfl ?_
      refine ar_icmp_ge (pc' := 52) hM rfl rfl (fun q => absurd q (nI_ge (a := i) (b := 4) (by omega) (by omega))) (fun _ => ?_)
      refine ar_iload (pc' := 54) hM rfl rfl rfl ?_
      refine ar_iconst (x := 2) (pc' := 55) hM rfl (by decide) rfl ?_
      refine ar_idiv (pc' := 56) hM rfl (by decide) rfl ?_
      rw [show ((nI i) / 2 : Int32) = nI (i / 2) from (pk_div (d := 2) (by omega) (by decide) (by decide))]
      refine ar_istore (pc' := 58) hM rfl rfl rfl rfl ?_
      refine ar_iload (pc' := 60) hM rfl rfl rfl ?_
      refine ar_iconst (x := 2) (pc' := 61) hM rfl (by decide) rfl ?_
      refine ar_irem (pc' := 62) hM rfl (by decide) rfl ?_
      rw [show ((nI i) - (nI i) / 2 * 2 : Int32) = nI (i % 2) from (pk_rem (d := 2) (by omega) (by decide) (by decide))]
      refine ar_istore (pc' := 64) hM rfl rfl rfl rfl ?_
      refine ar_aload_n (pc' := 65) hM rfl rfl rfl ?_
      refine ar_iload_n (pc' := 66) hM rfl rfl rfl ?_
      refine ar_iload_n (pc' := 67) hM rfl rfl rfl ?_
      refine ar_iconst (x := 1) (pc' := 68) hM rfl (by decide) rfl ?_
      refine ar_iload (pc' := 70) hM rfl rfl rfl ?_
      refine ar_isub (pc' := 71) hM rfl rfl ?_
      rw [show (1 - (nI (i / 2)) : Int32) = nI (1 - i / 2) from (pk_sub (a := 1) (by omega))]
      refine ar_iload (pc' := 73) hM rfl rfl rfl ?_
      refine ar_virtual (pc' := 76) (k3 := 0) (k4 := 0) hM rfl rfl (am_gn (by decide) (am_gn (by decide) hm)) ⟨rfl, (by decide)⟩ rfl rfl (d_gain T (am_gn (by decide) (am_gn (by decide) hm)) (am_gn (by decide) (am_gn (by decide) h134)) (am_gn (by decide) (am_gn (by decide) h135)) (am_gn (by decide) (am_gn (by decide) h136)) (am_gn (by decide) (am_gn (by decide) h137)) (am_gn (by decide) (am_gs h138)) (am_gs (am_gn (by decide) h142)) hT rfl S hvT hvS (hS.cg hn6 (fun i hi => by rw [Nat.zero_add]; exact q1 i hi)) k j (1 - i / 2) (i % 2) hk hjj) (fun r73 w73 q73 => ?_)
      obtain ⟨td1, nw1, rfl, q73w, hl1⟩ := q73
      rw [q73w]
      show am_Go 156 (76, [.ref 133, .int (nI k), .int (nI j), .int 0, .int y4, .int y5, .int (nI i), .int (nI (i / 2)), .int (nI (i % 2)), z9], [.int (m_has T (m_gs S k j (1 - i / 2) (i % 2)) k)], ((((w.set 138 (.inl (0, 42, .inl g))).set 142 (.inl (0, 36, .inl f))).set 138 (.inl (0, 42, .inl nw1))).set 142 (.inl (0, 36, .inl td1))), 0, 0) _
      rw [show (((w.set 138 (.inl (0, 42, .inl g))).set 142 (.inl (0, 36, .inl f))).set 138 (.inl (0, 42, .inl nw1))) = ((w.set 138 (.inl (0, 42, .inl nw1))).set 142 (.inl (0, 36, .inl f))) from by rw [List.set_comm _ _ (show 142 ≠ 138 by decide), List.set_set]]
      rw [show (((w.set 138 (.inl (0, 42, .inl nw1))).set 142 (.inl (0, 36, .inl f))).set 142 (.inl (0, 36, .inl td1))) = ((w.set 138 (.inl (0, 42, .inl nw1))).set 142 (.inl (0, 36, .inl td1))) from by rw [List.set_set]]
      rw [show (m_has T (m_gs S k j (1 - i / 2) (i % 2)) k : Int32) = m_one T S k j (i ^^^ 2) from (by show _ = m_has T (m_rs S k j (i ^^^ 2)) k; rw [← m_gs_a (show k < 6 by omega) (show j < 6 by omega) (i_x2 i (by omega)).1]; exact congrArg (fun q => m_has T q k) (show m_gs S k j (1 - i / 2) (i % 2) = m_gs S k j ((i ^^^ 2) / 2) ((i ^^^ 2) % 2) by rw [(i_x2 i (by omega)).2.2.1, (i_x2 i (by omega)).2.2.2.1]))]
      refine ar_aload_n (pc' := 77) hM rfl rfl rfl ?_
      refine ar_iload_n (pc' := 78) hM rfl rfl rfl ?_
      refine ar_iload_n (pc' := 79) hM rfl rfl rfl ?_
      refine ar_iload (pc' := 81) hM rfl rfl rfl ?_
      refine ar_iload (pc' := 83) hM rfl rfl rfl ?_
      refine ar_virtual (pc' := 86) (k3 := 0) (k4 := 0) hM rfl rfl (am_gn (by decide) (am_gn (by decide) hm)) ⟨rfl, (by decide)⟩ rfl rfl (d_gain T (am_gn (by decide) (am_gn (by decide) hm)) (am_gn (by decide) (am_gn (by decide) h134)) (am_gn (by decide) (am_gn (by decide) h135)) (am_gn (by decide) (am_gn (by decide) h136)) (am_gn (by decide) (am_gn (by decide) h137)) (am_gn (by decide) (am_gs h138)) (am_gs (am_gn (by decide) h142)) hT rfl S hvT hvS (hS.cg hn6 (fun i hi => by rw [Nat.zero_add]; exact (hl1 i hi).trans (q1 i hi))) k j (i / 2) (i % 2) hk hjj) (fun r83 w83 q83 => ?_)
      obtain ⟨td4, nw4, rfl, q83w, hl4⟩ := q83
      rw [q83w]
      show am_Go 156 (86, [.ref 133, .int (nI k), .int (nI j), .int 0, .int y4, .int y5, .int (nI i), .int (nI (i / 2)), .int (nI (i % 2)), z9], [.int (m_has T (m_gs S k j (i / 2) (i % 2)) k), .int (m_one T S k j (i ^^^ 2))], ((((w.set 138 (.inl (0, 42, .inl nw1))).set 142 (.inl (0, 36, .inl td1))).set 138 (.inl (0, 42, .inl nw4))).set 142 (.inl (0, 36, .inl td4))), 0, 0) _
      rw [show (((w.set 138 (.inl (0, 42, .inl nw1))).set 142 (.inl (0, 36, .inl td1))).set 138 (.inl (0, 42, .inl nw4))) = ((w.set 138 (.inl (0, 42, .inl nw4))).set 142 (.inl (0, 36, .inl td1))) from by rw [List.set_comm _ _ (show 142 ≠ 138 by decide), List.set_set]]
      rw [show (((w.set 138 (.inl (0, 42, .inl nw4))).set 142 (.inl (0, 36, .inl td1))).set 142 (.inl (0, 36, .inl td4))) = ((w.set 138 (.inl (0, 42, .inl nw4))).set 142 (.inl (0, 36, .inl td4))) from by rw [List.set_set]]
      rw [show (m_has T (m_gs S k j (i / 2) (i % 2)) k : Int32) = m_one T S k j i from (by show _ = m_has T (m_rs S k j i) k; rw [← m_gs_a (show k < 6 by omega) (show j < 6 by omega) (show i < 4 by omega)])]
      refine ar_icmp_gt (pc' := 89) hM rfl rfl (fun c86 => ?_) (fun c86 => ?_)
      · refine ar_iconst (x := 0) (pc' := 119) hM rfl (by decide) rfl ?_
        refine ar_istore (pc' := 121) hM rfl rfl rfl rfl ?_
        refine ar_iload (pc' := 123) hM rfl rfl rfl ?_
        refine ar_if_eq (pc' := 126) hM rfl rfl (fun _ => ?_) (fun q => absurd rfl q)
        refine ar_iload (pc' := 144) hM rfl rfl rfl ?_
        refine ar_istore (pc' := 146) hM rfl rfl rfl rfl ?_
        refine ar_iload (pc' := 148) hM rfl rfl rfl ?_
        refine ar_iload (pc' := 150) hM rfl rfl rfl ?_
        refine ar_if_eq (pc' := 153) hM rfl rfl (fun _ => ?_) (fun q => absurd rfl q)
        refine ar_iconst (x := 0) (pc' := 158) hM rfl (by decide) rfl ?_
        refine ar_iadd (pc' := 159) hM rfl rfl ?_
        refine ar_istore (pc' := 161) hM rfl rfl rfl rfl ?_
        refine ar_iinc (z := nI (i + 1)) (pc' := 164) hM rfl rfl (nI_1 _) rfl rfl rfl ?_
        refine ar_goto hM rfl ?_
        exact ih (i + 1) (y4 + 0) y5 nw4 td4 (.int (nI (i / 2))) (.int (nI (i % 2))) (.int 0) (by omega) (by show _ = if _ then _ else _; rw [if_neg (fun q => absurd q.1 (Int32.not_le.mpr c86))]; rw [← hy, show y4 + 0 = y4 from Int32.add_zero _]) (fun i hi => (hl4 i hi).trans ((hl1 i hi).trans (q1 i hi)))
      · refine ar_aload_n (pc' := 90) hM rfl rfl rfl ?_
        refine ar_iload_n (pc' := 91) hM rfl rfl rfl ?_
        refine ar_iload_n (pc' := 92) hM rfl rfl rfl ?_
        refine ar_iconst (x := 1) (pc' := 93) hM rfl (by decide) rfl ?_
        refine ar_iload (pc' := 95) hM rfl rfl rfl ?_
        refine ar_isub (pc' := 96) hM rfl rfl ?_
        rw [show (1 - (nI (i % 2)) : Int32) = nI (1 - i % 2) from (pk_sub (a := 1) (by omega))]
        refine ar_iload (pc' := 98) hM rfl rfl rfl ?_
        refine ar_virtual (pc' := 101) (k3 := 0) (k4 := 0) hM rfl rfl (am_gn (by decide) (am_gn (by decide) hm)) ⟨rfl, (by decide)⟩ rfl rfl (d_gain T (am_gn (by decide) (am_gn (by decide) hm)) (am_gn (by decide) (am_gn (by decide) h134)) (am_gn (by decide) (am_gn (by decide) h135)) (am_gn (by decide) (am_gn (by decide) h136)) (am_gn (by decide) (am_gn (by decide) h137)) (am_gn (by decide) (am_gs h138)) (am_gs (am_gn (by decide) h142)) hT rfl S hvT hvS (hS.cg hn6 (fun i hi => by rw [Nat.zero_add]; exact (hl4 i hi).trans ((hl1 i hi).trans (q1 i hi)))) j k (1 - i % 2) (i / 2) hjj hk) (fun r98 w98 q98 => ?_)
        obtain ⟨td7, nw7, rfl, q98w, hl7⟩ := q98
        rw [q98w]
        show am_Go 156 (101, [.ref 133, .int (nI k), .int (nI j), .int 0, .int y4, .int y5, .int (nI i), .int (nI (i / 2)), .int (nI (i % 2)), z9], [.int (m_has T (m_gs S j k (1 - i % 2) (i / 2)) j)], ((((w.set 138 (.inl (0, 42, .inl nw4))).set 142 (.inl (0, 36, .inl td4))).set 138 (.inl (0, 42, .inl nw7))).set 142 (.inl (0, 36, .inl td7))), 0, 0) _
        rw [show (((w.set 138 (.inl (0, 42, .inl nw4))).set 142 (.inl (0, 36, .inl td4))).set 138 (.inl (0, 42, .inl nw7))) = ((w.set 138 (.inl (0, 42, .inl nw7))).set 142 (.inl (0, 36, .inl td4))) from by rw [List.set_comm _ _ (show 142 ≠ 138 by decide), List.set_set]]
        rw [show (((w.set 138 (.inl (0, 42, .inl nw7))).set 142 (.inl (0, 36, .inl td4))).set 142 (.inl (0, 36, .inl td7))) = ((w.set 138 (.inl (0, 42, .inl nw7))).set 142 (.inl (0, 36, .inl td7))) from by rw [List.set_set]]
        rw [show (m_has T (m_gs S j k (1 - i % 2) (i / 2)) j : Int32) = m_oth T S k j (i ^^^ 1) from (by show _ = m_has T (m_rs S k j (i ^^^ 1)) j; rw [← m_gs_b (show k < 6 by omega) (show j < 6 by omega) (i_x2 i (by omega)).2.1]; exact congrArg (fun q => m_has T q j) (show m_gs S j k (1 - i % 2) (i / 2) = m_gs S j k ((i ^^^ 1) % 2) ((i ^^^ 1) / 2) by rw [(i_x2 i (by omega)).2.2.2.2.1, (i_x2 i (by omega)).2.2.2.2.2]))]
        refine ar_aload_n (pc' := 102) hM rfl rfl rfl ?_
        refine ar_iload_n (pc' := 103) hM rfl rfl rfl ?_
        refine ar_iload_n (pc' := 104) hM rfl rfl rfl ?_
        refine ar_iload (pc' := 106) hM rfl rfl rfl ?_
        refine ar_iload (pc' := 108) hM rfl rfl rfl ?_
        refine ar_virtual (pc' := 111) (k3 := 0) (k4 := 0) hM rfl rfl (am_gn (by decide) (am_gn (by decide) hm)) ⟨rfl, (by decide)⟩ rfl rfl (d_gain T (am_gn (by decide) (am_gn (by decide) hm)) (am_gn (by decide) (am_gn (by decide) h134)) (am_gn (by decide) (am_gn (by decide) h135)) (am_gn (by decide) (am_gn (by decide) h136)) (am_gn (by decide) (am_gn (by decide) h137)) (am_gn (by decide) (am_gs h138)) (am_gs (am_gn (by decide) h142)) hT rfl S hvT hvS (hS.cg hn6 (fun i hi => by rw [Nat.zero_add]; exact (hl7 i hi).trans ((hl4 i hi).trans ((hl1 i hi).trans (q1 i hi))))) j k (i % 2) (i / 2) hjj hk) (fun r108 w108 q108 => ?_)
        obtain ⟨td10, nw10, rfl, q108w, hl10⟩ := q108
        rw [q108w]
        show am_Go 156 (111, [.ref 133, .int (nI k), .int (nI j), .int 0, .int y4, .int y5, .int (nI i), .int (nI (i / 2)), .int (nI (i % 2)), z9], [.int (m_has T (m_gs S j k (i % 2) (i / 2)) j), .int (m_oth T S k j (i ^^^ 1))], ((((w.set 138 (.inl (0, 42, .inl nw7))).set 142 (.inl (0, 36, .inl td7))).set 138 (.inl (0, 42, .inl nw10))).set 142 (.inl (0, 36, .inl td10))), 0, 0) _
        rw [show (((w.set 138 (.inl (0, 42, .inl nw7))).set 142 (.inl (0, 36, .inl td7))).set 138 (.inl (0, 42, .inl nw10))) = ((w.set 138 (.inl (0, 42, .inl nw10))).set 142 (.inl (0, 36, .inl td7))) from by rw [List.set_comm _ _ (show 142 ≠ 138 by decide), List.set_set]]
        rw [show (((w.set 138 (.inl (0, 42, .inl nw10))).set 142 (.inl (0, 36, .inl td7))).set 142 (.inl (0, 36, .inl td10))) = ((w.set 138 (.inl (0, 42, .inl nw10))).set 142 (.inl (0, 36, .inl td10))) from by rw [List.set_set]]
        rw [show (m_has T (m_gs S j k (i % 2) (i / 2)) j : Int32) = m_oth T S k j i from (by show _ = m_has T (m_rs S k j i) j; rw [← m_gs_b (show k < 6 by omega) (show j < 6 by omega) (show i < 4 by omega)])]
        refine ar_icmp_gt (pc' := 114) hM rfl rfl (fun c111 => ?_) (fun c111 => ?_)
        · refine ar_iconst (x := 0) (pc' := 119) hM rfl (by decide) rfl ?_
          refine ar_istore (pc' := 121) hM rfl rfl rfl rfl ?_
          refine ar_iload (pc' := 123) hM rfl rfl rfl ?_
          refine ar_if_eq (pc' := 126) hM rfl rfl (fun _ => ?_) (fun q => absurd rfl q)
          refine ar_iload (pc' := 144) hM rfl rfl rfl ?_
          refine ar_istore (pc' := 146) hM rfl rfl rfl rfl ?_
          refine ar_iload (pc' := 148) hM rfl rfl rfl ?_
          refine ar_iload (pc' := 150) hM rfl rfl rfl ?_
          refine ar_if_eq (pc' := 153) hM rfl rfl (fun _ => ?_) (fun q => absurd rfl q)
          refine ar_iconst (x := 0) (pc' := 158) hM rfl (by decide) rfl ?_
          refine ar_iadd (pc' := 159) hM rfl rfl ?_
          refine ar_istore (pc' := 161) hM rfl rfl rfl rfl ?_
          refine ar_iinc (z := nI (i + 1)) (pc' := 164) hM rfl rfl (nI_1 _) rfl rfl rfl ?_
          refine ar_goto hM rfl ?_
          exact ih (i + 1) (y4 + 0) y5 nw10 td10 (.int (nI (i / 2))) (.int (nI (i % 2))) (.int 0) (by omega) (by show _ = if _ then _ else _; rw [if_neg (fun q => absurd q.2 (Int32.not_le.mpr c111))]; rw [← hy, show y4 + 0 = y4 from Int32.add_zero _]) (fun i hi => (hl10 i hi).trans ((hl7 i hi).trans ((hl4 i hi).trans ((hl1 i hi).trans (q1 i hi)))))
        · refine ar_iconst (x := 1) (pc' := 115) hM rfl (by decide) rfl ?_
          refine ar_goto hM rfl ?_
          refine ar_istore (pc' := 121) hM rfl rfl rfl rfl ?_
          refine ar_iload (pc' := 123) hM rfl rfl rfl ?_
          refine ar_if_eq (pc' := 126) hM rfl rfl (fun q => absurd q (by decide)) (fun _ => ?_)
          refine ar_iload (pc' := 128) hM rfl rfl rfl ?_
          refine ar_if_ne (pc' := 131) hM rfl rfl (fun c128 => ?_) (fun c128 => ?_)
          · refine ar_iload (pc' := 144) hM rfl rfl rfl ?_
            refine ar_istore (pc' := 146) hM rfl rfl rfl rfl ?_
            refine ar_iload (pc' := 148) hM rfl rfl rfl ?_
            refine ar_iload (pc' := 150) hM rfl rfl rfl ?_
            refine ar_if_eq (pc' := 153) hM rfl rfl (fun q => absurd q (by decide)) (fun _ => ?_)
            refine ar_iconst (x := 1) (pc' := 154) hM rfl (by decide) rfl ?_
            refine ar_goto hM rfl ?_
            refine ar_iadd (pc' := 159) hM rfl rfl ?_
            refine ar_istore (pc' := 161) hM rfl rfl rfl rfl ?_
            refine ar_iinc (z := nI (i + 1)) (pc' := 164) hM rfl rfl (nI_1 _) rfl rfl rfl ?_
            refine ar_goto hM rfl ?_
            exact ih (i + 1) (y4 + 1) y5 nw10 td10 (.int (nI (i / 2))) (.int (nI (i % 2))) (.int 1) (by omega) (by show _ = if _ then _ else _; rw [if_pos ⟨Int32.not_lt.mp c86, Int32.not_lt.mp c111⟩, ← hy]; show _ = (y4 + 1, if y4 = 0 then _ else y5); rw [if_neg c128]) (fun i hi => (hl10 i hi).trans ((hl7 i hi).trans ((hl4 i hi).trans ((hl1 i hi).trans (q1 i hi)))))
          · refine ar_bipush (x := 10) (pc' := 133) hM rfl (by decide) rfl ?_
            refine ar_iload (pc' := 135) hM rfl rfl rfl ?_
            refine ar_imul (pc' := 136) hM rfl rfl ?_
            rw [show (10 * (nI (i / 2)) : Int32) = nI (10 * (i / 2)) from pk_mul 10 (i / 2)]
            refine ar_iload (pc' := 138) hM rfl rfl rfl ?_
            refine ar_iadd (pc' := 139) hM rfl rfl ?_
            rw [show ((nI (10 * (i / 2))) + (nI (i % 2)) : Int32) = nI ((10 * (i / 2)) + (i % 2)) from nI_add (10 * (i / 2)) (i % 2)]
            refine ar_goto hM rfl ?_
            refine ar_istore (pc' := 146) hM rfl rfl rfl rfl ?_
            refine ar_iload (pc' := 148) hM rfl rfl rfl ?_
            refine ar_iload (pc' := 150) hM rfl rfl rfl ?_
            refine ar_if_eq (pc' := 153) hM rfl rfl (fun q => absurd q (by decide)) (fun _ => ?_)
            refine ar_iconst (x := 1) (pc' := 154) hM rfl (by decide) rfl ?_
            refine ar_goto hM rfl ?_
            refine ar_iadd (pc' := 159) hM rfl rfl ?_
            refine ar_istore (pc' := 161) hM rfl rfl rfl rfl ?_
            refine ar_iinc (z := nI (i + 1)) (pc' := 164) hM rfl rfl (nI_1 _) rfl rfl rfl ?_
            refine ar_goto hM rfl ?_
            exact ih (i + 1) (y4 + 1) (nI ((10 * (i / 2)) + (i % 2))) nw10 td10 (.int (nI (i / 2))) (.int (nI (i % 2))) (.int 1) (by omega) (by show _ = if _ then _ else _; rw [if_pos ⟨Int32.not_lt.mp c86, Int32.not_lt.mp c111⟩, ← hy]; show _ = (y4 + 1, if y4 = 0 then _ else y5); rw [if_pos c128]) (fun i hi => (hl10 i hi).trans ((hl7 i hi).trans ((hl4 i hi).trans ((hl1 i hi).trans (q1 i hi)))))
  have hl0 := loop (4) 0 0 (-9) nw td (.float 0) (.float 0) (.float 0) (by omega) rfl (fun _ _ => rfl)
  rw [am_si h138, am_si h142] at hl0
  exact hl0
set_option maxRecDepth 100000 in
set_option maxHeartbeats 4000000 in
theorem e_rests1 (w : am_W) (t : Nat × (Nat → Int32)) (T : p_D) (S : s_S) (A : List s_S) (K : Nat → Option s_S) (N : x_N) (sd : Int64) (d : Nat) (hd : d ≤ 1000) (hv : v_W d T S A K) (hW : d_W w t T S A K N sd) (k : Nat) (hk : k < T.2.2.1) (j : Nat) (hj : j < T.2.2.1) (hkj : k ≠ j) : am_Go 156 (0, [.ref 133, .int (nI k), .int (nI j), .int 1, .float 0, .float 0, .float 0, .float 0, .float 0, .float 0], [], w, 0, 0) (fun res w' => res = some (.int ((m_rests T S k j).2)) ∧ d_W w' t T S A K N sd ∧ am_same (rg 133 17) w w') := by
  have hM : am_P[156]? = some zm_X11_rests := rfl
  have hn6 : T.2.2.1 ≤ 6 := hv.1.1.1
  have hvT := hv.1.1
  have hvS := hv.2.1.1
  have hdy := hv.2.1.2.1
  obtain ⟨rh, rk, wh, fa, nx, ne, ki, ba, he, nw, rH, rT, tx, td, rw_, oo, s1, s2, s3, ik, kp, hm, h134, h135, h136, h137, h138, h139, h140, h141, h142, h143, h144, h145, h146, h147, h148, h149, ⟨ht40, hN6⟩, hT, hS, htx, hA, hK, hN⟩ := hW
  have hnx := hA.1
  have hal := hA.2.1
  have hjj := hj
  refine ar_aload_n (pc' := 1) hM rfl rfl rfl ?_
  refine ar_iload_n (pc' := 2) hM rfl rfl rfl ?_
  refine ar_virtual (pc' := 5) (k3 := 0) (k4 := 0) hM rfl rfl hm ⟨rfl, (by decide)⟩ rfl rfl (by have h0 := d_isH (w := w) T hm (nI k); rw [if_pos ((i_H_iff hn6 _).mpr ⟨k, hk, rfl⟩)] at h0; exact h0) (fun r2 w2 q2 => ?_)
  obtain ⟨rfl, q2w⟩ := q2
  rw [q2w]
  show am_Go 156 (5, [.ref 133, .int (nI k), .int (nI j), .int 1, .float 0, .float 0, .float 0, .float 0, .float 0, .float 0], [.int 1], w, 0, 0) _
  refine ar_if_eq (pc' := 8) hM rfl rfl (fun q => absurd q (by decide)) (fun _ => ?_)
  refine ar_aload_n (pc' := 9) hM rfl rfl rfl ?_
  refine ar_iload_n (pc' := 10) hM rfl rfl rfl ?_
  refine ar_virtual (pc' := 13) (k3 := 0) (k4 := 0) hM rfl rfl hm ⟨rfl, (by decide)⟩ rfl rfl (by have h0 := d_isH (w := w) T hm (nI j); rw [if_pos ((i_H_iff hn6 _).mpr ⟨j, hj, rfl⟩)] at h0; exact h0) (fun r10 w10 q10 => ?_)
  obtain ⟨rfl, q10w⟩ := q10
  rw [q10w]
  show am_Go 156 (13, [.ref 133, .int (nI k), .int (nI j), .int 1, .float 0, .float 0, .float 0, .float 0, .float 0, .float 0], [.int 1], w, 0, 0) _
  refine ar_if_ne (pc' := 16) hM rfl rfl (fun _ => ?_) (fun q => absurd q (by decide))
  refine ar_iload_n (pc' := 19) hM rfl rfl rfl ?_
  refine ar_iload_n (pc' := 20) hM rfl rfl rfl ?_
  refine ar_icmp_eq (pc' := 23) hM rfl rfl (fun q => absurd q (fun q => hkj ((nI_eq (by omega) (by omega)).mp q))) (fun _ => ?_)
  refine ar_iload_n (pc' := 24) hM rfl rfl rfl ?_
  refine ar_i2l (pc' := 25) hM rfl rfl ?_
  refine ar_lconst (x := 0) (pc' := 26) hM rfl (by decide) rfl ?_
  refine ar_lconst (x := 1) (pc' := 27) hM rfl (by decide) rfl ?_
  refine ar_static (pc' := 30) (k3 := 0) (k4 := 0) hM rfl (by decide) rfl rfl (by have h0 := d_in w 1 0 1 0 1 (by decide) (by decide); rw [if_pos (by decide)] at h0; exact h0) (fun r27 w27 q27 => ?_)
  obtain ⟨rfl, q27w⟩ := q27
  rw [q27w]
  show am_Go 156 (30, [.ref 133, .int (nI k), .int (nI j), .int 1, .float 0, .float 0, .float 0, .float 0, .float 0, .float 0], [.int 1], w, 0, 0) _
  refine ar_if_ne (pc' := 33) hM rfl rfl (fun _ => ?_) (fun q => absurd q (by decide))
  refine ar_iconst (x := 0) (pc' := 37) hM rfl (by decide) rfl ?_
  refine ar_istore (pc' := 39) hM rfl rfl rfl rfl ?_
  refine ar_bipush (x := (-9)) (pc' := 41) hM rfl (by decide) rfl ?_
  refine ar_istore (pc' := 43) hM rfl rfl rfl rfl ?_
  refine ar_iconst (x := 0) (pc' := 44) hM rfl (by decide) rfl ?_
  refine ar_istore (pc' := 46) hM rfl rfl rfl rfl ?_
  have loop : ∀ (dj i : Nat) (y4 : Int32) (y5 : Int32) (g : Nat → Int32) (f : Nat → Int32) (z7 : Value) (z8 : Value) (z9 : Value), dj + i = 4 → ((y4, y5) = m_up (m_one T S k j) (m_oth T S k j) i) → (∀ i, i < 21 → g i = nw i) → am_Go 156 (46, [.ref 133, .int (nI k), .int (nI j), .int 1, .int y4, .int y5, .int (nI i), z7, z8, z9], [], ((w.set 138 (.inl (0, 42, .inl g))).set 142 (.inl (0, 36, .inl f))), 0, 0) (fun res w' => res = some (.int ((m_rests T S k j).2)) ∧ d_W w' t T S A K N sd ∧ am_same (rg 133 17) w w') := by
    intro dj
    induction dj with
    | zero =>
      intro i y4 y5 g f z7 z8 z9 hj hy q1
      refine ar_iload (pc' := 48) hM rfl rfl rfl ?_
      refine ar_iconst (x := 4) (pc' := 49) hM rfl (by decide) rfl ?_
      refine ar_icmp_ge (pc' := 52) hM rfl rfl (fun _ => ?_) (fun q => absurd (nI_le (a := 4) (b := i) (by omega) (by omega)) q)
      refine ar_iload_n (pc' := 168) hM rfl rfl rfl ?_
      refine ar_if_ne (pc' := 171) hM rfl rfl (fun _ => ?_) (fun q => absurd q (by decide))
      refine ar_iload (pc' := 178) hM rfl rfl rfl ?_
      refine ar_ireturn hM rfl (Or.inl rfl) ?_
      exact ⟨by have h0 := hy; rw [show i = 4 by omega, m_up_dn] at h0; exact congrArg (fun q : Int32 × Int32 => some (Value.int q.2)) h0, ⟨_, _, _, _, _, _, _, _, _, _, _, _, _, _, _, _, _, _, _, _, _, (am_gn (by decide) (am_gn (by decide) hm)), (am_gn (by decide) (am_gn (by decide) h134)), (am_gn (by decide) (am_gn (by decide) h135)), (am_gn (by decide) (am_gn (by decide) h136)), (am_gn (by decide) (am_gn (by decide) h137)), (am_gn (by decide) (am_gs h138)), (am_gn (by decide) (am_gn (by decide) h139)), (am_gn (by decide) (am_gn (by decide) h140)), (am_gn (by decide) (am_gn (by decide) h141)), (am_gs (am_gn (by decide) h142)), (am_gn (by decide) (am_gn (by decide) h143)), (am_gn (by decide) (am_gn (by decide) h144)), (am_gn (by decide) (am_gn (by decide) h145)), (am_gn (by decide) (am_gn (by decide) h146)), (am_gn (by decide) (am_gn (by decide) h147)), (am_gn (by decide) (am_gn (by decide) h148)), (am_gn (by decide) (am_gn (by decide) h149)), ⟨ht40, hN6⟩, hT, (hS.cg hn6 (fun i hi => by rw [Nat.zero_add]; exact q1 i hi)), htx, hA, hK, hN⟩, (am_same.set (am_same.set am_same.rf (by unfold rg; omega)) (by unfold rg; omega))⟩
    | succ dj ih =>
      intro i y4 y5 g f z7 z8 z9 hj hy q1
      refine ar_iload (pc' := 48) hM rfl rfl rfl ?_
      refine ar_iconst (x := 4) (pc' := 49) hM rfl (by decide) rfl ?_
      refine ar_icmp_ge (pc' := 52) hM rfl rfl (fun q => absurd q (nI_ge (a := i) (b := 4) (by omega) (by omega))) (fun _ => ?_)
      refine ar_iload (pc' := 54) hM rfl rfl rfl ?_
      refine ar_iconst (x := 2) (pc' := 55) hM rfl (by decide) rfl ?_
      refine ar_idiv (pc' := 56) hM rfl (by decide) rfl ?_
      rw [show ((nI i) / 2 : Int32) = nI (i / 2) from (pk_div (d := 2) (by omega) (by decide) (by decide))]
      refine ar_istore (pc' := 58) hM rfl rfl rfl rfl ?_
      refine ar_iload (pc' := 60) hM rfl rfl rfl ?_
      refine ar_iconst (x := 2) (pc' := 61) hM rfl (by decide) rfl ?_
      refine ar_irem (pc' := 62) hM rfl (by decide) rfl ?_
      rw [show ((nI i) - (nI i) / 2 * 2 : Int32) = nI (i % 2) from (pk_rem (d := 2) (by omega) (by decide) (by decide))]
      refine ar_istore (pc' := 64) hM rfl rfl rfl rfl ?_
      refine ar_aload_n (pc' := 65) hM rfl rfl rfl ?_
      refine ar_iload_n (pc' := 66) hM rfl rfl rfl ?_
      refine ar_iload_n (pc' := 67) hM rfl rfl rfl ?_
      refine ar_iconst (x := 1) (pc' := 68) hM rfl (by decide) rfl ?_
      refine ar_iload (pc' := 70) hM rfl rfl rfl ?_
      refine ar_isub (pc' := 71) hM rfl rfl ?_
      rw [show (1 - (nI (i / 2)) : Int32) = nI (1 - i / 2) from (pk_sub (a := 1) (by omega))]
      refine ar_iload (pc' := 73) hM rfl rfl rfl ?_
      refine ar_virtual (pc' := 76) (k3 := 0) (k4 := 0) hM rfl rfl (am_gn (by decide) (am_gn (by decide) hm)) ⟨rfl, (by decide)⟩ rfl rfl (d_gain T (am_gn (by decide) (am_gn (by decide) hm)) (am_gn (by decide) (am_gn (by decide) h134)) (am_gn (by decide) (am_gn (by decide) h135)) (am_gn (by decide) (am_gn (by decide) h136)) (am_gn (by decide) (am_gn (by decide) h137)) (am_gn (by decide) (am_gs h138)) (am_gs (am_gn (by decide) h142)) hT rfl S hvT hvS (hS.cg hn6 (fun i hi => by rw [Nat.zero_add]; exact q1 i hi)) k j (1 - i / 2) (i % 2) hk hjj) (fun r73 w73 q73 => ?_)
      obtain ⟨td1, nw1, rfl, q73w, hl1⟩ := q73
      rw [q73w]
      show am_Go 156 (76, [.ref 133, .int (nI k), .int (nI j), .int 1, .int y4, .int y5, .int (nI i), .int (nI (i / 2)), .int (nI (i % 2)), z9], [.int (m_has T (m_gs S k j (1 - i / 2) (i % 2)) k)], ((((w.set 138 (.inl (0, 42, .inl g))).set 142 (.inl (0, 36, .inl f))).set 138 (.inl (0, 42, .inl nw1))).set 142 (.inl (0, 36, .inl td1))), 0, 0) _
      rw [show (((w.set 138 (.inl (0, 42, .inl g))).set 142 (.inl (0, 36, .inl f))).set 138 (.inl (0, 42, .inl nw1))) = ((w.set 138 (.inl (0, 42, .inl nw1))).set 142 (.inl (0, 36, .inl f))) from by rw [List.set_comm _ _ (show 142 ≠ 138 by decide), List.set_set]]
      rw [show (((w.set 138 (.inl (0, 42, .inl nw1))).set 142 (.inl (0, 36, .inl f))).set 142 (.inl (0, 36, .inl td1))) = ((w.set 138 (.inl (0, 42, .inl nw1))).set 142 (.inl (0, 36, .inl td1))) from by rw [List.set_set]]
      rw [show (m_has T (m_gs S k j (1 - i / 2) (i % 2)) k : Int32) = m_one T S k j (i ^^^ 2) from (by show _ = m_has T (m_rs S k j (i ^^^ 2)) k; rw [← m_gs_a (show k < 6 by omega) (show j < 6 by omega) (i_x2 i (by omega)).1]; exact congrArg (fun q => m_has T q k) (show m_gs S k j (1 - i / 2) (i % 2) = m_gs S k j ((i ^^^ 2) / 2) ((i ^^^ 2) % 2) by rw [(i_x2 i (by omega)).2.2.1, (i_x2 i (by omega)).2.2.2.1]))]
      refine ar_aload_n (pc' := 77) hM rfl rfl rfl ?_
      refine ar_iload_n (pc' := 78) hM rfl rfl rfl ?_
      refine ar_iload_n (pc' := 79) hM rfl rfl rfl ?_
      refine ar_iload (pc' := 81) hM rfl rfl rfl ?_
      refine ar_iload (pc' := 83) hM rfl rfl rfl ?_
      refine ar_virtual (pc' := 86) (k3 := 0) (k4 := 0) hM rfl rfl (am_gn (by decide) (am_gn (by decide) hm)) ⟨rfl, (by decide)⟩ rfl rfl (d_gain T (am_gn (by decide) (am_gn (by decide) hm)) (am_gn (by decide) (am_gn (by decide) h134)) (am_gn (by decide) (am_gn (by decide) h135)) (am_gn (by decide) (am_gn (by decide) h136)) (am_gn (by decide) (am_gn (by decide) h137)) (am_gn (by decide) (am_gs h138)) (am_gs (am_gn (by decide) h142)) hT rfl S hvT hvS (hS.cg hn6 (fun i hi => by rw [Nat.zero_add]; exact (hl1 i hi).trans (q1 i hi))) k j (i / 2) (i % 2) hk hjj) (fun r83 w83 q83 => ?_)
      obtain ⟨td4, nw4, rfl, q83w, hl4⟩ := q83
      rw [q83w]
      show am_Go 156 (86, [.ref 133, .int (nI k), .int (nI j), .int 1, .int y4, .int y5, .int (nI i), .int (nI (i / 2)), .int (nI (i % 2)), z9], [.int (m_has T (m_gs S k j (i / 2) (i % 2)) k), .int (m_one T S k j (i ^^^ 2))], ((((w.set 138 (.inl (0, 42, .inl nw1))).set 142 (.inl (0, 36, .inl td1))).set 138 (.inl (0, 42, .inl nw4))).set 142 (.inl (0, 36, .inl td4))), 0, 0) _
      rw [show (((w.set 138 (.inl (0, 42, .inl nw1))).set 142 (.inl (0, 36, .inl td1))).set 138 (.inl (0, 42, .inl nw4))) = ((w.set 138 (.inl (0, 42, .inl nw4))).set 142 (.inl (0, 36, .inl td1))) from by rw [List.set_comm _ _ (show 142 ≠ 138 by decide), List.set_set]]
      rw [show (((w.set 138 (.inl (0, 42, .inl nw4))).set 142 (.inl (0, 36, .inl td1))).set 142 (.inl (0, 36, .inl td4))) = ((w.set 138 (.inl (0, 42, .inl nw4))).set 142 (.inl (0, 36, .inl td4))) from by rw [List.set_set]]
      rw [show (m_has T (m_gs S k j (i / 2) (i % 2)) k : Int32) = m_one T S k j i from (by show _ = m_has T (m_rs S k j i) k; rw [← m_gs_a (show k < 6 by omega) (show j < 6 by omega) (show i < 4 by omega)])]
      refine ar_icmp_gt (pc' := 89) hM rfl rfl (fun c86 => ?_) (fun c86 => ?_)
      · refine ar_iconst (x := 0) (pc' := 119) hM rfl (by decide) rfl ?_
        refine ar_istore (pc' := 121) hM rfl rfl rfl rfl ?_
        refine ar_iload (pc' := 123) hM rfl rfl rfl ?_
        refine ar_if_eq (pc' := 126) hM rfl rfl (fun _ => ?_) (fun q => absurd rfl q)
        refine ar_iload (pc' := 144) hM rfl rfl rfl ?_
        refine ar_istore (pc' := 146) hM rfl rfl rfl rfl ?_
        refine ar_iload (pc' := 148) hM rfl rfl rfl ?_
        refine ar_iload (pc' := 150) hM rfl rfl rfl ?_
        refine ar_if_eq (pc' := 153) hM rfl rfl (fun _ => ?_) (fun q => absurd rfl q)
        refine ar_iconst (x := 0) (pc' := 158) hM rfl (by decide) rfl ?_
        refine ar_iadd (pc' := 159) hM rfl rfl ?_
        refine ar_istore (pc' := 161) hM rfl rfl rfl rfl ?_
        refine ar_iinc (z := nI (i + 1)) (pc' := 164) hM rfl rfl (nI_1 _) rfl rfl rfl ?_
        refine ar_goto hM rfl ?_
        exact ih (i + 1) (y4 + 0) y5 nw4 td4 (.int (nI (i / 2))) (.int (nI (i % 2))) (.int 0) (by omega) (by show _ = if _ then _ else _; rw [if_neg (fun q => absurd q.1 (Int32.not_le.mpr c86))]; rw [← hy, show y4 + 0 = y4 from Int32.add_zero _]) (fun i hi => (hl4 i hi).trans ((hl1 i hi).trans (q1 i hi)))
      · refine ar_aload_n (pc' := 90) hM rfl rfl rfl ?_
        refine ar_iload_n (pc' := 91) hM rfl rfl rfl ?_
        refine ar_iload_n (pc' := 92) hM rfl rfl rfl ?_
        refine ar_iconst (x := 1) (pc' := 93) hM rfl (by decide) rfl ?_
        refine ar_iload (pc' := 95) hM rfl rfl rfl ?_
        refine ar_isub (pc' := 96) hM rfl rfl ?_
        rw [show (1 - (nI (i % 2)) : Int32) = nI (1 - i % 2) from (pk_sub (a := 1) (by omega))]
        refine ar_iload (pc' := 98) hM rfl rfl rfl ?_
        refine ar_virtual (pc' := 101) (k3 := 0) (k4 := 0) hM rfl rfl (am_gn (by decide) (am_gn (by decide) hm)) ⟨rfl, (by decide)⟩ rfl rfl (d_gain T (am_gn (by decide) (am_gn (by decide) hm)) (am_gn (by decide) (am_gn (by decide) h134)) (am_gn (by decide) (am_gn (by decide) h135)) (am_gn (by decide) (am_gn (by decide) h136)) (am_gn (by decide) (am_gn (by decide) h137)) (am_gn (by decide) (am_gs h138)) (am_gs (am_gn (by decide) h142)) hT rfl S hvT hvS (hS.cg hn6 (fun i hi => by rw [Nat.zero_add]; exact (hl4 i hi).trans ((hl1 i hi).trans (q1 i hi)))) j k (1 - i % 2) (i / 2) hjj hk) (fun r98 w98 q98 => ?_)
        obtain ⟨td7, nw7, rfl, q98w, hl7⟩ := q98
        rw [q98w]
        show am_Go 156 (101, [.ref 133, .int (nI k), .int (nI j), .int 1, .int y4, .int y5, .int (nI i), .int (nI (i / 2)), .int (nI (i % 2)), z9], [.int (m_has T (m_gs S j k (1 - i % 2) (i / 2)) j)], ((((w.set 138 (.inl (0, 42, .inl nw4))).set 142 (.inl (0, 36, .inl td4))).set 138 (.inl (0, 42, .inl nw7))).set 142 (.inl (0, 36, .inl td7))), 0, 0) _
        rw [show (((w.set 138 (.inl (0, 42, .inl nw4))).set 142 (.inl (0, 36, .inl td4))).set 138 (.inl (0, 42, .inl nw7))) = ((w.set 138 (.inl (0, 42, .inl nw7))).set 142 (.inl (0, 36, .inl td4))) from by rw [List.set_comm _ _ (show 142 ≠ 138 by decide), List.set_set]]
        rw [show (((w.set 138 (.inl (0, 42, .inl nw7))).set 142 (.inl (0, 36, .inl td4))).set 142 (.inl (0, 36, .inl td7))) = ((w.set 138 (.inl (0, 42, .inl nw7))).set 142 (.inl (0, 36, .inl td7))) from by rw [List.set_set]]
        rw [show (m_has T (m_gs S j k (1 - i % 2) (i / 2)) j : Int32) = m_oth T S k j (i ^^^ 1) from (by show _ = m_has T (m_rs S k j (i ^^^ 1)) j; rw [← m_gs_b (show k < 6 by omega) (show j < 6 by omega) (i_x2 i (by omega)).2.1]; exact congrArg (fun q => m_has T q j) (show m_gs S j k (1 - i % 2) (i / 2) = m_gs S j k ((i ^^^ 1) % 2) ((i ^^^ 1) / 2) by rw [(i_x2 i (by omega)).2.2.2.2.1, (i_x2 i (by omega)).2.2.2.2.2]))]
        refine ar_aload_n (pc' := 102) hM rfl rfl rfl ?_
        refine ar_iload_n (pc' := 103) hM rfl rfl rfl ?_
        refine ar_iload_n (pc' := 104) hM rfl rfl rfl ?_
        refine ar_iload (pc' := 106) hM rfl rfl rfl ?_
        refine ar_iload (pc' := 108) hM rfl rfl rfl ?_
        refine ar_virtual (pc' := 111) (k3 := 0) (k4 := 0) hM rfl rfl (am_gn (by decide) (am_gn (by decide) hm)) ⟨rfl, (by decide)⟩ rfl rfl (d_gain T (am_gn (by decide) (am_gn (by decide) hm)) (am_gn (by decide) (am_gn (by decide) h134)) (am_gn (by decide) (am_gn (by decide) h135)) (am_gn (by decide) (am_gn (by decide) h136)) (am_gn (by decide) (am_gn (by decide) h137)) (am_gn (by decide) (am_gs h138)) (am_gs (am_gn (by decide) h142)) hT rfl S hvT hvS (hS.cg hn6 (fun i hi => by rw [Nat.zero_add]; exact (hl7 i hi).trans ((hl4 i hi).trans ((hl1 i hi).trans (q1 i hi))))) j k (i % 2) (i / 2) hjj hk) (fun r108 w108 q108 => ?_)
        obtain ⟨td10, nw10, rfl, q108w, hl10⟩ := q108
        rw [q108w]
        show am_Go 156 (111, [.ref 133, .int (nI k), .int (nI j), .int 1, .int y4, .int y5, .int (nI i), .int (nI (i / 2)), .int (nI (i % 2)), z9], [.int (m_has T (m_gs S j k (i % 2) (i / 2)) j), .int (m_oth T S k j (i ^^^ 1))], ((((w.set 138 (.inl (0, 42, .inl nw7))).set 142 (.inl (0, 36, .inl td7))).set 138 (.inl (0, 42, .inl nw10))).set 142 (.inl (0, 36, .inl td10))), 0, 0) _
        rw [show (((w.set 138 (.inl (0, 42, .inl nw7))).set 142 (.inl (0, 36, .inl td7))).set 138 (.inl (0, 42, .inl nw10))) = ((w.set 138 (.inl (0, 42, .inl nw10))).set 142 (.inl (0, 36, .inl td7))) from by rw [List.set_comm _ _ (show 142 ≠ 138 by decide), List.set_set]]
        rw [show (((w.set 138 (.inl (0, 42, .inl nw10))).set 142 (.inl (0, 36, .inl td7))).set 142 (.inl (0, 36, .inl td10))) = ((w.set 138 (.inl (0, 42, .inl nw10))).set 142 (.inl (0, 36, .inl td10))) from by rw [List.set_set]]
        rw [show (m_has T (m_gs S j k (i % 2) (i / 2)) j : Int32) = m_oth T S k j i from (by show _ = m_has T (m_rs S k j i) j; rw [← m_gs_b (show k < 6 by omega) (show j < 6 by omega) (show i < 4 by omega)])]
        refine ar_icmp_gt (pc' := 114) hM rfl rfl (fun c111 => ?_) (fun c111 => ?_)
        · refine ar_iconst (x := 0) (pc' := 119) hM rfl (by decide) rfl ?_
          refine ar_istore (pc' := 121) hM rfl rfl rfl rfl ?_
          refine ar_iload (pc' := 123) hM rfl rfl rfl ?_
          refine ar_if_eq (pc' := 126) hM rfl rfl (fun _ => ?_) (fun q => absurd rfl q)
          refine ar_iload (pc' := 144) hM rfl rfl rfl ?_
          refine ar_istore (pc' := 146) hM rfl rfl rfl rfl ?_
          refine ar_iload (pc' := 148) hM rfl rfl rfl ?_
          refine ar_iload (pc' := 150) hM rfl rfl rfl ?_
          refine ar_if_eq (pc' := 153) hM rfl rfl (fun _ => ?_) (fun q => absurd rfl q)
          refine ar_iconst (x := 0) (pc' := 158) hM rfl (by decide) rfl ?_
          refine ar_iadd (pc' := 159) hM rfl rfl ?_
          refine ar_istore (pc' := 161) hM rfl rfl rfl rfl ?_
          refine ar_iinc (z := nI (i + 1)) (pc' := 164) hM rfl rfl (nI_1 _) rfl rfl rfl ?_
          refine ar_goto hM rfl ?_
          exact ih (i + 1) (y4 + 0) y5 nw10 td10 (.int (nI (i / 2))) (.int (nI (i % 2))) (.int 0) (by omega) (by show _ = if _ then _ else _; rw [if_neg (fun q => absurd q.2 (Int32.not_le.mpr c111))]; rw [← hy, show y4 + 0 = y4 from Int32.add_zero _]) (fun i hi => (hl10 i hi).trans ((hl7 i hi).trans ((hl4 i hi).trans ((hl1 i hi).trans (q1 i hi)))))
        · refine ar_iconst (x := 1) (pc' := 115) hM rfl (by decide) rfl ?_
          refine ar_goto hM rfl ?_
          refine ar_istore (pc' := 121) hM rfl rfl rfl rfl ?_
          refine ar_iload (pc' := 123) hM rfl rfl rfl ?_
          refine ar_if_eq (pc' := 126) hM rfl rfl (fun q => absurd q (by decide)) (fun _ => ?_)
          refine ar_iload (pc' := 128) hM rfl rfl rfl ?_
          refine ar_if_ne (pc' := 131) hM rfl rfl (fun c128 => ?_) (fun c128 => ?_)
          · refine ar_iload (pc' := 144) hM rfl rfl rfl ?_
            refine ar_istore (pc' := 146) hM rfl rfl rfl rfl ?_
            refine ar_iload (pc' := 148) hM rfl rfl rfl ?_
            refine ar_iload (pc' := 150) hM rfl rfl rfl ?_
            refine ar_if_eq (pc' := 153) hM rfl rfl (fun q => absurd q (by decide)) (fun _ => ?_)
            refine ar_iconst (x := 1) (pc' := 154) hM rfl (by decide) rfl ?_
            refine ar_goto hM rfl ?_
            refine ar_iadd (pc' := 159) hM rfl rfl ?_
            refine ar_istore (pc' := 161) hM rfl rfl rfl rfl ?_
            refine ar_iinc (z := nI (i + 1)) (pc' := 164) hM rfl rfl (nI_1 _) rfl rfl rfl ?_
            refine ar_goto hM rfl ?_
            exact ih (i + 1) (y4 + 1) y5 nw10 td10 (.int (nI (i / 2))) (.int (nI (i % 2))) (.int 1) (by omega) (by show _ = if _ then _ else _; rw [if_pos ⟨Int32.not_lt.mp c86, Int32.not_lt.mp c111⟩, ← hy]; show _ = (y4 + 1, if y4 = 0 then _ else y5); rw [if_neg c128]) (fun i hi => (hl10 i hi).trans ((hl7 i hi).trans ((hl4 i hi).trans ((hl1 i hi).trans (q1 i hi)))))
          · refine ar_bipush (x := 10) (pc' := 133) hM rfl (by decide) rfl ?_
            refine ar_iload (pc' := 135) hM rfl rfl rfl ?_
            refine ar_imul (pc' := 136) hM rfl rfl ?_
            rw [show (10 * (nI (i / 2)) : Int32) = nI (10 * (i / 2)) from pk_mul 10 (i / 2)]
            refine ar_iload (pc' := 138) hM rfl rfl rfl ?_
            refine ar_iadd (pc' := 139) hM rfl rfl ?_
            rw [show ((nI (10 * (i / 2))) + (nI (i % 2)) : Int32) = nI ((10 * (i / 2)) + (i % 2)) from nI_add (10 * (i / 2)) (i % 2)]
            refine ar_goto hM rfl ?_
            refine ar_istore (pc' := 146) hM rfl rfl rfl rfl ?_
            refine ar_iload (pc' := 148) hM rfl rfl rfl ?_
            refine ar_iload (pc' := 150) hM rfl rfl rfl ?_
            refine ar_if_eq (pc' := 153) hM rfl rfl (fun q => absurd q (by decide)) (fun _ => ?_)
            refine ar_iconst (x := 1) (pc' := 154) hM rfl (by decide) rfl ?_
            refine ar_goto hM rfl ?_
            refine ar_iadd (pc' := 159) hM rfl rfl ?_
            refine ar_istore (pc' := 161) hM rfl rfl rfl rfl ?_
            refine ar_iinc (z := nI (i + 1)) (pc' := 164) hM rfl rfl (nI_1 _) rfl rfl rfl ?_
            refine ar_goto hM rfl ?_
            exact ih (i + 1) (y4 + 1) (nI ((10 * (i / 2)) + (i % 2))) nw10 td10 (.int (nI (i / 2))) (.int (nI (i % 2))) (.int 1) (by omega) (by show _ = if _ then _ else _; rw [if_pos ⟨Int32.not_lt.mp c86, Int32.not_lt.mp c111⟩, ← hy]; show _ = (y4 + 1, if y4 = 0 then _ else y5); rw [if_pos c128]) (fun i hi => (hl10 i hi).trans ((hl7 i hi).trans ((hl4 i hi).trans ((hl1 i hi).trans (q1 i hi)))))
  have hl0 := loop (4) 0 0 (-9) nw td (.float 0) (.float 0) (.float 0) (by omega) rfl (fun _ _ => rfl)
  rw [am_si h138, am_si h142] at hl0
  exact hl0
