/-! the reference whole: guests -/
def n_sq (f : Nat → Nat) : Nat → Nat
  | 0 => 0
  | s + 1 => n_sq f s + f s
theorem n_sq_congr {f g : Nat → Nat} : ∀ n, (∀ s, s < n → f s = g s) → n_sq f n = n_sq g n
  | 0, _ => rfl
  | n + 1, h => by show n_sq f n + f n = n_sq g n + g n; rw [n_sq_congr n (fun s hs => h s (by omega)), h n (by omega)]
theorem n_sq_add (f : Nat → Nat) (a : Nat) : ∀ b, n_sq f (a + b) = n_sq f a + n_sq (fun s => f (a + s)) b
  | 0 => rfl
  | b + 1 => by show n_sq f (a + b) + f (a + b) = n_sq f a + (n_sq (fun s => f (a + s)) b + f (a + b)); rw [n_sq_add f a b]; omega
theorem n_sq_mul (k : Nat) (f : Nat → Nat) : ∀ n, n_sq (fun s => k * f s) n = k * n_sq f n
  | 0 => rfl
  | n + 1 => by show n_sq (fun s => k * f s) n + k * f n = k * (n_sq f n + f n); rw [n_sq_mul k f n, Nat.mul_add]
theorem n_sq_le {f g : Nat → Nat} : ∀ n, (∀ s, s < n → f s ≤ g s) → n_sq f n ≤ n_sq g n
  | 0, _ => Nat.le_refl _
  | n + 1, h => Nat.add_le_add (n_sq_le n (fun s hs => h s (by omega))) (h n (by omega))
def n_tb (n : Nat) : Bool := (List.range (2 ^ n)).all fun s => (Nat.ble (n_pop s) n && Nat.beq (n_pop (2 ^ n + s)) (n_pop s + 1)) && (List.range (2 ^ n)).all fun B => Nat.beq (Nat.land (2 ^ n + s) B) (Nat.land s B) && (Nat.beq (Nat.land (2 ^ n + s) (Nat.xor 63 B)) (2 ^ n + Nat.land s (Nat.xor 63 B)) && (Nat.beq (Nat.land (2 ^ n + s) (Nat.xor 63 (2 ^ n + B))) (Nat.land s (Nat.xor 63 B)) && (Nat.beq (Nat.land s (Nat.xor 63 (2 ^ n + B))) (Nat.land s (Nat.xor 63 B)) && (Nat.beq (Nat.land s (2 ^ n + B)) (Nat.land s B) && (!(Nat.beq (Nat.land (2 ^ n + s) (2 ^ n + B)) 0) && (!(Nat.beq (Nat.land s B) 0) || Nat.ble (n_pop s + n_pop B) n))))))
theorem n_tb_ok : (List.range 6).all n_tb = true := by decide +kernel
theorem n_tb_1 {n : Nat} (hn : n < 6) {s : Nat} (hs : s < 2 ^ n) : n_pop s ≤ n ∧ n_pop (2 ^ n + s) = n_pop s + 1 := by
  have h := List.all_eq_true.mp n_tb_ok n (List.mem_range.mpr hn)
  have h := List.all_eq_true.mp h s (List.mem_range.mpr hs)
  rw [Bool.and_eq_true, Bool.and_eq_true] at h
  exact ⟨Nat.le_of_ble_eq_true h.1.1, Nat.eq_of_beq_eq_true h.1.2⟩
theorem n_tb_2 {n : Nat} (hn : n < 6) {s : Nat} (hs : s < 2 ^ n) {B : Nat} (hB : B < 2 ^ n) : (2 ^ n + s) &&& B = s &&& B ∧ (2 ^ n + s) &&& (63 ^^^ B) = 2 ^ n + (s &&& (63 ^^^ B)) ∧ (2 ^ n + s) &&& (63 ^^^ (2 ^ n + B)) = s &&& (63 ^^^ B) ∧ s &&& (63 ^^^ (2 ^ n + B)) = s &&& (63 ^^^ B) ∧ s &&& (2 ^ n + B) = s &&& B ∧ (2 ^ n + s) &&& (2 ^ n + B) ≠ 0 ∧ (s &&& B = 0 → n_pop s + n_pop B ≤ n) := by
  have h := List.all_eq_true.mp n_tb_ok n (List.mem_range.mpr hn)
  have h := List.all_eq_true.mp h s (List.mem_range.mpr hs)
  rw [Bool.and_eq_true] at h
  have h := List.all_eq_true.mp h.2 B (List.mem_range.mpr hB)
  rw [Bool.and_eq_true, Bool.and_eq_true, Bool.and_eq_true, Bool.and_eq_true, Bool.and_eq_true, Bool.and_eq_true] at h
  obtain ⟨h1, h2, h3, h4, h5, h6, h7⟩ := h
  refine ⟨Nat.eq_of_beq_eq_true h1, Nat.eq_of_beq_eq_true h2, Nat.eq_of_beq_eq_true h3, Nat.eq_of_beq_eq_true h4, Nat.eq_of_beq_eq_true h5, fun q => ?_, fun q => ?_⟩
  · have q : Nat.land (2 ^ n + s) (2 ^ n + B) = 0 := q
    rw [q] at h6
    exact absurd h6 (by decide)
  · have q : Nat.land s B = 0 := q
    rw [q] at h7
    exact Nat.le_of_ble_eq_true h7
def n_w (n x s : Nat) : Nat := x ^ n_pop s * (10 - x) ^ (n - n_pop s)
def n_v (n x B : Nat) (c : Nat → Nat) (g : Nat) : Nat := if g &&& B = 0 then x ^ n_pop g * (10 - x) ^ (n - n_pop B - n_pop g) * c g else 0
theorem n_w_lo {n x s : Nat} (h : n_pop s ≤ n) : n_w (n + 1) x s = (10 - x) * n_w n x s := by
  unfold n_w
  rw [show n + 1 - n_pop s = (n - n_pop s) + 1 by omega, Nat.pow_succ]
  simp only [Nat.mul_comm, Nat.mul_left_comm, Nat.mul_assoc]
theorem n_w_hi {n x s : Nat} (h : n_pop (2 ^ n + s) = n_pop s + 1) : n_w (n + 1) x (2 ^ n + s) = x * n_w n x s := by
  unfold n_w
  rw [h, show n + 1 - (n_pop s + 1) = n - n_pop s by omega, Nat.pow_succ]
  simp only [Nat.mul_comm, Nat.mul_left_comm, Nat.mul_assoc]
theorem n_ways_eq (x : Nat) (hx : x ≤ 10) : ∀ n, n < 7 → ∀ B, B < 2 ^ n → ∀ c : Nat → Nat, (∀ s, s < 2 ^ n → c s = c (s &&& (63 ^^^ B))) → n_sq (fun s => n_w n x s * c s) (2 ^ n) = 10 ^ n_pop B * n_sq (n_v n x B c) (2 ^ n)
  | 0, _, B, hB, c, hc => by
    have : B = 0 := by simpa using hB
    subst this
    show 0 + n_w 0 x 0 * c 0 = 1 * (0 + n_v 0 x 0 c 0)
    unfold n_v n_w
    rw [if_pos (by decide), show n_pop 0 = 0 from rfl]
    simp only [Nat.zero_sub, Nat.pow_zero, Nat.mul_one, Nat.one_mul, Nat.zero_add]
  | n + 1, hn, B, hB, c, hc => by
    have hn6 : n < 6 := by omega
    have e2 : 2 ^ (n + 1) = 2 ^ n + 2 ^ n := by rw [Nat.pow_succ]; omega
    rw [e2] at hB hc ⊢
    rw [n_sq_add, n_sq_add]
    have hl : n_sq (fun s => n_w (n + 1) x s * c s) (2 ^ n) = (10 - x) * n_sq (fun s => n_w n x s * c s) (2 ^ n) := by
      rw [← n_sq_mul]
      exact n_sq_congr _ (fun s hs => by rw [n_w_lo (n_tb_1 hn6 hs).1, Nat.mul_assoc])
    have hh : n_sq (fun s => n_w (n + 1) x (2 ^ n + s) * c (2 ^ n + s)) (2 ^ n) = x * n_sq (fun s => n_w n x s * c (2 ^ n + s)) (2 ^ n) := by
      rw [← n_sq_mul]
      exact n_sq_congr _ (fun s hs => by rw [n_w_hi (n_tb_1 hn6 hs).2, Nat.mul_assoc])
    rw [hl, hh]
    rcases Nat.lt_or_ge B (2 ^ n) with hb | hb
    · rw [n_ways_eq x hx n (by omega) B hb c (fun s hs => hc s (by omega)), n_ways_eq x hx n (by omega) B hb (fun s => c (2 ^ n + s)) (fun s hs => by show c (2 ^ n + s) = c (2 ^ n + (s &&& (63 ^^^ B))); rw [hc (2 ^ n + s) (by omega), (n_tb_2 hn6 hs hb).2.1])]
      have r1 : n_sq (n_v (n + 1) x B c) (2 ^ n) = (10 - x) * n_sq (n_v n x B c) (2 ^ n) := by
        rw [← n_sq_mul]
        refine n_sq_congr _ (fun s hs => ?_)
        unfold n_v
        by_cases q : s &&& B = 0
        · have hp := (n_tb_2 hn6 hs hb).2.2.2.2.2.2 q
          rw [if_pos q, if_pos q, show n + 1 - n_pop B - n_pop s = (n - n_pop B - n_pop s) + 1 by omega, Nat.pow_succ]
          simp only [Nat.mul_comm, Nat.mul_left_comm, Nat.mul_assoc]
        · rw [if_neg q, if_neg q, Nat.mul_zero]
      have r2 : n_sq (fun s => n_v (n + 1) x B c (2 ^ n + s)) (2 ^ n) = x * n_sq (n_v n x B (fun s => c (2 ^ n + s))) (2 ^ n) := by
        rw [← n_sq_mul]
        refine n_sq_congr _ (fun s hs => ?_)
        unfold n_v
        rw [(n_tb_2 hn6 hs hb).1, (n_tb_1 hn6 hs).2]
        by_cases q : s &&& B = 0
        · rw [if_pos q, if_pos q, show n + 1 - n_pop B - (n_pop s + 1) = n - n_pop B - n_pop s by omega, Nat.pow_succ]
          simp only [Nat.mul_comm, Nat.mul_left_comm, Nat.mul_assoc]
        · rw [if_neg q, if_neg q, Nat.mul_zero]
      rw [r1, r2, Nat.mul_add]
      simp only [Nat.mul_comm, Nat.mul_left_comm, Nat.mul_assoc]
    · obtain ⟨B, rfl⟩ : ∃ b, B = 2 ^ n + b := ⟨B - 2 ^ n, by omega⟩
      have hb' : B < 2 ^ n := by omega
      have hcl : ∀ s, s < 2 ^ n → c s = c (s &&& (63 ^^^ B)) := fun s hs => by rw [hc s (by omega), (n_tb_2 hn6 hs hb').2.2.2.1]
      have hce : n_sq (fun s => n_w n x s * c (2 ^ n + s)) (2 ^ n) = n_sq (fun s => n_w n x s * c s) (2 ^ n) := n_sq_congr _ (fun s hs => by show n_w n x s * c (2 ^ n + s) = n_w n x s * c s; rw [hc (2 ^ n + s) (by omega), (n_tb_2 hn6 hs hb').2.2.1, ← hcl s hs])
      rw [hce, n_ways_eq x hx n (by omega) B hb' c hcl]
      have r1 : n_sq (n_v (n + 1) x (2 ^ n + B) c) (2 ^ n) = n_sq (n_v n x B c) (2 ^ n) := by
        refine n_sq_congr _ (fun s hs => ?_)
        unfold n_v
        rw [(n_tb_2 hn6 hs hb').2.2.2.2.1, (n_tb_1 hn6 hb').2, show n + 1 - (n_pop B + 1) = n - n_pop B by omega]
      have r2 : n_sq (fun s => n_v (n + 1) x (2 ^ n + B) c (2 ^ n + s)) (2 ^ n) = n_sq (fun s => 0 * c s) (2 ^ n) := by
        refine n_sq_congr _ (fun s hs => ?_)
        unfold n_v
        rw [if_neg (n_tb_2 hn6 hs hb').2.2.2.2.2.1, Nat.zero_mul]
      rw [r1, r2, n_sq_mul, Nat.zero_mul, Nat.add_zero, (n_tb_1 hn6 hb').2, ← Nat.add_mul, show 10 - x + x = 10 by omega, Nat.pow_succ, Nat.mul_comm (10 ^ n_pop B) 10, Nat.mul_assoc]
theorem n_all_t : (List.range 7).all (fun n => (List.range 11).all fun x => Nat.beq (n_sq (n_w n x) (2 ^ n)) (10 ^ n)) = true := by decide +kernel
theorem n_all {n x : Nat} (hn : n ≤ 6) (hx : x ≤ 10) : n_sq (n_w n x) (2 ^ n) = 10 ^ n := by
  have h := List.all_eq_true.mp n_all_t n (List.mem_range.mpr (by omega))
  exact Nat.eq_of_beq_eq_true (List.all_eq_true.mp h x (List.mem_range.mpr (by omega)))
theorem i_pow_nI (b : Nat) : ∀ e, i_pow (nI b) e = nI (b ^ e)
  | 0 => rfl
  | e + 1 => by show i_pow (nI b) e * nI b = _; rw [i_pow_nI b e, pk_mul, Nat.pow_succ]
def m_cc (T : p_D) (S : s_S) (m : Int32) (s : Nat) : Nat := if m ≤ i_sum (m_lk T S (nI s)) T.2.2.1 then 1 else 0
theorem m_ways_nI (T : p_D) (S : s_S) (B : Nat) (hB : S.2.2.2.2.2.1 = nI B) (m : Int32) (x : Nat) (hB6 : B < 64) : ∀ g, g ≤ 64 → m_ways T S B m x g = nI (n_sq (n_v T.2.2.1 x B (m_cc T S m)) g)
  | 0, _ => rfl
  | g + 1, hg => by
    show (if _ then _ else m_ways T S B m x g) = nI (n_sq (n_v T.2.2.1 x B (m_cc T S m)) g + n_v T.2.2.1 x B (m_cc T S m) g)
    have hand : g &&& B < 64 := Nat.lt_of_le_of_lt Nat.and_le_right hB6
    have ha : (nI g &&& S.2.2.2.2.2.1 = 0) ↔ g &&& B = 0 := by rw [hB, i_and]; exact nI_eq (b := 0) (by omega) (by omega)
    unfold n_v m_cc
    by_cases q : g &&& B = 0
    · by_cases q2 : m ≤ i_sum (m_lk T S (nI g)) T.2.2.1
      · rw [if_pos ⟨ha.mpr q, q2⟩, if_pos q, if_pos q2, Nat.mul_one, m_ways_nI T S B hB m x hB6 g (by omega), i_pow_nI, i_pow_nI, pk_mul, nI_add]
        rfl
      · rw [if_neg (fun e => q2 e.2), if_pos q, if_neg q2, Nat.mul_zero, Nat.add_zero]
        exact m_ways_nI T S B hB m x hB6 g (by omega)
    · rw [if_neg (fun e => q (ha.mp e.1)), if_neg q, Nat.add_zero]
      exact m_ways_nI T S B hB m x hB6 g (by omega)
theorem i_bitN : ∀ h, h < 6 → ∀ s, s < 64 → (nI s >>> (nI h &&& 31)) &&& 1 = nI (s / 2 ^ h % 2) := by decide +kernel
theorem n_msk {s B h : Nat} (hh : h < 6) (hB : ¬ B / 2 ^ h % 2 = 1) : (s &&& (63 ^^^ B)) / 2 ^ h % 2 = s / 2 ^ h % 2 := by
  have t : ∀ x : Nat, x / 2 ^ h % 2 = (x.testBit h).toNat := fun x => by rw [Nat.testBit_eq_decide_div_mod_eq]; rcases (show x / 2 ^ h % 2 = 0 ∨ x / 2 ^ h % 2 = 1 by omega) with e | e <;> rw [e] <;> rfl
  have hb : B.testBit h = false := by rw [Nat.testBit_eq_decide_div_mod_eq]; exact decide_eq_false hB
  have h63 : ∀ h, h < 6 → (63 : Nat).testBit h = true := by decide
  rw [t, t, Nat.testBit_and, Nat.testBit_xor, hb, h63 h hh]
  simp
theorem m_cc_msk {T : p_D} {S : s_S} (hv : v_G T S) {B : Nat} (hB : S.2.2.2.2.2.1 = nI B) (hB6 : B < 64) (m : Int32) {s : Nat} (hs : s < 64) : m_cc T S m s = m_cc T S m (s &&& (63 ^^^ B)) := by
  have hs2 : s &&& (63 ^^^ B) < 64 := Nat.lt_of_le_of_lt Nat.and_le_left hs
  have hn : T.2.2.1 ≤ 6 := hv.1.1.1
  have hw : ∀ h, h < T.2.2.1 → m_wt T S (nI s) h = m_wt T S (nI (s &&& (63 ^^^ B))) h := fun h hh => by
    rw [m_wt_eq, m_wt_eq]
    by_cases q : (S.2.2.2.2.2.1 >>> (nI h &&& 31)) &&& 1 = 1
    · rw [if_pos q, if_pos q]
    · rw [if_neg q, if_neg q, i_bitN h (by omega) s hs, i_bitN h (by omega) _ hs2]
      rw [hB, i_bitN h (by omega) B hB6] at q
      rw [n_msk (by omega) (fun e => q (by rw [e]; rfl))]
  have hy : ∀ h, h < T.2.2.1 → m_sy T S (nI s) h = m_sy T S (nI (s &&& (63 ^^^ B))) h := fun h hh => by rw [m_sy_eq, m_sy_eq, hw h hh]
  have hg : ∀ h, h < T.2.2.1 → m_gv T S (nI s) h = m_gv T S (nI (s &&& (63 ^^^ B))) h := fun h hh => by
    unfold m_gv
    exact i_gv_congr hy (fun p hp => (hv.2.1.1 p hp).1) (hv.2.1.2.1 h hh).1
  unfold m_cc
  rw [i_sum_congr (fun h hh => (show m_lk T S (nI s) h = m_lk T S (nI (s &&& (63 ^^^ B))) h by unfold m_lk; rw [hw h hh, hg h hh]))]
theorem m_guest {T : p_D} {S : s_S} (hv : v_G T S) {B : Nat} (hB : S.2.2.2.2.2.1 = nI B) (hB2 : B < 2 ^ T.2.2.1) (m : Int32) {x : Nat} (hx : x ≤ 10) {a b : Nat} (ha : a = n_sq (fun s => n_w T.2.2.1 x s * m_cc T S m s) (2 ^ T.2.2.1)) (hb : b = n_sq (n_w T.2.2.1 x) (2 ^ T.2.2.1)) (u : Int32) : (if u = 0 then nI b else nI a) / i_com (nI a) (nI b) = (if u = 0 then i_pow 10 (T.2.2.1 - n_pop B) else m_ways T S B m x (2 ^ T.2.2.1)) / i_com (m_ways T S B m x (2 ^ T.2.2.1)) (i_pow 10 (T.2.2.1 - n_pop B)) := by
  have hn : T.2.2.1 ≤ 6 := hv.1.1.1
  have h64 : 2 ^ T.2.2.1 ≤ 64 := by have := Nat.pow_le_pow_right (show 0 < 2 by decide) hn; omega
  have hpB : n_pop B ≤ T.2.2.1 := by have := i_popd (show T.2.2.1 < 7 by omega) hB2 (g := 0) (by omega) (by rw [i_and, Nat.zero_and]; rfl); omega
  have hle : a ≤ b := by
    rw [ha, hb]
    refine n_sq_le _ (fun s hs => ?_)
    unfold m_cc
    split
    · rw [Nat.mul_one]; exact Nat.le_refl _
    · rw [Nat.mul_zero]; exact Nat.zero_le _
  have hb10 : b = 10 ^ n_pop B * 10 ^ (T.2.2.1 - n_pop B) := by rw [hb, n_all hn hx, ← Nat.pow_add, show n_pop B + (T.2.2.1 - n_pop B) = T.2.2.1 by omega]
  have hb6 : b ≤ 1000000 := by rw [hb, n_all hn hx]; have := Nat.pow_le_pow_right (show 0 < 10 by decide) hn; omega
  have ha10 := n_ways_eq x hx T.2.2.1 (by omega) B hB2 (m_cc T S m) (fun s hs => m_cc_msk hv hB (by omega) m (by omega))
  rw [← ha] at ha10
  rw [m_ways_nI T S B hB m x (by omega) _ h64, show (10 : Int32) = nI 10 from rfl, i_pow_nI]
  generalize n_sq (n_v T.2.2.1 x B (m_cc T S m)) (2 ^ T.2.2.1) = W at ha10 ⊢
  generalize hq : 10 ^ n_pop B = q at ha10 hb10
  generalize hp : 10 ^ (T.2.2.1 - n_pop B) = p at hb10 ⊢
  have hq0 : 0 < q := by rw [← hq]; exact Nat.pow_pos (by decide)
  have hp0 : 0 < p := by rw [← hp]; exact Nat.pow_pos (by decide)
  have hWl : W ≤ a := by rw [ha10]; exact Nat.le_mul_of_pos_left W hq0
  have hpl : p ≤ b := by rw [hb10]; exact Nat.le_mul_of_pos_left p hq0
  have hb0 : 0 < b := by omega
  have e1 : i_com (nI a) (nI b) = nI (Nat.gcd a b) := i_com_gcd (by unfold i_abs; rw [if_pos (nI_pos' (by omega))]) (by omega) hb0 (by omega)
  have e2 : i_com (nI W) (nI p) = nI (Nat.gcd W p) := i_com_gcd (by unfold i_abs; rw [if_pos (nI_pos' (by omega))]) (by omega) hp0 (by omega)
  have eg : Nat.gcd a b = q * Nat.gcd W p := by rw [ha10, hb10, Nat.gcd_mul_left]
  have g1 : 0 < Nat.gcd a b := Nat.gcd_pos_of_pos_right a hb0
  have g1' := Nat.gcd_le_right (n := b) a hb0
  have g2 : 0 < Nat.gcd W p := Nat.gcd_pos_of_pos_right W hp0
  have g2' := Nat.gcd_le_right (n := p) W hp0
  rw [e1, e2]
  by_cases hu : u = 0
  · rw [if_pos hu, if_pos hu, pk_div (by omega) g1 (by omega), pk_div (by omega) g2 (by omega), eg, hb10, Nat.mul_div_mul_left _ _ hq0]
  · rw [if_neg hu, if_neg hu, pk_div (by omega) g1 (by omega), pk_div (by omega) g2 (by omega), eg, ha10, Nat.mul_div_mul_left _ _ hq0]
theorem n_popn : ∀ n, n < 7 → ∀ s, s < 2 ^ n → n_pop s ≤ n := by decide +kernel
set_option maxRecDepth 100000 in
set_option maxHeartbeats 4000000 in
theorem e_guestsO (w : am_W) (t : Nat × (Nat → Int32)) (T : p_D) (S : s_S) (A : List s_S) (K : Nat → Option s_S) (N : x_N) (sd : Int64) (d : Nat) (hd : d ≤ 1000) (hv : v_W d T S A K) (hW : d_W w t T S A K N sd) (a b u : Int32) (hno : ¬ ((0 ≤ a ∧ a ≤ 60) ∧ 0 ≤ b ∧ b ≤ 10)) : am_Go 157 (0, [.ref 133, .int a, .int b, .int u, .float 0, .float 0, .float 0, .float 0], [], w, 0, 0) (fun res w' => res = some (.int (-2)) ∧ d_W w' t T S A K N sd ∧ am_same (rg 133 17) w w') := by
  have hM : am_P[157]? = some zm_X11_guests := rfl
  have hn6 : T.2.2.1 ≤ 6 := hv.1.1.1
  have hvT := hv.1.1
  have hvS := hv.2.1.1
  have hdy := hv.2.1.2.1
  obtain ⟨rh, rk, wh, fa, nx, ne, ki, ba, he, nw, rH, rT, tx, td, rw_, oo, s1, s2, s3, ik, kp, hm, h134, h135, h136, h137, h138, h139, h140, h141, h142, h143, h144, h145, h146, h147, h148, h149, ⟨ht40, hN6⟩, hT, hS, htx, hA, hK, hN⟩ := hW
  have hnx := hA.1
  have hal := hA.2.1
  refine ar_iload_n (pc' := 1) hM rfl rfl rfl ?_
  refine ar_i2l (pc' := 2) hM rfl rfl ?_
  refine ar_lconst (x := 0) (pc' := 3) hM rfl (by decide) rfl ?_
  refine ar_ldc2_w (x := 60) (pc' := 6) hM rfl (by decide) rfl ?_
  refine ar_static (pc' := 9) (k3 := 0) (k4 := 0) hM rfl (by decide) rfl rfl (d_in _ a 0 60 _ _ (by decide) (by decide)) (fun r6 w6 q6 => ?_)
  obtain ⟨rfl, q6w⟩ := q6
  rw [q6w]
  show am_Go 157 (9, [.ref 133, .int a, .int b, .int u, .float 0, .float 0, .float 0, .float 0], [.int (if 0 ≤ a ∧ a ≤ 60 then 1 else 0)], w, 0, 0) _
  refine ar_if_eq (pc' := 12) hM rfl rfl (fun c9 => ?_) (fun c9 => ?_)
  · refine ar_bipush (x := (-2)) (pc' := 26) hM rfl (by decide) rfl ?_
    refine ar_ireturn hM rfl (Or.inl rfl) ?_
    exact ⟨rfl, ⟨_, _, _, _, _, _, _, _, _, _, _, _, _, _, _, _, _, _, _, _, _, hm, h134, h135, h136, h137, h138, h139, h140, h141, h142, h143, h144, h145, h146, h147, h148, h149, ⟨ht40, hN6⟩, hT, hS, htx, hA, hK, hN⟩, am_same.rf⟩
  · refine ar_iload_n (pc' := 13) hM rfl rfl rfl ?_
    refine ar_i2l (pc' := 14) hM rfl rfl ?_
    refine ar_lconst (x := 0) (pc' := 15) hM rfl (by decide) rfl ?_
    refine ar_ldc2_w (x := 10) (pc' := 18) hM rfl (by decide) rfl ?_
    refine ar_static (pc' := 21) (k3 := 0) (k4 := 0) hM rfl (by decide) rfl rfl (d_in _ b 0 10 _ _ (by decide) (by decide)) (fun r18 w18 q18 => ?_)
    obtain ⟨rfl, q18w⟩ := q18
    rw [q18w]
    show am_Go 157 (21, [.ref 133, .int a, .int b, .int u, .float 0, .float 0, .float 0, .float 0], [.int (if 0 ≤ b ∧ b ≤ 10 then 1 else 0)], w, 0, 0) _
    refine ar_if_ne (pc' := 24) hM rfl rfl (fun c21 => ?_) (fun c21 => ?_)
    · exact absurd ⟨am_ne0 c9, am_ne0 c21⟩ hno
    · refine ar_bipush (x := (-2)) (pc' := 26) hM rfl (by decide) rfl ?_
      refine ar_ireturn hM rfl (Or.inl rfl) ?_
      exact ⟨rfl, ⟨_, _, _, _, _, _, _, _, _, _, _, _, _, _, _, _, _, _, _, _, _, hm, h134, h135, h136, h137, h138, h139, h140, h141, h142, h143, h144, h145, h146, h147, h148, h149, ⟨ht40, hN6⟩, hT, hS, htx, hA, hK, hN⟩, am_same.rf⟩
set_option maxRecDepth 100000 in
set_option maxHeartbeats 4000000 in
theorem e_guests (w : am_W) (t : Nat × (Nat → Int32)) (T : p_D) (S : s_S) (A : List s_S) (K : Nat → Option s_S) (N : x_N) (sd : Int64) (d : Nat) (hd : d ≤ 1000) (hv : v_W d T S A K) (hW : d_W w t T S A K N sd) (m : Nat) (hm : m ≤ 60) (x : Nat) (hx : x ≤ 10) (u : Int32) (B : Nat) (hB : S.2.2.2.2.2.1 = nI B) (hB2 : B < 2 ^ T.2.2.1) : am_Go 157 (0, [.ref 133, .int (nI m), .int (nI x), .int u, .float 0, .float 0, .float 0, .float 0], [], w, 0, 0) (fun res w' => res = some (.int ((if u = 0 then i_pow 10 (T.2.2.1 - n_pop B) else m_ways T S B (nI m) x (2 ^ T.2.2.1)) / i_com (m_ways T S B (nI m) x (2 ^ T.2.2.1)) (i_pow 10 (T.2.2.1 - n_pop B)))) ∧ d_W w' t T S A K N sd ∧ am_same (rg 133 17) w w') := by
  have hM : am_P[157]? = some zm_X11_guests := rfl
  have hn6 : T.2.2.1 ≤ 6 := hv.1.1.1
  have hvT := hv.1.1
  have hvS := hv.2.1.1
  have hdy := hv.2.1.2.1
  obtain ⟨rh, rk, wh, fa, nx, ne, ki, ba, he, nw, rH, rT, tx, td, rw_, oo, s1, s2, s3, ik, kp, hm, h134, h135, h136, h137, h138, h139, h140, h141, h142, h143, h144, h145, h146, h147, h148, h149, ⟨ht40, hN6⟩, hT, hS, htx, hA, hK, hN⟩ := hW
  have hnx := hA.1
  have hal := hA.2.1
  have h64 : 2 ^ T.2.2.1 ≤ 64 := by have := Nat.pow_le_pow_right (show 0 < 2 by decide) hn6; omega
  have hp2 : 0 < 2 ^ T.2.2.1 := Nat.two_pow_pos _
  refine ar_iload_n (pc' := 1) hM rfl rfl rfl ?_
  refine ar_i2l (pc' := 2) hM rfl rfl ?_
  refine ar_lconst (x := 0) (pc' := 3) hM rfl (by decide) rfl ?_
  refine ar_ldc2_w (x := 60) (pc' := 6) hM rfl (by decide) rfl ?_
  refine ar_static (pc' := 9) (k3 := 0) (k4 := 0) hM rfl (by decide) rfl rfl (by have h0 := d_in w (nI m) 0 60 0 60 (by decide) (by decide); rw [if_pos ⟨nI_le (a := 0) (by omega) (by omega), nI_le (b := 60) (by omega) (by omega)⟩] at h0; exact h0) (fun r6 w6 q6 => ?_)
  obtain ⟨rfl, q6w⟩ := q6
  rw [q6w]
  show am_Go 157 (9, [.ref 133, .int (nI m), .int (nI x), .int u, .float 0, .float 0, .float 0, .float 0], [.int 1], w, 0, 0) _
  refine ar_if_eq (pc' := 12) hM rfl rfl (fun q => absurd q (by decide)) (fun _ => ?_)
  refine ar_iload_n (pc' := 13) hM rfl rfl rfl ?_
  refine ar_i2l (pc' := 14) hM rfl rfl ?_
  refine ar_lconst (x := 0) (pc' := 15) hM rfl (by decide) rfl ?_
  refine ar_ldc2_w (x := 10) (pc' := 18) hM rfl (by decide) rfl ?_
  refine ar_static (pc' := 21) (k3 := 0) (k4 := 0) hM rfl (by decide) rfl rfl (by have h0 := d_in w (nI x) 0 10 0 10 (by decide) (by decide); rw [if_pos ⟨nI_le (a := 0) (by omega) (by omega), nI_le (b := 10) (by omega) (by omega)⟩] at h0; exact h0) (fun r18 w18 q18 => ?_)
  obtain ⟨rfl, q18w⟩ := q18
  rw [q18w]
  show am_Go 157 (21, [.ref 133, .int (nI m), .int (nI x), .int u, .float 0, .float 0, .float 0, .float 0], [.int 1], w, 0, 0) _
  refine ar_if_ne (pc' := 24) hM rfl rfl (fun _ => ?_) (fun q => absurd q (by decide))
  refine ar_iconst (x := 0) (pc' := 28) hM rfl (by decide) rfl ?_
  refine ar_istore (pc' := 30) hM rfl rfl rfl rfl ?_
  refine ar_iconst (x := 0) (pc' := 31) hM rfl (by decide) rfl ?_
  refine ar_istore (pc' := 33) hM rfl rfl rfl rfl ?_
  refine ar_iconst (x := 0) (pc' := 34) hM rfl (by decide) rfl ?_
  refine ar_istore (pc' := 36) hM rfl rfl rfl rfl ?_
  have loop : ∀ (dj j : Nat) (y4 : Int32) (y5 : Int32) (zg : Int32) (f : Nat → Int32) (z7 : Value), dj + j = 2 ^ T.2.2.1 → (y4 = nI (n_sq (fun s => n_w T.2.2.1 x s * m_cc T S (nI m) s) j)) → (y5 = nI (n_sq (n_w T.2.2.1 x) j)) → am_Go 157 (36, [.ref 133, .int (nI m), .int (nI x), .int u, .int y4, .int y5, .int (nI j), z7], [], ((w.set 133 (.inr (11, [.int (nI T.2.2.1), .int (nI T.2.2.2.1), .int T.1, .int T.2.1, .ref 134, .ref 135, .ref 136, .ref 137, .ref 138, .ref 139, .ref 140, .int rh, .int rk, .ref 141, .int (nI t.1), .int wh, .int fa, .ref 142, .int zg, .int (nI A.length), .int (nI nx), .ref 143, .ref 144, .int (nI N.1), .ref 145, .ref 146, .ref 147, .long sd, .ref 148, .ref 149]))).set 142 (.inl (0, 36, .inl f))), 0, 0) (fun res w' => res = some (.int ((if u = 0 then i_pow 10 (T.2.2.1 - n_pop B) else m_ways T S B (nI m) x (2 ^ T.2.2.1)) / i_com (m_ways T S B (nI m) x (2 ^ T.2.2.1)) (i_pow 10 (T.2.2.1 - n_pop B)))) ∧ d_W w' t T S A K N sd ∧ am_same (rg 133 17) w w') := by
    intro dj
    induction dj with
    | zero =>
      intro j y4 y5 zg f z7 hj h4 h5
      refine ar_iload (pc' := 38) hM rfl rfl rfl ?_
      refine ar_aload_n (pc' := 39) hM rfl rfl rfl ?_
      refine ar_virtual (pc' := 42) (k3 := 0) (k4 := 0) hM rfl rfl (am_gn (by decide) (am_gs hm)) ⟨rfl, (by decide)⟩ rfl rfl (by have h0 := d_every (w := ((w.set 133 (.inr (11, [.int (nI T.2.2.1), .int (nI T.2.2.2.1), .int T.1, .int T.2.1, .ref 134, .ref 135, .ref 136, .ref 137, .ref 138, .ref 139, .ref 140, .int rh, .int rk, .ref 141, .int (nI t.1), .int wh, .int fa, .ref 142, .int zg, .int (nI A.length), .int (nI nx), .ref 143, .ref 144, .int (nI N.1), .ref 145, .ref 146, .ref 147, .long sd, .ref 148, .ref 149]))).set 142 (.inl (0, 36, .inl f)))) T (am_gn (by decide) (am_gs hm)) hn6; rw [i_pred (Nat.two_pow_pos _)] at h0; exact h0) (fun r39 w39 q39 => ?_)
      obtain ⟨rfl, q39w⟩ := q39
      rw [q39w]
      show am_Go 157 (42, [.ref 133, .int (nI m), .int (nI x), .int u, .int y4, .int y5, .int (nI j), z7], [.int (nI (2 ^ T.2.2.1 - 1)), .int (nI j)], ((w.set 133 (.inr (11, [.int (nI T.2.2.1), .int (nI T.2.2.2.1), .int T.1, .int T.2.1, .ref 134, .ref 135, .ref 136, .ref 137, .ref 138, .ref 139, .ref 140, .int rh, .int rk, .ref 141, .int (nI t.1), .int wh, .int fa, .ref 142, .int zg, .int (nI A.length), .int (nI nx), .ref 143, .ref 144, .int (nI N.1), .ref 145, .ref 146, .ref 147, .long sd, .ref 148, .ref 149]))).set 142 (.inl (0, 36, .inl f))), 0, 0) _
      refine ar_icmp_gt (pc' := 45) hM rfl rfl (fun _ => ?_) (fun q => absurd (nI_lt (by omega) (by omega)) q)
      have h6 : n_sq (n_w T.2.2.1 x) j ≤ 1000000 := by rw [show j = 2 ^ T.2.2.1 by omega, n_all hn6 hx]; have := Nat.pow_le_pow_right (show 0 < 10 by decide) hn6; omega
      have hcb0 : 0 < n_sq (n_w T.2.2.1 x) j := by rw [show j = 2 ^ T.2.2.1 by omega, n_all hn6 hx]; exact Nat.pow_pos (by decide)
      have hle : n_sq (fun s => n_w T.2.2.1 x s * m_cc T S (nI m) s) j ≤ n_sq (n_w T.2.2.1 x) j := n_sq_le _ (fun s hs => by show n_w T.2.2.1 x s * m_cc T S (nI m) s ≤ _; unfold m_cc; split; rw [Nat.mul_one]; exact Nat.le_refl _; rw [Nat.mul_zero]; exact Nat.zero_le _)
      have hres := m_guest (S := S) ⟨hv.1, hvS, hv.2.1.2.2.2.2⟩ hB hB2 (nI m) hx (congrArg (n_sq (fun s => n_w T.2.2.1 x s * m_cc T S (nI m) s)) (show j = 2 ^ T.2.2.1 by omega)) (congrArg (n_sq (n_w T.2.2.1 x)) (show j = 2 ^ T.2.2.1 by omega)) u
      rw [← h4, ← h5] at hres
      obtain ⟨ca, hca0⟩ : ∃ z, z = n_sq (fun s => n_w T.2.2.1 x s * m_cc T S (nI m) s) j := ⟨_, rfl⟩
      obtain ⟨cb, hcb1⟩ : ∃ z, z = n_sq (n_w T.2.2.1 x) j := ⟨_, rfl⟩
      rw [← hca0] at h4 hle
      rw [← hcb1] at h5 hle h6 hcb0
      have hcb := h5
      have hca : i_abs y4 = nI ca := by rw [h4]; unfold i_abs; rw [if_pos (nI_pos' (by omega))]
      refine ar_aload_n (pc' := 122) hM rfl rfl rfl ?_
      refine ar_iconst (x := 0) (pc' := 123) hM rfl (by decide) rfl ?_
      refine ar_putfield (pc' := 126) hM rfl (am_gn (by decide) (am_gs hm)) (Nat.le_of_ble_eq_true rfl) rfl (by decide) rfl ?_
      show am_Go 157 (126, [.ref 133, .int (nI m), .int (nI x), .int u, .int y4, .int y5, .int (nI j), z7], [], (((w.set 133 (.inr (11, [.int (nI T.2.2.1), .int (nI T.2.2.2.1), .int T.1, .int T.2.1, .ref 134, .ref 135, .ref 136, .ref 137, .ref 138, .ref 139, .ref 140, .int rh, .int rk, .ref 141, .int (nI t.1), .int wh, .int fa, .ref 142, .int zg, .int (nI A.length), .int (nI nx), .ref 143, .ref 144, .int (nI N.1), .ref 145, .ref 146, .ref 147, .long sd, .ref 148, .ref 149]))).set 142 (.inl (0, 36, .inl f))).set 133 (.inr (11, [.int (nI T.2.2.1), .int (nI T.2.2.2.1), .int T.1, .int T.2.1, .ref 134, .ref 135, .ref 136, .ref 137, .ref 138, .ref 139, .ref 140, .int rh, .int rk, .ref 141, .int (nI t.1), .int wh, .int fa, .ref 142, .int 0, .int (nI A.length), .int (nI nx), .ref 143, .ref 144, .int (nI N.1), .ref 145, .ref 146, .ref 147, .long sd, .ref 148, .ref 149]))), 0, 0) _
      rw [show (((w.set 133 (.inr (11, [.int (nI T.2.2.1), .int (nI T.2.2.2.1), .int T.1, .int T.2.1, .ref 134, .ref 135, .ref 136, .ref 137, .ref 138, .ref 139, .ref 140, .int rh, .int rk, .ref 141, .int (nI t.1), .int wh, .int fa, .ref 142, .int zg, .int (nI A.length), .int (nI nx), .ref 143, .ref 144, .int (nI N.1), .ref 145, .ref 146, .ref 147, .long sd, .ref 148, .ref 149]))).set 142 (.inl (0, 36, .inl f))).set 133 (.inr (11, [.int (nI T.2.2.1), .int (nI T.2.2.2.1), .int T.1, .int T.2.1, .ref 134, .ref 135, .ref 136, .ref 137, .ref 138, .ref 139, .ref 140, .int rh, .int rk, .ref 141, .int (nI t.1), .int wh, .int fa, .ref 142, .int 0, .int (nI A.length), .int (nI nx), .ref 143, .ref 144, .int (nI N.1), .ref 145, .ref 146, .ref 147, .long sd, .ref 148, .ref 149]))) = ((w.set 133 (.inr (11, [.int (nI T.2.2.1), .int (nI T.2.2.2.1), .int T.1, .int T.2.1, .ref 134, .ref 135, .ref 136, .ref 137, .ref 138, .ref 139, .ref 140, .int rh, .int rk, .ref 141, .int (nI t.1), .int wh, .int fa, .ref 142, .int 0, .int (nI A.length), .int (nI nx), .ref 143, .ref 144, .int (nI N.1), .ref 145, .ref 146, .ref 147, .long sd, .ref 148, .ref 149]))).set 142 (.inl (0, 36, .inl f))) from by rw [List.set_comm _ _ (show 142 ≠ 133 by decide), List.set_set]]
      refine ar_iload (pc' := 128) hM rfl rfl rfl ?_
      refine ar_iload (pc' := 130) hM rfl rfl rfl ?_
      refine ar_static (pc' := 133) (k3 := 0) (k4 := 0) hM rfl (by decide) rfl rfl (by have h0 := d_common ((w.set 133 (.inr (11, [.int (nI T.2.2.1), .int (nI T.2.2.2.1), .int T.1, .int T.2.1, .ref 134, .ref 135, .ref 136, .ref 137, .ref 138, .ref 139, .ref 140, .int rh, .int rk, .ref 141, .int (nI t.1), .int wh, .int fa, .ref 142, .int 0, .int (nI A.length), .int (nI nx), .ref 143, .ref 144, .int (nI N.1), .ref 145, .ref 146, .ref 147, .long sd, .ref 148, .ref 149]))).set 142 (.inl (0, 36, .inl f))) y4 ca cb hca (by omega) hcb0 (by omega); rw [← hcb] at h0; exact h0) (fun r130 w130 q130 => ?_)
      obtain ⟨rfl, q130w⟩ := q130
      rw [q130w]
      show am_Go 157 (133, [.ref 133, .int (nI m), .int (nI x), .int u, .int y4, .int y5, .int (nI j), z7], [.int (i_com y4 y5)], ((w.set 133 (.inr (11, [.int (nI T.2.2.1), .int (nI T.2.2.2.1), .int T.1, .int T.2.1, .ref 134, .ref 135, .ref 136, .ref 137, .ref 138, .ref 139, .ref 140, .int rh, .int rk, .ref 141, .int (nI t.1), .int wh, .int fa, .ref 142, .int 0, .int (nI A.length), .int (nI nx), .ref 143, .ref 144, .int (nI N.1), .ref 145, .ref 146, .ref 147, .long sd, .ref 148, .ref 149]))).set 142 (.inl (0, 36, .inl f))), 0, 0) _
      refine ar_istore (pc' := 135) hM rfl rfl rfl rfl ?_
      refine ar_iload_n (pc' := 136) hM rfl rfl rfl ?_
      refine ar_if_eq (pc' := 139) hM rfl rfl (fun c136 => ?_) (fun c136 => ?_)
      · refine ar_iload (pc' := 149) hM rfl rfl rfl ?_
        refine ar_iload (pc' := 151) hM rfl rfl rfl ?_
        refine ar_idiv (pc' := 152) hM rfl (i_com_ne _ _) rfl ?_
        refine ar_ireturn hM rfl (Or.inl rfl) ?_
        exact ⟨by rw [← hres, if_pos c136], ⟨_, _, _, _, _, _, _, _, _, _, _, _, _, _, _, _, _, _, _, _, _, (am_gn (by decide) (am_gs hm)), (am_gn (by decide) (am_gn (by decide) h134)), (am_gn (by decide) (am_gn (by decide) h135)), (am_gn (by decide) (am_gn (by decide) h136)), (am_gn (by decide) (am_gn (by decide) h137)), (am_gn (by decide) (am_gn (by decide) h138)), (am_gn (by decide) (am_gn (by decide) h139)), (am_gn (by decide) (am_gn (by decide) h140)), (am_gn (by decide) (am_gn (by decide) h141)), (am_gs (am_gn (by decide) h142)), (am_gn (by decide) (am_gn (by decide) h143)), (am_gn (by decide) (am_gn (by decide) h144)), (am_gn (by decide) (am_gn (by decide) h145)), (am_gn (by decide) (am_gn (by decide) h146)), (am_gn (by decide) (am_gn (by decide) h147)), (am_gn (by decide) (am_gn (by decide) h148)), (am_gn (by decide) (am_gn (by decide) h149)), ⟨ht40, hN6⟩, hT, hS, htx, hA, hK, hN⟩, (am_same.set (am_same.set am_same.rf (by unfold rg; omega)) (by unfold rg; omega))⟩
      · refine ar_iload (pc' := 141) hM rfl rfl rfl ?_
        refine ar_iload (pc' := 143) hM rfl rfl rfl ?_
        refine ar_idiv (pc' := 144) hM rfl (i_com_ne _ _) rfl ?_
        refine ar_goto hM rfl ?_
        refine ar_ireturn hM rfl (Or.inl rfl) ?_
        exact ⟨by rw [← hres, if_neg c136], ⟨_, _, _, _, _, _, _, _, _, _, _, _, _, _, _, _, _, _, _, _, _, (am_gn (by decide) (am_gs hm)), (am_gn (by decide) (am_gn (by decide) h134)), (am_gn (by decide) (am_gn (by decide) h135)), (am_gn (by decide) (am_gn (by decide) h136)), (am_gn (by decide) (am_gn (by decide) h137)), (am_gn (by decide) (am_gn (by decide) h138)), (am_gn (by decide) (am_gn (by decide) h139)), (am_gn (by decide) (am_gn (by decide) h140)), (am_gn (by decide) (am_gn (by decide) h141)), (am_gs (am_gn (by decide) h142)), (am_gn (by decide) (am_gn (by decide) h143)), (am_gn (by decide) (am_gn (by decide) h144)), (am_gn (by decide) (am_gn (by decide) h145)), (am_gn (by decide) (am_gn (by decide) h146)), (am_gn (by decide) (am_gn (by decide) h147)), (am_gn (by decide) (am_gn (by decide) h148)), (am_gn (by decide) (am_gn (by decide) h149)), ⟨ht40, hN6⟩, hT, hS, htx, hA, hK, hN⟩, (am_same.set (am_same.set am_same.rf (by unfold rg; omega)) (by unfold rg; omega))⟩
    | succ dj ih =>
      intro j y4 y5 zg f z7 hj h4 h5
      refine ar_iload (pc' := 38) hM rfl rfl rfl ?_
      refine ar_aload_n (pc' := 39) hM rfl rfl rfl ?_
      refine ar_virtual (pc' := 42) (k3 := 0) (k4 := 0) hM rfl rfl (am_gn (by decide) (am_gs hm)) ⟨rfl, (by decide)⟩ rfl rfl (by have h0 := d_every (w := ((w.set 133 (.inr (11, [.int (nI T.2.2.1), .int (nI T.2.2.2.1), .int T.1, .int T.2.1, .ref 134, .ref 135, .ref 136, .ref 137, .ref 138, .ref 139, .ref 140, .int rh, .int rk, .ref 141, .int (nI t.1), .int wh, .int fa, .ref 142, .int zg, .int (nI A.length), .int (nI nx), .ref 143, .ref 144, .int (nI N.1), .ref 145, .ref 146, .ref 147, .long sd, .ref 148, .ref 149]))).set 142 (.inl (0, 36, .inl f)))) T (am_gn (by decide) (am_gs hm)) hn6; rw [i_pred (Nat.two_pow_pos _)] at h0; exact h0) (fun r39 w39 q39 => ?_)
      obtain ⟨rfl, q39w⟩ := q39
      rw [q39w]
      show am_Go 157 (42, [.ref 133, .int (nI m), .int (nI x), .int u, .int y4, .int y5, .int (nI j), z7], [.int (nI (2 ^ T.2.2.1 - 1)), .int (nI j)], ((w.set 133 (.inr (11, [.int (nI T.2.2.1), .int (nI T.2.2.2.1), .int T.1, .int T.2.1, .ref 134, .ref 135, .ref 136, .ref 137, .ref 138, .ref 139, .ref 140, .int rh, .int rk, .ref 141, .int (nI t.1), .int wh, .int fa, .ref 142, .int zg, .int (nI A.length), .int (nI nx), .ref 143, .ref 144, .int (nI N.1), .ref 145, .ref 146, .ref 147, .long sd, .ref 148, .ref 149]))).set 142 (.inl (0, 36, .inl f))), 0, 0) _
      refine ar_icmp_gt (pc' := 45) hM rfl rfl (fun q => absurd q (nI_nlt (by omega) (by omega))) (fun _ => ?_)
      have hpn := n_popn T.2.2.1 (by omega) j (by omega)
      refine ar_iload_n (pc' := 46) hM rfl rfl rfl ?_
      refine ar_i2l (pc' := 47) hM rfl rfl ?_
      rw [show (Int32.toInt64 (nI x) : Int64) = lN x from (nI_l (by omega))]
      refine ar_iload (pc' := 49) hM rfl rfl rfl ?_
      refine ar_static (pc' := 52) (k3 := 0) (k4 := 0) hM rfl (by decide) rfl rfl (d_ones _ j (by omega)) (fun r49 w49 q49 => ?_)
      obtain ⟨rfl, q49w⟩ := q49
      rw [q49w]
      show am_Go 157 (52, [.ref 133, .int (nI m), .int (nI x), .int u, .int y4, .int y5, .int (nI j), z7], [.int (nI (n_pop j)), .long (lN x)], ((w.set 133 (.inr (11, [.int (nI T.2.2.1), .int (nI T.2.2.2.1), .int T.1, .int T.2.1, .ref 134, .ref 135, .ref 136, .ref 137, .ref 138, .ref 139, .ref 140, .int rh, .int rk, .ref 141, .int (nI t.1), .int wh, .int fa, .ref 142, .int zg, .int (nI A.length), .int (nI nx), .ref 143, .ref 144, .int (nI N.1), .ref 145, .ref 146, .ref 147, .long sd, .ref 148, .ref 149]))).set 142 (.inl (0, 36, .inl f))), 0, 0) _
      refine ar_static (pc' := 55) (k3 := 0) (k4 := 0) hM rfl (by decide) rfl rfl (d_pow _ x (n_pop j) (by omega)) (fun r52 w52 q52 => ?_)
      obtain ⟨rfl, q52w⟩ := q52
      rw [q52w]
      show am_Go 157 (55, [.ref 133, .int (nI m), .int (nI x), .int u, .int y4, .int y5, .int (nI j), z7], [.long (lN (x ^ (n_pop j)))], ((w.set 133 (.inr (11, [.int (nI T.2.2.1), .int (nI T.2.2.2.1), .int T.1, .int T.2.1, .ref 134, .ref 135, .ref 136, .ref 137, .ref 138, .ref 139, .ref 140, .int rh, .int rk, .ref 141, .int (nI t.1), .int wh, .int fa, .ref 142, .int zg, .int (nI A.length), .int (nI nx), .ref 143, .ref 144, .int (nI N.1), .ref 145, .ref 146, .ref 147, .long sd, .ref 148, .ref 149]))).set 142 (.inl (0, 36, .inl f))), 0, 0) _
      refine ar_bipush (x := 10) (pc' := 57) hM rfl (by decide) rfl ?_
      refine ar_iload_n (pc' := 58) hM rfl rfl rfl ?_
      refine ar_isub (pc' := 59) hM rfl rfl ?_
      rw [show (10 - (nI x) : Int32) = nI (10 - x) from (pk_sub (a := 10) hx)]
      refine ar_i2l (pc' := 60) hM rfl rfl ?_
      rw [show (Int32.toInt64 (nI (10 - x)) : Int64) = lN (10 - x) from (nI_l (by omega))]
      refine ar_aload_n (pc' := 61) hM rfl rfl rfl ?_
      refine ar_getfield (pc' := 64) hM rfl (am_gn (by decide) (am_gs hm)) rfl rfl ?_
      refine ar_iload (pc' := 66) hM rfl rfl rfl ?_
      refine ar_static (pc' := 69) (k3 := 0) (k4 := 0) hM rfl (by decide) rfl rfl (d_ones _ j (by omega)) (fun r66 w66 q66 => ?_)
      obtain ⟨rfl, q66w⟩ := q66
      rw [q66w]
      show am_Go 157 (69, [.ref 133, .int (nI m), .int (nI x), .int u, .int y4, .int y5, .int (nI j), z7], [.int (nI (n_pop j)), .int (nI T.2.2.1), .long (lN (10 - x)), .long (lN (x ^ (n_pop j)))], ((w.set 133 (.inr (11, [.int (nI T.2.2.1), .int (nI T.2.2.2.1), .int T.1, .int T.2.1, .ref 134, .ref 135, .ref 136, .ref 137, .ref 138, .ref 139, .ref 140, .int rh, .int rk, .ref 141, .int (nI t.1), .int wh, .int fa, .ref 142, .int zg, .int (nI A.length), .int (nI nx), .ref 143, .ref 144, .int (nI N.1), .ref 145, .ref 146, .ref 147, .long sd, .ref 148, .ref 149]))).set 142 (.inl (0, 36, .inl f))), 0, 0) _
      refine ar_isub (pc' := 70) hM rfl rfl ?_
      rw [show ((nI T.2.2.1) - (nI (n_pop j)) : Int32) = nI (T.2.2.1 - n_pop j) from (pk_sub (by omega))]
      refine ar_static (pc' := 73) (k3 := 0) (k4 := 0) hM rfl (by decide) rfl rfl (d_pow _ (10 - x) (T.2.2.1 - n_pop j) (by omega)) (fun r70 w70 q70 => ?_)
      obtain ⟨rfl, q70w⟩ := q70
      rw [q70w]
      show am_Go 157 (73, [.ref 133, .int (nI m), .int (nI x), .int u, .int y4, .int y5, .int (nI j), z7], [.long (lN ((10 - x) ^ (T.2.2.1 - n_pop j))), .long (lN (x ^ (n_pop j)))], ((w.set 133 (.inr (11, [.int (nI T.2.2.1), .int (nI T.2.2.2.1), .int T.1, .int T.2.1, .ref 134, .ref 135, .ref 136, .ref 137, .ref 138, .ref 139, .ref 140, .int rh, .int rk, .ref 141, .int (nI t.1), .int wh, .int fa, .ref 142, .int zg, .int (nI A.length), .int (nI nx), .ref 143, .ref 144, .int (nI N.1), .ref 145, .ref 146, .ref 147, .long sd, .ref 148, .ref 149]))).set 142 (.inl (0, 36, .inl f))), 0, 0) _
      refine ar_lmul (pc' := 74) hM rfl rfl ?_
      rw [show ((lN (x ^ (n_pop j))) * (lN ((10 - x) ^ (T.2.2.1 - n_pop j))) : Int64) = lN (x ^ n_pop j * (10 - x) ^ (T.2.2.1 - n_pop j)) from (lN_mul _ _)]
      refine ar_l2i (pc' := 75) hM rfl rfl ?_
      rw [show (Int64.toInt32 (lN (x ^ n_pop j * (10 - x) ^ (T.2.2.1 - n_pop j))) : Int32) = nI (x ^ n_pop j * (10 - x) ^ (T.2.2.1 - n_pop j)) from (lN_i _)]
      refine ar_istore (pc' := 77) hM rfl rfl rfl rfl ?_
      refine ar_aload_n (pc' := 78) hM rfl rfl rfl ?_
      refine ar_iload (pc' := 80) hM rfl rfl rfl ?_
      refine ar_putfield (pc' := 83) hM rfl (am_gn (by decide) (am_gs hm)) (Nat.le_of_ble_eq_true rfl) rfl (by decide) rfl ?_
      show am_Go 157 (83, [.ref 133, .int (nI m), .int (nI x), .int u, .int y4, .int y5, .int (nI j), .int (nI (x ^ n_pop j * (10 - x) ^ (T.2.2.1 - n_pop j)))], [], (((w.set 133 (.inr (11, [.int (nI T.2.2.1), .int (nI T.2.2.2.1), .int T.1, .int T.2.1, .ref 134, .ref 135, .ref 136, .ref 137, .ref 138, .ref 139, .ref 140, .int rh, .int rk, .ref 141, .int (nI t.1), .int wh, .int fa, .ref 142, .int zg, .int (nI A.length), .int (nI nx), .ref 143, .ref 144, .int (nI N.1), .ref 145, .ref 146, .ref 147, .long sd, .ref 148, .ref 149]))).set 142 (.inl (0, 36, .inl f))).set 133 (.inr (11, [.int (nI T.2.2.1), .int (nI T.2.2.2.1), .int T.1, .int T.2.1, .ref 134, .ref 135, .ref 136, .ref 137, .ref 138, .ref 139, .ref 140, .int rh, .int rk, .ref 141, .int (nI t.1), .int wh, .int fa, .ref 142, .int (nI j), .int (nI A.length), .int (nI nx), .ref 143, .ref 144, .int (nI N.1), .ref 145, .ref 146, .ref 147, .long sd, .ref 148, .ref 149]))), 0, 0) _
      refine ar_aload_n (pc' := 84) hM rfl rfl rfl ?_
      refine ar_iconst (x := 0) (pc' := 85) hM rfl (by decide) rfl ?_
      rw [show (((w.set 133 (.inr (11, [.int (nI T.2.2.1), .int (nI T.2.2.2.1), .int T.1, .int T.2.1, .ref 134, .ref 135, .ref 136, .ref 137, .ref 138, .ref 139, .ref 140, .int rh, .int rk, .ref 141, .int (nI t.1), .int wh, .int fa, .ref 142, .int zg, .int (nI A.length), .int (nI nx), .ref 143, .ref 144, .int (nI N.1), .ref 145, .ref 146, .ref 147, .long sd, .ref 148, .ref 149]))).set 142 (.inl (0, 36, .inl f))).set 133 (.inr (11, [.int (nI T.2.2.1), .int (nI T.2.2.2.1), .int T.1, .int T.2.1, .ref 134, .ref 135, .ref 136, .ref 137, .ref 138, .ref 139, .ref 140, .int rh, .int rk, .ref 141, .int (nI t.1), .int wh, .int fa, .ref 142, .int (nI j), .int (nI A.length), .int (nI nx), .ref 143, .ref 144, .int (nI N.1), .ref 145, .ref 146, .ref 147, .long sd, .ref 148, .ref 149]))) = ((w.set 133 (.inr (11, [.int (nI T.2.2.1), .int (nI T.2.2.2.1), .int T.1, .int T.2.1, .ref 134, .ref 135, .ref 136, .ref 137, .ref 138, .ref 139, .ref 140, .int rh, .int rk, .ref 141, .int (nI t.1), .int wh, .int fa, .ref 142, .int (nI j), .int (nI A.length), .int (nI nx), .ref 143, .ref 144, .int (nI N.1), .ref 145, .ref 146, .ref 147, .long sd, .ref 148, .ref 149]))).set 142 (.inl (0, 36, .inl f))) from by rw [List.set_comm _ _ (show 142 ≠ 133 by decide), List.set_set]]
      refine ar_virtual (pc' := 88) (k3 := 0) (k4 := 0) hM rfl rfl (am_gn (by decide) (am_gs hm)) ⟨rfl, (by decide)⟩ rfl rfl (d_lay T (am_gn (by decide) (am_gs hm)) (am_gn (by decide) (am_gn (by decide) h134)) (am_gn (by decide) (am_gn (by decide) h135)) (am_gn (by decide) (am_gn (by decide) h136)) (am_gn (by decide) (am_gn (by decide) h137)) (am_gn (by decide) (am_gn (by decide) h138)) (am_gs (am_gn (by decide) h142)) hT 0 (by omega) S hvT hvS (by simpa using hS)) (fun r85 w85 q85 => ?_)
      obtain ⟨td9, rfl, q85w, hY9⟩ := q85
      rw [q85w]
      show am_Go 157 (88, [.ref 133, .int (nI m), .int (nI x), .int u, .int y4, .int y5, .int (nI j), .int (nI (x ^ n_pop j * (10 - x) ^ (T.2.2.1 - n_pop j)))], [], (((w.set 133 (.inr (11, [.int (nI T.2.2.1), .int (nI T.2.2.2.1), .int T.1, .int T.2.1, .ref 134, .ref 135, .ref 136, .ref 137, .ref 138, .ref 139, .ref 140, .int rh, .int rk, .ref 141, .int (nI t.1), .int wh, .int fa, .ref 142, .int (nI j), .int (nI A.length), .int (nI nx), .ref 143, .ref 144, .int (nI N.1), .ref 145, .ref 146, .ref 147, .long sd, .ref 148, .ref 149]))).set 142 (.inl (0, 36, .inl f))).set 142 (.inl (0, 36, .inl td9))), 0, 0) _
      refine ar_iload (pc' := 90) hM rfl rfl rfl ?_
      refine ar_iload (pc' := 92) hM rfl rfl rfl ?_
      refine ar_iadd (pc' := 93) hM rfl rfl ?_
      refine ar_istore (pc' := 95) hM rfl rfl rfl rfl ?_
      refine ar_iload (pc' := 97) hM rfl rfl rfl ?_
      refine ar_aload_n (pc' := 98) hM rfl rfl rfl ?_
      refine ar_iconst (x := 4) (pc' := 99) hM rfl (by decide) rfl ?_
      refine ar_virtual (pc' := 102) (k3 := 0) (k4 := 0) hM rfl rfl (am_gn (by decide) (am_gn (by decide) (am_gs hm))) ⟨rfl, (by decide)⟩ rfl rfl (by have h0 := d_sumOf (w := (((w.set 133 (.inr (11, [.int (nI T.2.2.1), .int (nI T.2.2.2.1), .int T.1, .int T.2.1, .ref 134, .ref 135, .ref 136, .ref 137, .ref 138, .ref 139, .ref 140, .int rh, .int rk, .ref 141, .int (nI t.1), .int wh, .int fa, .ref 142, .int (nI j), .int (nI A.length), .int (nI nx), .ref 143, .ref 144, .int (nI N.1), .ref 145, .ref 146, .ref 147, .long sd, .ref 148, .ref 149]))).set 142 (.inl (0, 36, .inl f))).set 142 (.inl (0, 36, .inl td9)))) T (am_gn (by decide) (am_gn (by decide) (am_gs hm))) (am_gs (am_gs (am_gn (by decide) h142))) 4 (by omega) hn6; rw [i_sum_congr (fun h hh => (hY9 h hh).2.2.2.2.1)] at h0; exact h0) (fun r99 w99 q99 => ?_)
      obtain ⟨rfl, q99w⟩ := q99
      rw [q99w]
      show am_Go 157 (102, [.ref 133, .int (nI m), .int (nI x), .int u, .int y4, .int (y5 + (nI (x ^ n_pop j * (10 - x) ^ (T.2.2.1 - n_pop j)))), .int (nI j), .int (nI (x ^ n_pop j * (10 - x) ^ (T.2.2.1 - n_pop j)))], [.int (i_sum (m_lk T S (nI j)) T.2.2.1), .int y4], (((w.set 133 (.inr (11, [.int (nI T.2.2.1), .int (nI T.2.2.2.1), .int T.1, .int T.2.1, .ref 134, .ref 135, .ref 136, .ref 137, .ref 138, .ref 139, .ref 140, .int rh, .int rk, .ref 141, .int (nI t.1), .int wh, .int fa, .ref 142, .int (nI j), .int (nI A.length), .int (nI nx), .ref 143, .ref 144, .int (nI N.1), .ref 145, .ref 146, .ref 147, .long sd, .ref 148, .ref 149]))).set 142 (.inl (0, 36, .inl f))).set 142 (.inl (0, 36, .inl td9))), 0, 0) _
      refine ar_iload_n (pc' := 103) hM rfl rfl rfl ?_
      refine ar_icmp_lt (pc' := 106) hM rfl rfl (fun c103 => ?_) (fun c103 => ?_)
      · refine ar_iconst (x := 0) (pc' := 112) hM rfl (by decide) rfl ?_
        refine ar_iadd (pc' := 113) hM rfl rfl ?_
        refine ar_istore (pc' := 115) hM rfl rfl rfl rfl ?_
        refine ar_iinc (z := nI (j + 1)) (pc' := 118) hM rfl rfl (nI_1 _) rfl rfl rfl ?_
        refine ar_goto hM rfl ?_
        rw [show (((w.set 133 (.inr (11, [.int (nI T.2.2.1), .int (nI T.2.2.2.1), .int T.1, .int T.2.1, .ref 134, .ref 135, .ref 136, .ref 137, .ref 138, .ref 139, .ref 140, .int rh, .int rk, .ref 141, .int (nI t.1), .int wh, .int fa, .ref 142, .int (nI j), .int (nI A.length), .int (nI nx), .ref 143, .ref 144, .int (nI N.1), .ref 145, .ref 146, .ref 147, .long sd, .ref 148, .ref 149]))).set 142 (.inl (0, 36, .inl f))).set 142 (.inl (0, 36, .inl td9))) = ((w.set 133 (.inr (11, [.int (nI T.2.2.1), .int (nI T.2.2.2.1), .int T.1, .int T.2.1, .ref 134, .ref 135, .ref 136, .ref 137, .ref 138, .ref 139, .ref 140, .int rh, .int rk, .ref 141, .int (nI t.1), .int wh, .int fa, .ref 142, .int (nI j), .int (nI A.length), .int (nI nx), .ref 143, .ref 144, .int (nI N.1), .ref 145, .ref 146, .ref 147, .long sd, .ref 148, .ref 149]))).set 142 (.inl (0, 36, .inl td9))) from by rw [List.set_set]]
        exact ih (j + 1) (y4 + 0) (y5 + (nI (x ^ n_pop j * (10 - x) ^ (T.2.2.1 - n_pop j)))) (nI j) td9 (.int (nI (x ^ n_pop j * (10 - x) ^ (T.2.2.1 - n_pop j)))) (by omega) (by rw [h4]; show nI (n_sq (fun s => n_w T.2.2.1 x s * m_cc T S (nI m) s) j) + 0 = nI (n_sq (fun s => n_w T.2.2.1 x s * m_cc T S (nI m) s) j + n_w T.2.2.1 x j * (if _ then 1 else 0)); rw [if_neg (Int32.not_le.mpr c103), Nat.mul_zero, Nat.add_zero]; exact Int32.add_zero _) (by rw [h5, nI_add]; rfl)
      · refine ar_iload (pc' := 108) hM rfl rfl rfl ?_
        refine ar_goto hM rfl ?_
        refine ar_iadd (pc' := 113) hM rfl rfl ?_
        refine ar_istore (pc' := 115) hM rfl rfl rfl rfl ?_
        refine ar_iinc (z := nI (j + 1)) (pc' := 118) hM rfl rfl (nI_1 _) rfl rfl rfl ?_
        refine ar_goto hM rfl ?_
        rw [show (((w.set 133 (.inr (11, [.int (nI T.2.2.1), .int (nI T.2.2.2.1), .int T.1, .int T.2.1, .ref 134, .ref 135, .ref 136, .ref 137, .ref 138, .ref 139, .ref 140, .int rh, .int rk, .ref 141, .int (nI t.1), .int wh, .int fa, .ref 142, .int (nI j), .int (nI A.length), .int (nI nx), .ref 143, .ref 144, .int (nI N.1), .ref 145, .ref 146, .ref 147, .long sd, .ref 148, .ref 149]))).set 142 (.inl (0, 36, .inl f))).set 142 (.inl (0, 36, .inl td9))) = ((w.set 133 (.inr (11, [.int (nI T.2.2.1), .int (nI T.2.2.2.1), .int T.1, .int T.2.1, .ref 134, .ref 135, .ref 136, .ref 137, .ref 138, .ref 139, .ref 140, .int rh, .int rk, .ref 141, .int (nI t.1), .int wh, .int fa, .ref 142, .int (nI j), .int (nI A.length), .int (nI nx), .ref 143, .ref 144, .int (nI N.1), .ref 145, .ref 146, .ref 147, .long sd, .ref 148, .ref 149]))).set 142 (.inl (0, 36, .inl td9))) from by rw [List.set_set]]
        exact ih (j + 1) (y4 + (nI (x ^ n_pop j * (10 - x) ^ (T.2.2.1 - n_pop j)))) (y5 + (nI (x ^ n_pop j * (10 - x) ^ (T.2.2.1 - n_pop j)))) (nI j) td9 (.int (nI (x ^ n_pop j * (10 - x) ^ (T.2.2.1 - n_pop j)))) (by omega) (by rw [h4, nI_add]; show nI (n_sq (fun s => n_w T.2.2.1 x s * m_cc T S (nI m) s) j + n_w T.2.2.1 x j) = nI (n_sq (fun s => n_w T.2.2.1 x s * m_cc T S (nI m) s) j + n_w T.2.2.1 x j * (if _ then 1 else 0)); rw [if_pos (Int32.not_lt.mp c103), Nat.mul_one]) (by rw [h5, nI_add]; rfl)
  have hl0 := loop (2 ^ T.2.2.1) 0 0 0 0 td (.float 0) (by omega) rfl rfl
  rw [am_si (show (w)[133]? = some (.inr (11, [.int (nI T.2.2.1), .int (nI T.2.2.2.1), .int T.1, .int T.2.1, .ref 134, .ref 135, .ref 136, .ref 137, .ref 138, .ref 139, .ref 140, .int rh, .int rk, .ref 141, .int (nI t.1), .int wh, .int fa, .ref 142, .int 0, .int (nI A.length), .int (nI nx), .ref 143, .ref 144, .int (nI N.1), .ref 145, .ref 146, .ref 147, .long sd, .ref 148, .ref 149])) from hm), am_si h142] at hl0
  exact hl0
