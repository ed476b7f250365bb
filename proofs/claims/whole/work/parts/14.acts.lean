/-! Acts, Slots, Seen -/
def b_agr (sh st sv : Nat → Int32) (h v : Int32) : Nat → Bool
  | 0 => true
  | i + 1 => b_agr sh st sv h v i && (!decide (sh i = h) || decide (sv i = v + st i))
theorem b_agr_f {sh st sv : Nat → Int32} {h v : Int32} {j n : Nat} (hj : j ≤ n) (hf : b_agr sh st sv h v j = false) : b_agr sh st sv h v n = false := by
  induction n with
  | zero => rw [show j = 0 by omega] at hf; exact hf
  | succ n ih =>
    rcases Nat.lt_or_ge j (n + 1) with q | q
    · show (b_agr sh st sv h v n && _) = false
      rw [ih (by omega)]; rfl
    · rw [show j = n + 1 by omega] at hf; exact hf
def i_pw (sh st sv : Nat → Int32) (sc : Nat) (h k : Int32) : Nat → Int32
  | 0 => 0
  | w + 1 => if b_agr sh st sv h (i_wbk (nI w) k + i_lie k) sc = true then i_pw sh st sv sc h k w ||| (1 <<< (nI w &&& 31)) else i_pw sh st sv sc h k w
set_option maxRecDepth 100000 in
set_option maxHeartbeats 4000000 in
theorem c_actsClear (w : am_W) (f c : Nat) (hf : f < 14) (hc : c ≤ 14) (ha0 : w[20]? = some (.inr (0, [.ref 21, .int (nI f), .int (nI c)]))) : am_Go 1 (0, [.ref 20], [], w, 0, 0) (fun res w' => res = none ∧ w' = w.set 20 (.inr (0, [.ref 21, .int 0, .int 0]))) := by
  have hM : am_P[1]? = some zm_X0_clear := rfl
  refine ar_aload_n (pc' := 1) hM rfl rfl rfl ?_
  refine ar_iconst (x := 0) (pc' := 2) hM rfl (by decide) rfl ?_
  refine ar_putfield (pc' := 5) hM rfl ha0 (Nat.le_of_ble_eq_true rfl) rfl (by decide) rfl ?_
  show am_Go 1 (5, [.ref 20], [], (w.set 20 (.inr (0, [.ref 21, .int 0, .int (nI c)]))), 0, 0) _
  refine ar_aload_n (pc' := 6) hM rfl rfl rfl ?_
  refine ar_iconst (x := 0) (pc' := 7) hM rfl (by decide) rfl ?_
  refine ar_putfield (pc' := 10) hM rfl (am_gs ha0) (Nat.le_of_ble_eq_true rfl) rfl (by decide) rfl ?_
  show am_Go 1 (10, [.ref 20], [], ((w.set 20 (.inr (0, [.ref 21, .int 0, .int (nI c)]))).set 20 (.inr (0, [.ref 21, .int 0, .int 0]))), 0, 0) _
  refine ar_return hM rfl ?_
  rw [show ((w.set 20 (.inr (0, [.ref 21, .int 0, .int (nI c)]))).set 20 (.inr (0, [.ref 21, .int 0, .int 0]))) = (w.set 20 (.inr (0, [.ref 21, .int 0, .int 0]))) from by rw [List.set_set]]
  exact ⟨rfl, rfl⟩
set_option maxRecDepth 100000 in
set_option maxHeartbeats 4000000 in
theorem c_remember (w : am_W) (f c : Nat) (hf : f < 14) (hc : c ≤ 14) (ha0 : w[20]? = some (.inr (0, [.ref 21, .int (nI f), .int (nI c)]))) (bf : Nat → Option Nat) (bo bs bl : Nat → Nat → Int32) (ba bw bd : Nat → Int32) (hbf : ∀ i, i < 14 → bf i = some (22 + 4 * i)) (hb0 : ∀ i, i < 14 → w[22 + 4 * i]? = some (.inr (6, [.ref (22 + 4 * i + 1), .ref (22 + 4 * i + 2), .ref (22 + 4 * i + 3), .int (ba i), .int (bw i), .int (bd i)]))) (hb1 : ∀ i, i < 14 → w[22 + 4 * i + 1]? = some (.inl (0, 6, .inl (bo i)))) (hb2 : ∀ i, i < 14 → w[22 + 4 * i + 2]? = some (.inl (0, 6, .inl (bs i)))) (hb3 : ∀ i, i < 14 → w[22 + 4 * i + 3]? = some (.inl (0, 6, .inl (bl i)))) (ha1 : w[21]? = some (.inl (2, 14, .inr bf))) (so ss sl : Nat → Int32) (sa sw sd : Int32) (hs0 : w[16]? = some (.inr (6, [.ref 17, .ref 18, .ref 19, .int sa, .int sw, .int sd]))) (hs1 : w[17]? = some (.inl (0, 6, .inl so))) (hs2 : w[18]? = some (.inl (0, 6, .inl ss))) (hs3 : w[19]? = some (.inl (0, 6, .inl sl))) (hc1 : c < 14) (j : Nat) (hj14 : j < 14) (hj : j = (f + c) % 14) : am_Go 2 (0, [.ref 20, .ref 16], [], w, 0, 0) (fun res w' => res = none ∧ w' = ((((w.set (22 + 4 * j + 1) (.inl (0, 6, .inl (va_cpy so (bo j) 0 0 6)))).set (22 + 4 * j + 2) (.inl (0, 6, .inl (va_cpy ss (bs j) 0 0 6)))).set (22 + 4 * j + 3) (.inl (0, 6, .inl (va_cpy sl (bl j) 0 0 6)))).set (22 + 4 * j) (.inr (6, [.ref (22 + 4 * j + 1), .ref (22 + 4 * j + 2), .ref (22 + 4 * j + 3), .int sa, .int sw, .int sd]))).set 20 (.inr (0, [.ref 21, .int (nI f), .int (nI (c + 1))]))) := by
  have hM : am_P[2]? = some zm_X0_remember := rfl
  refine ar_aload_n (pc' := 1) hM rfl rfl rfl ?_
  refine ar_getfield (pc' := 4) hM rfl ha0 rfl rfl ?_
  refine ar_bipush (x := 14) (pc' := 6) hM rfl (by decide) rfl ?_
  refine ar_icmp_lt (pc' := 9) hM rfl rfl (fun _ => ?_) (fun q => absurd (nI_lt (a := c) (b := 14) hc1 (by omega)) q)
  refine ar_aload_n (pc' := 29) hM rfl rfl rfl ?_
  refine ar_getfield (pc' := 32) hM rfl ha0 rfl rfl ?_
  refine ar_aload_n (pc' := 33) hM rfl rfl rfl ?_
  refine ar_getfield (pc' := 36) hM rfl ha0 rfl rfl ?_
  refine ar_aload_n (pc' := 37) hM rfl rfl rfl ?_
  refine ar_getfield (pc' := 40) hM rfl ha0 rfl rfl ?_
  refine ar_iadd (pc' := 41) hM rfl rfl ?_
  rw [show ((nI f) + (nI c) : Int32) = nI (f + c) from nI_add f c]
  refine ar_bipush (x := 14) (pc' := 43) hM rfl (by decide) rfl ?_
  refine ar_irem (pc' := 44) hM rfl (by decide) rfl ?_
  rw [show ((nI (f + c)) - (nI (f + c)) / 14 * 14 : Int32) = nI j from (by rw [hj]; exact pk_rem (by omega) (by decide) (by decide))]
  refine ar_aaloadN (j := j) (z := 22 + 4 * j) (pc' := 45) hM rfl ha1 rfl (by omega) (Nat.le_of_ble_eq_true rfl) (by decide) (hbf j hj14) rfl ?_
  refine ar_aload_n (pc' := 46) hM rfl rfl rfl ?_
  refine ar_virtual (pc' := 49) (k3 := 0) (k4 := 0) hM rfl rfl (hb0 j hj14) ⟨rfl, (by omega)⟩ rfl rfl (c_copyFrom _ (22 + 4 * j) (by omega) _ _ _ _ _ _ (hb0 j hj14) (hb1 j hj14) (hb2 j hj14) (hb3 j hj14) 16 (by decide) (by omega) _ _ _ _ _ _ hs0 hs1 hs2 hs3) (fun r46 w46 q46 => ?_)
  obtain ⟨rfl, q46w⟩ := q46
  rw [q46w]
  show am_Go 2 (49, [.ref 20, .ref 16], [], ((((w.set (22 + 4 * j + 1) (.inl (0, 6, .inl (va_cpy so (bo j) 0 0 6)))).set (22 + 4 * j + 2) (.inl (0, 6, .inl (va_cpy ss (bs j) 0 0 6)))).set (22 + 4 * j + 3) (.inl (0, 6, .inl (va_cpy sl (bl j) 0 0 6)))).set (22 + 4 * j) (.inr (6, [.ref (22 + 4 * j + 1), .ref (22 + 4 * j + 2), .ref (22 + 4 * j + 3), .int sa, .int sw, .int sd]))), 0, 0) _
  refine ar_aload_n (pc' := 50) hM rfl rfl rfl ?_
  refine ar_dup (pc' := 51) hM rfl rfl rfl ?_
  refine ar_getfield (pc' := 54) hM rfl (am_gn (by omega) (am_gn (by omega) (am_gn (by omega) (am_gn (by omega) ha0)))) rfl rfl ?_
  refine ar_iconst (x := 1) (pc' := 55) hM rfl (by decide) rfl ?_
  refine ar_iadd (pc' := 56) hM rfl rfl ?_
  rw [show ((nI c) + 1 : Int32) = nI (c + 1) from nI_1 c]
  refine ar_putfield (pc' := 59) hM rfl (am_gn (by omega) (am_gn (by omega) (am_gn (by omega) (am_gn (by omega) ha0)))) (Nat.le_of_ble_eq_true rfl) rfl (by decide) rfl ?_
  show am_Go 2 (59, [.ref 20, .ref 16], [], (((((w.set (22 + 4 * j + 1) (.inl (0, 6, .inl (va_cpy so (bo j) 0 0 6)))).set (22 + 4 * j + 2) (.inl (0, 6, .inl (va_cpy ss (bs j) 0 0 6)))).set (22 + 4 * j + 3) (.inl (0, 6, .inl (va_cpy sl (bl j) 0 0 6)))).set (22 + 4 * j) (.inr (6, [.ref (22 + 4 * j + 1), .ref (22 + 4 * j + 2), .ref (22 + 4 * j + 3), .int sa, .int sw, .int sd]))).set 20 (.inr (0, [.ref 21, .int (nI f), .int (nI (c + 1))]))), 0, 0) _
  refine ar_return hM rfl ?_
  exact ⟨rfl, rfl⟩
set_option maxRecDepth 100000 in
set_option maxHeartbeats 4000000 in
theorem c_rememberF (w : am_W) (f c : Nat) (hf : f < 14) (hc : c ≤ 14) (ha0 : w[20]? = some (.inr (0, [.ref 21, .int (nI f), .int (nI c)]))) (bf : Nat → Option Nat) (bo bs bl : Nat → Nat → Int32) (ba bw bd : Nat → Int32) (hbf : ∀ i, i < 14 → bf i = some (22 + 4 * i)) (hb0 : ∀ i, i < 14 → w[22 + 4 * i]? = some (.inr (6, [.ref (22 + 4 * i + 1), .ref (22 + 4 * i + 2), .ref (22 + 4 * i + 3), .int (ba i), .int (bw i), .int (bd i)]))) (hb1 : ∀ i, i < 14 → w[22 + 4 * i + 1]? = some (.inl (0, 6, .inl (bo i)))) (hb2 : ∀ i, i < 14 → w[22 + 4 * i + 2]? = some (.inl (0, 6, .inl (bs i)))) (hb3 : ∀ i, i < 14 → w[22 + 4 * i + 3]? = some (.inl (0, 6, .inl (bl i)))) (ha1 : w[21]? = some (.inl (2, 14, .inr bf))) (so ss sl : Nat → Int32) (sa sw sd : Int32) (hs0 : w[16]? = some (.inr (6, [.ref 17, .ref 18, .ref 19, .int sa, .int sw, .int sd]))) (hs1 : w[17]? = some (.inl (0, 6, .inl so))) (hs2 : w[18]? = some (.inl (0, 6, .inl ss))) (hs3 : w[19]? = some (.inl (0, 6, .inl sl))) (hc1 : c = 14) (f2 : Nat) (hf2 : f2 = (f + 1) % 14) (j : Nat) (hj14 : j < 14) (hj : j = (f2 + 13) % 14) : am_Go 2 (0, [.ref 20, .ref 16], [], w, 0, 0) (fun res w' => res = none ∧ w' = (((((w.set 20 (.inr (0, [.ref 21, .int (nI f2), .int (nI 14)]))).set (22 + 4 * j + 1) (.inl (0, 6, .inl (va_cpy so (bo j) 0 0 6)))).set (22 + 4 * j + 2) (.inl (0, 6, .inl (va_cpy ss (bs j) 0 0 6)))).set (22 + 4 * j + 3) (.inl (0, 6, .inl (va_cpy sl (bl j) 0 0 6)))).set (22 + 4 * j) (.inr (6, [.ref (22 + 4 * j + 1), .ref (22 + 4 * j + 2), .ref (22 + 4 * j + 3), .int sa, .int sw, .int sd])))) := by
  have hM : am_P[2]? = some zm_X0_remember := rfl
  refine ar_aload_n (pc' := 1) hM rfl rfl rfl ?_
  refine ar_getfield (pc' := 4) hM rfl ha0 rfl rfl ?_
  refine ar_bipush (x := 14) (pc' := 6) hM rfl (by decide) rfl ?_
  refine ar_icmp_lt (pc' := 9) hM rfl rfl (fun q => absurd q (nI_nlt (a := c) (b := 14) (by omega) (by omega))) (fun _ => ?_)
  refine ar_aload_n (pc' := 10) hM rfl rfl rfl ?_
  refine ar_aload_n (pc' := 11) hM rfl rfl rfl ?_
  refine ar_getfield (pc' := 14) hM rfl ha0 rfl rfl ?_
  refine ar_iconst (x := 1) (pc' := 15) hM rfl (by decide) rfl ?_
  refine ar_iadd (pc' := 16) hM rfl rfl ?_
  rw [show ((nI f) + 1 : Int32) = nI (f + 1) from nI_1 f]
  refine ar_bipush (x := 14) (pc' := 18) hM rfl (by decide) rfl ?_
  refine ar_irem (pc' := 19) hM rfl (by decide) rfl ?_
  rw [show ((nI (f + 1)) - (nI (f + 1)) / 14 * 14 : Int32) = nI f2 from (by rw [hf2]; exact pk_rem (by omega) (by decide) (by decide))]
  refine ar_putfield (pc' := 22) hM rfl ha0 (Nat.le_of_ble_eq_true rfl) rfl (by decide) rfl ?_
  show am_Go 2 (22, [.ref 20, .ref 16], [], (w.set 20 (.inr (0, [.ref 21, .int (nI f2), .int (nI c)]))), 0, 0) _
  refine ar_aload_n (pc' := 23) hM rfl rfl rfl ?_
  refine ar_bipush (x := 13) (pc' := 25) hM rfl (by decide) rfl ?_
  refine ar_putfield (pc' := 28) hM rfl (am_gs ha0) (Nat.le_of_ble_eq_true rfl) rfl (by decide) rfl ?_
  show am_Go 2 (28, [.ref 20, .ref 16], [], ((w.set 20 (.inr (0, [.ref 21, .int (nI f2), .int (nI c)]))).set 20 (.inr (0, [.ref 21, .int (nI f2), .int 13]))), 0, 0) _
  refine ar_aload_n (pc' := 29) hM rfl rfl rfl ?_
  refine ar_getfield (pc' := 32) hM rfl (am_gs (am_gs ha0)) rfl rfl ?_
  refine ar_aload_n (pc' := 33) hM rfl rfl rfl ?_
  refine ar_getfield (pc' := 36) hM rfl (am_gs (am_gs ha0)) rfl rfl ?_
  refine ar_aload_n (pc' := 37) hM rfl rfl rfl ?_
  refine ar_getfield (pc' := 40) hM rfl (am_gs (am_gs ha0)) rfl rfl ?_
  refine ar_iadd (pc' := 41) hM rfl rfl ?_
  rw [show ((nI f2) + 13 : Int32) = nI (f2 + 13) from nI_add f2 13]
  refine ar_bipush (x := 14) (pc' := 43) hM rfl (by decide) rfl ?_
  refine ar_irem (pc' := 44) hM rfl (by decide) rfl ?_
  rw [show ((nI (f2 + 13)) - (nI (f2 + 13)) / 14 * 14 : Int32) = nI j from (by rw [hj]; exact pk_rem (by have := Nat.mod_lt (f + 1) (show 0 < 14 by decide); omega) (by decide) (by decide))]
  refine ar_aaloadN (j := j) (z := 22 + 4 * j) (pc' := 45) hM rfl (am_gn (by decide) (am_gn (by decide) ha1)) rfl (by omega) (Nat.le_of_ble_eq_true rfl) (by decide) (hbf j hj14) rfl ?_
  refine ar_aload_n (pc' := 46) hM rfl rfl rfl ?_
  refine ar_virtual (pc' := 49) (k3 := 0) (k4 := 0) hM rfl rfl (am_gn (by omega) (am_gn (by omega) (hb0 j hj14))) ⟨rfl, (by omega)⟩ rfl rfl (c_copyFrom _ (22 + 4 * j) (by omega) _ _ _ _ _ _ (am_gn (by omega) (am_gn (by omega) (hb0 j hj14))) (am_gn (by omega) (am_gn (by omega) (hb1 j hj14))) (am_gn (by omega) (am_gn (by omega) (hb2 j hj14))) (am_gn (by omega) (am_gn (by omega) (hb3 j hj14))) 16 (by decide) (by omega) _ _ _ _ _ _ (am_gn (by decide) (am_gn (by decide) hs0)) (am_gn (by decide) (am_gn (by decide) hs1)) (am_gn (by decide) (am_gn (by decide) hs2)) (am_gn (by decide) (am_gn (by decide) hs3))) (fun r46 w46 q46 => ?_)
  obtain ⟨rfl, q46w⟩ := q46
  rw [q46w]
  show am_Go 2 (49, [.ref 20, .ref 16], [], ((((((w.set 20 (.inr (0, [.ref 21, .int (nI f2), .int (nI c)]))).set 20 (.inr (0, [.ref 21, .int (nI f2), .int 13]))).set (22 + 4 * j + 1) (.inl (0, 6, .inl (va_cpy so (bo j) 0 0 6)))).set (22 + 4 * j + 2) (.inl (0, 6, .inl (va_cpy ss (bs j) 0 0 6)))).set (22 + 4 * j + 3) (.inl (0, 6, .inl (va_cpy sl (bl j) 0 0 6)))).set (22 + 4 * j) (.inr (6, [.ref (22 + 4 * j + 1), .ref (22 + 4 * j + 2), .ref (22 + 4 * j + 3), .int sa, .int sw, .int sd]))), 0, 0) _
  refine ar_aload_n (pc' := 50) hM rfl rfl rfl ?_
  refine ar_dup (pc' := 51) hM rfl rfl rfl ?_
  refine ar_getfield (pc' := 54) hM rfl (am_gn (by omega) (am_gn (by omega) (am_gn (by omega) (am_gn (by omega) (am_gs (am_gs ha0)))))) rfl rfl ?_
  refine ar_iconst (x := 1) (pc' := 55) hM rfl (by decide) rfl ?_
  refine ar_iadd (pc' := 56) hM rfl rfl ?_
  rw [show (13 + 1 : Int32) = nI 14 from (by decide)]
  refine ar_putfield (pc' := 59) hM rfl (am_gn (by omega) (am_gn (by omega) (am_gn (by omega) (am_gn (by omega) (am_gs (am_gs ha0)))))) (Nat.le_of_ble_eq_true rfl) rfl (by decide) rfl ?_
  show am_Go 2 (59, [.ref 20, .ref 16], [], (((((((w.set 20 (.inr (0, [.ref 21, .int (nI f2), .int (nI c)]))).set 20 (.inr (0, [.ref 21, .int (nI f2), .int 13]))).set (22 + 4 * j + 1) (.inl (0, 6, .inl (va_cpy so (bo j) 0 0 6)))).set (22 + 4 * j + 2) (.inl (0, 6, .inl (va_cpy ss (bs j) 0 0 6)))).set (22 + 4 * j + 3) (.inl (0, 6, .inl (va_cpy sl (bl j) 0 0 6)))).set (22 + 4 * j) (.inr (6, [.ref (22 + 4 * j + 1), .ref (22 + 4 * j + 2), .ref (22 + 4 * j + 3), .int sa, .int sw, .int sd]))).set 20 (.inr (0, [.ref 21, .int (nI f2), .int (nI 14)]))), 0, 0) _
  refine ar_return hM rfl ?_
  rw [show ((w.set 20 (.inr (0, [.ref 21, .int (nI f2), .int (nI c)]))).set 20 (.inr (0, [.ref 21, .int (nI f2), .int 13]))) = (w.set 20 (.inr (0, [.ref 21, .int (nI f2), .int 13]))) from by rw [List.set_set]]
  rw [show ((((((w.set 20 (.inr (0, [.ref 21, .int (nI f2), .int 13]))).set (22 + 4 * j + 1) (.inl (0, 6, .inl (va_cpy so (bo j) 0 0 6)))).set (22 + 4 * j + 2) (.inl (0, 6, .inl (va_cpy ss (bs j) 0 0 6)))).set (22 + 4 * j + 3) (.inl (0, 6, .inl (va_cpy sl (bl j) 0 0 6)))).set (22 + 4 * j) (.inr (6, [.ref (22 + 4 * j + 1), .ref (22 + 4 * j + 2), .ref (22 + 4 * j + 3), .int sa, .int sw, .int sd]))).set 20 (.inr (0, [.ref 21, .int (nI f2), .int (nI 14)]))) = (((((w.set 20 (.inr (0, [.ref 21, .int (nI f2), .int (nI 14)]))).set (22 + 4 * j + 1) (.inl (0, 6, .inl (va_cpy so (bo j) 0 0 6)))).set (22 + 4 * j + 2) (.inl (0, 6, .inl (va_cpy ss (bs j) 0 0 6)))).set (22 + 4 * j + 3) (.inl (0, 6, .inl (va_cpy sl (bl j) 0 0 6)))).set (22 + 4 * j) (.inr (6, [.ref (22 + 4 * j + 1), .ref (22 + 4 * j + 2), .ref (22 + 4 * j + 3), .int sa, .int sw, .int sd]))) from by rw [List.set_comm _ _ (show 22 + 4 * j ≠ 20 by omega), List.set_comm _ _ (show 22 + 4 * j + 3 ≠ 20 by omega), List.set_comm _ _ (show 22 + 4 * j + 2 ≠ 20 by omega), List.set_comm _ _ (show 22 + 4 * j + 1 ≠ 20 by omega), List.set_set]]
  exact ⟨rfl, rfl⟩
set_option maxRecDepth 100000 in
set_option maxHeartbeats 4000000 in
theorem c_takeBack0 (w : am_W) (f c : Nat) (hf : f < 14) (hc : c = 0) (ha0 : w[20]? = some (.inr (0, [.ref 21, .int (nI f), .int (nI c)]))) : am_Go 3 (0, [.ref 20, .ref 16], [], w, 0, 0) (fun res w' => res = some (.int 0) ∧ w' = w) := by
  have hM : am_P[3]? = some zm_X0_takeBack := rfl
  refine ar_aload_n (pc' := 1) hM rfl rfl rfl ?_
  refine ar_getfield (pc' := 4) hM rfl ha0 rfl rfl ?_
  refine ar_if_gt (pc' := 7) hM rfl rfl (fun q => absurd q (by rw [hc]; decide)) (fun _ => ?_)
  refine ar_iconst (x := 0) (pc' := 8) hM rfl (by decide) rfl ?_
  refine ar_ireturn hM rfl (Or.inr (Or.inl rfl)) ?_
  exact ⟨rfl, rfl⟩
set_option maxRecDepth 100000 in
set_option maxHeartbeats 4000000 in
theorem c_takeBack (w : am_W) (f c : Nat) (hf : f < 14) (hc : c ≤ 14) (ha0 : w[20]? = some (.inr (0, [.ref 21, .int (nI f), .int (nI c)]))) (bf : Nat → Option Nat) (bo bs bl : Nat → Nat → Int32) (ba bw bd : Nat → Int32) (hbf : ∀ i, i < 14 → bf i = some (22 + 4 * i)) (hb0 : ∀ i, i < 14 → w[22 + 4 * i]? = some (.inr (6, [.ref (22 + 4 * i + 1), .ref (22 + 4 * i + 2), .ref (22 + 4 * i + 3), .int (ba i), .int (bw i), .int (bd i)]))) (hb1 : ∀ i, i < 14 → w[22 + 4 * i + 1]? = some (.inl (0, 6, .inl (bo i)))) (hb2 : ∀ i, i < 14 → w[22 + 4 * i + 2]? = some (.inl (0, 6, .inl (bs i)))) (hb3 : ∀ i, i < 14 → w[22 + 4 * i + 3]? = some (.inl (0, 6, .inl (bl i)))) (ha1 : w[21]? = some (.inl (2, 14, .inr bf))) (so ss sl : Nat → Int32) (sa sw sd : Int32) (hs0 : w[16]? = some (.inr (6, [.ref 17, .ref 18, .ref 19, .int sa, .int sw, .int sd]))) (hs1 : w[17]? = some (.inl (0, 6, .inl so))) (hs2 : w[18]? = some (.inl (0, 6, .inl ss))) (hs3 : w[19]? = some (.inl (0, 6, .inl sl))) (hc1 : 0 < c) (j : Nat) (hj14 : j < 14) (hj : j = (f + (c - 1)) % 14) : am_Go 3 (0, [.ref 20, .ref 16], [], w, 0, 0) (fun res w' => res = some (.int 1) ∧ w' = (((((w.set 20 (.inr (0, [.ref 21, .int (nI f), .int (nI (c - 1))]))).set (17) (.inl (0, 6, .inl (va_cpy (bo j) so 0 0 6)))).set (18) (.inl (0, 6, .inl (va_cpy (bs j) ss 0 0 6)))).set (19) (.inl (0, 6, .inl (va_cpy (bl j) sl 0 0 6)))).set (16) (.inr (6, [.ref 17, .ref 18, .ref 19, .int (ba j), .int (bw j), .int (bd j)])))) := by
  have hM : am_P[3]? = some zm_X0_takeBack := rfl
  refine ar_aload_n (pc' := 1) hM rfl rfl rfl ?_
  refine ar_getfield (pc' := 4) hM rfl ha0 rfl rfl ?_
  refine ar_if_gt (pc' := 7) hM rfl rfl (fun _ => ?_) (fun q => absurd (nI_lt (a := 0) hc1 (by omega)) q)
  refine ar_aload_n (pc' := 10) hM rfl rfl rfl ?_
  refine ar_dup (pc' := 11) hM rfl rfl rfl ?_
  refine ar_getfield (pc' := 14) hM rfl ha0 rfl rfl ?_
  refine ar_iconst (x := 1) (pc' := 15) hM rfl (by decide) rfl ?_
  refine ar_isub (pc' := 16) hM rfl rfl ?_
  rw [show ((nI c) - 1 : Int32) = nI (c - 1) from i_pred hc1]
  refine ar_putfield (pc' := 19) hM rfl ha0 (Nat.le_of_ble_eq_true rfl) rfl (by decide) rfl ?_
  show am_Go 3 (19, [.ref 20, .ref 16], [], (w.set 20 (.inr (0, [.ref 21, .int (nI f), .int (nI (c - 1))]))), 0, 0) _
  refine ar_aload_n (pc' := 20) hM rfl rfl rfl ?_
  refine ar_aload_n (pc' := 21) hM rfl rfl rfl ?_
  refine ar_getfield (pc' := 24) hM rfl (am_gs ha0) rfl rfl ?_
  refine ar_aload_n (pc' := 25) hM rfl rfl rfl ?_
  refine ar_getfield (pc' := 28) hM rfl (am_gs ha0) rfl rfl ?_
  refine ar_aload_n (pc' := 29) hM rfl rfl rfl ?_
  refine ar_getfield (pc' := 32) hM rfl (am_gs ha0) rfl rfl ?_
  refine ar_iadd (pc' := 33) hM rfl rfl ?_
  rw [show ((nI f) + (nI (c - 1)) : Int32) = nI (f + (c - 1)) from nI_add f (c - 1)]
  refine ar_bipush (x := 14) (pc' := 35) hM rfl (by decide) rfl ?_
  refine ar_irem (pc' := 36) hM rfl (by decide) rfl ?_
  rw [show ((nI (f + (c - 1))) - (nI (f + (c - 1))) / 14 * 14 : Int32) = nI j from (by rw [hj]; exact pk_rem (by omega) (by decide) (by decide))]
  refine ar_aaloadN (j := j) (z := 22 + 4 * j) (pc' := 37) hM rfl (am_gn (by decide) ha1) rfl (by omega) (Nat.le_of_ble_eq_true rfl) (by decide) (hbf j hj14) rfl ?_
  refine ar_virtual (pc' := 40) (k3 := 0) (k4 := 0) hM rfl rfl (am_gn (by decide) hs0) ⟨rfl, (by decide)⟩ rfl rfl (c_copyFrom _ 16 (by decide) _ _ _ _ _ _ (am_gn (by decide) hs0) (am_gn (by decide) hs1) (am_gn (by decide) hs2) (am_gn (by decide) hs3) (22 + 4 * j) (by omega) (by omega) _ _ _ _ _ _ (am_gn (by omega) (hb0 j hj14)) (am_gn (by omega) (hb1 j hj14)) (am_gn (by omega) (hb2 j hj14)) (am_gn (by omega) (hb3 j hj14))) (fun r37 w37 q37 => ?_)
  obtain ⟨rfl, q37w⟩ := q37
  rw [q37w]
  show am_Go 3 (40, [.ref 20, .ref 16], [], (((((w.set 20 (.inr (0, [.ref 21, .int (nI f), .int (nI (c - 1))]))).set 17 (.inl (0, 6, .inl (va_cpy (bo j) so 0 0 6)))).set 18 (.inl (0, 6, .inl (va_cpy (bs j) ss 0 0 6)))).set 19 (.inl (0, 6, .inl (va_cpy (bl j) sl 0 0 6)))).set 16 (.inr (6, [.ref 17, .ref 18, .ref 19, .int (ba j), .int (bw j), .int (bd j)]))), 0, 0) _
  refine ar_iconst (x := 1) (pc' := 41) hM rfl (by decide) rfl ?_
  refine ar_ireturn hM rfl (Or.inr (Or.inr rfl)) ?_
  exact ⟨rfl, rfl⟩
set_option maxRecDepth 100000 in
set_option maxHeartbeats 4000000 in
theorem c_slotsClear (w : am_W) (kb : Int32) (hk0 : w[78]? = some (.inr (5, [.ref 79, .int kb]))) : am_Go 36 (0, [.ref 78], [], w, 0, 0) (fun res w' => res = none ∧ w' = w.set 78 (.inr (5, [.ref 79, .int 0]))) := by
  have hM : am_P[36]? = some zm_X5_clear := rfl
  refine ar_aload_n (pc' := 1) hM rfl rfl rfl ?_
  refine ar_iconst (x := 0) (pc' := 2) hM rfl (by decide) rfl ?_
  refine ar_putfield (pc' := 5) hM rfl hk0 (Nat.le_of_ble_eq_true rfl) rfl (by decide) rfl ?_
  show am_Go 36 (5, [.ref 78], [], (w.set 78 (.inr (5, [.ref 79, .int 0]))), 0, 0) _
  refine ar_return hM rfl ?_
  exact ⟨rfl, rfl⟩
set_option maxRecDepth 100000 in
set_option maxHeartbeats 4000000 in
theorem c_put (w : am_W) (kb : Int32) (hk0 : w[78]? = some (.inr (5, [.ref 79, .int kb]))) (kf : Nat → Option Nat) (ko ks kl : Nat → Nat → Int32) (ka kw kd : Nat → Int32) (hkf : ∀ i, i < 2 → kf i = some (80 + 4 * i)) (hk2 : ∀ i, i < 2 → w[80 + 4 * i]? = some (.inr (6, [.ref (80 + 4 * i + 1), .ref (80 + 4 * i + 2), .ref (80 + 4 * i + 3), .int (ka i), .int (kw i), .int (kd i)]))) (hk3 : ∀ i, i < 2 → w[80 + 4 * i + 1]? = some (.inl (0, 6, .inl (ko i)))) (hk4 : ∀ i, i < 2 → w[80 + 4 * i + 2]? = some (.inl (0, 6, .inl (ks i)))) (hk5 : ∀ i, i < 2 → w[80 + 4 * i + 3]? = some (.inl (0, 6, .inl (kl i)))) (hk1 : w[79]? = some (.inl (2, 2, .inr kf))) (so ss sl : Nat → Int32) (sa sw sd : Int32) (hs0 : w[16]? = some (.inr (6, [.ref 17, .ref 18, .ref 19, .int sa, .int sw, .int sd]))) (hs1 : w[17]? = some (.inl (0, 6, .inl so))) (hs2 : w[18]? = some (.inl (0, 6, .inl ss))) (hs3 : w[19]? = some (.inl (0, 6, .inl sl))) (j : Nat) (hj2 : j < 2) : am_Go 37 (0, [.ref 78, .int (nI j), .ref 16], [], w, 0, 0) (fun res w' => res = none ∧ w' = ((((w.set (80 + 4 * j + 1) (.inl (0, 6, .inl (va_cpy so (ko j) 0 0 6)))).set (80 + 4 * j + 2) (.inl (0, 6, .inl (va_cpy ss (ks j) 0 0 6)))).set (80 + 4 * j + 3) (.inl (0, 6, .inl (va_cpy sl (kl j) 0 0 6)))).set (80 + 4 * j) (.inr (6, [.ref (80 + 4 * j + 1), .ref (80 + 4 * j + 2), .ref (80 + 4 * j + 3), .int sa, .int sw, .int sd]))).set 78 (.inr (5, [.ref 79, .int (kb ||| (1 <<< (nI j &&& 31)))]))) := by
  have hM : am_P[37]? = some zm_X5_put := rfl
  refine ar_aload_n (pc' := 1) hM rfl rfl rfl ?_
  refine ar_getfield (pc' := 4) hM rfl hk0 rfl rfl ?_
  refine ar_iload_n (pc' := 5) hM rfl rfl rfl ?_
  refine ar_aaloadN (j := j) (z := 80 + 4 * j) (pc' := 6) hM rfl hk1 rfl (by omega) (Nat.le_of_ble_eq_true rfl) (by decide) (hkf j hj2) rfl ?_
  refine ar_aload_n (pc' := 7) hM rfl rfl rfl ?_
  refine ar_virtual (pc' := 10) (k3 := 0) (k4 := 0) hM rfl rfl (hk2 j hj2) ⟨rfl, (by omega)⟩ rfl rfl (c_copyFrom _ (80 + 4 * j) (by omega) _ _ _ _ _ _ (hk2 j hj2) (hk3 j hj2) (hk4 j hj2) (hk5 j hj2) 16 (by decide) (by omega) _ _ _ _ _ _ hs0 hs1 hs2 hs3) (fun r7 w7 q7 => ?_)
  obtain ⟨rfl, q7w⟩ := q7
  rw [q7w]
  show am_Go 37 (10, [.ref 78, .int (nI j), .ref 16], [], ((((w.set (80 + 4 * j + 1) (.inl (0, 6, .inl (va_cpy so (ko j) 0 0 6)))).set (80 + 4 * j + 2) (.inl (0, 6, .inl (va_cpy ss (ks j) 0 0 6)))).set (80 + 4 * j + 3) (.inl (0, 6, .inl (va_cpy sl (kl j) 0 0 6)))).set (80 + 4 * j) (.inr (6, [.ref (80 + 4 * j + 1), .ref (80 + 4 * j + 2), .ref (80 + 4 * j + 3), .int sa, .int sw, .int sd]))), 0, 0) _
  refine ar_aload_n (pc' := 11) hM rfl rfl rfl ?_
  refine ar_dup (pc' := 12) hM rfl rfl rfl ?_
  refine ar_getfield (pc' := 15) hM rfl (am_gn (by omega) (am_gn (by omega) (am_gn (by omega) (am_gn (by omega) hk0)))) rfl rfl ?_
  refine ar_iconst (x := 1) (pc' := 16) hM rfl (by decide) rfl ?_
  refine ar_iload_n (pc' := 17) hM rfl rfl rfl ?_
  refine ar_ishl (pc' := 18) hM rfl rfl ?_
  refine ar_ior (pc' := 19) hM rfl rfl ?_
  refine ar_putfield (pc' := 22) hM rfl (am_gn (by omega) (am_gn (by omega) (am_gn (by omega) (am_gn (by omega) hk0)))) (Nat.le_of_ble_eq_true rfl) rfl (by decide) rfl ?_
  show am_Go 37 (22, [.ref 78, .int (nI j), .ref 16], [], (((((w.set (80 + 4 * j + 1) (.inl (0, 6, .inl (va_cpy so (ko j) 0 0 6)))).set (80 + 4 * j + 2) (.inl (0, 6, .inl (va_cpy ss (ks j) 0 0 6)))).set (80 + 4 * j + 3) (.inl (0, 6, .inl (va_cpy sl (kl j) 0 0 6)))).set (80 + 4 * j) (.inr (6, [.ref (80 + 4 * j + 1), .ref (80 + 4 * j + 2), .ref (80 + 4 * j + 3), .int sa, .int sw, .int sd]))).set 78 (.inr (5, [.ref 79, .int (kb ||| (1 <<< ((nI j) &&& 31)))]))), 0, 0) _
  refine ar_return hM rfl ?_
  exact ⟨rfl, rfl⟩
set_option maxRecDepth 100000 in
set_option maxHeartbeats 4000000 in
theorem c_fetch0 (w : am_W) (kb : Int32) (hk0 : w[78]? = some (.inr (5, [.ref 79, .int kb]))) (j : Nat) (hb : (kb >>> (nI j &&& 31)) &&& 1 = 0) : am_Go 38 (0, [.ref 78, .int (nI j), .ref 16], [], w, 0, 0) (fun res w' => res = some (.int 0) ∧ w' = w) := by
  have hM : am_P[38]? = some zm_X5_fetch := rfl
  refine ar_aload_n (pc' := 1) hM rfl rfl rfl ?_
  refine ar_getfield (pc' := 4) hM rfl hk0 rfl rfl ?_
  refine ar_iload_n (pc' := 5) hM rfl rfl rfl ?_
  refine ar_ishr (pc' := 6) hM rfl rfl ?_
  refine ar_iconst (x := 1) (pc' := 7) hM rfl (by decide) rfl ?_
  refine ar_iand (pc' := 8) hM rfl rfl ?_
  refine ar_if_ne (pc' := 11) hM rfl rfl (fun q => absurd hb q) (fun _ => ?_)
  refine ar_iconst (x := 0) (pc' := 12) hM rfl (by decide) rfl ?_
  refine ar_ireturn hM rfl (Or.inr (Or.inl rfl)) ?_
  exact ⟨rfl, rfl⟩
set_option maxRecDepth 100000 in
set_option maxHeartbeats 4000000 in
theorem c_fetch (w : am_W) (kb : Int32) (hk0 : w[78]? = some (.inr (5, [.ref 79, .int kb]))) (kf : Nat → Option Nat) (ko ks kl : Nat → Nat → Int32) (ka kw kd : Nat → Int32) (hkf : ∀ i, i < 2 → kf i = some (80 + 4 * i)) (hk2 : ∀ i, i < 2 → w[80 + 4 * i]? = some (.inr (6, [.ref (80 + 4 * i + 1), .ref (80 + 4 * i + 2), .ref (80 + 4 * i + 3), .int (ka i), .int (kw i), .int (kd i)]))) (hk3 : ∀ i, i < 2 → w[80 + 4 * i + 1]? = some (.inl (0, 6, .inl (ko i)))) (hk4 : ∀ i, i < 2 → w[80 + 4 * i + 2]? = some (.inl (0, 6, .inl (ks i)))) (hk5 : ∀ i, i < 2 → w[80 + 4 * i + 3]? = some (.inl (0, 6, .inl (kl i)))) (hk1 : w[79]? = some (.inl (2, 2, .inr kf))) (so ss sl : Nat → Int32) (sa sw sd : Int32) (hs0 : w[16]? = some (.inr (6, [.ref 17, .ref 18, .ref 19, .int sa, .int sw, .int sd]))) (hs1 : w[17]? = some (.inl (0, 6, .inl so))) (hs2 : w[18]? = some (.inl (0, 6, .inl ss))) (hs3 : w[19]? = some (.inl (0, 6, .inl sl))) (j : Nat) (hj2 : j < 2) (hb : ¬ (kb >>> (nI j &&& 31)) &&& 1 = 0) : am_Go 38 (0, [.ref 78, .int (nI j), .ref 16], [], w, 0, 0) (fun res w' => res = some (.int 1) ∧ w' = ((((w.set (17) (.inl (0, 6, .inl (va_cpy (ko j) so 0 0 6)))).set (18) (.inl (0, 6, .inl (va_cpy (ks j) ss 0 0 6)))).set (19) (.inl (0, 6, .inl (va_cpy (kl j) sl 0 0 6)))).set (16) (.inr (6, [.ref 17, .ref 18, .ref 19, .int (ka j), .int (kw j), .int (kd j)])))) := by
  have hM : am_P[38]? = some zm_X5_fetch := rfl
  refine ar_aload_n (pc' := 1) hM rfl rfl rfl ?_
  refine ar_getfield (pc' := 4) hM rfl hk0 rfl rfl ?_
  refine ar_iload_n (pc' := 5) hM rfl rfl rfl ?_
  refine ar_ishr (pc' := 6) hM rfl rfl ?_
  refine ar_iconst (x := 1) (pc' := 7) hM rfl (by decide) rfl ?_
  refine ar_iand (pc' := 8) hM rfl rfl ?_
  refine ar_if_ne (pc' := 11) hM rfl rfl (fun _ => ?_) (fun q => absurd q hb)
  refine ar_aload_n (pc' := 14) hM rfl rfl rfl ?_
  refine ar_aload_n (pc' := 15) hM rfl rfl rfl ?_
  refine ar_getfield (pc' := 18) hM rfl hk0 rfl rfl ?_
  refine ar_iload_n (pc' := 19) hM rfl rfl rfl ?_
  refine ar_aaloadN (j := j) (z := 80 + 4 * j) (pc' := 20) hM rfl hk1 rfl (by omega) (Nat.le_of_ble_eq_true rfl) (by decide) (hkf j hj2) rfl ?_
  refine ar_virtual (pc' := 23) (k3 := 0) (k4 := 0) hM rfl rfl hs0 ⟨rfl, (by decide)⟩ rfl rfl (c_copyFrom _ 16 (by decide) _ _ _ _ _ _ hs0 hs1 hs2 hs3 (80 + 4 * j) (by omega) (by omega) _ _ _ _ _ _ (hk2 j hj2) (hk3 j hj2) (hk4 j hj2) (hk5 j hj2)) (fun r20 w20 q20 => ?_)
  obtain ⟨rfl, q20w⟩ := q20
  rw [q20w]
  show am_Go 38 (23, [.ref 78, .int (nI j), .ref 16], [], ((((w.set 17 (.inl (0, 6, .inl (va_cpy (ko j) so 0 0 6)))).set 18 (.inl (0, 6, .inl (va_cpy (ks j) ss 0 0 6)))).set 19 (.inl (0, 6, .inl (va_cpy (kl j) sl 0 0 6)))).set 16 (.inr (6, [.ref 17, .ref 18, .ref 19, .int (ka j), .int (kw j), .int (kd j)]))), 0, 0) _
  refine ar_iconst (x := 1) (pc' := 24) hM rfl (by decide) rfl ?_
  refine ar_ireturn hM rfl (Or.inr (Or.inr rfl)) ?_
  exact ⟨rfl, rfl⟩
set_option maxRecDepth 100000 in
set_option maxHeartbeats 4000000 in
theorem c_add (w : am_W) (sc : Nat) (hsc : sc ≤ 6) (sh st sv : Nat → Int32) (hn0 : w[88]? = some (.inr (4, [.ref 89, .ref 90, .ref 91, .int (nI sc)]))) (hn1 : w[89]? = some (.inl (0, 6, .inl sh))) (hn2 : w[90]? = some (.inl (0, 6, .inl st))) (hn3 : w[91]? = some (.inl (0, 6, .inl sv))) (h t v : Int32) (hc : sc < 6) : am_Go 31 (0, [.ref 88, .int h, .int t, .int v], [], w, 0, 0) (fun res w' => res = some (.int (nI (sc + 1))) ∧ w' = (((w.set 89 (.inl (0, 6, .inl (upd sh sc h)))).set 90 (.inl (0, 6, .inl (upd st sc t)))).set 91 (.inl (0, 6, .inl (upd sv sc v)))).set 88 (.inr (4, [.ref 89, .ref 90, .ref 91, .int (nI (sc + 1))]))) := by
  have hM : am_P[31]? = some zm_X4_add := rfl
  refine ar_aload_n (pc' := 1) hM rfl rfl rfl ?_
  refine ar_getfield (pc' := 4) hM rfl hn0 rfl rfl ?_
  refine ar_bipush (x := 6) (pc' := 6) hM rfl (by decide) rfl ?_
  refine ar_icmp_lt (pc' := 9) hM rfl rfl (fun _ => ?_) (fun q => absurd (nI_lt (a := sc) (b := 6) hc (by omega)) q)
  refine ar_aload_n (pc' := 13) hM rfl rfl rfl ?_
  refine ar_getfield (pc' := 16) hM rfl hn0 rfl rfl ?_
  refine ar_aload_n (pc' := 17) hM rfl rfl rfl ?_
  refine ar_getfield (pc' := 20) hM rfl hn0 rfl rfl ?_
  refine ar_iload_n (pc' := 21) hM rfl rfl rfl ?_
  refine ar_iastoreN (j := sc) (pc' := 22) hM rfl hn1 rfl (by omega) (Nat.le_of_ble_eq_true rfl) (by decide) rfl ?_
  refine ar_aload_n (pc' := 23) hM rfl rfl rfl ?_
  refine ar_getfield (pc' := 26) hM rfl (am_gn (by decide) hn0) rfl rfl ?_
  refine ar_aload_n (pc' := 27) hM rfl rfl rfl ?_
  refine ar_getfield (pc' := 30) hM rfl (am_gn (by decide) hn0) rfl rfl ?_
  refine ar_iload_n (pc' := 31) hM rfl rfl rfl ?_
  refine ar_iastoreN (j := sc) (pc' := 32) hM rfl (am_gn (by decide) hn2) rfl (by omega) (Nat.le_of_ble_eq_true rfl) (by decide) rfl ?_
  refine ar_aload_n (pc' := 33) hM rfl rfl rfl ?_
  refine ar_getfield (pc' := 36) hM rfl (am_gn (by decide) (am_gn (by decide) hn0)) rfl rfl ?_
  refine ar_aload_n (pc' := 37) hM rfl rfl rfl ?_
  refine ar_getfield (pc' := 40) hM rfl (am_gn (by decide) (am_gn (by decide) hn0)) rfl rfl ?_
  refine ar_iload_n (pc' := 41) hM rfl rfl rfl ?_
  refine ar_iastoreN (j := sc) (pc' := 42) hM rfl (am_gn (by decide) (am_gn (by decide) hn3)) rfl (by omega) (Nat.le_of_ble_eq_true rfl) (by decide) rfl ?_
  refine ar_aload_n (pc' := 43) hM rfl rfl rfl ?_
  refine ar_dup (pc' := 44) hM rfl rfl rfl ?_
  refine ar_getfield (pc' := 47) hM rfl (am_gn (by decide) (am_gn (by decide) (am_gn (by decide) hn0))) rfl rfl ?_
  refine ar_iconst (x := 1) (pc' := 48) hM rfl (by decide) rfl ?_
  refine ar_iadd (pc' := 49) hM rfl rfl ?_
  rw [show ((nI sc) + 1 : Int32) = nI (sc + 1) from nI_1 sc]
  refine ar_putfield (pc' := 52) hM rfl (am_gn (by decide) (am_gn (by decide) (am_gn (by decide) hn0))) (Nat.le_of_ble_eq_true rfl) rfl (by decide) rfl ?_
  show am_Go 31 (52, [.ref 88, .int h, .int t, .int v], [], ((((w.set 89 (.inl (0, 6, .inl (upd sh sc h)))).set 90 (.inl (0, 6, .inl (upd st sc t)))).set 91 (.inl (0, 6, .inl (upd sv sc v)))).set 88 (.inr (4, [.ref 89, .ref 90, .ref 91, .int (nI (sc + 1))]))), 0, 0) _
  refine ar_aload_n (pc' := 53) hM rfl rfl rfl ?_
  refine ar_getfield (pc' := 56) hM rfl (am_gs (am_gn (by decide) (am_gn (by decide) (am_gn (by decide) hn0)))) rfl rfl ?_
  refine ar_ireturn hM rfl (Or.inl rfl) ?_
  exact ⟨rfl, rfl⟩
set_option maxRecDepth 100000 in
set_option maxHeartbeats 4000000 in
theorem c_addF (w : am_W) (sc : Nat) (hsc : sc ≤ 6) (sh st sv : Nat → Int32) (hn0 : w[88]? = some (.inr (4, [.ref 89, .ref 90, .ref 91, .int (nI sc)]))) (hn1 : w[89]? = some (.inl (0, 6, .inl sh))) (hn2 : w[90]? = some (.inl (0, 6, .inl st))) (hn3 : w[91]? = some (.inl (0, 6, .inl sv))) (h t v : Int32) (hc : sc = 6) : am_Go 31 (0, [.ref 88, .int h, .int t, .int v], [], w, 0, 0) (fun res w' => res = some (.int (-4)) ∧ w' = w) := by
  have hM : am_P[31]? = some zm_X4_add := rfl
  refine ar_aload_n (pc' := 1) hM rfl rfl rfl ?_
  refine ar_getfield (pc' := 4) hM rfl hn0 rfl rfl ?_
  refine ar_bipush (x := 6) (pc' := 6) hM rfl (by decide) rfl ?_
  refine ar_icmp_lt (pc' := 9) hM rfl rfl (fun q => absurd q (nI_nlt (a := sc) (b := 6) (by omega) (by omega))) (fun _ => ?_)
  refine ar_bipush (x := (-4)) (pc' := 11) hM rfl (by decide) rfl ?_
  refine ar_ireturn hM rfl (Or.inl rfl) ?_
  exact ⟨rfl, rfl⟩
set_option maxRecDepth 100000 in
set_option maxHeartbeats 4000000 in
theorem c_nclear (w : am_W) (sc : Nat) (hsc : sc ≤ 6) (sh st sv : Nat → Int32) (hn0 : w[88]? = some (.inr (4, [.ref 89, .ref 90, .ref 91, .int (nI sc)]))) (hn1 : w[89]? = some (.inl (0, 6, .inl sh))) (hn2 : w[90]? = some (.inl (0, 6, .inl st))) (hn3 : w[91]? = some (.inl (0, 6, .inl sv))) : am_Go 32 (0, [.ref 88, .float 0], [], w, 0, 0) (fun res w' => res = some (.int (nI sc)) ∧ w' = w.set 88 (.inr (4, [.ref 89, .ref 90, .ref 91, .int 0]))) := by
  have hM : am_P[32]? = some zm_X4_clear := rfl
  refine ar_aload_n (pc' := 1) hM rfl rfl rfl ?_
  refine ar_getfield (pc' := 4) hM rfl hn0 rfl rfl ?_
  refine ar_istore_n (pc' := 5) hM rfl rfl rfl rfl ?_
  refine ar_aload_n (pc' := 6) hM rfl rfl rfl ?_
  refine ar_iconst (x := 0) (pc' := 7) hM rfl (by decide) rfl ?_
  refine ar_putfield (pc' := 10) hM rfl hn0 (Nat.le_of_ble_eq_true rfl) rfl (by decide) rfl ?_
  show am_Go 32 (10, [.ref 88, .int (nI sc)], [], (w.set 88 (.inr (4, [.ref 89, .ref 90, .ref 91, .int 0]))), 0, 0) _
  refine ar_iload_n (pc' := 11) hM rfl rfl rfl ?_
  refine ar_ireturn hM rfl (Or.inl rfl) ?_
  exact ⟨rfl, rfl⟩
set_option maxRecDepth 100000 in
set_option maxHeartbeats 4000000 in
theorem c_agrees (w : am_W) (sc : Nat) (hsc : sc ≤ 6) (sh st sv : Nat → Int32) (hn0 : w[88]? = some (.inr (4, [.ref 89, .ref 90, .ref 91, .int (nI sc)]))) (hn1 : w[89]? = some (.inl (0, 6, .inl sh))) (hn2 : w[90]? = some (.inl (0, 6, .inl st))) (hn3 : w[91]? = some (.inl (0, 6, .inl sv))) (h v : Int32) : am_Go 34 (0, [.ref 88, .int h, .int v, .float 0], [], w, 0, 0) (fun res w' => res = some (.int (if b_agr sh st sv h v sc = true then 1 else 0)) ∧ w' = w) := by
  have hM : am_P[34]? = some zm_X4_agrees := rfl
  refine ar_iconst (x := 0) (pc' := 1) hM rfl (by decide) rfl ?_
  refine ar_istore_n (pc' := 2) hM rfl rfl rfl rfl ?_
  have loop : ∀ (dj j : Nat) , dj + j = sc → (b_agr sh st sv h v j = true) → am_Go 34 (2, [.ref 88, .int h, .int v, .int (nI j)], [], w, 0, 0) (fun res w' => res = some (.int (if b_agr sh st sv h v sc = true then 1 else 0)) ∧ w' = w) := by
    intro dj
    induction dj with
    | zero =>
      intro j  hj hx
      refine ar_iload_n (pc' := 3) hM rfl rfl rfl ?_
      refine ar_aload_n (pc' := 4) hM rfl rfl rfl ?_
      refine ar_getfield (pc' := 7) hM rfl hn0 rfl rfl ?_
      refine ar_icmp_ge (pc' := 10) hM rfl rfl (fun _ => ?_) (fun q => absurd (nI_le (a := sc) (b := j) (by omega) (by omega)) q)
      refine ar_iconst (x := 1) (pc' := 46) hM rfl (by decide) rfl ?_
      refine ar_ireturn hM rfl (Or.inr (Or.inr rfl)) ?_
      exact ⟨by rw [show j = sc by omega] at hx; rw [if_pos hx], rfl⟩
    | succ dj ih =>
      intro j  hj hx
      refine ar_iload_n (pc' := 3) hM rfl rfl rfl ?_
      refine ar_aload_n (pc' := 4) hM rfl rfl rfl ?_
      refine ar_getfield (pc' := 7) hM rfl hn0 rfl rfl ?_
      refine ar_icmp_ge (pc' := 10) hM rfl rfl (fun q => absurd q (nI_ge (a := j) (b := sc) (by omega) (by omega))) (fun _ => ?_)
      refine ar_aload_n (pc' := 11) hM rfl rfl rfl ?_
      refine ar_getfield (pc' := 14) hM rfl hn0 rfl rfl ?_
      refine ar_iload_n (pc' := 15) hM rfl rfl rfl ?_
      refine ar_ialoadN (j := j) (pc' := 16) hM rfl hn1 rfl (by omega) (Nat.le_of_ble_eq_true rfl) rfl ?_
      refine ar_iload_n (pc' := 17) hM rfl rfl rfl ?_
      refine ar_icmp_ne (pc' := 20) hM rfl rfl (fun c17 => ?_) (fun c17 => ?_)
      · refine ar_iinc (z := nI (j + 1)) (pc' := 42) hM rfl rfl (nI_1 _) rfl rfl rfl ?_
        refine ar_goto hM rfl ?_
        exact ih (j + 1) (by omega) (by show (b_agr sh st sv h v j && _) = true; rw [hx, decide_eq_false c17]; rfl)
      · refine ar_aload_n (pc' := 21) hM rfl rfl rfl ?_
        refine ar_getfield (pc' := 24) hM rfl hn0 rfl rfl ?_
        refine ar_iload_n (pc' := 25) hM rfl rfl rfl ?_
        refine ar_ialoadN (j := j) (pc' := 26) hM rfl hn3 rfl (by omega) (Nat.le_of_ble_eq_true rfl) rfl ?_
        refine ar_iload_n (pc' := 27) hM rfl rfl rfl ?_
        refine ar_aload_n (pc' := 28) hM rfl rfl rfl ?_
        refine ar_getfield (pc' := 31) hM rfl hn0 rfl rfl ?_
        refine ar_iload_n (pc' := 32) hM rfl rfl rfl ?_
        refine ar_ialoadN (j := j) (pc' := 33) hM rfl hn2 rfl (by omega) (Nat.le_of_ble_eq_true rfl) rfl ?_
        refine ar_iadd (pc' := 34) hM rfl rfl ?_
        refine ar_icmp_eq (pc' := 37) hM rfl rfl (fun c34 => ?_) (fun c34 => ?_)
        · refine ar_iinc (z := nI (j + 1)) (pc' := 42) hM rfl rfl (nI_1 _) rfl rfl rfl ?_
          refine ar_goto hM rfl ?_
          exact ih (j + 1) (by omega) (by show (b_agr sh st sv h v j && _) = true; rw [hx, decide_eq_true c34]; simp)
        · refine ar_iconst (x := 0) (pc' := 38) hM rfl (by decide) rfl ?_
          refine ar_ireturn hM rfl (Or.inr (Or.inl rfl)) ?_
          exact ⟨by rw [if_neg (by rw [b_agr_f (j := j + 1) (by omega) (by show (b_agr sh st sv h v j && _) = false; rw [decide_eq_true c17, decide_eq_false c34]; simp)]; decide)], rfl⟩
  exact loop (sc) 0  (by omega) rfl
set_option maxRecDepth 100000 in
set_option maxHeartbeats 4000000 in
theorem c_possibleWants (w : am_W) (sc : Nat) (hsc : sc ≤ 6) (sh st sv : Nat → Int32) (hn0 : w[88]? = some (.inr (4, [.ref 89, .ref 90, .ref 91, .int (nI sc)]))) (hn1 : w[89]? = some (.inl (0, 6, .inl sh))) (hn2 : w[90]? = some (.inl (0, 6, .inl st))) (hn3 : w[91]? = some (.inl (0, 6, .inl sv))) (h k : Int32) : am_Go 33 (0, [.ref 88, .int h, .int k, .float 0, .float 0], [], w, 0, 0) (fun res w' => res = some (.int (i_pw sh st sv sc h k 10)) ∧ w' = w) := by
  have hM : am_P[33]? = some zm_X4_possibleWants := rfl
  refine ar_iconst (x := 0) (pc' := 1) hM rfl (by decide) rfl ?_
  refine ar_istore_n (pc' := 2) hM rfl rfl rfl rfl ?_
  refine ar_iconst (x := 0) (pc' := 3) hM rfl (by decide) rfl ?_
  refine ar_istore (pc' := 5) hM rfl rfl rfl rfl ?_
  have loop : ∀ (dj j : Nat) (x : Int32), dj + j = 10 → (x = i_pw sh st sv sc h k j) → am_Go 33 (5, [.ref 88, .int h, .int k, .int x, .int (nI j)], [], w, 0, 0) (fun res w' => res = some (.int (i_pw sh st sv sc h k 10)) ∧ w' = w) := by
    intro dj
    induction dj with
    | zero =>
      intro j x hj hx
      refine ar_iload (pc' := 7) hM rfl rfl rfl ?_
      refine ar_bipush (x := 9) (pc' := 9) hM rfl (by decide) rfl ?_
      refine ar_icmp_gt (pc' := 12) hM rfl rfl (fun _ => ?_) (fun q => absurd (nI_lt (a := 9) (b := j) (by omega) (by omega)) q)
      refine ar_iload_n (pc' := 45) hM rfl rfl rfl ?_
      refine ar_ireturn hM rfl (Or.inl rfl) ?_
      exact ⟨by rw [hx, show j = 10 by omega], rfl⟩
    | succ dj ih =>
      intro j x hj hx
      refine ar_iload (pc' := 7) hM rfl rfl rfl ?_
      refine ar_bipush (x := 9) (pc' := 9) hM rfl (by decide) rfl ?_
      refine ar_icmp_gt (pc' := 12) hM rfl rfl (fun q => absurd q (nI_nlt (a := 9) (b := j) (by omega) (by omega))) (fun _ => ?_)
      refine ar_aload_n (pc' := 13) hM rfl rfl rfl ?_
      refine ar_iload_n (pc' := 14) hM rfl rfl rfl ?_
      refine ar_iload (pc' := 16) hM rfl rfl rfl ?_
      refine ar_iload_n (pc' := 17) hM rfl rfl rfl ?_
      refine ar_static (pc' := 20) (k3 := 0) (k4 := 0) hM rfl (by decide) rfl rfl (c_wantByKind _ _ _) (fun r17 w17 q17 => ?_)
      obtain ⟨rfl, q17w⟩ := q17
      rw [q17w]
      show am_Go 33 (20, [.ref 88, .int h, .int k, .int x, .int (nI j)], [.int (i_wbk (nI j) k), .int h, .ref 88], w, 0, 0) _
      refine ar_iload_n (pc' := 21) hM rfl rfl rfl ?_
      refine ar_static (pc' := 24) (k3 := 0) (k4 := 0) hM rfl (by decide) rfl rfl (c_lieOf _ _) (fun r21 w21 q21 => ?_)
      obtain ⟨rfl, q21w⟩ := q21
      rw [q21w]
      show am_Go 33 (24, [.ref 88, .int h, .int k, .int x, .int (nI j)], [.int (i_lie k), .int (i_wbk (nI j) k), .int h, .ref 88], w, 0, 0) _
      refine ar_iadd (pc' := 25) hM rfl rfl ?_
      refine ar_virtual (pc' := 28) (k3 := 0) (k4 := 0) hM rfl rfl hn0 ⟨rfl, (by decide)⟩ rfl rfl (c_agrees _ sc hsc sh st sv hn0 hn1 hn2 hn3 _ _) (fun r25 w25 q25 => ?_)
      obtain ⟨rfl, q25w⟩ := q25
      rw [q25w]
      show am_Go 33 (28, [.ref 88, .int h, .int k, .int x, .int (nI j)], [.int (if b_agr sh st sv h ((i_wbk (nI j) k) + (i_lie k)) sc = true then 1 else 0)], w, 0, 0) _
      refine ar_if_eq (pc' := 31) hM rfl rfl (fun c28 => ?_) (fun c28 => ?_)
      · refine ar_iinc (z := nI (j + 1)) (pc' := 41) hM rfl rfl (nI_1 _) rfl rfl rfl ?_
        refine ar_goto hM rfl ?_
        exact ih (j + 1) x (by omega) (by show _ = (if _ then _ else _); rw [if_neg (am_eq0 c28), hx])
      · refine ar_iload_n (pc' := 32) hM rfl rfl rfl ?_
        refine ar_iconst (x := 1) (pc' := 33) hM rfl (by decide) rfl ?_
        refine ar_iload (pc' := 35) hM rfl rfl rfl ?_
        refine ar_ishl (pc' := 36) hM rfl rfl ?_
        refine ar_ior (pc' := 37) hM rfl rfl ?_
        refine ar_istore_n (pc' := 38) hM rfl rfl rfl rfl ?_
        refine ar_iinc (z := nI (j + 1)) (pc' := 41) hM rfl rfl (nI_1 _) rfl rfl rfl ?_
        refine ar_goto hM rfl ?_
        exact ih (j + 1) (x ||| (1 <<< ((nI j) &&& 31))) (by omega) (by show _ = (if _ then _ else _); rw [if_pos (am_ne0 c28), hx])
  exact loop (10) 0 0 (by omega) rfl
