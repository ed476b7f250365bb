/-! leaves: the JDK's, and the small ones of the class -/
theorem am_ne0 {P : Prop} [Decidable P] (h : ¬ (if P then (1 : Int32) else 0) = 0) : P := by
  by_cases q : P
  · exact q
  · rw [if_neg q] at h; exact absurd rfl h
theorem am_eq0 {P : Prop} [Decidable P] (h : (if P then (1 : Int32) else 0) = 0) : ¬ P := by
  intro q
  rw [if_pos q] at h
  exact absurd h (by decide)
def i_max (x y : Int32) : Int32 := if x < y then y else x
def i_min (x y : Int32) : Int32 := if y < x then y else x
def i_abs (x : Int32) : Int32 := if 0 ≤ x then x else -x
set_option maxRecDepth 100000 in
set_option maxHeartbeats 4000000 in
theorem c_max (w : am_W) (x y : Int32) : am_Go 166 (0, [.int x, .int y], [], w, 0, 0) (fun res w' => res = some (.int (i_max x y)) ∧ w' = w) := by
  have hM : am_P[166]? = some zm_J9_max_7cf53 := rfl
  refine ar_iload_n (pc' := 1) hM rfl rfl rfl ?_
  refine ar_iload_n (pc' := 2) hM rfl rfl rfl ?_
  refine ar_icmp_lt (pc' := 5) hM rfl rfl (fun c2 => ?_) (fun c2 => ?_)
  · refine ar_iload_n (pc' := 10) hM rfl rfl rfl ?_
    refine ar_ireturn hM rfl (Or.inl rfl) ?_
    exact ⟨by simp [i_max, c2], rfl⟩
  · refine ar_iload_n (pc' := 6) hM rfl rfl rfl ?_
    refine ar_goto hM rfl ?_
    refine ar_ireturn hM rfl (Or.inl rfl) ?_
    exact ⟨by simp [i_max, c2], rfl⟩
set_option maxRecDepth 100000 in
set_option maxHeartbeats 4000000 in
theorem c_min (w : am_W) (x y : Int32) : am_Go 167 (0, [.int x, .int y], [], w, 0, 0) (fun res w' => res = some (.int (i_min x y)) ∧ w' = w) := by
  have hM : am_P[167]? = some zm_J9_min_7cf53 := rfl
  refine ar_iload_n (pc' := 1) hM rfl rfl rfl ?_
  refine ar_iload_n (pc' := 2) hM rfl rfl rfl ?_
  refine ar_icmp_gt (pc' := 5) hM rfl rfl (fun c2 => ?_) (fun c2 => ?_)
  · refine ar_iload_n (pc' := 10) hM rfl rfl rfl ?_
    refine ar_ireturn hM rfl (Or.inl rfl) ?_
    exact ⟨by simp [i_min, c2], rfl⟩
  · refine ar_iload_n (pc' := 6) hM rfl rfl rfl ?_
    refine ar_goto hM rfl ?_
    refine ar_ireturn hM rfl (Or.inl rfl) ?_
    exact ⟨by simp [i_min, c2], rfl⟩
set_option maxRecDepth 100000 in
set_option maxHeartbeats 4000000 in
theorem c_abs (w : am_W) (x : Int32) : am_Go 165 (0, [.int x], [], w, 0, 0) (fun res w' => res = some (.int (i_abs x)) ∧ w' = w) := by
  have hM : am_P[165]? = some zm_J9_abs_0f7a4 := rfl
  refine ar_iload_n (pc' := 1) hM rfl rfl rfl ?_
  refine ar_if_ge (pc' := 4) hM rfl rfl (fun c1 => ?_) (fun c1 => ?_)
  · refine ar_iload_n (pc' := 10) hM rfl rfl rfl ?_
    refine ar_ireturn hM rfl (Or.inl rfl) ?_
    exact ⟨by simp [i_abs, c1], rfl⟩
  · refine ar_iload_n (pc' := 5) hM rfl rfl rfl ?_
    refine ar_ineg (pc' := 6) hM rfl rfl ?_
    refine ar_goto hM rfl ?_
    refine ar_ireturn hM rfl (Or.inl rfl) ?_
    exact ⟨by simp [i_abs, c1], rfl⟩
theorem i_xor0 {a b : Nat} (ha : a < 2 ^ 31) (hb : b < 2 ^ 31) : 0 ≤ nI a ^^^ nI b := by
  have e : nI a ^^^ nI b = nI (a ^^^ b) := by
    apply Int32.toBitVec_inj.mp
    show (nI a).toBitVec ^^^ (nI b).toBitVec = (nI (a ^^^ b)).toBitVec
    apply BitVec.eq_of_toNat_eq
    rw [BitVec.toNat_xor, pk_tn (by omega), pk_tn (by omega), pk_tn]
    exact Nat.lt_trans (Nat.xor_lt_two_pow ha hb) (by decide)
  rw [e]
  exact nI_pos' (Nat.xor_lt_two_pow ha hb)
set_option maxRecDepth 100000 in
set_option maxHeartbeats 4000000 in
theorem c_floorMod (w : am_W) (d k : Nat) (hd : d < 2 ^ 31) (h0 : 0 < k) (hk : k < 2 ^ 31) : am_Go 164 (0, [.int (nI d), .int (nI k), .float 0], [], w, 0, 0) (fun res w' => res = some (.int (nI (d % k))) ∧ w' = w) := by
  have hM : am_P[164]? = some zm_J9_floorMod_7cf53 := rfl
  refine ar_iload_n (pc' := 1) hM rfl rfl rfl ?_
  refine ar_iload_n (pc' := 2) hM rfl rfl rfl ?_
  refine ar_irem (pc' := 3) hM rfl (nI_ne0 h0 hk) rfl ?_
  rw [show ((nI d) - (nI d) / (nI k) * (nI k) : Int32) = nI (d % k) from pk_rem hd h0 hk]
  refine ar_istore_n (pc' := 4) hM rfl rfl rfl rfl ?_
  refine ar_iload_n (pc' := 5) hM rfl rfl rfl ?_
  refine ar_iload_n (pc' := 6) hM rfl rfl rfl ?_
  refine ar_ixor (pc' := 7) hM rfl rfl ?_
  refine ar_if_ge (pc' := 10) hM rfl rfl (fun _ => ?_) (fun q => absurd (i_xor0 hd hk) q)
  refine ar_iload_n (pc' := 19) hM rfl rfl rfl ?_
  refine ar_ireturn hM rfl (Or.inl rfl) ?_
  exact ⟨rfl, rfl⟩
def i_bc (x : Int32) : Int32 :=
  let a := x - ((x.toUInt32 >>> (Int32.toUInt32 1 &&& Int32.toUInt32 31)).toInt32 &&& 1431655765)
  let b := (a &&& 858993459) + ((a.toUInt32 >>> (Int32.toUInt32 2 &&& Int32.toUInt32 31)).toInt32 &&& 858993459)
  let c := (b + (b.toUInt32 >>> (Int32.toUInt32 4 &&& Int32.toUInt32 31)).toInt32) &&& 252645135
  let d := c + (c.toUInt32 >>> (Int32.toUInt32 8 &&& Int32.toUInt32 31)).toInt32
  let e := d + (d.toUInt32 >>> (Int32.toUInt32 16 &&& Int32.toUInt32 31)).toInt32
  e &&& 63
set_option maxRecDepth 100000 in
set_option maxHeartbeats 4000000 in
theorem c_bitCount (w : am_W) (x : Int32) : am_Go 163 (0, [.int x], [], w, 0, 0) (fun res w' => res = some (.int (i_bc x)) ∧ w' = w) := by
  have hM : am_P[163]? = some zm_J6_bitCount_0f7a4 := rfl
  refine ar_iload_n (pc' := 1) hM rfl rfl rfl ?_
  refine ar_iload_n (pc' := 2) hM rfl rfl rfl ?_
  refine ar_iconst (x := 1) (pc' := 3) hM rfl (by decide) rfl ?_
  refine ar_iushr (pc' := 4) hM rfl rfl ?_
  refine ar_ldc_w (x := 1431655765) (pc' := 7) hM rfl (by decide) rfl ?_
  refine ar_iand (pc' := 8) hM rfl rfl ?_
  refine ar_isub (pc' := 9) hM rfl rfl ?_
  obtain ⟨a1, ea1⟩ : ∃ z : Int32, z = x - (((Int32.toUInt32 x >>> (Int32.toUInt32 1 &&& Int32.toUInt32 31)).toInt32) &&& 1431655765) := ⟨_, rfl⟩
  rw [← ea1]
  refine ar_istore_n (pc' := 10) hM rfl rfl rfl rfl ?_
  refine ar_iload_n (pc' := 11) hM rfl rfl rfl ?_
  refine ar_ldc_w (x := 858993459) (pc' := 14) hM rfl (by decide) rfl ?_
  refine ar_iand (pc' := 15) hM rfl rfl ?_
  refine ar_iload_n (pc' := 16) hM rfl rfl rfl ?_
  refine ar_iconst (x := 2) (pc' := 17) hM rfl (by decide) rfl ?_
  refine ar_iushr (pc' := 18) hM rfl rfl ?_
  refine ar_ldc_w (x := 858993459) (pc' := 21) hM rfl (by decide) rfl ?_
  refine ar_iand (pc' := 22) hM rfl rfl ?_
  refine ar_iadd (pc' := 23) hM rfl rfl ?_
  obtain ⟨b1, eb1⟩ : ∃ z : Int32, z = (a1 &&& 858993459) + (((Int32.toUInt32 a1 >>> (Int32.toUInt32 2 &&& Int32.toUInt32 31)).toInt32) &&& 858993459) := ⟨_, rfl⟩
  rw [← eb1]
  refine ar_istore_n (pc' := 24) hM rfl rfl rfl rfl ?_
  refine ar_iload_n (pc' := 25) hM rfl rfl rfl ?_
  refine ar_iload_n (pc' := 26) hM rfl rfl rfl ?_
  refine ar_iconst (x := 4) (pc' := 27) hM rfl (by decide) rfl ?_
  refine ar_iushr (pc' := 28) hM rfl rfl ?_
  refine ar_iadd (pc' := 29) hM rfl rfl ?_
  refine ar_ldc_w (x := 252645135) (pc' := 32) hM rfl (by decide) rfl ?_
  refine ar_iand (pc' := 33) hM rfl rfl ?_
  obtain ⟨c1, ec1⟩ : ∃ z : Int32, z = (b1 + ((Int32.toUInt32 b1 >>> (Int32.toUInt32 4 &&& Int32.toUInt32 31)).toInt32)) &&& 252645135 := ⟨_, rfl⟩
  rw [← ec1]
  refine ar_istore_n (pc' := 34) hM rfl rfl rfl rfl ?_
  refine ar_iload_n (pc' := 35) hM rfl rfl rfl ?_
  refine ar_iload_n (pc' := 36) hM rfl rfl rfl ?_
  refine ar_bipush (x := 8) (pc' := 38) hM rfl (by decide) rfl ?_
  refine ar_iushr (pc' := 39) hM rfl rfl ?_
  refine ar_iadd (pc' := 40) hM rfl rfl ?_
  obtain ⟨d1, ed1⟩ : ∃ z : Int32, z = c1 + ((Int32.toUInt32 c1 >>> (Int32.toUInt32 8 &&& Int32.toUInt32 31)).toInt32) := ⟨_, rfl⟩
  rw [← ed1]
  refine ar_istore_n (pc' := 41) hM rfl rfl rfl rfl ?_
  refine ar_iload_n (pc' := 42) hM rfl rfl rfl ?_
  refine ar_iload_n (pc' := 43) hM rfl rfl rfl ?_
  refine ar_bipush (x := 16) (pc' := 45) hM rfl (by decide) rfl ?_
  refine ar_iushr (pc' := 46) hM rfl rfl ?_
  refine ar_iadd (pc' := 47) hM rfl rfl ?_
  obtain ⟨e1, ee1⟩ : ∃ z : Int32, z = d1 + ((Int32.toUInt32 d1 >>> (Int32.toUInt32 16 &&& Int32.toUInt32 31)).toInt32) := ⟨_, rfl⟩
  rw [← ee1]
  refine ar_istore_n (pc' := 48) hM rfl rfl rfl rfl ?_
  refine ar_iload_n (pc' := 49) hM rfl rfl rfl ?_
  refine ar_bipush (x := 63) (pc' := 51) hM rfl (by decide) rfl ?_
  refine ar_iand (pc' := 52) hM rfl rfl ?_
  refine ar_ireturn hM rfl (Or.inl rfl) ?_
  refine ⟨?_, rfl⟩
  rw [ee1, ed1, ec1, eb1, ea1]
  rfl
def n_pop (m : Nat) : Nat := m % 2 + m / 2 % 2 + m / 4 % 2 + m / 8 % 2 + m / 16 % 2 + m / 32 % 2
theorem i_bc_tab : ∀ m, m < 64 → i_bc (nI m) = nI (n_pop m) := by decide +kernel
set_option maxRecDepth 100000 in
set_option maxHeartbeats 4000000 in
theorem c_within (w : am_W) (x l m : Int32) : am_Go 95 (0, [.int x, .int l, .int m], [], w, 0, 0) (fun res w' => res = some (.int (if l ≤ x ∧ x ≤ m then 1 else 0)) ∧ w' = w) := by
  have hM : am_P[95]? = some zm_X10_within := rfl
  refine ar_iload_n (pc' := 1) hM rfl rfl rfl ?_
  refine ar_iload_n (pc' := 2) hM rfl rfl rfl ?_
  refine ar_icmp_lt (pc' := 5) hM rfl rfl (fun c2 => ?_) (fun c2 => ?_)
  · refine ar_iconst (x := 0) (pc' := 15) hM rfl (by decide) rfl ?_
    refine ar_ireturn hM rfl (Or.inr (Or.inl rfl)) ?_
    exact ⟨by rw [if_neg (fun h => absurd h.1 (Int32.not_le.mpr c2))], rfl⟩
  · refine ar_iload_n (pc' := 6) hM rfl rfl rfl ?_
    refine ar_iload_n (pc' := 7) hM rfl rfl rfl ?_
    refine ar_icmp_gt (pc' := 10) hM rfl rfl (fun c7 => ?_) (fun c7 => ?_)
    · refine ar_iconst (x := 0) (pc' := 15) hM rfl (by decide) rfl ?_
      refine ar_ireturn hM rfl (Or.inr (Or.inl rfl)) ?_
      exact ⟨by rw [if_neg (fun h => absurd h.2 (Int32.not_le.mpr c7))], rfl⟩
    · refine ar_iconst (x := 1) (pc' := 11) hM rfl (by decide) rfl ?_
      refine ar_goto hM rfl ?_
      refine ar_ireturn hM rfl (Or.inr (Or.inr rfl)) ?_
      exact ⟨by rw [if_pos ⟨Int32.not_lt.mp c2, Int32.not_lt.mp c7⟩], rfl⟩
def i_lie (k : Int32) : Int32 := if k = 3 then 2 else 0
def i_wbk (x k : Int32) : Int32 := if k = 1 then x + 3 else if k = 2 then 2 * x else x
set_option maxRecDepth 100000 in
set_option maxHeartbeats 4000000 in
theorem c_lieOf (w : am_W) (k : Int32) : am_Go 101 (0, [.int k], [], w, 0, 0) (fun res w' => res = some (.int (i_lie k)) ∧ w' = w) := by
  have hM : am_P[101]? = some zm_X10_lieOf := rfl
  refine ar_iload_n (pc' := 1) hM rfl rfl rfl ?_
  refine ar_iconst (x := 3) (pc' := 2) hM rfl (by decide) rfl ?_
  refine ar_icmp_ne (pc' := 5) hM rfl rfl (fun c2 => ?_) (fun c2 => ?_)
  · refine ar_iconst (x := 0) (pc' := 10) hM rfl (by decide) rfl ?_
    refine ar_ireturn hM rfl (Or.inl rfl) ?_
    exact ⟨by simp [i_lie, c2], rfl⟩
  · refine ar_iconst (x := 2) (pc' := 6) hM rfl (by decide) rfl ?_
    refine ar_goto hM rfl ?_
    refine ar_ireturn hM rfl (Or.inl rfl) ?_
    exact ⟨by simp [i_lie, c2], rfl⟩
set_option maxRecDepth 100000 in
set_option maxHeartbeats 4000000 in
theorem c_wantByKind (w : am_W) (x k : Int32) : am_Go 100 (0, [.int x, .int k], [], w, 0, 0) (fun res w' => res = some (.int (i_wbk x k)) ∧ w' = w) := by
  have hM : am_P[100]? = some zm_X10_wantByKind := rfl
  refine ar_iload_n (pc' := 1) hM rfl rfl rfl ?_
  by_cases k1 : k = 1
  · refine ar_lookup (t := 28) hM rfl (by rw [k1]; rfl) ?_
    refine ar_iload_n (pc' := 29) hM rfl rfl rfl ?_
    refine ar_iconst (x := 3) (pc' := 30) hM rfl (by decide) rfl ?_
    refine ar_iadd (pc' := 31) hM rfl rfl ?_
    refine ar_ireturn hM rfl (Or.inl rfl) ?_
    exact ⟨by simp [i_wbk, k1], rfl⟩
  by_cases k2 : k = 2
  · refine ar_lookup (t := 32) hM rfl (by rw [k2]; rfl) ?_
    refine ar_iconst (x := 2) (pc' := 33) hM rfl (by decide) rfl ?_
    refine ar_iload_n (pc' := 34) hM rfl rfl rfl ?_
    refine ar_imul (pc' := 35) hM rfl rfl ?_
    refine ar_ireturn hM rfl (Or.inl rfl) ?_
    exact ⟨by simp [i_wbk, k1, k2], rfl⟩
  · refine ar_lookup (t := 36) hM rfl (by rw [show Op.lookupswitch.offset (#[(1, 27), (2, 31)] : Array (Int × Int)).toList 35 (Int32.toInt k) = 35 from by rw [show (#[(1, 27), (2, 31)] : Array (Int × Int)).toList = [(1, 27), (2, 31)] from rfl, lv_osw (a := 1) k1 (by decide), lv_osw (a := 2) k2 (by decide)]; rfl]; rfl) ?_
    refine ar_iload_n (pc' := 37) hM rfl rfl rfl ?_
    refine ar_ireturn hM rfl (Or.inl rfl) ?_
    exact ⟨by simp [i_wbk, k1, k2], rfl⟩
def i_bit (x h : Int32) : Prop := (x >>> (h &&& 31)) &&& 1 = 1
set_option maxRecDepth 100000 in
set_option maxHeartbeats 4000000 in
theorem c_isSalted (w : am_W) (s : Nat) (h2s : 2 ≤ s) (so ss sl : Nat → Int32) (sa sw sd : Int32) (hs0 : w[s]? = some (.inr (6, [.ref (s + 1), .ref (s + 2), .ref (s + 3), .int sa, .int sw, .int sd]))) (hs1 : w[s + 1]? = some (.inl (0, 6, .inl so))) (hs2 : w[s + 2]? = some (.inl (0, 6, .inl ss))) (hs3 : w[s + 3]? = some (.inl (0, 6, .inl sl))) (h : Int32) : am_Go 45 (0, [.ref s, .int h], [], w, 0, 0) (fun res w' => res = some (.int (if (sa >>> (h &&& 31)) &&& 1 = 1 then 1 else 0)) ∧ w' = w) := by
  have hM : am_P[45]? = some zm_X6_isSalted := rfl
  refine ar_aload_n (pc' := 1) hM rfl rfl rfl ?_
  refine ar_getfield (pc' := 4) hM rfl hs0 rfl rfl ?_
  refine ar_iload_n (pc' := 5) hM rfl rfl rfl ?_
  refine ar_ishr (pc' := 6) hM rfl rfl ?_
  refine ar_iconst (x := 1) (pc' := 7) hM rfl (by decide) rfl ?_
  refine ar_iand (pc' := 8) hM rfl rfl ?_
  refine ar_iconst (x := 1) (pc' := 9) hM rfl (by decide) rfl ?_
  refine ar_icmp_ne (pc' := 12) hM rfl rfl (fun c9 => ?_) (fun c9 => ?_)
  · refine ar_iconst (x := 0) (pc' := 17) hM rfl (by decide) rfl ?_
    refine ar_ireturn hM rfl (Or.inr (Or.inl rfl)) ?_
    exact ⟨by simp [c9], rfl⟩
  · refine ar_iconst (x := 1) (pc' := 13) hM rfl (by decide) rfl ?_
    refine ar_goto hM rfl ?_
    refine ar_ireturn hM rfl (Or.inr (Or.inr rfl)) ?_
    exact ⟨by simp [c9], rfl⟩
set_option maxRecDepth 100000 in
set_option maxHeartbeats 4000000 in
theorem c_isAway (w : am_W) (s : Nat) (h2s : 2 ≤ s) (so ss sl : Nat → Int32) (sa sw sd : Int32) (hs0 : w[s]? = some (.inr (6, [.ref (s + 1), .ref (s + 2), .ref (s + 3), .int sa, .int sw, .int sd]))) (hs1 : w[s + 1]? = some (.inl (0, 6, .inl so))) (hs2 : w[s + 2]? = some (.inl (0, 6, .inl ss))) (hs3 : w[s + 3]? = some (.inl (0, 6, .inl sl))) (h : Int32) : am_Go 47 (0, [.ref s, .int h], [], w, 0, 0) (fun res w' => res = some (.int (if (sw >>> (h &&& 31)) &&& 1 = 1 then 1 else 0)) ∧ w' = w) := by
  have hM : am_P[47]? = some zm_X6_isAway := rfl
  refine ar_aload_n (pc' := 1) hM rfl rfl rfl ?_
  refine ar_getfield (pc' := 4) hM rfl hs0 rfl rfl ?_
  refine ar_iload_n (pc' := 5) hM rfl rfl rfl ?_
  refine ar_ishr (pc' := 6) hM rfl rfl ?_
  refine ar_iconst (x := 1) (pc' := 7) hM rfl (by decide) rfl ?_
  refine ar_iand (pc' := 8) hM rfl rfl ?_
  refine ar_iconst (x := 1) (pc' := 9) hM rfl (by decide) rfl ?_
  refine ar_icmp_ne (pc' := 12) hM rfl rfl (fun c9 => ?_) (fun c9 => ?_)
  · refine ar_iconst (x := 0) (pc' := 17) hM rfl (by decide) rfl ?_
    refine ar_ireturn hM rfl (Or.inr (Or.inl rfl)) ?_
    exact ⟨by simp [c9], rfl⟩
  · refine ar_iconst (x := 1) (pc' := 13) hM rfl (by decide) rfl ?_
    refine ar_goto hM rfl ?_
    refine ar_ireturn hM rfl (Or.inr (Or.inr rfl)) ?_
    exact ⟨by simp [c9], rfl⟩
set_option maxRecDepth 100000 in
set_option maxHeartbeats 4000000 in
theorem c_giveSalt (w : am_W) (s : Nat) (h2s : 2 ≤ s) (so ss sl : Nat → Int32) (sa sw sd : Int32) (hs0 : w[s]? = some (.inr (6, [.ref (s + 1), .ref (s + 2), .ref (s + 3), .int sa, .int sw, .int sd]))) (hs1 : w[s + 1]? = some (.inl (0, 6, .inl so))) (hs2 : w[s + 2]? = some (.inl (0, 6, .inl ss))) (hs3 : w[s + 3]? = some (.inl (0, 6, .inl sl))) (h : Int32) : am_Go 46 (0, [.ref s, .int h], [], w, 0, 0) (fun res w' => res = none ∧ w' = w.set s (.inr (6, [.ref (s + 1), .ref (s + 2), .ref (s + 3), .int (sa ||| (1 <<< (h &&& 31))), .int sw, .int sd]))) := by
  have hM : am_P[46]? = some zm_X6_giveSalt := rfl
  refine ar_aload_n (pc' := 1) hM rfl rfl rfl ?_
  refine ar_dup (pc' := 2) hM rfl rfl rfl ?_
  refine ar_getfield (pc' := 5) hM rfl hs0 rfl rfl ?_
  refine ar_iconst (x := 1) (pc' := 6) hM rfl (by decide) rfl ?_
  refine ar_iload_n (pc' := 7) hM rfl rfl rfl ?_
  refine ar_ishl (pc' := 8) hM rfl rfl ?_
  refine ar_ior (pc' := 9) hM rfl rfl ?_
  refine ar_putfield (pc' := 12) hM rfl hs0 (Nat.le_of_ble_eq_true rfl) rfl (by omega) rfl ?_
  show am_Go 46 (12, [.ref s, .int h], [], (w.set s (.inr (6, [.ref (s + 1), .ref (s + 2), .ref (s + 3), .int (sa ||| (1 <<< (h &&& 31))), .int sw, .int sd]))), 0, 0) _
  refine ar_return hM rfl ?_
  exact ⟨rfl, rfl⟩
set_option maxRecDepth 100000 in
set_option maxHeartbeats 4000000 in
theorem c_turnAway (w : am_W) (s : Nat) (h2s : 2 ≤ s) (so ss sl : Nat → Int32) (sa sw sd : Int32) (hs0 : w[s]? = some (.inr (6, [.ref (s + 1), .ref (s + 2), .ref (s + 3), .int sa, .int sw, .int sd]))) (hs1 : w[s + 1]? = some (.inl (0, 6, .inl so))) (hs2 : w[s + 2]? = some (.inl (0, 6, .inl ss))) (hs3 : w[s + 3]? = some (.inl (0, 6, .inl sl))) (h : Int32) : am_Go 48 (0, [.ref s, .int h], [], w, 0, 0) (fun res w' => res = none ∧ w' = w.set s (.inr (6, [.ref (s + 1), .ref (s + 2), .ref (s + 3), .int sa, .int (sw ^^^ (1 <<< (h &&& 31))), .int sd]))) := by
  have hM : am_P[48]? = some zm_X6_turnAway := rfl
  refine ar_aload_n (pc' := 1) hM rfl rfl rfl ?_
  refine ar_dup (pc' := 2) hM rfl rfl rfl ?_
  refine ar_getfield (pc' := 5) hM rfl hs0 rfl rfl ?_
  refine ar_iconst (x := 1) (pc' := 6) hM rfl (by decide) rfl ?_
  refine ar_iload_n (pc' := 7) hM rfl rfl rfl ?_
  refine ar_ishl (pc' := 8) hM rfl rfl ?_
  refine ar_ixor (pc' := 9) hM rfl rfl ?_
  refine ar_putfield (pc' := 12) hM rfl hs0 (Nat.le_of_ble_eq_true rfl) rfl (by omega) rfl ?_
  show am_Go 48 (12, [.ref s, .int h], [], (w.set s (.inr (6, [.ref (s + 1), .ref (s + 2), .ref (s + 3), .int sa, .int (sw ^^^ (1 <<< (h &&& 31))), .int sd]))), 0, 0) _
  refine ar_return hM rfl ?_
  exact ⟨rfl, rfl⟩
set_option maxRecDepth 100000 in
set_option maxHeartbeats 4000000 in
theorem c_countPresent (w : am_W) (s : Nat) (h2s : 2 ≤ s) (so ss sl : Nat → Int32) (sa sw sd : Int32) (hs0 : w[s]? = some (.inr (6, [.ref (s + 1), .ref (s + 2), .ref (s + 3), .int sa, .int sw, .int sd]))) (hs1 : w[s + 1]? = some (.inl (0, 6, .inl so))) (hs2 : w[s + 2]? = some (.inl (0, 6, .inl ss))) (hs3 : w[s + 3]? = some (.inl (0, 6, .inl sl))) (h : Int32) : am_Go 49 (0, [.ref s, .int h], [], w, 0, 0) (fun res w' => res = some (.int (h - i_bc sw)) ∧ w' = w) := by
  have hM : am_P[49]? = some zm_X6_countPresent := rfl
  refine ar_iload_n (pc' := 1) hM rfl rfl rfl ?_
  refine ar_aload_n (pc' := 2) hM rfl rfl rfl ?_
  refine ar_getfield (pc' := 5) hM rfl hs0 rfl rfl ?_
  refine ar_static (pc' := 8) (k3 := 0) (k4 := 0) hM rfl (by decide) rfl rfl (c_bitCount _ _) (fun r5 w5 q5 => ?_)
  obtain ⟨rfl, q5w⟩ := q5
  rw [q5w]
  show am_Go 49 (8, [.ref s, .int h], [.int (i_bc sw), .int h], w, 0, 0) _
  refine ar_isub (pc' := 9) hM rfl rfl ?_
  refine ar_ireturn hM rfl (Or.inl rfl) ?_
  exact ⟨rfl, rfl⟩
set_option maxRecDepth 100000 in
set_option maxHeartbeats 4000000 in
theorem c_copyFrom (w : am_W) (s : Nat) (h2s : 2 ≤ s) (so ss sl : Nat → Int32) (sa sw sd : Int32) (hs0 : w[s]? = some (.inr (6, [.ref (s + 1), .ref (s + 2), .ref (s + 3), .int sa, .int sw, .int sd]))) (hs1 : w[s + 1]? = some (.inl (0, 6, .inl so))) (hs2 : w[s + 2]? = some (.inl (0, 6, .inl ss))) (hs3 : w[s + 3]? = some (.inl (0, 6, .inl sl))) (o : Nat) (h2o : 2 ≤ o) (hdj : s + 4 ≤ o ∨ o + 4 ≤ s) (oo os ol : Nat → Int32) (oa ow od : Int32) (ho0 : w[o]? = some (.inr (6, [.ref (o + 1), .ref (o + 2), .ref (o + 3), .int oa, .int ow, .int od]))) (ho1 : w[o + 1]? = some (.inl (0, 6, .inl oo))) (ho2 : w[o + 2]? = some (.inl (0, 6, .inl os))) (ho3 : w[o + 3]? = some (.inl (0, 6, .inl ol))) : am_Go 42 (0, [.ref s, .ref o], [], w, 0, 0) (fun res w' => res = none ∧ w' = (((w.set (s + 1) (.inl (0, 6, .inl (va_cpy oo so 0 0 6)))).set (s + 2) (.inl (0, 6, .inl (va_cpy os ss 0 0 6)))).set (s + 3) (.inl (0, 6, .inl (va_cpy ol sl 0 0 6)))).set s (.inr (6, [.ref (s + 1), .ref (s + 2), .ref (s + 3), .int oa, .int ow, .int od]))) := by
  have hM : am_P[42]? = some zm_X6_copyFrom := rfl
  refine ar_aload_n (pc' := 1) hM rfl rfl rfl ?_
  refine ar_getfield (pc' := 4) hM rfl ho0 rfl rfl ?_
  refine ar_iconst (x := 0) (pc' := 5) hM rfl (by decide) rfl ?_
  refine ar_aload_n (pc' := 6) hM rfl rfl rfl ?_
  refine ar_getfield (pc' := 9) hM rfl hs0 rfl rfl ?_
  refine ar_iconst (x := 0) (pc' := 10) hM rfl (by decide) rfl ?_
  refine ar_bipush (x := 6) (pc' := 12) hM rfl (by decide) rfl ?_
  refine ar_arraycopyN (pc' := 15) (m := 6) hM rfl rfl ho1 hs1 (by decide) (Nat.le_of_ble_eq_true rfl) (Nat.le_of_ble_eq_true rfl) (Nat.le_of_ble_eq_true rfl) (by omega) (by omega) (Nat.le_of_ble_eq_true rfl) rfl ?_
  refine ar_aload_n (pc' := 16) hM rfl rfl rfl ?_
  refine ar_getfield (pc' := 19) hM rfl (am_gn (by omega) ho0) rfl rfl ?_
  refine ar_iconst (x := 0) (pc' := 20) hM rfl (by decide) rfl ?_
  refine ar_aload_n (pc' := 21) hM rfl rfl rfl ?_
  refine ar_getfield (pc' := 24) hM rfl (am_gn (by omega) hs0) rfl rfl ?_
  refine ar_iconst (x := 0) (pc' := 25) hM rfl (by decide) rfl ?_
  refine ar_bipush (x := 6) (pc' := 27) hM rfl (by decide) rfl ?_
  refine ar_arraycopyN (pc' := 30) (m := 6) hM rfl rfl (am_gn (by omega) ho2) (am_gn (by omega) hs2) (by decide) (Nat.le_of_ble_eq_true rfl) (Nat.le_of_ble_eq_true rfl) (Nat.le_of_ble_eq_true rfl) (by omega) (by omega) (Nat.le_of_ble_eq_true rfl) rfl ?_
  refine ar_aload_n (pc' := 31) hM rfl rfl rfl ?_
  refine ar_getfield (pc' := 34) hM rfl (am_gn (by omega) (am_gn (by omega) ho0)) rfl rfl ?_
  refine ar_iconst (x := 0) (pc' := 35) hM rfl (by decide) rfl ?_
  refine ar_aload_n (pc' := 36) hM rfl rfl rfl ?_
  refine ar_getfield (pc' := 39) hM rfl (am_gn (by omega) (am_gn (by omega) hs0)) rfl rfl ?_
  refine ar_iconst (x := 0) (pc' := 40) hM rfl (by decide) rfl ?_
  refine ar_bipush (x := 6) (pc' := 42) hM rfl (by decide) rfl ?_
  refine ar_arraycopyN (pc' := 45) (m := 6) hM rfl rfl (am_gn (by omega) (am_gn (by omega) ho3)) (am_gn (by omega) (am_gn (by omega) hs3)) (by decide) (Nat.le_of_ble_eq_true rfl) (Nat.le_of_ble_eq_true rfl) (Nat.le_of_ble_eq_true rfl) (by omega) (by omega) (Nat.le_of_ble_eq_true rfl) rfl ?_
  refine ar_aload_n (pc' := 46) hM rfl rfl rfl ?_
  refine ar_aload_n (pc' := 47) hM rfl rfl rfl ?_
  refine ar_getfield (pc' := 50) hM rfl (am_gn (by omega) (am_gn (by omega) (am_gn (by omega) ho0))) rfl rfl ?_
  refine ar_putfield (pc' := 53) hM rfl (am_gn (by omega) (am_gn (by omega) (am_gn (by omega) hs0))) (Nat.le_of_ble_eq_true rfl) rfl (by omega) rfl ?_
  show am_Go 42 (53, [.ref s, .ref o], [], ((((w.set (s + 1) (.inl (0, 6, .inl (va_cpy oo so 0 0 6)))).set (s + 2) (.inl (0, 6, .inl (va_cpy os ss 0 0 6)))).set (s + 3) (.inl (0, 6, .inl (va_cpy ol sl 0 0 6)))).set s (.inr (6, [.ref (s + 1), .ref (s + 2), .ref (s + 3), .int oa, .int sw, .int sd]))), 0, 0) _
  refine ar_aload_n (pc' := 54) hM rfl rfl rfl ?_
  refine ar_aload_n (pc' := 55) hM rfl rfl rfl ?_
  refine ar_getfield (pc' := 58) hM rfl (am_gn (by omega) (am_gn (by omega) (am_gn (by omega) (am_gn (by omega) ho0)))) rfl rfl ?_
  refine ar_putfield (pc' := 61) hM rfl (am_gs (am_gn (by omega) (am_gn (by omega) (am_gn (by omega) hs0)))) (Nat.le_of_ble_eq_true rfl) rfl (by omega) rfl ?_
  show am_Go 42 (61, [.ref s, .ref o], [], (((((w.set (s + 1) (.inl (0, 6, .inl (va_cpy oo so 0 0 6)))).set (s + 2) (.inl (0, 6, .inl (va_cpy os ss 0 0 6)))).set (s + 3) (.inl (0, 6, .inl (va_cpy ol sl 0 0 6)))).set s (.inr (6, [.ref (s + 1), .ref (s + 2), .ref (s + 3), .int oa, .int sw, .int sd]))).set s (.inr (6, [.ref (s + 1), .ref (s + 2), .ref (s + 3), .int oa, .int ow, .int sd]))), 0, 0) _
  refine ar_aload_n (pc' := 62) hM rfl rfl rfl ?_
  refine ar_aload_n (pc' := 63) hM rfl rfl rfl ?_
  refine ar_getfield (pc' := 66) hM rfl (am_gn (by omega) (am_gn (by omega) (am_gn (by omega) (am_gn (by omega) (am_gn (by omega) ho0))))) rfl rfl ?_
  refine ar_putfield (pc' := 69) hM rfl (am_gs (am_gs (am_gn (by omega) (am_gn (by omega) (am_gn (by omega) hs0))))) (Nat.le_of_ble_eq_true rfl) rfl (by omega) rfl ?_
  show am_Go 42 (69, [.ref s, .ref o], [], ((((((w.set (s + 1) (.inl (0, 6, .inl (va_cpy oo so 0 0 6)))).set (s + 2) (.inl (0, 6, .inl (va_cpy os ss 0 0 6)))).set (s + 3) (.inl (0, 6, .inl (va_cpy ol sl 0 0 6)))).set s (.inr (6, [.ref (s + 1), .ref (s + 2), .ref (s + 3), .int oa, .int sw, .int sd]))).set s (.inr (6, [.ref (s + 1), .ref (s + 2), .ref (s + 3), .int oa, .int ow, .int sd]))).set s (.inr (6, [.ref (s + 1), .ref (s + 2), .ref (s + 3), .int oa, .int ow, .int od]))), 0, 0) _
  refine ar_return hM rfl ?_
  rw [show (((((w.set (s + 1) (.inl (0, 6, .inl (va_cpy oo so 0 0 6)))).set (s + 2) (.inl (0, 6, .inl (va_cpy os ss 0 0 6)))).set (s + 3) (.inl (0, 6, .inl (va_cpy ol sl 0 0 6)))).set s (.inr (6, [.ref (s + 1), .ref (s + 2), .ref (s + 3), .int oa, .int sw, .int sd]))).set s (.inr (6, [.ref (s + 1), .ref (s + 2), .ref (s + 3), .int oa, .int ow, .int sd]))) = ((((w.set (s + 1) (.inl (0, 6, .inl (va_cpy oo so 0 0 6)))).set (s + 2) (.inl (0, 6, .inl (va_cpy os ss 0 0 6)))).set (s + 3) (.inl (0, 6, .inl (va_cpy ol sl 0 0 6)))).set s (.inr (6, [.ref (s + 1), .ref (s + 2), .ref (s + 3), .int oa, .int ow, .int sd]))) from by rw [List.set_set]]
  rw [show (((((w.set (s + 1) (.inl (0, 6, .inl (va_cpy oo so 0 0 6)))).set (s + 2) (.inl (0, 6, .inl (va_cpy os ss 0 0 6)))).set (s + 3) (.inl (0, 6, .inl (va_cpy ol sl 0 0 6)))).set s (.inr (6, [.ref (s + 1), .ref (s + 2), .ref (s + 3), .int oa, .int ow, .int sd]))).set s (.inr (6, [.ref (s + 1), .ref (s + 2), .ref (s + 3), .int oa, .int ow, .int od]))) = ((((w.set (s + 1) (.inl (0, 6, .inl (va_cpy oo so 0 0 6)))).set (s + 2) (.inl (0, 6, .inl (va_cpy os ss 0 0 6)))).set (s + 3) (.inl (0, 6, .inl (va_cpy ol sl 0 0 6)))).set s (.inr (6, [.ref (s + 1), .ref (s + 2), .ref (s + 3), .int oa, .int ow, .int od]))) from by rw [List.set_set]]
  exact ⟨rfl, rfl⟩
