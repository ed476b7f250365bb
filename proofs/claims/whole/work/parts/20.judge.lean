/-! Outlook: told doings judged -/
def m_can (T : p_D) (S : s_S) (a b c : Nat) : Prop := match a with
  | 0 => b = 0 ∧ c = 0
  | 1 => (c < T.2.2.1 ∧ b < T.2.2.1) ∧ b ≠ c
  | 2 => (c < T.2.2.1 ∧ b = 0) ∧ ¬ (S.2.2.2.2.1 >>> (nI c &&& 31)) &&& 1 = 1
  | 3 => c < T.2.2.1 ∧ b = 0
  | 4 => c < T.2.2.1 ∧ m_lk T S 0 c ≤ nI b
  | _ => False
def m_do (T : p_D) (S : s_S) (a b c : Nat) : s_S := match a with
  | 0 => m_pass T S
  | 1 => m_swap S b c
  | 2 => m_salt S (nI c)
  | 3 => m_away S (nI c)
  | _ => S
def m_yes (P : Prop) (r : Option Value) : Prop := (P ∧ r = some (.int 1)) ∨ (¬ P ∧ r = some (.int 0))
theorem m_do_v {n : Nat} {T : p_D} {S : s_S} (hn : n ≤ 6) (h : v_S n S) (hd : S.2.2.2.2.2.2 + 1 < 2 ^ 30) {a b c : Nat} (hT : T.2.2.1 = n) (hc : m_can T S a b c) : v_S n (m_do T S a b c) ∧ (m_do T S a b c).2.2.2.2.2.2 ≤ S.2.2.2.2.2.2 + 1 := by
  match a, hc with
  | 0, hc => exact ⟨m_pass_v h hd, Nat.le_refl _⟩
  | 1, hc => exact ⟨m_swap_v hn h (hT ▸ hc.1.2) (hT ▸ hc.1.1), Nat.le_succ _⟩
  | 2, hc => exact ⟨h, Nat.le_succ _⟩
  | 3, hc => exact ⟨h, Nat.le_succ _⟩
  | 4, hc => exact ⟨h, Nat.le_succ _⟩
set_option maxRecDepth 100000 in
set_option maxHeartbeats 4000000 in
theorem k_canBe0 (w : am_W) (T : p_D) (S1 : s_S) (bl bo : Int32) (hvT : v_T T) (hvS1 : v_S T.2.2.1 S1) (hT : c_T w 11 T) (hS1 : c_S w 106 T.2.2.1 S1) (hD : c_D w 110) (ho0 : w[100]? = some (.inr (2, [.ref 101, .ref 106, .ref 110, .int bl, .int bo]))) (b c : Nat) (hb : b < 10) (hc : c < 10) : am_Go 21 (0, [.ref 100, .ref 11, .int 0, .int (nI b), .int (nI c), .float 0], [], w, 0, 0) (fun res w' => m_yes (m_can T S1 0 b c) res ∧ am_same (rg 110 8) w w' ∧ c_D w' 110) := by
  have hM : am_P[21]? = some zm_X2_canBe := rfl
  have hn6 : T.2.2.1 ≤ 6 := hvT.1
  have hb0 : nI b = 0 ↔ b = 0 := nI_eq (b := 0) (by omega) (by omega)
  have hc0 : nI c = 0 ↔ c = 0 := nI_eq (b := 0) (by omega) (by omega)
  have hcn : nI T.2.2.1 ≤ nI c ↔ T.2.2.1 ≤ c := nI_leI (by omega) (by omega)
  have hbn : nI T.2.2.1 ≤ nI b ↔ T.2.2.1 ≤ b := nI_leI (by omega) (by omega)
  have hbc : nI b = nI c ↔ b = c := nI_eq (by omega) (by omega)
  refine ar_iload (pc' := 2) hM rfl rfl rfl ?_
  refine ar_aload_n (pc' := 3) hM rfl rfl rfl ?_
  refine ar_getfield (pc' := 6) hM rfl hT.o rfl rfl ?_
  suffices hj6 : ∀ z_6 : Int32, z_6 = (if (nI T.2.2.1) ≤ (nI c) then 0 else 1) → am_Go 21 (14, [.ref 100, .ref 11, .int 0, .int (nI b), .int (nI c), .float 0], [.int z_6], w, 0, 0) _ by
    refine ar_icmp_ge (pc' := 9) hM rfl rfl (fun c => ?_) (fun c => ?_)
    · refine ar_iconst (x := 0) (pc' := 14) hM rfl (by decide) rfl ?_
      exact hj6 _ (if_pos c).symm
    · refine ar_iconst (x := 1) (pc' := 10) hM rfl (by decide) rfl ?_
      refine ar_goto hM rfl ?_
      exact hj6 _ (if_neg c).symm
  rintro _ rfl
  refine ar_istore (pc' := 16) hM rfl rfl rfl rfl ?_
  refine ar_iload_n (pc' := 17) hM rfl rfl rfl ?_
  refine ar_tableIn (off := 35) (t := 52) hM rfl (by decide) (by decide) (by decide) ?_
  refine ar_iload_n (pc' := 53) hM rfl rfl rfl ?_
  refine ar_if_ne (pc' := 56) hM rfl rfl (fun c53 => ?_) (fun c53 => ?_)
  · refine ar_iconst (x := 0) (pc' := 66) hM rfl (by decide) rfl ?_
    refine ar_ireturn hM rfl (Or.inr (Or.inl rfl)) ?_
    refine ⟨Or.inr ⟨?_, rfl⟩, am_same.rf, hD⟩
    show ¬ (b = 0 ∧ c = 0)
    grind
  · refine ar_iload (pc' := 58) hM rfl rfl rfl ?_
    refine ar_if_ne (pc' := 61) hM rfl rfl (fun c58 => ?_) (fun c58 => ?_)
    · refine ar_iconst (x := 0) (pc' := 66) hM rfl (by decide) rfl ?_
      refine ar_ireturn hM rfl (Or.inr (Or.inl rfl)) ?_
      refine ⟨Or.inr ⟨?_, rfl⟩, am_same.rf, hD⟩
      show ¬ (b = 0 ∧ c = 0)
      grind
    · refine ar_iconst (x := 1) (pc' := 62) hM rfl (by decide) rfl ?_
      refine ar_goto hM rfl ?_
      refine ar_ireturn hM rfl (Or.inr (Or.inr rfl)) ?_
      refine ⟨Or.inl ⟨?_, rfl⟩, am_same.rf, hD⟩
      show (b = 0 ∧ c = 0)
      grind
set_option maxRecDepth 100000 in
set_option maxHeartbeats 4000000 in
theorem k_canBe1 (w : am_W) (T : p_D) (S1 : s_S) (bl bo : Int32) (hvT : v_T T) (hvS1 : v_S T.2.2.1 S1) (hT : c_T w 11 T) (hS1 : c_S w 106 T.2.2.1 S1) (hD : c_D w 110) (ho0 : w[100]? = some (.inr (2, [.ref 101, .ref 106, .ref 110, .int bl, .int bo]))) (b c : Nat) (hb : b < 10) (hc : c < 10) : am_Go 21 (0, [.ref 100, .ref 11, .int 1, .int (nI b), .int (nI c), .float 0], [], w, 0, 0) (fun res w' => m_yes (m_can T S1 1 b c) res ∧ am_same (rg 110 8) w w' ∧ c_D w' 110) := by
  have hM : am_P[21]? = some zm_X2_canBe := rfl
  have hn6 : T.2.2.1 ≤ 6 := hvT.1
  have hb0 : nI b = 0 ↔ b = 0 := nI_eq (b := 0) (by omega) (by omega)
  have hc0 : nI c = 0 ↔ c = 0 := nI_eq (b := 0) (by omega) (by omega)
  have hcn : nI T.2.2.1 ≤ nI c ↔ T.2.2.1 ≤ c := nI_leI (by omega) (by omega)
  have hbn : nI T.2.2.1 ≤ nI b ↔ T.2.2.1 ≤ b := nI_leI (by omega) (by omega)
  have hbc : nI b = nI c ↔ b = c := nI_eq (by omega) (by omega)
  refine ar_iload (pc' := 2) hM rfl rfl rfl ?_
  refine ar_aload_n (pc' := 3) hM rfl rfl rfl ?_
  refine ar_getfield (pc' := 6) hM rfl hT.o rfl rfl ?_
  suffices hj6 : ∀ z_6 : Int32, z_6 = (if (nI T.2.2.1) ≤ (nI c) then 0 else 1) → am_Go 21 (14, [.ref 100, .ref 11, .int 1, .int (nI b), .int (nI c), .float 0], [.int z_6], w, 0, 0) _ by
    refine ar_icmp_ge (pc' := 9) hM rfl rfl (fun c => ?_) (fun c => ?_)
    · refine ar_iconst (x := 0) (pc' := 14) hM rfl (by decide) rfl ?_
      exact hj6 _ (if_pos c).symm
    · refine ar_iconst (x := 1) (pc' := 10) hM rfl (by decide) rfl ?_
      refine ar_goto hM rfl ?_
      exact hj6 _ (if_neg c).symm
  rintro _ rfl
  refine ar_istore (pc' := 16) hM rfl rfl rfl rfl ?_
  refine ar_iload_n (pc' := 17) hM rfl rfl rfl ?_
  refine ar_tableIn (off := 50) (t := 67) hM rfl (by decide) (by decide) (by decide) ?_
  refine ar_iload (pc' := 69) hM rfl rfl rfl ?_
  refine ar_if_eq (pc' := 72) hM rfl rfl (fun c69 => ?_) (fun c69 => ?_)
  · refine ar_iconst (x := 0) (pc' := 91) hM rfl (by decide) rfl ?_
    refine ar_ireturn hM rfl (Or.inr (Or.inl rfl)) ?_
    refine ⟨Or.inr ⟨?_, rfl⟩, am_same.rf, hD⟩
    show ¬ ((c < T.2.2.1 ∧ b < T.2.2.1) ∧ b ≠ c)
    grind
  · refine ar_iload_n (pc' := 73) hM rfl rfl rfl ?_
    refine ar_aload_n (pc' := 74) hM rfl rfl rfl ?_
    refine ar_getfield (pc' := 77) hM rfl hT.o rfl rfl ?_
    refine ar_icmp_ge (pc' := 80) hM rfl rfl (fun c77 => ?_) (fun c77 => ?_)
    · refine ar_iconst (x := 0) (pc' := 91) hM rfl (by decide) rfl ?_
      refine ar_ireturn hM rfl (Or.inr (Or.inl rfl)) ?_
      refine ⟨Or.inr ⟨?_, rfl⟩, am_same.rf, hD⟩
      show ¬ ((c < T.2.2.1 ∧ b < T.2.2.1) ∧ b ≠ c)
      grind
    · refine ar_iload_n (pc' := 81) hM rfl rfl rfl ?_
      refine ar_iload (pc' := 83) hM rfl rfl rfl ?_
      refine ar_icmp_eq (pc' := 86) hM rfl rfl (fun c83 => ?_) (fun c83 => ?_)
      · refine ar_iconst (x := 0) (pc' := 91) hM rfl (by decide) rfl ?_
        refine ar_ireturn hM rfl (Or.inr (Or.inl rfl)) ?_
        refine ⟨Or.inr ⟨?_, rfl⟩, am_same.rf, hD⟩
        show ¬ ((c < T.2.2.1 ∧ b < T.2.2.1) ∧ b ≠ c)
        grind
      · refine ar_iconst (x := 1) (pc' := 87) hM rfl (by decide) rfl ?_
        refine ar_goto hM rfl ?_
        refine ar_ireturn hM rfl (Or.inr (Or.inr rfl)) ?_
        refine ⟨Or.inl ⟨?_, rfl⟩, am_same.rf, hD⟩
        show ((c < T.2.2.1 ∧ b < T.2.2.1) ∧ b ≠ c)
        grind
set_option maxRecDepth 100000 in
set_option maxHeartbeats 4000000 in
theorem k_canBe2 (w : am_W) (T : p_D) (S1 : s_S) (bl bo : Int32) (hvT : v_T T) (hvS1 : v_S T.2.2.1 S1) (hT : c_T w 11 T) (hS1 : c_S w 106 T.2.2.1 S1) (hD : c_D w 110) (ho0 : w[100]? = some (.inr (2, [.ref 101, .ref 106, .ref 110, .int bl, .int bo]))) (b c : Nat) (hb : b < 10) (hc : c < 10) : am_Go 21 (0, [.ref 100, .ref 11, .int 2, .int (nI b), .int (nI c), .float 0], [], w, 0, 0) (fun res w' => m_yes (m_can T S1 2 b c) res ∧ am_same (rg 110 8) w w' ∧ c_D w' 110) := by
  have hM : am_P[21]? = some zm_X2_canBe := rfl
  have hn6 : T.2.2.1 ≤ 6 := hvT.1
  have hb0 : nI b = 0 ↔ b = 0 := nI_eq (b := 0) (by omega) (by omega)
  have hc0 : nI c = 0 ↔ c = 0 := nI_eq (b := 0) (by omega) (by omega)
  have hcn : nI T.2.2.1 ≤ nI c ↔ T.2.2.1 ≤ c := nI_leI (by omega) (by omega)
  have hbn : nI T.2.2.1 ≤ nI b ↔ T.2.2.1 ≤ b := nI_leI (by omega) (by omega)
  have hbc : nI b = nI c ↔ b = c := nI_eq (by omega) (by omega)
  refine ar_iload (pc' := 2) hM rfl rfl rfl ?_
  refine ar_aload_n (pc' := 3) hM rfl rfl rfl ?_
  refine ar_getfield (pc' := 6) hM rfl hT.o rfl rfl ?_
  suffices hj6 : ∀ z_6 : Int32, z_6 = (if (nI T.2.2.1) ≤ (nI c) then 0 else 1) → am_Go 21 (14, [.ref 100, .ref 11, .int 2, .int (nI b), .int (nI c), .float 0], [.int z_6], w, 0, 0) _ by
    refine ar_icmp_ge (pc' := 9) hM rfl rfl (fun c => ?_) (fun c => ?_)
    · refine ar_iconst (x := 0) (pc' := 14) hM rfl (by decide) rfl ?_
      exact hj6 _ (if_pos c).symm
    · refine ar_iconst (x := 1) (pc' := 10) hM rfl (by decide) rfl ?_
      refine ar_goto hM rfl ?_
      exact hj6 _ (if_neg c).symm
  rintro _ rfl
  refine ar_istore (pc' := 16) hM rfl rfl rfl rfl ?_
  refine ar_iload_n (pc' := 17) hM rfl rfl rfl ?_
  refine ar_tableIn (off := 75) (t := 92) hM rfl (by decide) (by decide) (by decide) ?_
  refine ar_iload (pc' := 94) hM rfl rfl rfl ?_
  refine ar_if_eq (pc' := 97) hM rfl rfl (fun c94 => ?_) (fun c94 => ?_)
  · refine ar_iconst (x := 0) (pc' := 118) hM rfl (by decide) rfl ?_
    refine ar_ireturn hM rfl (Or.inr (Or.inl rfl)) ?_
    refine ⟨Or.inr ⟨?_, rfl⟩, am_same.rf, hD⟩
    show ¬ ((c < T.2.2.1 ∧ b = 0) ∧ ¬ (S1.2.2.2.2.1 >>> (nI c &&& 31)) &&& 1 = 1)
    grind
  · refine ar_iload_n (pc' := 98) hM rfl rfl rfl ?_
    refine ar_if_ne (pc' := 101) hM rfl rfl (fun c98 => ?_) (fun c98 => ?_)
    · refine ar_iconst (x := 0) (pc' := 118) hM rfl (by decide) rfl ?_
      refine ar_ireturn hM rfl (Or.inr (Or.inl rfl)) ?_
      refine ⟨Or.inr ⟨?_, rfl⟩, am_same.rf, hD⟩
      show ¬ ((c < T.2.2.1 ∧ b = 0) ∧ ¬ (S1.2.2.2.2.1 >>> (nI c &&& 31)) &&& 1 = 1)
      grind
    · refine ar_aload_n (pc' := 102) hM rfl rfl rfl ?_
      refine ar_getfield (pc' := 105) hM rfl ho0 rfl rfl ?_
      refine ar_iload (pc' := 107) hM rfl rfl rfl ?_
      refine ar_virtual (pc' := 110) (k3 := 0) (k4 := 0) hM rfl rfl (hS1.o) ⟨rfl, (by decide)⟩ rfl rfl (by obtain ⟨so, ss, sl, g0, g1, g2, g3, -⟩ := hS1; exact c_isSalted _ 106 (by decide) so ss sl _ _ _ g0 g1 g2 g3 (nI c)) (fun r107 w107 q107 => ?_)
      obtain ⟨rfl, q107w⟩ := q107
      rw [q107w]
      show am_Go 21 (110, [.ref 100, .ref 11, .int 2, .int (nI b), .int (nI c), .int (if (nI T.2.2.1) ≤ (nI c) then 0 else 1)], [.int (if (S1.2.2.2.2.1 >>> (nI c &&& 31)) &&& 1 = 1 then 1 else 0)], w, 0, 0) _
      refine ar_if_ne (pc' := 113) hM rfl rfl (fun c110 => ?_) (fun c110 => ?_)
      · refine ar_iconst (x := 0) (pc' := 118) hM rfl (by decide) rfl ?_
        refine ar_ireturn hM rfl (Or.inr (Or.inl rfl)) ?_
        refine ⟨Or.inr ⟨?_, rfl⟩, am_same.rf, hD⟩
        show ¬ ((c < T.2.2.1 ∧ b = 0) ∧ ¬ (S1.2.2.2.2.1 >>> (nI c &&& 31)) &&& 1 = 1)
        grind
      · refine ar_iconst (x := 1) (pc' := 114) hM rfl (by decide) rfl ?_
        refine ar_goto hM rfl ?_
        refine ar_ireturn hM rfl (Or.inr (Or.inr rfl)) ?_
        refine ⟨Or.inl ⟨?_, rfl⟩, am_same.rf, hD⟩
        show ((c < T.2.2.1 ∧ b = 0) ∧ ¬ (S1.2.2.2.2.1 >>> (nI c &&& 31)) &&& 1 = 1)
        grind
set_option maxRecDepth 100000 in
set_option maxHeartbeats 4000000 in
theorem k_canBe3 (w : am_W) (T : p_D) (S1 : s_S) (bl bo : Int32) (hvT : v_T T) (hvS1 : v_S T.2.2.1 S1) (hT : c_T w 11 T) (hS1 : c_S w 106 T.2.2.1 S1) (hD : c_D w 110) (ho0 : w[100]? = some (.inr (2, [.ref 101, .ref 106, .ref 110, .int bl, .int bo]))) (b c : Nat) (hb : b < 10) (hc : c < 10) : am_Go 21 (0, [.ref 100, .ref 11, .int 3, .int (nI b), .int (nI c), .float 0], [], w, 0, 0) (fun res w' => m_yes (m_can T S1 3 b c) res ∧ am_same (rg 110 8) w w' ∧ c_D w' 110) := by
  have hM : am_P[21]? = some zm_X2_canBe := rfl
  have hn6 : T.2.2.1 ≤ 6 := hvT.1
  have hb0 : nI b = 0 ↔ b = 0 := nI_eq (b := 0) (by omega) (by omega)
  have hc0 : nI c = 0 ↔ c = 0 := nI_eq (b := 0) (by omega) (by omega)
  have hcn : nI T.2.2.1 ≤ nI c ↔ T.2.2.1 ≤ c := nI_leI (by omega) (by omega)
  have hbn : nI T.2.2.1 ≤ nI b ↔ T.2.2.1 ≤ b := nI_leI (by omega) (by omega)
  have hbc : nI b = nI c ↔ b = c := nI_eq (by omega) (by omega)
  refine ar_iload (pc' := 2) hM rfl rfl rfl ?_
  refine ar_aload_n (pc' := 3) hM rfl rfl rfl ?_
  refine ar_getfield (pc' := 6) hM rfl hT.o rfl rfl ?_
  suffices hj6 : ∀ z_6 : Int32, z_6 = (if (nI T.2.2.1) ≤ (nI c) then 0 else 1) → am_Go 21 (14, [.ref 100, .ref 11, .int 3, .int (nI b), .int (nI c), .float 0], [.int z_6], w, 0, 0) _ by
    refine ar_icmp_ge (pc' := 9) hM rfl rfl (fun c => ?_) (fun c => ?_)
    · refine ar_iconst (x := 0) (pc' := 14) hM rfl (by decide) rfl ?_
      exact hj6 _ (if_pos c).symm
    · refine ar_iconst (x := 1) (pc' := 10) hM rfl (by decide) rfl ?_
      refine ar_goto hM rfl ?_
      exact hj6 _ (if_neg c).symm
  rintro _ rfl
  refine ar_istore (pc' := 16) hM rfl rfl rfl rfl ?_
  refine ar_iload_n (pc' := 17) hM rfl rfl rfl ?_
  refine ar_tableIn (off := 102) (t := 119) hM rfl (by decide) (by decide) (by decide) ?_
  refine ar_iload (pc' := 121) hM rfl rfl rfl ?_
  refine ar_if_eq (pc' := 124) hM rfl rfl (fun c121 => ?_) (fun c121 => ?_)
  · refine ar_iconst (x := 0) (pc' := 133) hM rfl (by decide) rfl ?_
    refine ar_ireturn hM rfl (Or.inr (Or.inl rfl)) ?_
    refine ⟨Or.inr ⟨?_, rfl⟩, am_same.rf, hD⟩
    show ¬ (c < T.2.2.1 ∧ b = 0)
    grind
  · refine ar_iload_n (pc' := 125) hM rfl rfl rfl ?_
    refine ar_if_ne (pc' := 128) hM rfl rfl (fun c125 => ?_) (fun c125 => ?_)
    · refine ar_iconst (x := 0) (pc' := 133) hM rfl (by decide) rfl ?_
      refine ar_ireturn hM rfl (Or.inr (Or.inl rfl)) ?_
      refine ⟨Or.inr ⟨?_, rfl⟩, am_same.rf, hD⟩
      show ¬ (c < T.2.2.1 ∧ b = 0)
      grind
    · refine ar_iconst (x := 1) (pc' := 129) hM rfl (by decide) rfl ?_
      refine ar_goto hM rfl ?_
      refine ar_ireturn hM rfl (Or.inr (Or.inr rfl)) ?_
      refine ⟨Or.inl ⟨?_, rfl⟩, am_same.rf, hD⟩
      show (c < T.2.2.1 ∧ b = 0)
      grind
set_option maxRecDepth 100000 in
set_option maxHeartbeats 4000000 in
theorem k_canBe4 (w : am_W) (T : p_D) (S1 : s_S) (bl bo : Int32) (hvT : v_T T) (hvS1 : v_S T.2.2.1 S1) (hT : c_T w 11 T) (hS1 : c_S w 106 T.2.2.1 S1) (hD : c_D w 110) (ho0 : w[100]? = some (.inr (2, [.ref 101, .ref 106, .ref 110, .int bl, .int bo]))) (b c : Nat) (hb : b < 10) (hc : c < 10) : am_Go 21 (0, [.ref 100, .ref 11, .int 4, .int (nI b), .int (nI c), .float 0], [], w, 0, 0) (fun res w' => m_yes (m_can T S1 4 b c) res ∧ am_same (rg 110 8) w w' ∧ c_D w' 110) := by
  have hM : am_P[21]? = some zm_X2_canBe := rfl
  have hn6 : T.2.2.1 ≤ 6 := hvT.1
  have hb0 : nI b = 0 ↔ b = 0 := nI_eq (b := 0) (by omega) (by omega)
  have hc0 : nI c = 0 ↔ c = 0 := nI_eq (b := 0) (by omega) (by omega)
  have hcn : nI T.2.2.1 ≤ nI c ↔ T.2.2.1 ≤ c := nI_leI (by omega) (by omega)
  have hbn : nI T.2.2.1 ≤ nI b ↔ T.2.2.1 ≤ b := nI_leI (by omega) (by omega)
  have hbc : nI b = nI c ↔ b = c := nI_eq (by omega) (by omega)
  refine ar_iload (pc' := 2) hM rfl rfl rfl ?_
  refine ar_aload_n (pc' := 3) hM rfl rfl rfl ?_
  refine ar_getfield (pc' := 6) hM rfl hT.o rfl rfl ?_
  suffices hj6 : ∀ z_6 : Int32, z_6 = (if (nI T.2.2.1) ≤ (nI c) then 0 else 1) → am_Go 21 (14, [.ref 100, .ref 11, .int 4, .int (nI b), .int (nI c), .float 0], [.int z_6], w, 0, 0) _ by
    refine ar_icmp_ge (pc' := 9) hM rfl rfl (fun c => ?_) (fun c => ?_)
    · refine ar_iconst (x := 0) (pc' := 14) hM rfl (by decide) rfl ?_
      exact hj6 _ (if_pos c).symm
    · refine ar_iconst (x := 1) (pc' := 10) hM rfl (by decide) rfl ?_
      refine ar_goto hM rfl ?_
      exact hj6 _ (if_neg c).symm
  rintro _ rfl
  refine ar_istore (pc' := 16) hM rfl rfl rfl rfl ?_
  refine ar_iload_n (pc' := 17) hM rfl rfl rfl ?_
  refine ar_tableIn (off := 117) (t := 134) hM rfl (by decide) (by decide) (by decide) ?_
  refine ar_iload (pc' := 136) hM rfl rfl rfl ?_
  refine ar_if_eq (pc' := 139) hM rfl rfl (fun c136 => ?_) (fun c136 => ?_)
  · refine ar_iconst (x := 0) (pc' := 155) hM rfl (by decide) rfl ?_
    refine ar_ireturn hM rfl (Or.inr (Or.inl rfl)) ?_
    refine ⟨Or.inr ⟨?_, rfl⟩, am_same.rf, hD⟩
    show ¬ (c < T.2.2.1 ∧ m_lk T S1 0 c ≤ nI b)
    grind
  · refine ar_aload_n (pc' := 140) hM rfl rfl rfl ?_
    refine ar_aload_n (pc' := 141) hM rfl rfl rfl ?_
    refine ar_iload (pc' := 143) hM rfl rfl rfl ?_
    refine ar_virtual (pc' := 146) (k3 := 0) (k4 := 0) hM rfl rfl ho0 ⟨rfl, (by decide)⟩ rfl rfl (k_lackOf _ T S1 bl bo hvT hvS1 hT hS1 hD ho0 c (by grind)) (fun r143 w143 q143 => ?_)
    obtain ⟨rfl, hsm, hD2⟩ := q143
    show am_Go 21 (146, [.ref 100, .ref 11, .int 4, .int (nI b), .int (nI c), .int (if (nI T.2.2.1) ≤ (nI c) then 0 else 1)], [.int (m_lk T S1 0 c)], w143, 0, 0) _
    refine ar_iload_n (pc' := 147) hM rfl rfl rfl ?_
    refine ar_icmp_gt (pc' := 150) hM rfl rfl (fun c147 => ?_) (fun c147 => ?_)
    · refine ar_iconst (x := 0) (pc' := 155) hM rfl (by decide) rfl ?_
      refine ar_ireturn hM rfl (Or.inr (Or.inl rfl)) ?_
      refine ⟨Or.inr ⟨?_, rfl⟩, hsm, hD2⟩
      show ¬ (c < T.2.2.1 ∧ m_lk T S1 0 c ≤ nI b)
      grind
    · refine ar_iconst (x := 1) (pc' := 151) hM rfl (by decide) rfl ?_
      refine ar_goto hM rfl ?_
      refine ar_ireturn hM rfl (Or.inr (Or.inr rfl)) ?_
      refine ⟨Or.inl ⟨?_, rfl⟩, hsm, hD2⟩
      show (c < T.2.2.1 ∧ m_lk T S1 0 c ≤ nI b)
      grind
set_option maxRecDepth 100000 in
set_option maxHeartbeats 4000000 in
theorem k_canBe5 (w : am_W) (T : p_D) (S1 : s_S) (bl bo : Int32) (hvT : v_T T) (hvS1 : v_S T.2.2.1 S1) (hT : c_T w 11 T) (hS1 : c_S w 106 T.2.2.1 S1) (hD : c_D w 110) (ho0 : w[100]? = some (.inr (2, [.ref 101, .ref 106, .ref 110, .int bl, .int bo]))) (b c : Nat) (hb : b < 10) (hc : c < 10) : am_Go 21 (0, [.ref 100, .ref 11, .int 5, .int (nI b), .int (nI c), .float 0], [], w, 0, 0) (fun res w' => m_yes (m_can T S1 5 b c) res ∧ am_same (rg 110 8) w w' ∧ c_D w' 110) := by
  have hM : am_P[21]? = some zm_X2_canBe := rfl
  have hn6 : T.2.2.1 ≤ 6 := hvT.1
  have hb0 : nI b = 0 ↔ b = 0 := nI_eq (b := 0) (by omega) (by omega)
  have hc0 : nI c = 0 ↔ c = 0 := nI_eq (b := 0) (by omega) (by omega)
  have hcn : nI T.2.2.1 ≤ nI c ↔ T.2.2.1 ≤ c := nI_leI (by omega) (by omega)
  have hbn : nI T.2.2.1 ≤ nI b ↔ T.2.2.1 ≤ b := nI_leI (by omega) (by omega)
  have hbc : nI b = nI c ↔ b = c := nI_eq (by omega) (by omega)
  refine ar_iload (pc' := 2) hM rfl rfl rfl ?_
  refine ar_aload_n (pc' := 3) hM rfl rfl rfl ?_
  refine ar_getfield (pc' := 6) hM rfl hT.o rfl rfl ?_
  suffices hj6 : ∀ z_6 : Int32, z_6 = (if (nI T.2.2.1) ≤ (nI c) then 0 else 1) → am_Go 21 (14, [.ref 100, .ref 11, .int 5, .int (nI b), .int (nI c), .float 0], [.int z_6], w, 0, 0) _ by
    refine ar_icmp_ge (pc' := 9) hM rfl rfl (fun c => ?_) (fun c => ?_)
    · refine ar_iconst (x := 0) (pc' := 14) hM rfl (by decide) rfl ?_
      exact hj6 _ (if_pos c).symm
    · refine ar_iconst (x := 1) (pc' := 10) hM rfl (by decide) rfl ?_
      refine ar_goto hM rfl ?_
      exact hj6 _ (if_neg c).symm
  rintro _ rfl
  refine ar_istore (pc' := 16) hM rfl rfl rfl rfl ?_
  refine ar_iload_n (pc' := 17) hM rfl rfl rfl ?_
  refine ar_tableOut (t := 156) hM rfl (by decide) (by decide) ?_
  refine ar_iconst (x := 0) (pc' := 157) hM rfl (by decide) rfl ?_
  refine ar_ireturn hM rfl (Or.inr (Or.inl rfl)) ?_
  refine ⟨Or.inr ⟨?_, rfl⟩, am_same.rf, hD⟩
  show ¬ (False)
  grind
set_option maxRecDepth 100000 in
set_option maxHeartbeats 4000000 in
theorem k_canBe6 (w : am_W) (T : p_D) (S1 : s_S) (bl bo : Int32) (hvT : v_T T) (hvS1 : v_S T.2.2.1 S1) (hT : c_T w 11 T) (hS1 : c_S w 106 T.2.2.1 S1) (hD : c_D w 110) (ho0 : w[100]? = some (.inr (2, [.ref 101, .ref 106, .ref 110, .int bl, .int bo]))) (b c : Nat) (hb : b < 10) (hc : c < 10) : am_Go 21 (0, [.ref 100, .ref 11, .int 6, .int (nI b), .int (nI c), .float 0], [], w, 0, 0) (fun res w' => m_yes (m_can T S1 6 b c) res ∧ am_same (rg 110 8) w w' ∧ c_D w' 110) := by
  have hM : am_P[21]? = some zm_X2_canBe := rfl
  have hn6 : T.2.2.1 ≤ 6 := hvT.1
  have hb0 : nI b = 0 ↔ b = 0 := nI_eq (b := 0) (by omega) (by omega)
  have hc0 : nI c = 0 ↔ c = 0 := nI_eq (b := 0) (by omega) (by omega)
  have hcn : nI T.2.2.1 ≤ nI c ↔ T.2.2.1 ≤ c := nI_leI (by omega) (by omega)
  have hbn : nI T.2.2.1 ≤ nI b ↔ T.2.2.1 ≤ b := nI_leI (by omega) (by omega)
  have hbc : nI b = nI c ↔ b = c := nI_eq (by omega) (by omega)
  refine ar_iload (pc' := 2) hM rfl rfl rfl ?_
  refine ar_aload_n (pc' := 3) hM rfl rfl rfl ?_
  refine ar_getfield (pc' := 6) hM rfl hT.o rfl rfl ?_
  suffices hj6 : ∀ z_6 : Int32, z_6 = (if (nI T.2.2.1) ≤ (nI c) then 0 else 1) → am_Go 21 (14, [.ref 100, .ref 11, .int 6, .int (nI b), .int (nI c), .float 0], [.int z_6], w, 0, 0) _ by
    refine ar_icmp_ge (pc' := 9) hM rfl rfl (fun c => ?_) (fun c => ?_)
    · refine ar_iconst (x := 0) (pc' := 14) hM rfl (by decide) rfl ?_
      exact hj6 _ (if_pos c).symm
    · refine ar_iconst (x := 1) (pc' := 10) hM rfl (by decide) rfl ?_
      refine ar_goto hM rfl ?_
      exact hj6 _ (if_neg c).symm
  rintro _ rfl
  refine ar_istore (pc' := 16) hM rfl rfl rfl rfl ?_
  refine ar_iload_n (pc' := 17) hM rfl rfl rfl ?_
  refine ar_tableOut (t := 156) hM rfl (by decide) (by decide) ?_
  refine ar_iconst (x := 0) (pc' := 157) hM rfl (by decide) rfl ?_
  refine ar_ireturn hM rfl (Or.inr (Or.inl rfl)) ?_
  refine ⟨Or.inr ⟨?_, rfl⟩, am_same.rf, hD⟩
  show ¬ (False)
  grind
set_option maxRecDepth 100000 in
set_option maxHeartbeats 4000000 in
theorem k_canBe7 (w : am_W) (T : p_D) (S1 : s_S) (bl bo : Int32) (hvT : v_T T) (hvS1 : v_S T.2.2.1 S1) (hT : c_T w 11 T) (hS1 : c_S w 106 T.2.2.1 S1) (hD : c_D w 110) (ho0 : w[100]? = some (.inr (2, [.ref 101, .ref 106, .ref 110, .int bl, .int bo]))) (b c : Nat) (hb : b < 10) (hc : c < 10) : am_Go 21 (0, [.ref 100, .ref 11, .int 7, .int (nI b), .int (nI c), .float 0], [], w, 0, 0) (fun res w' => m_yes (m_can T S1 7 b c) res ∧ am_same (rg 110 8) w w' ∧ c_D w' 110) := by
  have hM : am_P[21]? = some zm_X2_canBe := rfl
  have hn6 : T.2.2.1 ≤ 6 := hvT.1
  have hb0 : nI b = 0 ↔ b = 0 := nI_eq (b := 0) (by omega) (by omega)
  have hc0 : nI c = 0 ↔ c = 0 := nI_eq (b := 0) (by omega) (by omega)
  have hcn : nI T.2.2.1 ≤ nI c ↔ T.2.2.1 ≤ c := nI_leI (by omega) (by omega)
  have hbn : nI T.2.2.1 ≤ nI b ↔ T.2.2.1 ≤ b := nI_leI (by omega) (by omega)
  have hbc : nI b = nI c ↔ b = c := nI_eq (by omega) (by omega)
  refine ar_iload (pc' := 2) hM rfl rfl rfl ?_
  refine ar_aload_n (pc' := 3) hM rfl rfl rfl ?_
  refine ar_getfield (pc' := 6) hM rfl hT.o rfl rfl ?_
  suffices hj6 : ∀ z_6 : Int32, z_6 = (if (nI T.2.2.1) ≤ (nI c) then 0 else 1) → am_Go 21 (14, [.ref 100, .ref 11, .int 7, .int (nI b), .int (nI c), .float 0], [.int z_6], w, 0, 0) _ by
    refine ar_icmp_ge (pc' := 9) hM rfl rfl (fun c => ?_) (fun c => ?_)
    · refine ar_iconst (x := 0) (pc' := 14) hM rfl (by decide) rfl ?_
      exact hj6 _ (if_pos c).symm
    · refine ar_iconst (x := 1) (pc' := 10) hM rfl (by decide) rfl ?_
      refine ar_goto hM rfl ?_
      exact hj6 _ (if_neg c).symm
  rintro _ rfl
  refine ar_istore (pc' := 16) hM rfl rfl rfl rfl ?_
  refine ar_iload_n (pc' := 17) hM rfl rfl rfl ?_
  refine ar_tableOut (t := 156) hM rfl (by decide) (by decide) ?_
  refine ar_iconst (x := 0) (pc' := 157) hM rfl (by decide) rfl ?_
  refine ar_ireturn hM rfl (Or.inr (Or.inl rfl)) ?_
  refine ⟨Or.inr ⟨?_, rfl⟩, am_same.rf, hD⟩
  show ¬ (False)
  grind
set_option maxRecDepth 100000 in
set_option maxHeartbeats 4000000 in
theorem k_canBe8 (w : am_W) (T : p_D) (S1 : s_S) (bl bo : Int32) (hvT : v_T T) (hvS1 : v_S T.2.2.1 S1) (hT : c_T w 11 T) (hS1 : c_S w 106 T.2.2.1 S1) (hD : c_D w 110) (ho0 : w[100]? = some (.inr (2, [.ref 101, .ref 106, .ref 110, .int bl, .int bo]))) (b c : Nat) (hb : b < 10) (hc : c < 10) : am_Go 21 (0, [.ref 100, .ref 11, .int 8, .int (nI b), .int (nI c), .float 0], [], w, 0, 0) (fun res w' => m_yes (m_can T S1 8 b c) res ∧ am_same (rg 110 8) w w' ∧ c_D w' 110) := by
  have hM : am_P[21]? = some zm_X2_canBe := rfl
  have hn6 : T.2.2.1 ≤ 6 := hvT.1
  have hb0 : nI b = 0 ↔ b = 0 := nI_eq (b := 0) (by omega) (by omega)
  have hc0 : nI c = 0 ↔ c = 0 := nI_eq (b := 0) (by omega) (by omega)
  have hcn : nI T.2.2.1 ≤ nI c ↔ T.2.2.1 ≤ c := nI_leI (by omega) (by omega)
  have hbn : nI T.2.2.1 ≤ nI b ↔ T.2.2.1 ≤ b := nI_leI (by omega) (by omega)
  have hbc : nI b = nI c ↔ b = c := nI_eq (by omega) (by omega)
  refine ar_iload (pc' := 2) hM rfl rfl rfl ?_
  refine ar_aload_n (pc' := 3) hM rfl rfl rfl ?_
  refine ar_getfield (pc' := 6) hM rfl hT.o rfl rfl ?_
  suffices hj6 : ∀ z_6 : Int32, z_6 = (if (nI T.2.2.1) ≤ (nI c) then 0 else 1) → am_Go 21 (14, [.ref 100, .ref 11, .int 8, .int (nI b), .int (nI c), .float 0], [.int z_6], w, 0, 0) _ by
    refine ar_icmp_ge (pc' := 9) hM rfl rfl (fun c => ?_) (fun c => ?_)
    · refine ar_iconst (x := 0) (pc' := 14) hM rfl (by decide) rfl ?_
      exact hj6 _ (if_pos c).symm
    · refine ar_iconst (x := 1) (pc' := 10) hM rfl (by decide) rfl ?_
      refine ar_goto hM rfl ?_
      exact hj6 _ (if_neg c).symm
  rintro _ rfl
  refine ar_istore (pc' := 16) hM rfl rfl rfl rfl ?_
  refine ar_iload_n (pc' := 17) hM rfl rfl rfl ?_
  refine ar_tableOut (t := 156) hM rfl (by decide) (by decide) ?_
  refine ar_iconst (x := 0) (pc' := 157) hM rfl (by decide) rfl ?_
  refine ar_ireturn hM rfl (Or.inr (Or.inl rfl)) ?_
  refine ⟨Or.inr ⟨?_, rfl⟩, am_same.rf, hD⟩
  show ¬ (False)
  grind
set_option maxRecDepth 100000 in
set_option maxHeartbeats 4000000 in
theorem k_canBe9 (w : am_W) (T : p_D) (S1 : s_S) (bl bo : Int32) (hvT : v_T T) (hvS1 : v_S T.2.2.1 S1) (hT : c_T w 11 T) (hS1 : c_S w 106 T.2.2.1 S1) (hD : c_D w 110) (ho0 : w[100]? = some (.inr (2, [.ref 101, .ref 106, .ref 110, .int bl, .int bo]))) (b c : Nat) (hb : b < 10) (hc : c < 10) : am_Go 21 (0, [.ref 100, .ref 11, .int 9, .int (nI b), .int (nI c), .float 0], [], w, 0, 0) (fun res w' => m_yes (m_can T S1 9 b c) res ∧ am_same (rg 110 8) w w' ∧ c_D w' 110) := by
  have hM : am_P[21]? = some zm_X2_canBe := rfl
  have hn6 : T.2.2.1 ≤ 6 := hvT.1
  have hb0 : nI b = 0 ↔ b = 0 := nI_eq (b := 0) (by omega) (by omega)
  have hc0 : nI c = 0 ↔ c = 0 := nI_eq (b := 0) (by omega) (by omega)
  have hcn : nI T.2.2.1 ≤ nI c ↔ T.2.2.1 ≤ c := nI_leI (by omega) (by omega)
  have hbn : nI T.2.2.1 ≤ nI b ↔ T.2.2.1 ≤ b := nI_leI (by omega) (by omega)
  have hbc : nI b = nI c ↔ b = c := nI_eq (by omega) (by omega)
  refine ar_iload (pc' := 2) hM rfl rfl rfl ?_
  refine ar_aload_n (pc' := 3) hM rfl rfl rfl ?_
  refine ar_getfield (pc' := 6) hM rfl hT.o rfl rfl ?_
  suffices hj6 : ∀ z_6 : Int32, z_6 = (if (nI T.2.2.1) ≤ (nI c) then 0 else 1) → am_Go 21 (14, [.ref 100, .ref 11, .int 9, .int (nI b), .int (nI c), .float 0], [.int z_6], w, 0, 0) _ by
    refine ar_icmp_ge (pc' := 9) hM rfl rfl (fun c => ?_) (fun c => ?_)
    · refine ar_iconst (x := 0) (pc' := 14) hM rfl (by decide) rfl ?_
      exact hj6 _ (if_pos c).symm
    · refine ar_iconst (x := 1) (pc' := 10) hM rfl (by decide) rfl ?_
      refine ar_goto hM rfl ?_
      exact hj6 _ (if_neg c).symm
  rintro _ rfl
  refine ar_istore (pc' := 16) hM rfl rfl rfl rfl ?_
  refine ar_iload_n (pc' := 17) hM rfl rfl rfl ?_
  refine ar_tableOut (t := 156) hM rfl (by decide) (by decide) ?_
  refine ar_iconst (x := 0) (pc' := 157) hM rfl (by decide) rfl ?_
  refine ar_ireturn hM rfl (Or.inr (Or.inl rfl)) ?_
  refine ⟨Or.inr ⟨?_, rfl⟩, am_same.rf, hD⟩
  show ¬ (False)
  grind
theorem k_canBe (w : am_W) (T : p_D) (S1 : s_S) (bl bo : Int32) (hvT : v_T T) (hvS1 : v_S T.2.2.1 S1) (hT : c_T w 11 T) (hS1 : c_S w 106 T.2.2.1 S1) (hD : c_D w 110) (ho0 : w[100]? = some (.inr (2, [.ref 101, .ref 106, .ref 110, .int bl, .int bo]))) (a b c : Nat) (ha : a < 10) (hb : b < 10) (hc : c < 10) : am_Go 21 (0, [.ref 100, .ref 11, .int (nI a), .int (nI b), .int (nI c), .float 0], [], w, 0, 0) (fun res w' => m_yes (m_can T S1 a b c) res ∧ am_same (rg 110 8) w w' ∧ c_D w' 110) := by
  match a, ha with
  | 0, _ => exact k_canBe0 w T S1 bl bo hvT hvS1 hT hS1 hD ho0 b c hb hc
  | 1, _ => exact k_canBe1 w T S1 bl bo hvT hvS1 hT hS1 hD ho0 b c hb hc
  | 2, _ => exact k_canBe2 w T S1 bl bo hvT hvS1 hT hS1 hD ho0 b c hb hc
  | 3, _ => exact k_canBe3 w T S1 bl bo hvT hvS1 hT hS1 hD ho0 b c hb hc
  | 4, _ => exact k_canBe4 w T S1 bl bo hvT hvS1 hT hS1 hD ho0 b c hb hc
  | 5, _ => exact k_canBe5 w T S1 bl bo hvT hvS1 hT hS1 hD ho0 b c hb hc
  | 6, _ => exact k_canBe6 w T S1 bl bo hvT hvS1 hT hS1 hD ho0 b c hb hc
  | 7, _ => exact k_canBe7 w T S1 bl bo hvT hvS1 hT hS1 hD ho0 b c hb hc
  | 8, _ => exact k_canBe8 w T S1 bl bo hvT hvS1 hT hS1 hD ho0 b c hb hc
  | 9, _ => exact k_canBe9 w T S1 bl bo hvT hvS1 hT hS1 hD ho0 b c hb hc
  | a + 10, h => omega
set_option maxRecDepth 100000 in
set_option maxHeartbeats 4000000 in
theorem k_carry0 (w : am_W) (T : p_D) (S1 : s_S) (bl bo : Int32) (hvT : v_T T) (hvS1 : v_S T.2.2.1 S1) (hT : c_T w 11 T) (hS1 : c_S w 106 T.2.2.1 S1) (hD : c_D w 110) (ho0 : w[100]? = some (.inr (2, [.ref 101, .ref 106, .ref 110, .int bl, .int bo]))) (b c : Nat) (hb : b < 10) (hc : c < 10) (hcan : m_can T S1 0 b c) : am_Go 23 (0, [.ref 100, .ref 11, .int 0, .int (nI b), .int (nI c)], [], w, 0, 0) (fun res w' => res = none ∧ c_S w' 106 T.2.2.1 (m_do T S1 0 b c) ∧ am_same (rg 106 12) w w' ∧ c_D w' 110) := by
  have hM : am_P[23]? = some zm_X2_carryOut := rfl
  have hn6 : T.2.2.1 ≤ 6 := hvT.1
  refine ar_iload_n (pc' := 1) hM rfl rfl rfl ?_
  refine ar_tableIn (off := 31) (t := 32) hM rfl (by decide) (by decide) (by decide) ?_
  refine ar_aload_n (pc' := 33) hM rfl rfl rfl ?_
  refine ar_getfield (pc' := 36) hM rfl ho0 rfl rfl ?_
  refine ar_aload_n (pc' := 37) hM rfl rfl rfl ?_
  refine ar_aload_n (pc' := 38) hM rfl rfl rfl ?_
  refine ar_getfield (pc' := 41) hM rfl ho0 rfl rfl ?_
  refine ar_virtual (pc' := 44) (k3 := 0) (k4 := 0) hM rfl rfl (hD.o) ⟨rfl, (by decide)⟩ rfl rfl (k_pass _ 110 11 106 T S1 hvT hvS1 hT hS1 hD (by decide) (by decide) (by decide) (by omega) (by omega) (by omega)) (fun r41 w41 q41 => ?_)
  obtain ⟨rfl, hS2, hL2, q41s⟩ := q41
  have hD2 := hL2.d
  have hsm2 : am_same (rg 106 12) w w41 := q41s.mono (fun b hb => by rcases hb with hb | hb <;> unfold rg at * <;> omega)
  show am_Go 23 (44, [.ref 100, .ref 11, .int 0, .int (nI b), .int (nI c)], [], w41, 0, 0) _
  refine ar_goto hM rfl ?_
  refine ar_return hM rfl ?_
  exact ⟨rfl, hS2, hsm2, hD2⟩
set_option maxRecDepth 100000 in
set_option maxHeartbeats 4000000 in
theorem k_carry1 (w : am_W) (T : p_D) (S1 : s_S) (bl bo : Int32) (hvT : v_T T) (hvS1 : v_S T.2.2.1 S1) (hT : c_T w 11 T) (hS1 : c_S w 106 T.2.2.1 S1) (hD : c_D w 110) (ho0 : w[100]? = some (.inr (2, [.ref 101, .ref 106, .ref 110, .int bl, .int bo]))) (b c : Nat) (hb : b < 10) (hc : c < 10) (hcan : m_can T S1 1 b c) : am_Go 23 (0, [.ref 100, .ref 11, .int 1, .int (nI b), .int (nI c)], [], w, 0, 0) (fun res w' => res = none ∧ c_S w' 106 T.2.2.1 (m_do T S1 1 b c) ∧ am_same (rg 106 12) w w' ∧ c_D w' 110) := by
  have hM : am_P[23]? = some zm_X2_carryOut := rfl
  have hn6 : T.2.2.1 ≤ 6 := hvT.1
  refine ar_iload_n (pc' := 1) hM rfl rfl rfl ?_
  refine ar_tableIn (off := 46) (t := 47) hM rfl (by decide) (by decide) (by decide) ?_
  refine ar_aload_n (pc' := 48) hM rfl rfl rfl ?_
  refine ar_getfield (pc' := 51) hM rfl ho0 rfl rfl ?_
  refine ar_iload_n (pc' := 52) hM rfl rfl rfl ?_
  refine ar_iload (pc' := 54) hM rfl rfl rfl ?_
  refine ar_virtual (pc' := 57) (k3 := 0) (k4 := 0) hM rfl rfl (hS1.o) ⟨rfl, (by decide)⟩ rfl rfl (k_exchange _ 106 _ S1 hvS1 hS1 hn6 (by decide) b c hcan.1.2 hcan.1.1) (fun r54 w54 q54 => ?_)
  obtain ⟨rfl, hS2, q54s⟩ := q54
  have hD2 := hD.same q54s (fun b h1 h2 => by unfold rg; omega)
  have hsm2 : am_same (rg 106 12) w w54 := q54s.mono (fun b hb => by unfold rg at *; omega)
  show am_Go 23 (57, [.ref 100, .ref 11, .int 1, .int (nI b), .int (nI c)], [], w54, 0, 0) _
  refine ar_goto hM rfl ?_
  refine ar_return hM rfl ?_
  exact ⟨rfl, hS2, hsm2, hD2⟩
set_option maxRecDepth 100000 in
set_option maxHeartbeats 4000000 in
theorem k_carry2 (w : am_W) (T : p_D) (S1 : s_S) (bl bo : Int32) (hvT : v_T T) (hvS1 : v_S T.2.2.1 S1) (hT : c_T w 11 T) (hS1 : c_S w 106 T.2.2.1 S1) (hD : c_D w 110) (ho0 : w[100]? = some (.inr (2, [.ref 101, .ref 106, .ref 110, .int bl, .int bo]))) (b c : Nat) (hb : b < 10) (hc : c < 10) (hcan : m_can T S1 2 b c) : am_Go 23 (0, [.ref 100, .ref 11, .int 2, .int (nI b), .int (nI c)], [], w, 0, 0) (fun res w' => res = none ∧ c_S w' 106 T.2.2.1 (m_do T S1 2 b c) ∧ am_same (rg 106 12) w w' ∧ c_D w' 110) := by
  have hM : am_P[23]? = some zm_X2_carryOut := rfl
  have hn6 : T.2.2.1 ≤ 6 := hvT.1
  refine ar_iload_n (pc' := 1) hM rfl rfl rfl ?_
  refine ar_tableIn (off := 59) (t := 60) hM rfl (by decide) (by decide) (by decide) ?_
  refine ar_aload_n (pc' := 61) hM rfl rfl rfl ?_
  refine ar_getfield (pc' := 64) hM rfl ho0 rfl rfl ?_
  refine ar_iload (pc' := 66) hM rfl rfl rfl ?_
  refine ar_virtual (pc' := 69) (k3 := 0) (k4 := 0) hM rfl rfl (hS1.o) ⟨rfl, (by decide)⟩ rfl rfl (k_giveSalt _ 106 _ S1 hS1 (by decide) (nI c)) (fun r66 w66 q66 => ?_)
  obtain ⟨rfl, hS2, q66s⟩ := q66
  have hD2 := hD.same q66s (fun b h1 h2 => by unfold rg; omega)
  have hsm2 : am_same (rg 106 12) w w66 := q66s.mono (fun b hb => by unfold rg at *; omega)
  show am_Go 23 (69, [.ref 100, .ref 11, .int 2, .int (nI b), .int (nI c)], [], w66, 0, 0) _
  refine ar_goto hM rfl ?_
  refine ar_return hM rfl ?_
  exact ⟨rfl, hS2, hsm2, hD2⟩
set_option maxRecDepth 100000 in
set_option maxHeartbeats 4000000 in
theorem k_carry3 (w : am_W) (T : p_D) (S1 : s_S) (bl bo : Int32) (hvT : v_T T) (hvS1 : v_S T.2.2.1 S1) (hT : c_T w 11 T) (hS1 : c_S w 106 T.2.2.1 S1) (hD : c_D w 110) (ho0 : w[100]? = some (.inr (2, [.ref 101, .ref 106, .ref 110, .int bl, .int bo]))) (b c : Nat) (hb : b < 10) (hc : c < 10) (hcan : m_can T S1 3 b c) : am_Go 23 (0, [.ref 100, .ref 11, .int 3, .int (nI b), .int (nI c)], [], w, 0, 0) (fun res w' => res = none ∧ c_S w' 106 T.2.2.1 (m_do T S1 3 b c) ∧ am_same (rg 106 12) w w' ∧ c_D w' 110) := by
  have hM : am_P[23]? = some zm_X2_carryOut := rfl
  have hn6 : T.2.2.1 ≤ 6 := hvT.1
  refine ar_iload_n (pc' := 1) hM rfl rfl rfl ?_
  refine ar_tableIn (off := 71) (t := 72) hM rfl (by decide) (by decide) (by decide) ?_
  refine ar_aload_n (pc' := 73) hM rfl rfl rfl ?_
  refine ar_getfield (pc' := 76) hM rfl ho0 rfl rfl ?_
  refine ar_iload (pc' := 78) hM rfl rfl rfl ?_
  refine ar_virtual (pc' := 81) (k3 := 0) (k4 := 0) hM rfl rfl (hS1.o) ⟨rfl, (by decide)⟩ rfl rfl (k_turnAway _ 106 _ S1 hS1 (by decide) (nI c)) (fun r78 w78 q78 => ?_)
  obtain ⟨rfl, hS2, q78s⟩ := q78
  have hD2 := hD.same q78s (fun b h1 h2 => by unfold rg; omega)
  have hsm2 : am_same (rg 106 12) w w78 := q78s.mono (fun b hb => by unfold rg at *; omega)
  show am_Go 23 (81, [.ref 100, .ref 11, .int 3, .int (nI b), .int (nI c)], [], w78, 0, 0) _
  refine ar_goto hM rfl ?_
  refine ar_return hM rfl ?_
  exact ⟨rfl, hS2, hsm2, hD2⟩
set_option maxRecDepth 100000 in
set_option maxHeartbeats 4000000 in
theorem k_carry4 (w : am_W) (T : p_D) (S1 : s_S) (bl bo : Int32) (hvT : v_T T) (hvS1 : v_S T.2.2.1 S1) (hT : c_T w 11 T) (hS1 : c_S w 106 T.2.2.1 S1) (hD : c_D w 110) (ho0 : w[100]? = some (.inr (2, [.ref 101, .ref 106, .ref 110, .int bl, .int bo]))) (b c : Nat) (hb : b < 10) (hc : c < 10) (hcan : m_can T S1 4 b c) : am_Go 23 (0, [.ref 100, .ref 11, .int 4, .int (nI b), .int (nI c)], [], w, 0, 0) (fun res w' => res = none ∧ c_S w' 106 T.2.2.1 (m_do T S1 4 b c) ∧ am_same (rg 106 12) w w' ∧ c_D w' 110) := by
  have hM : am_P[23]? = some zm_X2_carryOut := rfl
  have hn6 : T.2.2.1 ≤ 6 := hvT.1
  refine ar_iload_n (pc' := 1) hM rfl rfl rfl ?_
  refine ar_tableOut (t := 84) hM rfl (by decide) (by decide) ?_
  refine ar_return hM rfl ?_
  exact ⟨rfl, hS1, am_same.rf, hD⟩
set_option maxRecDepth 100000 in
set_option maxHeartbeats 4000000 in
theorem k_carry5 (w : am_W) (T : p_D) (S1 : s_S) (bl bo : Int32) (hvT : v_T T) (hvS1 : v_S T.2.2.1 S1) (hT : c_T w 11 T) (hS1 : c_S w 106 T.2.2.1 S1) (hD : c_D w 110) (ho0 : w[100]? = some (.inr (2, [.ref 101, .ref 106, .ref 110, .int bl, .int bo]))) (b c : Nat) (hb : b < 10) (hc : c < 10) (hcan : m_can T S1 5 b c) : am_Go 23 (0, [.ref 100, .ref 11, .int 5, .int (nI b), .int (nI c)], [], w, 0, 0) (fun res w' => res = none ∧ c_S w' 106 T.2.2.1 (m_do T S1 5 b c) ∧ am_same (rg 106 12) w w' ∧ c_D w' 110) := by
  have hM : am_P[23]? = some zm_X2_carryOut := rfl
  have hn6 : T.2.2.1 ≤ 6 := hvT.1
  refine ar_iload_n (pc' := 1) hM rfl rfl rfl ?_
  refine ar_tableOut (t := 84) hM rfl (by decide) (by decide) ?_
  refine ar_return hM rfl ?_
  exact ⟨rfl, hS1, am_same.rf, hD⟩
set_option maxRecDepth 100000 in
set_option maxHeartbeats 4000000 in
theorem k_carry6 (w : am_W) (T : p_D) (S1 : s_S) (bl bo : Int32) (hvT : v_T T) (hvS1 : v_S T.2.2.1 S1) (hT : c_T w 11 T) (hS1 : c_S w 106 T.2.2.1 S1) (hD : c_D w 110) (ho0 : w[100]? = some (.inr (2, [.ref 101, .ref 106, .ref 110, .int bl, .int bo]))) (b c : Nat) (hb : b < 10) (hc : c < 10) (hcan : m_can T S1 6 b c) : am_Go 23 (0, [.ref 100, .ref 11, .int 6, .int (nI b), .int (nI c)], [], w, 0, 0) (fun res w' => res = none ∧ c_S w' 106 T.2.2.1 (m_do T S1 6 b c) ∧ am_same (rg 106 12) w w' ∧ c_D w' 110) := by
  have hM : am_P[23]? = some zm_X2_carryOut := rfl
  have hn6 : T.2.2.1 ≤ 6 := hvT.1
  refine ar_iload_n (pc' := 1) hM rfl rfl rfl ?_
  refine ar_tableOut (t := 84) hM rfl (by decide) (by decide) ?_
  refine ar_return hM rfl ?_
  exact ⟨rfl, hS1, am_same.rf, hD⟩
set_option maxRecDepth 100000 in
set_option maxHeartbeats 4000000 in
theorem k_carry7 (w : am_W) (T : p_D) (S1 : s_S) (bl bo : Int32) (hvT : v_T T) (hvS1 : v_S T.2.2.1 S1) (hT : c_T w 11 T) (hS1 : c_S w 106 T.2.2.1 S1) (hD : c_D w 110) (ho0 : w[100]? = some (.inr (2, [.ref 101, .ref 106, .ref 110, .int bl, .int bo]))) (b c : Nat) (hb : b < 10) (hc : c < 10) (hcan : m_can T S1 7 b c) : am_Go 23 (0, [.ref 100, .ref 11, .int 7, .int (nI b), .int (nI c)], [], w, 0, 0) (fun res w' => res = none ∧ c_S w' 106 T.2.2.1 (m_do T S1 7 b c) ∧ am_same (rg 106 12) w w' ∧ c_D w' 110) := by
  have hM : am_P[23]? = some zm_X2_carryOut := rfl
  have hn6 : T.2.2.1 ≤ 6 := hvT.1
  refine ar_iload_n (pc' := 1) hM rfl rfl rfl ?_
  refine ar_tableOut (t := 84) hM rfl (by decide) (by decide) ?_
  refine ar_return hM rfl ?_
  exact ⟨rfl, hS1, am_same.rf, hD⟩
set_option maxRecDepth 100000 in
set_option maxHeartbeats 4000000 in
theorem k_carry8 (w : am_W) (T : p_D) (S1 : s_S) (bl bo : Int32) (hvT : v_T T) (hvS1 : v_S T.2.2.1 S1) (hT : c_T w 11 T) (hS1 : c_S w 106 T.2.2.1 S1) (hD : c_D w 110) (ho0 : w[100]? = some (.inr (2, [.ref 101, .ref 106, .ref 110, .int bl, .int bo]))) (b c : Nat) (hb : b < 10) (hc : c < 10) (hcan : m_can T S1 8 b c) : am_Go 23 (0, [.ref 100, .ref 11, .int 8, .int (nI b), .int (nI c)], [], w, 0, 0) (fun res w' => res = none ∧ c_S w' 106 T.2.2.1 (m_do T S1 8 b c) ∧ am_same (rg 106 12) w w' ∧ c_D w' 110) := by
  have hM : am_P[23]? = some zm_X2_carryOut := rfl
  have hn6 : T.2.2.1 ≤ 6 := hvT.1
  refine ar_iload_n (pc' := 1) hM rfl rfl rfl ?_
  refine ar_tableOut (t := 84) hM rfl (by decide) (by decide) ?_
  refine ar_return hM rfl ?_
  exact ⟨rfl, hS1, am_same.rf, hD⟩
set_option maxRecDepth 100000 in
set_option maxHeartbeats 4000000 in
theorem k_carry9 (w : am_W) (T : p_D) (S1 : s_S) (bl bo : Int32) (hvT : v_T T) (hvS1 : v_S T.2.2.1 S1) (hT : c_T w 11 T) (hS1 : c_S w 106 T.2.2.1 S1) (hD : c_D w 110) (ho0 : w[100]? = some (.inr (2, [.ref 101, .ref 106, .ref 110, .int bl, .int bo]))) (b c : Nat) (hb : b < 10) (hc : c < 10) (hcan : m_can T S1 9 b c) : am_Go 23 (0, [.ref 100, .ref 11, .int 9, .int (nI b), .int (nI c)], [], w, 0, 0) (fun res w' => res = none ∧ c_S w' 106 T.2.2.1 (m_do T S1 9 b c) ∧ am_same (rg 106 12) w w' ∧ c_D w' 110) := by
  have hM : am_P[23]? = some zm_X2_carryOut := rfl
  have hn6 : T.2.2.1 ≤ 6 := hvT.1
  refine ar_iload_n (pc' := 1) hM rfl rfl rfl ?_
  refine ar_tableOut (t := 84) hM rfl (by decide) (by decide) ?_
  refine ar_return hM rfl ?_
  exact ⟨rfl, hS1, am_same.rf, hD⟩
theorem k_carry (w : am_W) (T : p_D) (S1 : s_S) (bl bo : Int32) (hvT : v_T T) (hvS1 : v_S T.2.2.1 S1) (hT : c_T w 11 T) (hS1 : c_S w 106 T.2.2.1 S1) (hD : c_D w 110) (ho0 : w[100]? = some (.inr (2, [.ref 101, .ref 106, .ref 110, .int bl, .int bo]))) (a b c : Nat) (ha : a < 10) (hb : b < 10) (hc : c < 10) (hcan : m_can T S1 a b c) : am_Go 23 (0, [.ref 100, .ref 11, .int (nI a), .int (nI b), .int (nI c)], [], w, 0, 0) (fun res w' => res = none ∧ c_S w' 106 T.2.2.1 (m_do T S1 a b c) ∧ am_same (rg 106 12) w w' ∧ c_D w' 110) := by
  match a, ha, hcan with
  | 0, _, hcan => exact k_carry0 w T S1 bl bo hvT hvS1 hT hS1 hD ho0 b c hb hc hcan
  | 1, _, hcan => exact k_carry1 w T S1 bl bo hvT hvS1 hT hS1 hD ho0 b c hb hc hcan
  | 2, _, hcan => exact k_carry2 w T S1 bl bo hvT hvS1 hT hS1 hD ho0 b c hb hc hcan
  | 3, _, hcan => exact k_carry3 w T S1 bl bo hvT hvS1 hT hS1 hD ho0 b c hb hc hcan
  | 4, _, hcan => exact k_carry4 w T S1 bl bo hvT hvS1 hT hS1 hD ho0 b c hb hc hcan
  | 5, _, hcan => exact k_carry5 w T S1 bl bo hvT hvS1 hT hS1 hD ho0 b c hb hc hcan
  | 6, _, hcan => exact k_carry6 w T S1 bl bo hvT hvS1 hT hS1 hD ho0 b c hb hc hcan
  | 7, _, hcan => exact k_carry7 w T S1 bl bo hvT hvS1 hT hS1 hD ho0 b c hb hc hcan
  | 8, _, hcan => exact k_carry8 w T S1 bl bo hvT hvS1 hT hS1 hD ho0 b c hb hc hcan
  | 9, _, hcan => exact k_carry9 w T S1 bl bo hvT hvS1 hT hS1 hD ho0 b c hb hc hcan
  | a + 10, h, _ => omega
theorem l_wd_N : ∀ (k R : Nat), R < 2 ^ 63 → l_wd (lN R) k = lN (R / 1000 ^ k)
  | 0, R, _ => by show lN R = lN (R / 1); rw [Nat.div_one]
  | k + 1, R, h => by
    show l_wd (lN R) k / 1000 = _
    rw [l_wd_N k R h, show (1000 : Int64) = lN 1000 from rfl, pk_lDiv (Nat.lt_of_le_of_lt (Nat.div_le_self _ _) h) (by decide) (by decide), Nat.div_div_eq_div_mul, Nat.pow_succ]
theorem l_toI {m : Nat} (h : m < 2 ^ 31) : Int64.toInt32 (lN m) = nI m := by
  rw [← nI_l h]; exact Int32.toInt32_toInt64 _
/-- the doing at a place -/
def m_dg (n R j : Nat) : Nat := R / 1000 ^ (n - 1 - j) % 1000
/-- the standing after the first doings, if they can be -/
def m_jd (T : p_D) (S : s_S) (n R : Nat) : Nat → s_S
  | 0 => S
  | j + 1 => m_do T (m_jd T S n R j) (m_dg n R j / 100) (m_dg n R j / 10 % 10) (m_dg n R j % 10)
def m_ok (T : p_D) (S : s_S) (n R j : Nat) : Prop := m_can T (m_jd T S n R j) (m_dg n R j / 100) (m_dg n R j / 10 % 10) (m_dg n R j % 10)
/-- the first doing that cannot be -/
def m_jr (T : p_D) (S : s_S) (n R : Nat) (r : Option Value) : Prop := (∃ j, j < n ∧ ¬ m_ok T S n R j ∧ (∀ i, i < j → m_ok T S n R i) ∧ r = some (.int (nI j))) ∨ ((∀ i, i < n → m_ok T S n R i) ∧ r = some (.int (-9)))
theorem m_jd_v {T : p_D} {S : s_S} {n R : Nat} (hn : T.2.2.1 ≤ 6) (h : v_S T.2.2.1 S) : ∀ j, S.2.2.2.2.2.2 + j < 2 ^ 30 → (∀ i, i < j → m_ok T S n R i) → v_S T.2.2.1 (m_jd T S n R j) ∧ (m_jd T S n R j).2.2.2.2.2.2 ≤ S.2.2.2.2.2.2 + j
  | 0, _, _ => ⟨h, Nat.le_refl _⟩
  | j + 1, hd, hi => by
    obtain ⟨a1, a2⟩ := m_jd_v hn h j (by omega) (fun i q => hi i (by omega))
    obtain ⟨b1, b2⟩ := m_do_v hn a1 (by omega) rfl (hi j (by omega))
    exact ⟨b1, Nat.le_trans b2 (by omega)⟩
set_option maxRecDepth 100000 in
set_option maxHeartbeats 4000000 in
theorem k_firstNotSo (w : am_W) (T : p_D) (S : s_S) (bl bo : Int32) (hvT : v_T T) (hvS : v_S T.2.2.1 S) (hT : c_T w 11 T) (hN : c_S w 16 T.2.2.1 S) (hR : c_R w 106) (hD : c_D w 110) (ho0 : w[100]? = some (.inr (2, [.ref 101, .ref 106, .ref 110, .int bl, .int bo]))) (hdy : S.2.2.2.2.2.2 + 10 < 2 ^ 30) (k R : Nat) (hk : k ≤ 4) (hRR : R < 2 ^ 63) : am_Go 20 (0, [.ref 100, .ref 11, .ref 16, .int (nI k), .long (lN R), .float 0, .float 0, .float 0, .float 0, .float 0, .float 0], [], w, 0, 0) (fun res w' => m_jr T S k R res ∧ am_same (rg 106 12) w w' ∧ c_R w' 106 ∧ c_D w' 110) := by
  have hM : am_P[20]? = some zm_X2_firstNotSo := rfl
  have ht0 : w[11]? = some (.inr (9, [.int T.1, .int T.2.1, .int (nI T.2.2.1), .int (nI T.2.2.2.1), .ref 12, .ref 13, .ref 14, .ref 15])) := by obtain ⟨_, _, _, _, h, -⟩ := hT; exact h
  have hn6 : T.2.2.1 ≤ 6 := hvT.1
  obtain ⟨_, _, _, x6, y6, z6, hr6, -⟩ := id hR
  refine ar_aload_n (pc' := 1) hM rfl rfl rfl ?_
  refine ar_getfield (pc' := 4) hM rfl ho0 rfl rfl ?_
  refine ar_aload_n (pc' := 5) hM rfl rfl rfl ?_
  refine ar_virtual (pc' := 8) (k3 := 0) (k4 := 0) hM rfl rfl hr6 ⟨rfl, (by decide)⟩ rfl rfl (k_copyR _ 106 16 _ S hR hN hn6 (by decide) (by decide) (by omega)) (fun r5 w5 q5 => ?_)
  obtain ⟨rfl, hS1, q5s⟩ := q5
  have hsm0 : am_same (rg 106 12) w w5 := q5s.mono (fun b hb => by unfold rg at *; omega)
  show am_Go 20 (8, [.ref 100, .ref 11, .ref 16, .int (nI k), .long (lN R), .float 0, .float 0, .float 0, .float 0, .float 0, .float 0], [], w5, 0, 0) _
  refine ar_iconst (x := 0) (pc' := 9) hM rfl (by decide) rfl ?_
  refine ar_istore (pc' := 11) hM rfl rfl rfl rfl ?_
  have loop : ∀ (dj j : Nat) (wj : am_W) (z7 : Value) (z8 : Value) (z9 : Value) (z10 : Value), dj + j = k → (∀ i, i < j → m_ok T S k R i) → (c_S wj 106 T.2.2.1 (m_jd T S k R j)) → (c_D wj 110) → (am_same (rg 106 12) w wj) → am_Go 20 (11, [.ref 100, .ref 11, .ref 16, .int (nI k), .long (lN R), .float 0, .int (nI j), z7, z8, z9, z10], [], wj, 0, 0) (fun res w' => m_jr T S k R res ∧ am_same (rg 106 12) w w' ∧ c_R w' 106 ∧ c_D w' 110) := by
    intro dj
    induction dj with
    | zero =>
      intro j wj z7 z8 z9 z10 hj hall hS hD hsm
      refine ar_iload (pc' := 13) hM rfl rfl rfl ?_
      refine ar_iload_n (pc' := 14) hM rfl rfl rfl ?_
      refine ar_icmp_ge (pc' := 17) hM rfl rfl (fun _ => ?_) (fun q => absurd (nI_le (a := k) (b := j) (by omega) (by omega)) q)
      refine ar_bipush (x := (-9)) (pc' := 95) hM rfl (by decide) rfl ?_
      refine ar_ireturn hM rfl (Or.inl rfl) ?_
      exact ⟨Or.inr ⟨fun i hi => hall i (by omega), rfl⟩, hsm, hS.r, hD⟩
    | succ dj ih =>
      intro j wj z7 z8 z9 z10 hj hall hS hD hsm
      have hvj := (m_jd_v hn6 hvS j (by omega) hall).1
      have hd0 : m_dg k R j < 1000 := Nat.mod_lt _ (by decide)
      have hd1 : m_dg k R j / 100 < 10 := by omega
      have hd2 : m_dg k R j / 10 % 10 < 10 := by omega
      have hd3 : m_dg k R j % 10 < 10 := by omega
      refine ar_iload (pc' := 13) hM rfl rfl rfl ?_
      refine ar_iload_n (pc' := 14) hM rfl rfl rfl ?_
      refine ar_icmp_ge (pc' := 17) hM rfl rfl (fun q => absurd q (nI_ge (a := j) (b := k) (by omega) (by omega))) (fun _ => ?_)
      refine ar_lload (pc' := 19) hM rfl rfl rfl ?_
      refine ar_iload_n (pc' := 20) hM rfl rfl rfl ?_
      refine ar_iconst (x := 1) (pc' := 21) hM rfl (by decide) rfl ?_
      refine ar_isub (pc' := 22) hM rfl rfl ?_
      refine ar_iload (pc' := 24) hM rfl rfl rfl ?_
      refine ar_isub (pc' := 25) hM rfl rfl ?_
      rw [show (((nI k) - 1) - (nI j) : Int32) = nI (k - 1 - j) from (by rw [i_pred (by omega), pk_sub (by omega)])]
      refine ar_static (pc' := 28) (k3 := 0) (k4 := 0) hM rfl (by decide) rfl rfl (c_withoutDoings _ (lN R) (k - 1 - j) (by omega)) (fun r25 w25 q25 => ?_)
      obtain ⟨rfl, q25w⟩ := q25
      rw [q25w]
      show am_Go 20 (28, [.ref 100, .ref 11, .ref 16, .int (nI k), .long (lN R), .float 0, .int (nI j), z7, z8, z9, z10], [.long (l_wd (lN R) (k - 1 - j))], wj, 0, 0) _
      refine ar_ldc2_w (x := 1000) (pc' := 31) hM rfl (by decide) rfl ?_
      refine ar_lrem (pc' := 32) hM rfl (by decide) rfl ?_
      refine ar_l2i (pc' := 33) hM rfl rfl ?_
      rw [show (Int64.toInt32 ((l_wd (lN R) (k - 1 - j)) - (l_wd (lN R) (k - 1 - j)) / 1000 * 1000) : Int32) = nI (m_dg k R j) from (by rw [l_wd_N _ _ hRR, show (1000 : Int64) = lN 1000 from rfl, pk_lRem (Nat.lt_of_le_of_lt (Nat.div_le_self _ _) hRR) (by decide) (by decide)]; exact l_toI (by omega))]
      refine ar_istore (pc' := 35) hM rfl rfl rfl rfl ?_
      refine ar_iload (pc' := 37) hM rfl rfl rfl ?_
      refine ar_bipush (x := 100) (pc' := 39) hM rfl (by decide) rfl ?_
      refine ar_idiv (pc' := 40) hM rfl (by decide) rfl ?_
      rw [show ((nI (m_dg k R j)) / 100 : Int32) = nI ((m_dg k R j) / 100) from (pk_div (d := 100) (by omega) (by decide) (by decide))]
      refine ar_istore (pc' := 42) hM rfl rfl rfl rfl ?_
      refine ar_iload (pc' := 44) hM rfl rfl rfl ?_
      refine ar_bipush (x := 10) (pc' := 46) hM rfl (by decide) rfl ?_
      refine ar_idiv (pc' := 47) hM rfl (by decide) rfl ?_
      rw [show ((nI (m_dg k R j)) / 10 : Int32) = nI ((m_dg k R j) / 10) from (pk_div (d := 10) (by omega) (by decide) (by decide))]
      refine ar_bipush (x := 10) (pc' := 49) hM rfl (by decide) rfl ?_
      refine ar_irem (pc' := 50) hM rfl (by decide) rfl ?_
      rw [show ((nI ((m_dg k R j) / 10)) - (nI ((m_dg k R j) / 10)) / 10 * 10 : Int32) = nI ((m_dg k R j) / 10 % 10) from (pk_rem (d := 10) (by omega) (by decide) (by decide))]
      refine ar_istore (pc' := 52) hM rfl rfl rfl rfl ?_
      refine ar_iload (pc' := 54) hM rfl rfl rfl ?_
      refine ar_bipush (x := 10) (pc' := 56) hM rfl (by decide) rfl ?_
      refine ar_irem (pc' := 57) hM rfl (by decide) rfl ?_
      rw [show ((nI (m_dg k R j)) - (nI (m_dg k R j)) / 10 * 10 : Int32) = nI ((m_dg k R j) % 10) from (pk_rem (d := 10) (by omega) (by decide) (by decide))]
      refine ar_istore (pc' := 59) hM rfl rfl rfl rfl ?_
      refine ar_aload_n (pc' := 60) hM rfl rfl rfl ?_
      refine ar_aload_n (pc' := 61) hM rfl rfl rfl ?_
      refine ar_iload (pc' := 63) hM rfl rfl rfl ?_
      refine ar_iload (pc' := 65) hM rfl rfl rfl ?_
      refine ar_iload (pc' := 67) hM rfl rfl rfl ?_
      refine ar_virtual (pc' := 70) (k3 := 0) (k4 := 0) hM rfl rfl (hsm.at (by unfold rg; omega) ho0) ⟨rfl, (by decide)⟩ rfl rfl (k_canBe _ T (m_jd T S k R j) bl bo hvT hvj (hT.same hsm (fun b h1 h2 => by unfold rg; omega)) hS hD (hsm.at (by unfold rg; omega) ho0) _ _ _ hd1 hd2 hd3) (fun r67 w67 q67 => ?_)
      obtain ⟨hy, q67s, hD2⟩ := q67
      have hsm2 : am_same (rg 106 12) w w67 := hsm.tr (q67s.mono (fun b hb => by unfold rg at *; omega))
      have hS2 := hS.same q67s (fun b h1 h2 => by unfold rg; omega)
      obtain ⟨z67, rfl, hy⟩ : ∃ z, r67 = some (.int z) ∧ m_yes (m_ok T S k R j) (some (.int z)) := by rcases hy with ⟨y1, rfl⟩ | ⟨y1, rfl⟩; exact ⟨1, rfl, Or.inl ⟨y1, rfl⟩⟩; exact ⟨0, rfl, Or.inr ⟨y1, rfl⟩⟩
      show am_Go 20 (70, [.ref 100, .ref 11, .ref 16, .int (nI k), .long (lN R), .float 0, .int (nI j), .int (nI (m_dg k R j)), .int (nI ((m_dg k R j) / 100)), .int (nI ((m_dg k R j) / 10 % 10)), .int (nI ((m_dg k R j) % 10))], [.int z67], w67, 0, 0) _
      refine ar_if_ne (pc' := 73) hM rfl rfl (fun c70 => ?_) (fun c70 => ?_)
      · have hok : m_ok T S k R j := by rcases hy with ⟨y1, _⟩ | ⟨_, y2⟩; exact y1; cases y2; exact absurd rfl c70
        refine ar_aload_n (pc' := 77) hM rfl rfl rfl ?_
        refine ar_aload_n (pc' := 78) hM rfl rfl rfl ?_
        refine ar_iload (pc' := 80) hM rfl rfl rfl ?_
        refine ar_iload (pc' := 82) hM rfl rfl rfl ?_
        refine ar_iload (pc' := 84) hM rfl rfl rfl ?_
        refine ar_virtual (pc' := 87) (k3 := 0) (k4 := 0) hM rfl rfl (hsm2.at (by unfold rg; omega) ho0) ⟨rfl, (by decide)⟩ rfl rfl (k_carry _ T (m_jd T S k R j) bl bo hvT hvj (hT.same hsm2 (fun b h1 h2 => by unfold rg; omega)) hS2 hD2 (hsm2.at (by unfold rg; omega) ho0) _ _ _ hd1 hd2 hd3 hok) (fun r84 w84 q84 => ?_)
        obtain ⟨rfl, hS3, q84s, hD3⟩ := q84
        have hsm3 : am_same (rg 106 12) w w84 := hsm2.tr q84s
        show am_Go 20 (87, [.ref 100, .ref 11, .ref 16, .int (nI k), .long (lN R), .float 0, .int (nI j), .int (nI (m_dg k R j)), .int (nI ((m_dg k R j) / 100)), .int (nI ((m_dg k R j) / 10 % 10)), .int (nI ((m_dg k R j) % 10))], [], w84, 0, 0) _
        refine ar_iinc (z := nI (j + 1)) (pc' := 90) hM rfl rfl (nI_1 _) rfl rfl rfl ?_
        refine ar_goto hM rfl ?_
        exact ih (j + 1) w84 (.int (nI (m_dg k R j))) (.int (nI ((m_dg k R j) / 100))) (.int (nI ((m_dg k R j) / 10 % 10))) (.int (nI ((m_dg k R j) % 10))) (by omega) (fun i hi => by rcases Nat.lt_or_ge i j with q | q; exact hall i q; rw [show i = j by omega]; exact hok) hS3 hD3 hsm3
      · refine ar_iload (pc' := 75) hM rfl rfl rfl ?_
        refine ar_ireturn hM rfl (Or.inl rfl) ?_
        exact ⟨Or.inl ⟨j, by omega, (by rcases hy with ⟨_, y2⟩ | ⟨y1, _⟩; (cases y2; exact absurd c70 (by decide)); exact y1), hall, rfl⟩, hsm2, hS2.r, hD2⟩
  exact loop (k) 0 w5 (.float 0) (.float 0) (.float 0) (.float 0) (by omega) (fun i hi => by omega) hS1 (hD.same q5s (fun b h1 h2 => by unfold rg; omega)) hsm0
