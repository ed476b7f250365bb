/-! Today: what each house wants and says, what it is given -/
def i_bt (x : Int32) (h : Nat) : Prop := (x >>> (nI h &&& 31)) &&& 1 = 1
def i_wnt (wa ki : Nat → Int32) (ht sa aw g : Int32) (h : Nat) : Int32 := if (aw >>> (nI h &&& 31)) &&& 1 = 1 then 0 else i_wbk (wa h) (ki h) + ht + (if (sa >>> (nI h &&& 31)) &&& 1 = 1 then 3 else 0) + (if (g >>> (nI h &&& 31)) &&& 1 = 1 then 2 else 0)
def i_say (wa ki : Nat → Int32) (ht sa aw g : Int32) (h : Nat) : Int32 := if (aw >>> (nI h &&& 31)) &&& 1 = 1 then 0 else i_wnt wa ki ht sa aw g h + i_lie (ki h)
theorem i_if0 {P : Prop} [Decidable P] (a b : Int32) : (if (if P then (1 : Int32) else 0) = 0 then a else b) = if P then b else a := by
  by_cases q : P
  · rw [if_pos q, if_pos q, if_neg (by decide)]
  · rw [if_neg q, if_neg q, if_pos rfl]
set_option maxRecDepth 100000 in
set_option maxHeartbeats 4000000 in
theorem c_hear (w : am_W) (d : Nat) (h2d : 2 ≤ d) (tr ri : Int32) (n kk : Nat) (wa ki ba he : Nat → Int32) (ht0 : w[d]? = some (.inr (9, [.int tr, .int ri, .int (nI n), .int (nI kk), .ref (d + 1), .ref (d + 2), .ref (d + 3), .ref (d + 4)]))) (ht1 : w[d + 1]? = some (.inl (0, 6, .inl wa))) (ht2 : w[d + 2]? = some (.inl (0, 6, .inl ki))) (ht3 : w[d + 3]? = some (.inl (0, 6, .inl ba))) (ht4 : w[d + 4]? = some (.inl (0, 5, .inl he))) (hn : n ≤ 6) (hkk : kk ≤ 5) (s : Nat) (h2s : 2 ≤ s) (so ss sl : Nat → Int32) (sa sw : Int32) (dy : Nat) (hdy : dy < 2 ^ 31) (hs0 : w[s]? = some (.inr (6, [.ref (s + 1), .ref (s + 2), .ref (s + 3), .int sa, .int sw, .int (nI dy)]))) (hs1 : w[s + 1]? = some (.inl (0, 6, .inl so))) (hs2 : w[s + 2]? = some (.inl (0, 6, .inl ss))) (hs3 : w[s + 3]? = some (.inl (0, 6, .inl sl))) (t : Nat) (h2t : 2 ≤ t) (dw ds dg dd dl df dv : Nat → Int32) (hd0 : w[t]? = some (.inr (8, [.ref (t + 1), .ref (t + 2), .ref (t + 3), .ref (t + 4), .ref (t + 5), .ref (t + 6), .ref (t + 7)]))) (hd1 : w[t + 1]? = some (.inl (0, 6, .inl dw))) (hd2 : w[t + 2]? = some (.inl (0, 6, .inl ds))) (hd3 : w[t + 3]? = some (.inl (0, 6, .inl dg))) (hd4 : w[t + 4]? = some (.inl (0, 6, .inl dd))) (hd5 : w[t + 5]? = some (.inl (0, 6, .inl dl))) (hd6 : w[t + 6]? = some (.inl (0, 6, .inl df))) (hd7 : w[t + 7]? = some (.inl (0, 6, .inl dv))) (j1 : t + 8 ≤ d ∨ d + 5 ≤ t) (j2 : t + 8 ≤ s ∨ s + 4 ≤ t) (j3 : d + 5 ≤ s ∨ s + 4 ≤ d) (g : Int32) : am_Go 55 (0, [.ref t, .ref d, .ref s, .int g, .float 0, .float 0, .float 0, .float 0], [], w, 0, 0) (fun res w' => ∃ fw fs, res = none ∧ w' = (w.set (t + 1) (.inl (0, 6, .inl fw))).set (t + 2) (.inl (0, 6, .inl fs)) ∧ (∀ h, h < n → fw h = i_wnt wa ki (i_heat kk he dy) sa sw g h) ∧ (∀ h, h < n → fs h = i_say wa ki (i_heat kk he dy) sa sw g h)) := by
  have hM : am_P[55]? = some zm_X8_hear := rfl
  refine ar_aload_n (pc' := 1) hM rfl rfl rfl ?_
  refine ar_aload_n (pc' := 2) hM rfl rfl rfl ?_
  refine ar_getfield (pc' := 5) hM rfl hs0 rfl rfl ?_
  refine ar_virtual (pc' := 8) (k3 := 0) (k4 := 0) hM rfl rfl ht0 ⟨rfl, (by omega)⟩ rfl rfl (c_heatOn _ d (by omega) _ _ _ _ _ _ _ _ ht0 ht1 ht2 ht3 ht4 dy hdy hkk) (fun r5 w5 q5 => ?_)
  obtain ⟨rfl, q5w⟩ := q5
  rw [q5w]
  show am_Go 55 (8, [.ref t, .ref d, .ref s, .int g, .float 0, .float 0, .float 0, .float 0], [.int (i_heat kk he dy)], w, 0, 0) _
  refine ar_istore (pc' := 10) hM rfl rfl rfl rfl ?_
  refine ar_iconst (x := 0) (pc' := 11) hM rfl (by decide) rfl ?_
  refine ar_istore (pc' := 13) hM rfl rfl rfl rfl ?_
  have loop : ∀ (dj j : Nat) (fw : Nat → Int32) (fs : Nat → Int32) (z6 : Value) (z7 : Value), dj + j = n → (∀ p, p < j → fw p = i_wnt wa ki (i_heat kk he dy) sa sw g p) → (∀ p, p < j → fs p = i_say wa ki (i_heat kk he dy) sa sw g p) → am_Go 55 (13, [.ref t, .ref d, .ref s, .int g, .int (i_heat kk he dy), .int (nI j), z6, z7], [], ((w.set (t + 1) (.inl (0, 6, .inl fw))).set (t + 2) (.inl (0, 6, .inl fs))), 0, 0) (fun res w' => ∃ fw fs, res = none ∧ w' = (w.set (t + 1) (.inl (0, 6, .inl fw))).set (t + 2) (.inl (0, 6, .inl fs)) ∧ (∀ h, h < n → fw h = i_wnt wa ki (i_heat kk he dy) sa sw g h) ∧ (∀ h, h < n → fs h = i_say wa ki (i_heat kk he dy) sa sw g h)) := by
    intro dj
    induction dj with
    | zero =>
      intro j fw fs z6 z7 hj hfw hfs
      refine ar_iload (pc' := 15) hM rfl rfl rfl ?_
      refine ar_aload_n (pc' := 16) hM rfl rfl rfl ?_
      refine ar_getfield (pc' := 19) hM rfl (am_gn (by omega) (am_gn (by omega) ht0)) rfl rfl ?_
      refine ar_icmp_ge (pc' := 22) hM rfl rfl (fun _ => ?_) (fun q => absurd (nI_le (a := n) (b := j) (by omega) (by omega)) q)
      refine ar_return hM rfl ?_
      exact ⟨fw, fs, rfl, rfl, fun p hp => hfw p (by omega), fun p hp => hfs p (by omega)⟩
    | succ dj ih =>
      intro j fw fs z6 z7 hj hfw hfs
      refine ar_iload (pc' := 15) hM rfl rfl rfl ?_
      refine ar_aload_n (pc' := 16) hM rfl rfl rfl ?_
      refine ar_getfield (pc' := 19) hM rfl (am_gn (by omega) (am_gn (by omega) ht0)) rfl rfl ?_
      refine ar_icmp_ge (pc' := 22) hM rfl rfl (fun q => absurd q (nI_ge (a := j) (b := n) (by omega) (by omega))) (fun _ => ?_)
      refine ar_aload_n (pc' := 23) hM rfl rfl rfl ?_
      refine ar_iload (pc' := 25) hM rfl rfl rfl ?_
      refine ar_virtual (pc' := 28) (k3 := 0) (k4 := 0) hM rfl rfl (am_gn (by omega) (am_gn (by omega) hs0)) ⟨rfl, (by omega)⟩ rfl rfl (c_isAway _ s (by omega) _ _ _ _ _ _ (am_gn (by omega) (am_gn (by omega) hs0)) (am_gn (by omega) (am_gn (by omega) hs1)) (am_gn (by omega) (am_gn (by omega) hs2)) (am_gn (by omega) (am_gn (by omega) hs3)) _) (fun r25 w25 q25 => ?_)
      obtain ⟨rfl, q25w⟩ := q25
      rw [q25w]
      show am_Go 55 (28, [.ref t, .ref d, .ref s, .int g, .int (i_heat kk he dy), .int (nI j), z6, z7], [.int (if (sw >>> ((nI j) &&& 31)) &&& 1 = 1 then 1 else 0)], ((w.set (t + 1) (.inl (0, 6, .inl fw))).set (t + 2) (.inl (0, 6, .inl fs))), 0, 0) _
      refine ar_if_eq (pc' := 31) hM rfl rfl (fun c28 => ?_) (fun c28 => ?_)
      · refine ar_aload_n (pc' := 51) hM rfl rfl rfl ?_
        refine ar_iload (pc' := 53) hM rfl rfl rfl ?_
        refine ar_virtual (pc' := 56) (k3 := 0) (k4 := 0) hM rfl rfl (am_gn (by omega) (am_gn (by omega) hs0)) ⟨rfl, (by omega)⟩ rfl rfl (c_isSalted _ s (by omega) _ _ _ _ _ _ (am_gn (by omega) (am_gn (by omega) hs0)) (am_gn (by omega) (am_gn (by omega) hs1)) (am_gn (by omega) (am_gn (by omega) hs2)) (am_gn (by omega) (am_gn (by omega) hs3)) _) (fun r53 w53 q53 => ?_)
        obtain ⟨rfl, q53w⟩ := q53
        rw [q53w]
        show am_Go 55 (56, [.ref t, .ref d, .ref s, .int g, .int (i_heat kk he dy), .int (nI j), z6, z7], [.int (if (sa >>> ((nI j) &&& 31)) &&& 1 = 1 then 1 else 0)], ((w.set (t + 1) (.inl (0, 6, .inl fw))).set (t + 2) (.inl (0, 6, .inl fs))), 0, 0) _
        suffices hj56 : ∀ z_56 : Int32, z_56 = (if (if (sa >>> ((nI j) &&& 31)) &&& 1 = 1 then 1 else 0) = (0 : Int32) then 0 else 3) → am_Go 55 (64, [.ref t, .ref d, .ref s, .int g, .int (i_heat kk he dy), .int (nI j), z6, z7], [.int z_56], ((w.set (t + 1) (.inl (0, 6, .inl fw))).set (t + 2) (.inl (0, 6, .inl fs))), 0, 0) _ by
          refine ar_if_eq (pc' := 59) hM rfl rfl (fun c => ?_) (fun c => ?_)
          · refine ar_iconst (x := 0) (pc' := 64) hM rfl (by decide) rfl ?_
            exact hj56 _ (if_pos c).symm
          · refine ar_iconst (x := 3) (pc' := 60) hM rfl (by decide) rfl ?_
            refine ar_goto hM rfl ?_
            exact hj56 _ (if_neg c).symm
        rintro _ rfl
        refine ar_istore (pc' := 66) hM rfl rfl rfl rfl ?_
        refine ar_iload_n (pc' := 67) hM rfl rfl rfl ?_
        refine ar_iload (pc' := 69) hM rfl rfl rfl ?_
        refine ar_ishr (pc' := 70) hM rfl rfl ?_
        refine ar_iconst (x := 1) (pc' := 71) hM rfl (by decide) rfl ?_
        refine ar_iand (pc' := 72) hM rfl rfl ?_
        refine ar_iconst (x := 1) (pc' := 73) hM rfl (by decide) rfl ?_
        suffices hj73 : ∀ z_73 : Int32, z_73 = (if ((g >>> ((nI j) &&& 31)) &&& 1) = (1 : Int32) then 2 else 0) → am_Go 55 (81, [.ref t, .ref d, .ref s, .int g, .int (i_heat kk he dy), .int (nI j), .int (if (if (sa >>> ((nI j) &&& 31)) &&& 1 = 1 then 1 else 0) = (0 : Int32) then 0 else 3), z7], [.int z_73], ((w.set (t + 1) (.inl (0, 6, .inl fw))).set (t + 2) (.inl (0, 6, .inl fs))), 0, 0) _ by
          refine ar_icmp_ne (pc' := 76) hM rfl rfl (fun c => ?_) (fun c => ?_)
          · refine ar_iconst (x := 0) (pc' := 81) hM rfl (by decide) rfl ?_
            exact hj73 _ (if_neg c).symm
          · refine ar_iconst (x := 2) (pc' := 77) hM rfl (by decide) rfl ?_
            refine ar_goto hM rfl ?_
            exact hj73 _ (if_pos c).symm
        rintro _ rfl
        refine ar_istore (pc' := 83) hM rfl rfl rfl rfl ?_
        refine ar_aload_n (pc' := 84) hM rfl rfl rfl ?_
        refine ar_getfield (pc' := 87) hM rfl (am_gn (by omega) (am_gn (by omega) hd0)) rfl rfl ?_
        refine ar_iload (pc' := 89) hM rfl rfl rfl ?_
        refine ar_aload_n (pc' := 90) hM rfl rfl rfl ?_
        refine ar_getfield (pc' := 93) hM rfl (am_gn (by omega) (am_gn (by omega) ht0)) rfl rfl ?_
        refine ar_iload (pc' := 95) hM rfl rfl rfl ?_
        refine ar_ialoadN (j := j) (pc' := 96) hM rfl (am_gn (by omega) (am_gn (by omega) ht1)) rfl (by omega) (Nat.le_of_ble_eq_true rfl) rfl ?_
        refine ar_aload_n (pc' := 97) hM rfl rfl rfl ?_
        refine ar_getfield (pc' := 100) hM rfl (am_gn (by omega) (am_gn (by omega) ht0)) rfl rfl ?_
        refine ar_iload (pc' := 102) hM rfl rfl rfl ?_
        refine ar_ialoadN (j := j) (pc' := 103) hM rfl (am_gn (by omega) (am_gn (by omega) ht2)) rfl (by omega) (Nat.le_of_ble_eq_true rfl) rfl ?_
        refine ar_static (pc' := 106) (k3 := 0) (k4 := 0) hM rfl (by decide) rfl rfl (c_wantByKind _ _ _) (fun r103 w103 q103 => ?_)
        obtain ⟨rfl, q103w⟩ := q103
        rw [q103w]
        show am_Go 55 (106, [.ref t, .ref d, .ref s, .int g, .int (i_heat kk he dy), .int (nI j), .int (if (if (sa >>> ((nI j) &&& 31)) &&& 1 = 1 then 1 else 0) = (0 : Int32) then 0 else 3), .int (if ((g >>> ((nI j) &&& 31)) &&& 1) = (1 : Int32) then 2 else 0)], [.int (i_wbk (wa j) (ki j)), .int (nI j), .ref (t + 1)], ((w.set (t + 1) (.inl (0, 6, .inl fw))).set (t + 2) (.inl (0, 6, .inl fs))), 0, 0) _
        refine ar_iload (pc' := 108) hM rfl rfl rfl ?_
        refine ar_iadd (pc' := 109) hM rfl rfl ?_
        refine ar_iload (pc' := 111) hM rfl rfl rfl ?_
        refine ar_iadd (pc' := 112) hM rfl rfl ?_
        refine ar_iload (pc' := 114) hM rfl rfl rfl ?_
        refine ar_iadd (pc' := 115) hM rfl rfl ?_
        refine ar_iastoreN (j := j) (pc' := 116) hM rfl (am_gn (by omega) (am_gs hd1)) rfl (by omega) (Nat.le_of_ble_eq_true rfl) (by omega) rfl ?_
        refine ar_aload_n (pc' := 117) hM rfl rfl rfl ?_
        refine ar_getfield (pc' := 120) hM rfl (am_gn (by omega) (am_gn (by omega) (am_gn (by omega) hd0))) rfl rfl ?_
        refine ar_iload (pc' := 122) hM rfl rfl rfl ?_
        refine ar_aload_n (pc' := 123) hM rfl rfl rfl ?_
        refine ar_getfield (pc' := 126) hM rfl (am_gn (by omega) (am_gn (by omega) (am_gn (by omega) hd0))) rfl rfl ?_
        refine ar_iload (pc' := 128) hM rfl rfl rfl ?_
        refine ar_ialoadN (j := j) (pc' := 129) hM rfl (am_gs (am_gn (by omega) (am_gs hd1))) rfl (by omega) (Nat.le_of_ble_eq_true rfl) rfl ?_
        refine ar_aload_n (pc' := 130) hM rfl rfl rfl ?_
        refine ar_getfield (pc' := 133) hM rfl (am_gn (by omega) (am_gn (by omega) (am_gn (by omega) ht0))) rfl rfl ?_
        refine ar_iload (pc' := 135) hM rfl rfl rfl ?_
        refine ar_ialoadN (j := j) (pc' := 136) hM rfl (am_gn (by omega) (am_gn (by omega) (am_gn (by omega) ht2))) rfl (by omega) (Nat.le_of_ble_eq_true rfl) rfl ?_
        refine ar_static (pc' := 139) (k3 := 0) (k4 := 0) hM rfl (by decide) rfl rfl (c_lieOf _ _) (fun r136 w136 q136 => ?_)
        obtain ⟨rfl, q136w⟩ := q136
        rw [q136w]
        show am_Go 55 (139, [.ref t, .ref d, .ref s, .int g, .int (i_heat kk he dy), .int (nI j), .int (if (if (sa >>> ((nI j) &&& 31)) &&& 1 = 1 then 1 else 0) = (0 : Int32) then 0 else 3), .int (if ((g >>> ((nI j) &&& 31)) &&& 1) = (1 : Int32) then 2 else 0)], [.int (i_lie (ki j)), .int ((upd fw j ((((i_wbk (wa j) (ki j)) + (i_heat kk he dy)) + (if (if (sa >>> ((nI j) &&& 31)) &&& 1 = 1 then 1 else 0) = (0 : Int32) then 0 else 3)) + (if ((g >>> ((nI j) &&& 31)) &&& 1) = (1 : Int32) then 2 else 0))) j), .int (nI j), .ref (t + 2)], (((w.set (t + 1) (.inl (0, 6, .inl fw))).set (t + 2) (.inl (0, 6, .inl fs))).set (t + 1) (.inl (0, 6, .inl (upd fw j ((((i_wbk (wa j) (ki j)) + (i_heat kk he dy)) + (if (if (sa >>> ((nI j) &&& 31)) &&& 1 = 1 then 1 else 0) = (0 : Int32) then 0 else 3)) + (if ((g >>> ((nI j) &&& 31)) &&& 1) = (1 : Int32) then 2 else 0)))))), 0, 0) _
        refine ar_iadd (pc' := 140) hM rfl rfl ?_
        refine ar_iastoreN (j := j) (pc' := 141) hM rfl (am_gn (by omega) (am_gs (am_gn (by omega) hd2))) rfl (by omega) (Nat.le_of_ble_eq_true rfl) (by omega) rfl ?_
        refine ar_iinc (z := nI (j + 1)) (pc' := 144) hM rfl rfl (nI_1 _) rfl rfl rfl ?_
        refine ar_goto hM rfl ?_
        rw [show (((w.set (t + 1) (.inl (0, 6, .inl fw))).set (t + 2) (.inl (0, 6, .inl fs))).set (t + 1) (.inl (0, 6, .inl (upd fw j ((((i_wbk (wa j) (ki j)) + (i_heat kk he dy)) + (if (if (sa >>> ((nI j) &&& 31)) &&& 1 = 1 then 1 else 0) = (0 : Int32) then 0 else 3)) + (if ((g >>> ((nI j) &&& 31)) &&& 1) = (1 : Int32) then 2 else 0)))))) = ((w.set (t + 1) (.inl (0, 6, .inl (upd fw j ((((i_wbk (wa j) (ki j)) + (i_heat kk he dy)) + (if (if (sa >>> ((nI j) &&& 31)) &&& 1 = 1 then 1 else 0) = (0 : Int32) then 0 else 3)) + (if ((g >>> ((nI j) &&& 31)) &&& 1) = (1 : Int32) then 2 else 0)))))).set (t + 2) (.inl (0, 6, .inl fs))) from by rw [List.set_comm _ _ (show t + 2 ≠ t + 1 by omega), List.set_set]]
        rw [show (((w.set (t + 1) (.inl (0, 6, .inl (upd fw j ((((i_wbk (wa j) (ki j)) + (i_heat kk he dy)) + (if (if (sa >>> ((nI j) &&& 31)) &&& 1 = 1 then 1 else 0) = (0 : Int32) then 0 else 3)) + (if ((g >>> ((nI j) &&& 31)) &&& 1) = (1 : Int32) then 2 else 0)))))).set (t + 2) (.inl (0, 6, .inl fs))).set (t + 2) (.inl (0, 6, .inl (upd fs j (((upd fw j ((((i_wbk (wa j) (ki j)) + (i_heat kk he dy)) + (if (if (sa >>> ((nI j) &&& 31)) &&& 1 = 1 then 1 else 0) = (0 : Int32) then 0 else 3)) + (if ((g >>> ((nI j) &&& 31)) &&& 1) = (1 : Int32) then 2 else 0))) j) + (i_lie (ki j))))))) = ((w.set (t + 1) (.inl (0, 6, .inl (upd fw j ((((i_wbk (wa j) (ki j)) + (i_heat kk he dy)) + (if (if (sa >>> ((nI j) &&& 31)) &&& 1 = 1 then 1 else 0) = (0 : Int32) then 0 else 3)) + (if ((g >>> ((nI j) &&& 31)) &&& 1) = (1 : Int32) then 2 else 0)))))).set (t + 2) (.inl (0, 6, .inl (upd fs j (((upd fw j ((((i_wbk (wa j) (ki j)) + (i_heat kk he dy)) + (if (if (sa >>> ((nI j) &&& 31)) &&& 1 = 1 then 1 else 0) = (0 : Int32) then 0 else 3)) + (if ((g >>> ((nI j) &&& 31)) &&& 1) = (1 : Int32) then 2 else 0))) j) + (i_lie (ki j))))))) from by rw [List.set_set]]
        exact ih (j + 1) (upd fw j ((((i_wbk (wa j) (ki j)) + (i_heat kk he dy)) + (if (if (sa >>> ((nI j) &&& 31)) &&& 1 = 1 then 1 else 0) = (0 : Int32) then 0 else 3)) + (if ((g >>> ((nI j) &&& 31)) &&& 1) = (1 : Int32) then 2 else 0))) (upd fs j (((upd fw j ((((i_wbk (wa j) (ki j)) + (i_heat kk he dy)) + (if (if (sa >>> ((nI j) &&& 31)) &&& 1 = 1 then 1 else 0) = (0 : Int32) then 0 else 3)) + (if ((g >>> ((nI j) &&& 31)) &&& 1) = (1 : Int32) then 2 else 0))) j) + (i_lie (ki j)))) (.int (if (if (sa >>> ((nI j) &&& 31)) &&& 1 = 1 then 1 else 0) = (0 : Int32) then 0 else 3)) (.int (if ((g >>> ((nI j) &&& 31)) &&& 1) = (1 : Int32) then 2 else 0)) (by omega) (am_fs (F := i_wnt wa ki (i_heat kk he dy) sa sw g) hfw (by unfold i_wnt; rw [if_neg (am_eq0 c28), i_if0])) (am_fs (F := i_say wa ki (i_heat kk he dy) sa sw g) hfs (by rw [pk_us]; unfold i_say; rw [if_neg (am_eq0 c28)]; unfold i_wnt; rw [if_neg (am_eq0 c28), i_if0]))
      · refine ar_aload_n (pc' := 32) hM rfl rfl rfl ?_
        refine ar_getfield (pc' := 35) hM rfl (am_gn (by omega) (am_gn (by omega) hd0)) rfl rfl ?_
        refine ar_iload (pc' := 37) hM rfl rfl rfl ?_
        refine ar_iconst (x := 0) (pc' := 38) hM rfl (by decide) rfl ?_
        refine ar_iastoreN (j := j) (pc' := 39) hM rfl (am_gn (by omega) (am_gs hd1)) rfl (by omega) (Nat.le_of_ble_eq_true rfl) (by omega) rfl ?_
        refine ar_aload_n (pc' := 40) hM rfl rfl rfl ?_
        refine ar_getfield (pc' := 43) hM rfl (am_gn (by omega) (am_gn (by omega) (am_gn (by omega) hd0))) rfl rfl ?_
        refine ar_iload (pc' := 45) hM rfl rfl rfl ?_
        refine ar_iconst (x := 0) (pc' := 46) hM rfl (by decide) rfl ?_
        refine ar_iastoreN (j := j) (pc' := 47) hM rfl (am_gn (by omega) (am_gs (am_gn (by omega) hd2))) rfl (by omega) (Nat.le_of_ble_eq_true rfl) (by omega) rfl ?_
        refine ar_goto hM rfl ?_
        refine ar_iinc (z := nI (j + 1)) (pc' := 144) hM rfl rfl (nI_1 _) rfl rfl rfl ?_
        refine ar_goto hM rfl ?_
        rw [show (((w.set (t + 1) (.inl (0, 6, .inl fw))).set (t + 2) (.inl (0, 6, .inl fs))).set (t + 1) (.inl (0, 6, .inl (upd fw j 0)))) = ((w.set (t + 1) (.inl (0, 6, .inl (upd fw j 0)))).set (t + 2) (.inl (0, 6, .inl fs))) from by rw [List.set_comm _ _ (show t + 2 ≠ t + 1 by omega), List.set_set]]
        rw [show (((w.set (t + 1) (.inl (0, 6, .inl (upd fw j 0)))).set (t + 2) (.inl (0, 6, .inl fs))).set (t + 2) (.inl (0, 6, .inl (upd fs j 0)))) = ((w.set (t + 1) (.inl (0, 6, .inl (upd fw j 0)))).set (t + 2) (.inl (0, 6, .inl (upd fs j 0)))) from by rw [List.set_set]]
        exact ih (j + 1) (upd fw j 0) (upd fs j 0) (z6) (z7) (by omega) (am_fs (F := i_wnt wa ki (i_heat kk he dy) sa sw g) hfw (by unfold i_wnt; rw [if_pos (am_ne0 c28)])) (am_fs (F := i_say wa ki (i_heat kk he dy) sa sw g) hfs (by unfold i_say; rw [if_pos (am_ne0 c28)]))
  have hl0 := loop (n) 0 dw ds (.float 0) (.float 0) (by omega) (fun p hp => by omega) (fun p hp => by omega)
  rw [am_si hd1, am_si hd2] at hl0
  exact hl0
set_option maxRecDepth 100000 in
set_option maxHeartbeats 4000000 in
theorem c_serve (w : am_W) (t : Nat) (h2t : 2 ≤ t) (dw ds dg dd dl df dv : Nat → Int32) (hd0 : w[t]? = some (.inr (8, [.ref (t + 1), .ref (t + 2), .ref (t + 3), .ref (t + 4), .ref (t + 5), .ref (t + 6), .ref (t + 7)]))) (hd1 : w[t + 1]? = some (.inl (0, 6, .inl dw))) (hd2 : w[t + 2]? = some (.inl (0, 6, .inl ds))) (hd3 : w[t + 3]? = some (.inl (0, 6, .inl dg))) (hd4 : w[t + 4]? = some (.inl (0, 6, .inl dd))) (hd5 : w[t + 5]? = some (.inl (0, 6, .inl dl))) (hd6 : w[t + 6]? = some (.inl (0, 6, .inl df))) (hd7 : w[t + 7]? = some (.inl (0, 6, .inl dv))) (h : Nat) (hh : h < 6) (gv sv bv : Int32) : am_Go 57 (0, [.ref t, .int (nI h), .int gv, .int sv, .int bv, .float 0], [], w, 0, 0) (fun res w' => res = none ∧ w' = (((((w.set (t + 3) (.inl (0, 6, .inl (upd dg h gv)))).set (t + 4) (.inl (0, 6, .inl (upd dd h (i_min (dw h) (gv + sv)))))).set (t + 5) (.inl (0, 6, .inl (upd dl h (dw h - (i_min (dw h) (gv + sv))))))).set (t + 6) (.inl (0, 6, .inl (upd df h (i_min ((gv + sv) - (i_min (dw h) (gv + sv))) bv))))).set (t + 7) (.inl (0, 6, .inl (upd dv h ((gv + sv) - (i_min (dw h) (gv + sv)) - (i_min ((gv + sv) - (i_min (dw h) (gv + sv))) bv))))))) := by
  have hM : am_P[57]? = some zm_X8_serve := rfl
  refine ar_iload_n (pc' := 1) hM rfl rfl rfl ?_
  refine ar_iload_n (pc' := 2) hM rfl rfl rfl ?_
  refine ar_iadd (pc' := 3) hM rfl rfl ?_
  refine ar_istore (pc' := 5) hM rfl rfl rfl rfl ?_
  refine ar_aload_n (pc' := 6) hM rfl rfl rfl ?_
  refine ar_getfield (pc' := 9) hM rfl hd0 rfl rfl ?_
  refine ar_iload_n (pc' := 10) hM rfl rfl rfl ?_
  refine ar_iload_n (pc' := 11) hM rfl rfl rfl ?_
  refine ar_iastoreN (j := h) (pc' := 12) hM rfl hd3 rfl (by omega) (Nat.le_of_ble_eq_true rfl) (by omega) rfl ?_
  refine ar_aload_n (pc' := 13) hM rfl rfl rfl ?_
  refine ar_getfield (pc' := 16) hM rfl (am_gn (by omega) hd0) rfl rfl ?_
  refine ar_iload_n (pc' := 17) hM rfl rfl rfl ?_
  refine ar_aload_n (pc' := 18) hM rfl rfl rfl ?_
  refine ar_getfield (pc' := 21) hM rfl (am_gn (by omega) hd0) rfl rfl ?_
  refine ar_iload_n (pc' := 22) hM rfl rfl rfl ?_
  refine ar_ialoadN (j := h) (pc' := 23) hM rfl (am_gn (by omega) hd1) rfl (by omega) (Nat.le_of_ble_eq_true rfl) rfl ?_
  refine ar_iload (pc' := 25) hM rfl rfl rfl ?_
  refine ar_static (pc' := 28) (k3 := 0) (k4 := 0) hM rfl (by decide) rfl rfl (c_min _ _ _) (fun r25 w25 q25 => ?_)
  obtain ⟨rfl, q25w⟩ := q25
  rw [q25w]
  show am_Go 57 (28, [.ref t, .int (nI h), .int gv, .int sv, .int bv, .int (gv + sv)], [.int (i_min (dw h) (gv + sv)), .int (nI h), .ref (t + 4)], (w.set (t + 3) (.inl (0, 6, .inl (upd dg h gv)))), 0, 0) _
  refine ar_iastoreN (j := h) (pc' := 29) hM rfl (am_gn (by omega) hd4) rfl (by omega) (Nat.le_of_ble_eq_true rfl) (by omega) rfl ?_
  refine ar_aload_n (pc' := 30) hM rfl rfl rfl ?_
  refine ar_getfield (pc' := 33) hM rfl (am_gn (by omega) (am_gn (by omega) hd0)) rfl rfl ?_
  refine ar_iload_n (pc' := 34) hM rfl rfl rfl ?_
  refine ar_aload_n (pc' := 35) hM rfl rfl rfl ?_
  refine ar_getfield (pc' := 38) hM rfl (am_gn (by omega) (am_gn (by omega) hd0)) rfl rfl ?_
  refine ar_iload_n (pc' := 39) hM rfl rfl rfl ?_
  refine ar_ialoadN (j := h) (pc' := 40) hM rfl (am_gn (by omega) (am_gn (by omega) hd1)) rfl (by omega) (Nat.le_of_ble_eq_true rfl) rfl ?_
  refine ar_aload_n (pc' := 41) hM rfl rfl rfl ?_
  refine ar_getfield (pc' := 44) hM rfl (am_gn (by omega) (am_gn (by omega) hd0)) rfl rfl ?_
  refine ar_iload_n (pc' := 45) hM rfl rfl rfl ?_
  refine ar_ialoadN (j := h) (pc' := 46) hM rfl (am_gs (am_gn (by omega) hd4)) rfl (by omega) (Nat.le_of_ble_eq_true rfl) rfl ?_
  refine ar_isub (pc' := 47) hM rfl rfl ?_
  refine ar_iastoreN (j := h) (pc' := 48) hM rfl (am_gn (by omega) (am_gn (by omega) hd5)) rfl (by omega) (Nat.le_of_ble_eq_true rfl) (by omega) rfl ?_
  refine ar_aload_n (pc' := 49) hM rfl rfl rfl ?_
  refine ar_getfield (pc' := 52) hM rfl (am_gn (by omega) (am_gn (by omega) (am_gn (by omega) hd0))) rfl rfl ?_
  refine ar_iload_n (pc' := 53) hM rfl rfl rfl ?_
  refine ar_iload (pc' := 55) hM rfl rfl rfl ?_
  refine ar_aload_n (pc' := 56) hM rfl rfl rfl ?_
  refine ar_getfield (pc' := 59) hM rfl (am_gn (by omega) (am_gn (by omega) (am_gn (by omega) hd0))) rfl rfl ?_
  refine ar_iload_n (pc' := 60) hM rfl rfl rfl ?_
  refine ar_ialoadN (j := h) (pc' := 61) hM rfl (am_gn (by omega) (am_gs (am_gn (by omega) hd4))) rfl (by omega) (Nat.le_of_ble_eq_true rfl) rfl ?_
  refine ar_isub (pc' := 62) hM rfl rfl ?_
  refine ar_iload (pc' := 64) hM rfl rfl rfl ?_
  refine ar_static (pc' := 67) (k3 := 0) (k4 := 0) hM rfl (by decide) rfl rfl (c_min _ _ _) (fun r64 w64 q64 => ?_)
  obtain ⟨rfl, q64w⟩ := q64
  rw [q64w]
  show am_Go 57 (67, [.ref t, .int (nI h), .int gv, .int sv, .int bv, .int (gv + sv)], [.int (i_min ((gv + sv) - ((upd dd h (i_min (dw h) (gv + sv))) h)) bv), .int (nI h), .ref (t + 6)], (((w.set (t + 3) (.inl (0, 6, .inl (upd dg h gv)))).set (t + 4) (.inl (0, 6, .inl (upd dd h (i_min (dw h) (gv + sv)))))).set (t + 5) (.inl (0, 6, .inl (upd dl h ((dw h) - ((upd dd h (i_min (dw h) (gv + sv))) h)))))), 0, 0) _
  refine ar_iastoreN (j := h) (pc' := 68) hM rfl (am_gn (by omega) (am_gn (by omega) (am_gn (by omega) hd6))) rfl (by omega) (Nat.le_of_ble_eq_true rfl) (by omega) rfl ?_
  refine ar_aload_n (pc' := 69) hM rfl rfl rfl ?_
  refine ar_getfield (pc' := 72) hM rfl (am_gn (by omega) (am_gn (by omega) (am_gn (by omega) (am_gn (by omega) hd0)))) rfl rfl ?_
  refine ar_iload_n (pc' := 73) hM rfl rfl rfl ?_
  refine ar_iload (pc' := 75) hM rfl rfl rfl ?_
  refine ar_aload_n (pc' := 76) hM rfl rfl rfl ?_
  refine ar_getfield (pc' := 79) hM rfl (am_gn (by omega) (am_gn (by omega) (am_gn (by omega) (am_gn (by omega) hd0)))) rfl rfl ?_
  refine ar_iload_n (pc' := 80) hM rfl rfl rfl ?_
  refine ar_ialoadN (j := h) (pc' := 81) hM rfl (am_gn (by omega) (am_gn (by omega) (am_gs (am_gn (by omega) hd4)))) rfl (by omega) (Nat.le_of_ble_eq_true rfl) rfl ?_
  refine ar_isub (pc' := 82) hM rfl rfl ?_
  refine ar_aload_n (pc' := 83) hM rfl rfl rfl ?_
  refine ar_getfield (pc' := 86) hM rfl (am_gn (by omega) (am_gn (by omega) (am_gn (by omega) (am_gn (by omega) hd0)))) rfl rfl ?_
  refine ar_iload_n (pc' := 87) hM rfl rfl rfl ?_
  refine ar_ialoadN (j := h) (pc' := 88) hM rfl (am_gs (am_gn (by omega) (am_gn (by omega) (am_gn (by omega) hd6)))) rfl (by omega) (Nat.le_of_ble_eq_true rfl) rfl ?_
  refine ar_isub (pc' := 89) hM rfl rfl ?_
  refine ar_iastoreN (j := h) (pc' := 90) hM rfl (am_gn (by omega) (am_gn (by omega) (am_gn (by omega) (am_gn (by omega) hd7)))) rfl (by omega) (Nat.le_of_ble_eq_true rfl) (by omega) rfl ?_
  refine ar_return hM rfl ?_
  refine ⟨rfl, ?_⟩
  simp only [pk_us]
def i_gv (ri tr : Int32) (n : Nat) (ds : Nat → Int32) (od : Nat → Nat) (p : Nat) : Int32 := if p = 0 then (if ri = 0 then tr else ds (od (n - 1))) else ds (od (p - 1))
def i_dr (wt gv sv : Int32) : Int32 := i_min wt (gv + sv)
def i_lk (wt gv sv : Int32) : Int32 := wt - i_dr wt gv sv
def i_lf (wt gv sv bv : Int32) : Int32 := i_min (gv + sv - i_dr wt gv sv) bv
def i_sp (wt gv sv bv : Int32) : Int32 := gv + sv - i_dr wt gv sv - i_lf wt gv sv bv
theorem am_fo {f : Nat → Int32} {F : Nat → Int32} {od : Nat → Nat} {n j : Nat} {x : Int32} (inj : ∀ p q, p < n → q < n → od p = od q → p = q) (hj : j < n) (h : ∀ p, p < j → f (od p) = F p) (hx : x = F j) : ∀ p, p < j + 1 → upd f (od j) x (od p) = F p := by
  intro p hp
  by_cases q : p = j
  · subst q; rw [pk_us]; exact hx
  · rw [pk_un (fun e => q (inj p j (by omega) hj e))]; exact h p (by omega)
theorem i_nle0 {n : Nat} (h : ¬ nI n ≤ 0) : 0 < n := by
  rcases Nat.eq_zero_or_pos n with q | q
  · subst q; exact absurd (by decide) h
  · exact q
set_option maxRecDepth 100000 in
set_option maxHeartbeats 4000000 in
theorem c_pour (w : am_W) (d : Nat) (h2d : 2 ≤ d) (tr ri : Int32) (n kk : Nat) (wa ki ba he : Nat → Int32) (ht0 : w[d]? = some (.inr (9, [.int tr, .int ri, .int (nI n), .int (nI kk), .ref (d + 1), .ref (d + 2), .ref (d + 3), .ref (d + 4)]))) (ht1 : w[d + 1]? = some (.inl (0, 6, .inl wa))) (ht2 : w[d + 2]? = some (.inl (0, 6, .inl ki))) (ht3 : w[d + 3]? = some (.inl (0, 6, .inl ba))) (ht4 : w[d + 4]? = some (.inl (0, 5, .inl he))) (hn : n ≤ 6) (hkk : kk ≤ 5) (s : Nat) (h2s : 2 ≤ s) (so ss sl : Nat → Int32) (sa sw : Int32) (dy : Nat) (hdy : dy < 2 ^ 31) (hs0 : w[s]? = some (.inr (6, [.ref (s + 1), .ref (s + 2), .ref (s + 3), .int sa, .int sw, .int (nI dy)]))) (hs1 : w[s + 1]? = some (.inl (0, 6, .inl so))) (hs2 : w[s + 2]? = some (.inl (0, 6, .inl ss))) (hs3 : w[s + 3]? = some (.inl (0, 6, .inl sl))) (t : Nat) (h2t : 2 ≤ t) (dw ds dg dd dl df dv : Nat → Int32) (hd0 : w[t]? = some (.inr (8, [.ref (t + 1), .ref (t + 2), .ref (t + 3), .ref (t + 4), .ref (t + 5), .ref (t + 6), .ref (t + 7)]))) (hd1 : w[t + 1]? = some (.inl (0, 6, .inl dw))) (hd2 : w[t + 2]? = some (.inl (0, 6, .inl ds))) (hd3 : w[t + 3]? = some (.inl (0, 6, .inl dg))) (hd4 : w[t + 4]? = some (.inl (0, 6, .inl dd))) (hd5 : w[t + 5]? = some (.inl (0, 6, .inl dl))) (hd6 : w[t + 6]? = some (.inl (0, 6, .inl df))) (hd7 : w[t + 7]? = some (.inl (0, 6, .inl dv))) (j1 : t + 8 ≤ d ∨ d + 5 ≤ t) (j2 : t + 8 ≤ s ∨ s + 4 ≤ t) (j3 : d + 5 ≤ s ∨ s + 4 ≤ d) (od : Nat → Nat) (hod : ∀ p, p < n → so p = nI (od p) ∧ od p < n) (inj : ∀ p q, p < n → q < n → od p = od q → p = q) : am_Go 56 (0, [.ref t, .ref d, .ref s, .float 0, .float 0, .float 0], [], w, 0, 0) (fun res w' => ∃ a3 a4 a5 a6 a7, res = none ∧ w' = (((((w.set (t + 3) (.inl (0, 6, .inl a3))).set (t + 4) (.inl (0, 6, .inl a4))).set (t + 5) (.inl (0, 6, .inl a5))).set (t + 6) (.inl (0, 6, .inl a6))).set (t + 7) (.inl (0, 6, .inl a7))) ∧ (∀ p, p < n → a3 (od p) = i_gv ri tr n ds od p) ∧ (∀ p, p < n → a4 (od p) = i_dr (dw (od p)) (i_gv ri tr n ds od p) (ss (od p))) ∧ (∀ p, p < n → a5 (od p) = i_lk (dw (od p)) (i_gv ri tr n ds od p) (ss (od p))) ∧ (∀ p, p < n → a6 (od p) = i_lf (dw (od p)) (i_gv ri tr n ds od p) (ss (od p)) (ba (od p))) ∧ (∀ p, p < n → a7 (od p) = i_sp (dw (od p)) (i_gv ri tr n ds od p) (ss (od p)) (ba (od p)))) := by
  have hM : am_P[56]? = some zm_X8_pour := rfl
  have hk : ∀ (G0 : Int32) (z4 : Value) (z5 : Value), (0 < n → G0 = i_gv ri tr n ds od 0) → am_Go 56 (36, [.ref t, .ref d, .ref s, .int G0, z4, z5], [], w, 0, 0) (fun res w' => ∃ a3 a4 a5 a6 a7, res = none ∧ w' = (((((w.set (t + 3) (.inl (0, 6, .inl a3))).set (t + 4) (.inl (0, 6, .inl a4))).set (t + 5) (.inl (0, 6, .inl a5))).set (t + 6) (.inl (0, 6, .inl a6))).set (t + 7) (.inl (0, 6, .inl a7))) ∧ (∀ p, p < n → a3 (od p) = i_gv ri tr n ds od p) ∧ (∀ p, p < n → a4 (od p) = i_dr (dw (od p)) (i_gv ri tr n ds od p) (ss (od p))) ∧ (∀ p, p < n → a5 (od p) = i_lk (dw (od p)) (i_gv ri tr n ds od p) (ss (od p))) ∧ (∀ p, p < n → a6 (od p) = i_lf (dw (od p)) (i_gv ri tr n ds od p) (ss (od p)) (ba (od p))) ∧ (∀ p, p < n → a7 (od p) = i_sp (dw (od p)) (i_gv ri tr n ds od p) (ss (od p)) (ba (od p)))) := by
    intro G0 z4 z5 hG0
    refine ar_iconst (x := 0) (pc' := 37) hM rfl (by decide) rfl ?_
    refine ar_istore (pc' := 39) hM rfl rfl rfl rfl ?_
    have loop : ∀ (dj j : Nat) (G : Int32) (a3 : Nat → Int32) (a4 : Nat → Int32) (a5 : Nat → Int32) (a6 : Nat → Int32) (a7 : Nat → Int32) (z5 : Value), dj + j = n → (j < n → G = i_gv ri tr n ds od j) → (∀ p, p < j → a3 (od p) = (fun p => i_gv ri tr n ds od p) p) → (∀ p, p < j → a4 (od p) = (fun p => i_dr (dw (od p)) (i_gv ri tr n ds od p) (ss (od p))) p) → (∀ p, p < j → a5 (od p) = (fun p => i_lk (dw (od p)) (i_gv ri tr n ds od p) (ss (od p))) p) → (∀ p, p < j → a6 (od p) = (fun p => i_lf (dw (od p)) (i_gv ri tr n ds od p) (ss (od p)) (ba (od p))) p) → (∀ p, p < j → a7 (od p) = (fun p => i_sp (dw (od p)) (i_gv ri tr n ds od p) (ss (od p)) (ba (od p))) p) → am_Go 56 (39, [.ref t, .ref d, .ref s, .int G, .int (nI j), z5], [], (((((w.set (t + 3) (.inl (0, 6, .inl a3))).set (t + 4) (.inl (0, 6, .inl a4))).set (t + 5) (.inl (0, 6, .inl a5))).set (t + 6) (.inl (0, 6, .inl a6))).set (t + 7) (.inl (0, 6, .inl a7))), 0, 0) (fun res w' => ∃ a3 a4 a5 a6 a7, res = none ∧ w' = (((((w.set (t + 3) (.inl (0, 6, .inl a3))).set (t + 4) (.inl (0, 6, .inl a4))).set (t + 5) (.inl (0, 6, .inl a5))).set (t + 6) (.inl (0, 6, .inl a6))).set (t + 7) (.inl (0, 6, .inl a7))) ∧ (∀ p, p < n → a3 (od p) = i_gv ri tr n ds od p) ∧ (∀ p, p < n → a4 (od p) = i_dr (dw (od p)) (i_gv ri tr n ds od p) (ss (od p))) ∧ (∀ p, p < n → a5 (od p) = i_lk (dw (od p)) (i_gv ri tr n ds od p) (ss (od p))) ∧ (∀ p, p < n → a6 (od p) = i_lf (dw (od p)) (i_gv ri tr n ds od p) (ss (od p)) (ba (od p))) ∧ (∀ p, p < n → a7 (od p) = i_sp (dw (od p)) (i_gv ri tr n ds od p) (ss (od p)) (ba (od p)))) := by
      intro dj
      induction dj with
      | zero =>
        intro j G a3 a4 a5 a6 a7 z5 hj hG q3 q4 q5 q6 q7
        refine ar_iload (pc' := 41) hM rfl rfl rfl ?_
        refine ar_aload_n (pc' := 42) hM rfl rfl rfl ?_
        refine ar_getfield (pc' := 45) hM rfl (am_gn (by omega) (am_gn (by omega) (am_gn (by omega) (am_gn (by omega) (am_gn (by omega) ht0))))) rfl rfl ?_
        refine ar_icmp_ge (pc' := 48) hM rfl rfl (fun _ => ?_) (fun q => absurd (nI_le (a := n) (b := j) (by omega) (by omega)) q)
        refine ar_return hM rfl ?_
        exact ⟨a3, a4, a5, a6, a7, rfl, rfl, fun p hp => q3 p (by omega), fun p hp => q4 p (by omega), fun p hp => q5 p (by omega), fun p hp => q6 p (by omega), fun p hp => q7 p (by omega)⟩
      | succ dj ih =>
        intro j G a3 a4 a5 a6 a7 z5 hj hG q3 q4 q5 q6 q7
        refine ar_iload (pc' := 41) hM rfl rfl rfl ?_
        refine ar_aload_n (pc' := 42) hM rfl rfl rfl ?_
        refine ar_getfield (pc' := 45) hM rfl (am_gn (by omega) (am_gn (by omega) (am_gn (by omega) (am_gn (by omega) (am_gn (by omega) ht0))))) rfl rfl ?_
        refine ar_icmp_ge (pc' := 48) hM rfl rfl (fun q => absurd q (nI_ge (a := j) (b := n) (by omega) (by omega))) (fun _ => ?_)
        refine ar_aload_n (pc' := 49) hM rfl rfl rfl ?_
        refine ar_getfield (pc' := 52) hM rfl (am_gn (by omega) (am_gn (by omega) (am_gn (by omega) (am_gn (by omega) (am_gn (by omega) hs0))))) rfl rfl ?_
        refine ar_iload (pc' := 54) hM rfl rfl rfl ?_
        refine ar_ialoadN (j := j) (pc' := 55) hM rfl (am_gn (by omega) (am_gn (by omega) (am_gn (by omega) (am_gn (by omega) (am_gn (by omega) hs1))))) rfl (by omega) (Nat.le_of_ble_eq_true rfl) rfl ?_
        rw [show (so j : Int32) = nI (od j) from (hod j (by omega)).1]
        refine ar_istore (pc' := 57) hM rfl rfl rfl rfl ?_
        refine ar_aload_n (pc' := 58) hM rfl rfl rfl ?_
        refine ar_iload (pc' := 60) hM rfl rfl rfl ?_
        refine ar_iload_n (pc' := 61) hM rfl rfl rfl ?_
        refine ar_aload_n (pc' := 62) hM rfl rfl rfl ?_
        refine ar_getfield (pc' := 65) hM rfl (am_gn (by omega) (am_gn (by omega) (am_gn (by omega) (am_gn (by omega) (am_gn (by omega) hs0))))) rfl rfl ?_
        refine ar_iload (pc' := 67) hM rfl rfl rfl ?_
        refine ar_ialoadN (j := od j) (pc' := 68) hM rfl (am_gn (by omega) (am_gn (by omega) (am_gn (by omega) (am_gn (by omega) (am_gn (by omega) hs2))))) rfl (by have := (hod j (by omega)).2; omega) (Nat.le_of_ble_eq_true rfl) rfl ?_
        refine ar_aload_n (pc' := 69) hM rfl rfl rfl ?_
        refine ar_getfield (pc' := 72) hM rfl (am_gn (by omega) (am_gn (by omega) (am_gn (by omega) (am_gn (by omega) (am_gn (by omega) ht0))))) rfl rfl ?_
        refine ar_iload (pc' := 74) hM rfl rfl rfl ?_
        refine ar_ialoadN (j := od j) (pc' := 75) hM rfl (am_gn (by omega) (am_gn (by omega) (am_gn (by omega) (am_gn (by omega) (am_gn (by omega) ht3))))) rfl (by have := (hod j (by omega)).2; omega) (Nat.le_of_ble_eq_true rfl) rfl ?_
        refine ar_virtual (pc' := 78) (k3 := 0) (k4 := 0) hM rfl rfl (am_gn (by omega) (am_gn (by omega) (am_gn (by omega) (am_gn (by omega) (am_gn (by omega) hd0))))) ⟨rfl, (by omega)⟩ rfl rfl (c_serve _ t (by omega) _ _ _ _ _ _ _ (am_gn (by omega) (am_gn (by omega) (am_gn (by omega) (am_gn (by omega) (am_gn (by omega) hd0))))) (am_gn (by omega) (am_gn (by omega) (am_gn (by omega) (am_gn (by omega) (am_gn (by omega) hd1))))) (am_gn (by omega) (am_gn (by omega) (am_gn (by omega) (am_gn (by omega) (am_gn (by omega) hd2))))) (am_gn (by omega) (am_gn (by omega) (am_gn (by omega) (am_gn (by omega) (am_gs hd3))))) (am_gn (by omega) (am_gn (by omega) (am_gn (by omega) (am_gs (am_gn (by omega) hd4))))) (am_gn (by omega) (am_gn (by omega) (am_gs (am_gn (by omega) (am_gn (by omega) hd5))))) (am_gn (by omega) (am_gs (am_gn (by omega) (am_gn (by omega) (am_gn (by omega) hd6))))) (am_gs (am_gn (by omega) (am_gn (by omega) (am_gn (by omega) (am_gn (by omega) hd7))))) (od j) (by have := (hod j (by omega)).2; omega) _ _ _) (fun r75 w75 q75 => ?_)
        obtain ⟨rfl, q75w⟩ := q75
        rw [q75w]
        show am_Go 56 (78, [.ref t, .ref d, .ref s, .int G, .int (nI j), .int (nI (od j))], [], ((((((((((w.set (t + 3) (.inl (0, 6, .inl a3))).set (t + 4) (.inl (0, 6, .inl a4))).set (t + 5) (.inl (0, 6, .inl a5))).set (t + 6) (.inl (0, 6, .inl a6))).set (t + 7) (.inl (0, 6, .inl a7))).set (t + 3) (.inl (0, 6, .inl (upd a3 (od j) G)))).set (t + 4) (.inl (0, 6, .inl (upd a4 (od j) (i_min (dw (od j)) (G + (ss (od j)))))))).set (t + 5) (.inl (0, 6, .inl (upd a5 (od j) ((dw (od j)) - (i_min (dw (od j)) (G + (ss (od j))))))))).set (t + 6) (.inl (0, 6, .inl (upd a6 (od j) (i_min ((G + (ss (od j))) - (i_min (dw (od j)) (G + (ss (od j))))) (ba (od j))))))).set (t + 7) (.inl (0, 6, .inl (upd a7 (od j) ((G + (ss (od j))) - (i_min (dw (od j)) (G + (ss (od j)))) - (i_min ((G + (ss (od j))) - (i_min (dw (od j)) (G + (ss (od j))))) (ba (od j)))))))), 0, 0) _
        refine ar_aload_n (pc' := 79) hM rfl rfl rfl ?_
        refine ar_getfield (pc' := 82) hM rfl (am_gn (by omega) (am_gn (by omega) (am_gn (by omega) (am_gn (by omega) (am_gn (by omega) (am_gn (by omega) (am_gn (by omega) (am_gn (by omega) (am_gn (by omega) (am_gn (by omega) hd0)))))))))) rfl rfl ?_
        refine ar_iload (pc' := 84) hM rfl rfl rfl ?_
        refine ar_ialoadN (j := od j) (pc' := 85) hM rfl (am_gn (by omega) (am_gn (by omega) (am_gn (by omega) (am_gn (by omega) (am_gn (by omega) (am_gn (by omega) (am_gn (by omega) (am_gn (by omega) (am_gn (by omega) (am_gn (by omega) hd2)))))))))) rfl (by have := (hod j (by omega)).2; omega) (Nat.le_of_ble_eq_true rfl) rfl ?_
        refine ar_istore_n (pc' := 86) hM rfl rfl rfl rfl ?_
        refine ar_iinc (z := nI (j + 1)) (pc' := 89) hM rfl rfl (nI_1 _) rfl rfl rfl ?_
        refine ar_goto hM rfl ?_
        rw [show ((((((w.set (t + 3) (.inl (0, 6, .inl a3))).set (t + 4) (.inl (0, 6, .inl a4))).set (t + 5) (.inl (0, 6, .inl a5))).set (t + 6) (.inl (0, 6, .inl a6))).set (t + 7) (.inl (0, 6, .inl a7))).set (t + 3) (.inl (0, 6, .inl (upd a3 (od j) G)))) = (((((w.set (t + 3) (.inl (0, 6, .inl (upd a3 (od j) G)))).set (t + 4) (.inl (0, 6, .inl a4))).set (t + 5) (.inl (0, 6, .inl a5))).set (t + 6) (.inl (0, 6, .inl a6))).set (t + 7) (.inl (0, 6, .inl a7))) from by rw [List.set_comm _ _ (show t + 7 ≠ t + 3 by omega), List.set_comm _ _ (show t + 6 ≠ t + 3 by omega), List.set_comm _ _ (show t + 5 ≠ t + 3 by omega), List.set_comm _ _ (show t + 4 ≠ t + 3 by omega), List.set_set]]
        rw [show ((((((w.set (t + 3) (.inl (0, 6, .inl (upd a3 (od j) G)))).set (t + 4) (.inl (0, 6, .inl a4))).set (t + 5) (.inl (0, 6, .inl a5))).set (t + 6) (.inl (0, 6, .inl a6))).set (t + 7) (.inl (0, 6, .inl a7))).set (t + 4) (.inl (0, 6, .inl (upd a4 (od j) (i_min (dw (od j)) (G + (ss (od j)))))))) = (((((w.set (t + 3) (.inl (0, 6, .inl (upd a3 (od j) G)))).set (t + 4) (.inl (0, 6, .inl (upd a4 (od j) (i_min (dw (od j)) (G + (ss (od j)))))))).set (t + 5) (.inl (0, 6, .inl a5))).set (t + 6) (.inl (0, 6, .inl a6))).set (t + 7) (.inl (0, 6, .inl a7))) from by rw [List.set_comm _ _ (show t + 7 ≠ t + 4 by omega), List.set_comm _ _ (show t + 6 ≠ t + 4 by omega), List.set_comm _ _ (show t + 5 ≠ t + 4 by omega), List.set_set]]
        rw [show ((((((w.set (t + 3) (.inl (0, 6, .inl (upd a3 (od j) G)))).set (t + 4) (.inl (0, 6, .inl (upd a4 (od j) (i_min (dw (od j)) (G + (ss (od j)))))))).set (t + 5) (.inl (0, 6, .inl a5))).set (t + 6) (.inl (0, 6, .inl a6))).set (t + 7) (.inl (0, 6, .inl a7))).set (t + 5) (.inl (0, 6, .inl (upd a5 (od j) ((dw (od j)) - (i_min (dw (od j)) (G + (ss (od j))))))))) = (((((w.set (t + 3) (.inl (0, 6, .inl (upd a3 (od j) G)))).set (t + 4) (.inl (0, 6, .inl (upd a4 (od j) (i_min (dw (od j)) (G + (ss (od j)))))))).set (t + 5) (.inl (0, 6, .inl (upd a5 (od j) ((dw (od j)) - (i_min (dw (od j)) (G + (ss (od j))))))))).set (t + 6) (.inl (0, 6, .inl a6))).set (t + 7) (.inl (0, 6, .inl a7))) from by rw [List.set_comm _ _ (show t + 7 ≠ t + 5 by omega), List.set_comm _ _ (show t + 6 ≠ t + 5 by omega), List.set_set]]
        rw [show ((((((w.set (t + 3) (.inl (0, 6, .inl (upd a3 (od j) G)))).set (t + 4) (.inl (0, 6, .inl (upd a4 (od j) (i_min (dw (od j)) (G + (ss (od j)))))))).set (t + 5) (.inl (0, 6, .inl (upd a5 (od j) ((dw (od j)) - (i_min (dw (od j)) (G + (ss (od j))))))))).set (t + 6) (.inl (0, 6, .inl a6))).set (t + 7) (.inl (0, 6, .inl a7))).set (t + 6) (.inl (0, 6, .inl (upd a6 (od j) (i_min ((G + (ss (od j))) - (i_min (dw (od j)) (G + (ss (od j))))) (ba (od j))))))) = (((((w.set (t + 3) (.inl (0, 6, .inl (upd a3 (od j) G)))).set (t + 4) (.inl (0, 6, .inl (upd a4 (od j) (i_min (dw (od j)) (G + (ss (od j)))))))).set (t + 5) (.inl (0, 6, .inl (upd a5 (od j) ((dw (od j)) - (i_min (dw (od j)) (G + (ss (od j))))))))).set (t + 6) (.inl (0, 6, .inl (upd a6 (od j) (i_min ((G + (ss (od j))) - (i_min (dw (od j)) (G + (ss (od j))))) (ba (od j))))))).set (t + 7) (.inl (0, 6, .inl a7))) from by rw [List.set_comm _ _ (show t + 7 ≠ t + 6 by omega), List.set_set]]
        rw [show ((((((w.set (t + 3) (.inl (0, 6, .inl (upd a3 (od j) G)))).set (t + 4) (.inl (0, 6, .inl (upd a4 (od j) (i_min (dw (od j)) (G + (ss (od j)))))))).set (t + 5) (.inl (0, 6, .inl (upd a5 (od j) ((dw (od j)) - (i_min (dw (od j)) (G + (ss (od j))))))))).set (t + 6) (.inl (0, 6, .inl (upd a6 (od j) (i_min ((G + (ss (od j))) - (i_min (dw (od j)) (G + (ss (od j))))) (ba (od j))))))).set (t + 7) (.inl (0, 6, .inl a7))).set (t + 7) (.inl (0, 6, .inl (upd a7 (od j) ((G + (ss (od j))) - (i_min (dw (od j)) (G + (ss (od j)))) - (i_min ((G + (ss (od j))) - (i_min (dw (od j)) (G + (ss (od j))))) (ba (od j)))))))) = (((((w.set (t + 3) (.inl (0, 6, .inl (upd a3 (od j) G)))).set (t + 4) (.inl (0, 6, .inl (upd a4 (od j) (i_min (dw (od j)) (G + (ss (od j)))))))).set (t + 5) (.inl (0, 6, .inl (upd a5 (od j) ((dw (od j)) - (i_min (dw (od j)) (G + (ss (od j))))))))).set (t + 6) (.inl (0, 6, .inl (upd a6 (od j) (i_min ((G + (ss (od j))) - (i_min (dw (od j)) (G + (ss (od j))))) (ba (od j))))))).set (t + 7) (.inl (0, 6, .inl (upd a7 (od j) ((G + (ss (od j))) - (i_min (dw (od j)) (G + (ss (od j)))) - (i_min ((G + (ss (od j))) - (i_min (dw (od j)) (G + (ss (od j))))) (ba (od j)))))))) from by rw [List.set_set]]
        exact ih (j + 1) (ds (od j)) (upd a3 (od j) G) (upd a4 (od j) (i_min (dw (od j)) (G + (ss (od j))))) (upd a5 (od j) ((dw (od j)) - (i_min (dw (od j)) (G + (ss (od j)))))) (upd a6 (od j) (i_min ((G + (ss (od j))) - (i_min (dw (od j)) (G + (ss (od j))))) (ba (od j)))) (upd a7 (od j) ((G + (ss (od j))) - (i_min (dw (od j)) (G + (ss (od j)))) - (i_min ((G + (ss (od j))) - (i_min (dw (od j)) (G + (ss (od j))))) (ba (od j))))) (.int (nI (od j))) (by omega) (fun _ => by unfold i_gv; rw [if_neg (by omega), show j + 1 - 1 = j by omega]) (am_fo (F := fun p => i_gv ri tr n ds od p) inj (by omega) q3 (by rw [hG (by omega)] <;> rfl)) (am_fo (F := fun p => i_dr (dw (od p)) (i_gv ri tr n ds od p) (ss (od p))) inj (by omega) q4 (by rw [hG (by omega)] <;> rfl)) (am_fo (F := fun p => i_lk (dw (od p)) (i_gv ri tr n ds od p) (ss (od p))) inj (by omega) q5 (by rw [hG (by omega)] <;> rfl)) (am_fo (F := fun p => i_lf (dw (od p)) (i_gv ri tr n ds od p) (ss (od p)) (ba (od p))) inj (by omega) q6 (by rw [hG (by omega)] <;> rfl)) (am_fo (F := fun p => i_sp (dw (od p)) (i_gv ri tr n ds od p) (ss (od p)) (ba (od p))) inj (by omega) q7 (by rw [hG (by omega)] <;> rfl))
    have hl0 := loop (n) 0 G0 dg dd dl df dv (z5) (by omega) hG0 (fun p hp => by omega) (fun p hp => by omega) (fun p hp => by omega) (fun p hp => by omega) (fun p hp => by omega)
    rw [am_si hd3, am_si hd4, am_si hd5, am_si hd6, am_si hd7] at hl0
    exact hl0
  refine ar_aload_n (pc' := 1) hM rfl rfl rfl ?_
  refine ar_getfield (pc' := 4) hM rfl ht0 rfl rfl ?_
  refine ar_istore_n (pc' := 5) hM rfl rfl rfl rfl ?_
  refine ar_aload_n (pc' := 6) hM rfl rfl rfl ?_
  refine ar_getfield (pc' := 9) hM rfl ht0 rfl rfl ?_
  refine ar_if_eq (pc' := 12) hM rfl rfl (fun c9 => ?_) (fun c9 => ?_)
  · exact hk _ _ _ (fun _ => by unfold i_gv; rw [if_pos rfl, if_pos c9])
  · refine ar_aload_n (pc' := 13) hM rfl rfl rfl ?_
    refine ar_getfield (pc' := 16) hM rfl ht0 rfl rfl ?_
    refine ar_if_le (pc' := 19) hM rfl rfl (fun c16 => ?_) (fun c16 => ?_)
    · exact hk _ _ _ (fun h => absurd c16 (nI_nle h (by omega)))
    · refine ar_aload_n (pc' := 20) hM rfl rfl rfl ?_
      refine ar_getfield (pc' := 23) hM rfl hd0 rfl rfl ?_
      refine ar_aload_n (pc' := 24) hM rfl rfl rfl ?_
      refine ar_getfield (pc' := 27) hM rfl hs0 rfl rfl ?_
      refine ar_aload_n (pc' := 28) hM rfl rfl rfl ?_
      refine ar_getfield (pc' := 31) hM rfl ht0 rfl rfl ?_
      refine ar_iconst (x := 1) (pc' := 32) hM rfl (by decide) rfl ?_
      refine ar_isub (pc' := 33) hM rfl rfl ?_
      rw [show ((nI n) - 1 : Int32) = nI (n - 1) from i_pred (i_nle0 c16)]
      refine ar_ialoadN (j := n - 1) (pc' := 34) hM rfl hs1 rfl (by have := i_nle0 c16; omega) (Nat.le_of_ble_eq_true rfl) rfl ?_
      rw [show (so (n - 1) : Int32) = nI (od (n - 1)) from (hod (n - 1) (by have := i_nle0 c16; omega)).1]
      refine ar_ialoadN (j := od (n - 1)) (pc' := 35) hM rfl hd2 rfl (by have := i_nle0 c16; have := (hod (n - 1) (by omega)).2; omega) (Nat.le_of_ble_eq_true rfl) rfl ?_
      refine ar_istore_n (pc' := 36) hM rfl rfl rfl rfl ?_
      exact hk _ _ _ (fun _ => by unfold i_gv; rw [if_pos rfl, if_neg c9])
