/-! the reference: what each wants, says, is given, draws, lacks, what runs over; a day -/
theorem m_sy_eq (T : p_D) (S : s_S) (g : Int32) (h : Nat) : m_sy T S g h = if (S.2.2.2.2.2.1 >>> (nI h &&& 31)) &&& 1 = 1 then 0 else (if T.2.2.2.2.2.1 h = 3 then m_wt T S g h + 2 else m_wt T S g h) := by
  unfold m_sy i_say i_lie
  split
  · rfl
  · show m_wt T S g h + (if T.2.2.2.2.2.1 h = 3 then 2 else 0) = _
    split
    · rfl
    · exact Int32.add_zero _
theorem m_wt_eq (T : p_D) (S : s_S) (g : Int32) (h : Nat) : m_wt T S g h = if (S.2.2.2.2.2.1 >>> (nI h &&& 31)) &&& 1 = 1 then 0 else i_wbk (T.2.2.2.2.1 h) (T.2.2.2.2.2.1 h) + i_heat T.2.2.2.1 T.2.2.2.2.2.2.2 S.2.2.2.2.2.2 + (if (S.2.2.2.2.1 >>> (nI h &&& 31)) &&& 1 = 1 then 3 else 0) + (if (g >>> (nI h &&& 31)) &&& 1 = 1 then 2 else 0) := rfl
theorem i_dr_eq (wt gv sv : Int32) : (if gv + sv ≤ wt then gv + sv else wt) = i_dr wt gv sv := by
  unfold i_dr i_min
  by_cases h : gv + sv ≤ wt
  · rw [if_pos h]
    by_cases q : gv + sv < wt
    · rw [if_pos q]
    · rw [if_neg q]
      exact Int32.le_antisymm h (Int32.not_lt.mp q)
  · rw [if_neg h, if_neg (fun q => h (Int32.le_of_lt q))]
theorem i_sp_eq (wt gv sv bv : Int32) : (if gv + sv - i_dr wt gv sv ≤ bv then 0 else gv + sv - i_dr wt gv sv - bv) = i_sp wt gv sv bv := by
  unfold i_sp i_lf i_min
  by_cases h : bv < gv + sv - i_dr wt gv sv
  · rw [if_pos h, if_neg (Int32.not_le.mpr h)]
  · rw [if_neg h, if_pos (Int32.not_lt.mp h), Int32.sub_self]
theorem i_lf_eq (wt gv sv bv : Int32) : sv + (gv - i_dr wt gv sv - i_sp wt gv sv bv) = i_lf wt gv sv bv := by
  unfold i_sp
  generalize i_dr wt gv sv = a
  generalize i_lf wt gv sv bv = b
  grind
set_option maxRecDepth 100000 in
set_option maxHeartbeats 4000000 in
theorem d_lay {w : am_W} (T : p_D) {rh rk wh fa gu : Int32} {tl ac nx sc : Nat} {sd : Int64} {ne ki ba he nw td : Nat → Int32} (hm : w[133]? = some (d_O T rh rk tl wh fa gu ac nx sc sd)) (h134 : w[134]? = some (.inl (0, 6, .inl ne))) (h135 : w[135]? = some (.inl (0, 6, .inl ki))) (h136 : w[136]? = some (.inl (0, 6, .inl ba))) (h137 : w[137]? = some (.inl (0, 5, .inl he))) (h138 : w[138]? = some (.inl (0, 42, .inl nw))) (h142 : w[142]? = some (.inl (0, 36, .inl td))) (hT : d_T ne ki ba he T) (lv : Nat) (hlv : lv ≤ 1) (S : s_S) (hvT : v_T T) (hvS : v_S T.2.2.1 S) (hS : d_S nw (21 * lv) T.2.2.1 S) : am_Go 120 (0, [.ref 133, .int (nI lv), .float 0, .float 0, .float 0, .float 0, .float 0, .float 0, .float 0, .float 0], [], w, 0, 0) (fun res w' => ∃ td', res = none ∧ w' = w.set 142 (.inl (0, 36, .inl td')) ∧ d_Y td' T S gu) := by
  have hM : am_P[120]? = some zm_X11_layToday := rfl
  have hn6 : T.2.2.1 ≤ 6 := hvT.1
  refine ar_bipush (x := 21) (pc' := 2) hM rfl (by decide) rfl ?_
  refine ar_iload_n (pc' := 3) hM rfl rfl rfl ?_
  refine ar_imul (pc' := 4) hM rfl rfl ?_
  rw [show (21 * (nI lv) : Int32) = nI (21 * lv) from pk_mul 21 lv]
  refine ar_istore_n (pc' := 5) hM rfl rfl rfl rfl ?_
  refine ar_iconst (x := 0) (pc' := 6) hM rfl (by decide) rfl ?_
  refine ar_istore_n (pc' := 7) hM rfl rfl rfl rfl ?_
  have loop : ∀ (dj j : Nat) (f : Nat → Int32) (z4 : Value) (z5 : Value), dj + j = T.2.2.1 → (∀ h, h < j → f h = m_wt T S gu h) → (∀ h, h < j → f (6 + h) = m_sy T S gu h) → am_Go 120 (7, [.ref 133, .int (nI lv), .int (nI (21 * lv)), .int (nI j), z4, z5, .float 0, .float 0, .float 0, .float 0], [], (w.set 142 (.inl (0, 36, .inl f))), 0, 0) (fun res w' => ∃ td', res = none ∧ w' = w.set 142 (.inl (0, 36, .inl td')) ∧ d_Y td' T S gu) := by
    intro dj
    induction dj with
    | zero =>
      intro j f z4 z5 hj hf1 hf2
      refine ar_iload_n (pc' := 8) hM rfl rfl rfl ?_
      refine ar_aload_n (pc' := 9) hM rfl rfl rfl ?_
      refine ar_getfield (pc' := 12) hM rfl (am_gn (by decide) hm) rfl rfl ?_
      refine ar_icmp_ge (pc' := 15) hM rfl rfl (fun _ => ?_) (fun q => absurd (nI_le (a := T.2.2.1) (b := j) (by omega) (by omega)) q)
      refine ar_iconst (x := 0) (pc' := 153) hM rfl (by decide) rfl ?_
      refine ar_istore_n (pc' := 154) hM rfl rfl rfl rfl ?_
      have loop2 : ∀ (dj j : Nat) (f : Nat → Int32) (z4 : Value) (z5 : Value) (z6 : Value) (z7 : Value) (z8 : Value) (z9 : Value), dj + j = T.2.2.1 → (∀ h, h < T.2.2.1 → f h = m_wt T S gu h) → (∀ h, h < T.2.2.1 → f (6 + h) = m_sy T S gu h) → (∀ h, h < j → f (12 + h) = m_gv T S gu h) → (∀ h, h < j → f (18 + h) = m_dr T S gu h) → (∀ h, h < j → f (24 + h) = m_lk T S gu h) → (∀ h, h < j → f (30 + h) = m_sp T S gu h) → am_Go 120 (154, [.ref 133, .int (nI lv), .int (nI (21 * lv)), .int (nI j), z4, z5, z6, z7, z8, z9], [], (w.set 142 (.inl (0, 36, .inl f))), 0, 0) (fun res w' => ∃ td', res = none ∧ w' = w.set 142 (.inl (0, 36, .inl td')) ∧ d_Y td' T S gu) := by
        intro dj
        induction dj with
        | zero =>
          intro j f z4 z5 z6 z7 z8 z9 hj g1 g2 g3 g4 g5 g6
          refine ar_iload_n (pc' := 155) hM rfl rfl rfl ?_
          refine ar_aload_n (pc' := 156) hM rfl rfl rfl ?_
          refine ar_getfield (pc' := 159) hM rfl (am_gn (by decide) hm) rfl rfl ?_
          refine ar_icmp_ge (pc' := 162) hM rfl rfl (fun _ => ?_) (fun q => absurd (nI_le (a := T.2.2.1) (b := j) (by omega) (by omega)) q)
          refine ar_return hM rfl ?_
          exact ⟨f, rfl, rfl, fun h hh => ⟨g1 h hh, g2 h hh, g3 h (by omega), g4 h (by omega), g5 h (by omega), g6 h (by omega)⟩⟩
        | succ dj ih =>
          intro j f z4 z5 z6 z7 z8 z9 hj g1 g2 g3 g4 g5 g6
          refine ar_iload_n (pc' := 155) hM rfl rfl rfl ?_
          refine ar_aload_n (pc' := 156) hM rfl rfl rfl ?_
          refine ar_getfield (pc' := 159) hM rfl (am_gn (by decide) hm) rfl rfl ?_
          refine ar_icmp_ge (pc' := 162) hM rfl rfl (fun q => absurd q (nI_ge (a := j) (b := T.2.2.1) (by omega) (by omega))) (fun _ => ?_)
          refine ar_aload_n (pc' := 163) hM rfl rfl rfl ?_
          refine ar_getfield (pc' := 166) hM rfl (am_gn (by decide) hm) rfl rfl ?_
          refine ar_iload_n (pc' := 167) hM rfl rfl rfl ?_
          refine ar_iload_n (pc' := 168) hM rfl rfl rfl ?_
          refine ar_iadd (pc' := 169) hM rfl rfl ?_
          rw [show ((nI (21 * lv)) + (nI j) : Int32) = nI (21 * lv + j) from nI_add (21 * lv) j]
          refine ar_ialoadN (j := (21 * lv + j)) (pc' := 170) hM rfl (am_gn (by decide) h138) rfl (by omega) (Nat.le_of_ble_eq_true rfl) rfl ?_
          rw [show (nw (21 * lv + j) : Int32) = nI (S.2.1 j) from (hS.1 j (by omega)).1]
          refine ar_istore (pc' := 172) hM rfl rfl rfl rfl ?_
          have hps := hvS.2.1 j (by omega)
          have cont : ∀ (z5 : Int32), am_Go 120 (239, [.ref 133, .int (nI lv), .int (nI (21 * lv)), .int (nI j), .int (nI (S.2.1 j)), .int z5, z6, z7, z8, z9], [.int (m_gv T S gu j)], (w.set 142 (.inl (0, 36, .inl f))), 0, 0) (fun res w' => ∃ td', res = none ∧ w' = w.set 142 (.inl (0, 36, .inl td')) ∧ d_Y td' T S gu) := by
            intro z5
            refine ar_istore (pc' := 241) hM rfl rfl rfl rfl ?_
            refine ar_iload (pc' := 243) hM rfl rfl rfl ?_
            refine ar_aload_n (pc' := 244) hM rfl rfl rfl ?_
            refine ar_getfield (pc' := 247) hM rfl (am_gn (by decide) hm) rfl rfl ?_
            refine ar_iload_n (pc' := 248) hM rfl rfl rfl ?_
            refine ar_bipush (x := 6) (pc' := 250) hM rfl (by decide) rfl ?_
            refine ar_iadd (pc' := 251) hM rfl rfl ?_
            rw [show ((nI (21 * lv)) + 6 : Int32) = nI (21 * lv + 6) from nI_add (21 * lv) 6]
            refine ar_iload_n (pc' := 252) hM rfl rfl rfl ?_
            refine ar_iadd (pc' := 253) hM rfl rfl ?_
            rw [show ((nI (21 * lv + 6)) + (nI j) : Int32) = nI (21 * lv + 6 + j) from nI_add (21 * lv + 6) j]
            refine ar_ialoadN (j := (21 * lv + 6 + j)) (pc' := 254) hM rfl (am_gn (by decide) h138) rfl (by omega) (Nat.le_of_ble_eq_true rfl) rfl ?_
            rw [show (nw (21 * lv + 6 + j) : Int32) = S.2.2.1 j from (hS.1 j (by omega)).2.1]
            refine ar_iadd (pc' := 255) hM rfl rfl ?_
            refine ar_istore (pc' := 257) hM rfl rfl rfl rfl ?_
            refine ar_aload_n (pc' := 258) hM rfl rfl rfl ?_
            refine ar_getfield (pc' := 261) hM rfl (am_gn (by decide) hm) rfl rfl ?_
            refine ar_iload_n (pc' := 262) hM rfl rfl rfl ?_
            refine ar_ialoadN (j := j) (pc' := 263) hM rfl (am_gs h142) rfl (by omega) (Nat.le_of_ble_eq_true rfl) rfl ?_
            rw [show (f j : Int32) = m_wt T S gu j from (g1 j (by omega))]
            refine ar_iload (pc' := 265) hM rfl rfl rfl ?_
            suffices hj265 : ∀ z_265 : Int32, z_265 = (if ((m_gv T S gu j) + (S.2.2.1 j)) ≤ (m_wt T S gu j) then (m_gv T S gu j) + (S.2.2.1 j) else m_wt T S gu j) → am_Go 120 (279, [.ref 133, .int (nI lv), .int (nI (21 * lv)), .int (nI j), .int (nI (S.2.1 j)), .int z5, .int (m_gv T S gu j), .int ((m_gv T S gu j) + (S.2.2.1 j)), z8, z9], [.int z_265], (w.set 142 (.inl (0, 36, .inl f))), 0, 0) _ by
              refine ar_icmp_ge (pc' := 268) hM rfl rfl (fun c => ?_) (fun c => ?_)
              · refine ar_iload (pc' := 279) hM rfl rfl rfl ?_
                exact hj265 _ (if_pos c).symm
              · refine ar_aload_n (pc' := 269) hM rfl rfl rfl ?_
                refine ar_getfield (pc' := 272) hM rfl (am_gn (by decide) hm) rfl rfl ?_
                refine ar_iload_n (pc' := 273) hM rfl rfl rfl ?_
                refine ar_ialoadN (j := j) (pc' := 274) hM rfl (am_gs h142) rfl (by omega) (Nat.le_of_ble_eq_true rfl) rfl ?_
                rw [show (f j : Int32) = m_wt T S gu j from (g1 j (by omega))]
                refine ar_goto hM rfl ?_
                exact hj265 _ (if_neg c).symm
            rintro _ rfl
            rw [show (if ((m_gv T S gu j) + (S.2.2.1 j)) ≤ (m_wt T S gu j) then (m_gv T S gu j) + (S.2.2.1 j) else m_wt T S gu j : Int32) = m_dr T S gu j from by rw [i_dr_eq]; rfl]
            refine ar_istore (pc' := 281) hM rfl rfl rfl rfl ?_
            refine ar_iload (pc' := 283) hM rfl rfl rfl ?_
            refine ar_iload (pc' := 285) hM rfl rfl rfl ?_
            refine ar_isub (pc' := 286) hM rfl rfl ?_
            refine ar_istore (pc' := 288) hM rfl rfl rfl rfl ?_
            refine ar_aload_n (pc' := 289) hM rfl rfl rfl ?_
            refine ar_getfield (pc' := 292) hM rfl (am_gn (by decide) hm) rfl rfl ?_
            refine ar_bipush (x := 12) (pc' := 294) hM rfl (by decide) rfl ?_
            refine ar_iload_n (pc' := 295) hM rfl rfl rfl ?_
            refine ar_iadd (pc' := 296) hM rfl rfl ?_
            rw [show (12 + (nI j) : Int32) = nI (12 + j) from nI_add 12 j]
            refine ar_iload (pc' := 298) hM rfl rfl rfl ?_
            refine ar_iastoreN (j := (12 + j)) (pc' := 299) hM rfl (am_gs h142) rfl (by omega) (Nat.le_of_ble_eq_true rfl) (by decide) rfl ?_
            refine ar_aload_n (pc' := 300) hM rfl rfl rfl ?_
            refine ar_getfield (pc' := 303) hM rfl (am_gn (by decide) (am_gn (by decide) hm)) rfl rfl ?_
            refine ar_bipush (x := 18) (pc' := 305) hM rfl (by decide) rfl ?_
            refine ar_iload_n (pc' := 306) hM rfl rfl rfl ?_
            refine ar_iadd (pc' := 307) hM rfl rfl ?_
            rw [show (18 + (nI j) : Int32) = nI (18 + j) from nI_add 18 j]
            refine ar_iload (pc' := 309) hM rfl rfl rfl ?_
            refine ar_iastoreN (j := (18 + j)) (pc' := 310) hM rfl (am_gs (am_gs h142)) rfl (by omega) (Nat.le_of_ble_eq_true rfl) (by decide) rfl ?_
            refine ar_aload_n (pc' := 311) hM rfl rfl rfl ?_
            refine ar_getfield (pc' := 314) hM rfl (am_gn (by decide) (am_gn (by decide) (am_gn (by decide) hm))) rfl rfl ?_
            refine ar_bipush (x := 24) (pc' := 316) hM rfl (by decide) rfl ?_
            refine ar_iload_n (pc' := 317) hM rfl rfl rfl ?_
            refine ar_iadd (pc' := 318) hM rfl rfl ?_
            rw [show (24 + (nI j) : Int32) = nI (24 + j) from nI_add 24 j]
            refine ar_aload_n (pc' := 319) hM rfl rfl rfl ?_
            refine ar_getfield (pc' := 322) hM rfl (am_gn (by decide) (am_gn (by decide) (am_gn (by decide) hm))) rfl rfl ?_
            refine ar_iload_n (pc' := 323) hM rfl rfl rfl ?_
            refine ar_ialoadN (j := j) (pc' := 324) hM rfl (am_gs (am_gs (am_gs h142))) rfl (by omega) (Nat.le_of_ble_eq_true rfl) rfl ?_
            rw [show ((upd (upd f (12 + j) (m_gv T S gu j)) (18 + j) (m_dr T S gu j)) j : Int32) = m_wt T S gu j from (by rw [pk_un (by omega), pk_un (by omega)]; exact g1 j (by omega))]
            refine ar_iload (pc' := 326) hM rfl rfl rfl ?_
            refine ar_isub (pc' := 327) hM rfl rfl ?_
            refine ar_iastoreN (j := (24 + j)) (pc' := 328) hM rfl (am_gs (am_gs (am_gs h142))) rfl (by omega) (Nat.le_of_ble_eq_true rfl) (by decide) rfl ?_
            refine ar_aload_n (pc' := 329) hM rfl rfl rfl ?_
            refine ar_getfield (pc' := 332) hM rfl (am_gn (by decide) (am_gn (by decide) (am_gn (by decide) (am_gn (by decide) hm)))) rfl rfl ?_
            refine ar_bipush (x := 30) (pc' := 334) hM rfl (by decide) rfl ?_
            refine ar_iload_n (pc' := 335) hM rfl rfl rfl ?_
            refine ar_iadd (pc' := 336) hM rfl rfl ?_
            rw [show (30 + (nI j) : Int32) = nI (30 + j) from nI_add 30 j]
            refine ar_iload (pc' := 338) hM rfl rfl rfl ?_
            refine ar_aload_n (pc' := 339) hM rfl rfl rfl ?_
            refine ar_getfield (pc' := 342) hM rfl (am_gn (by decide) (am_gn (by decide) (am_gn (by decide) (am_gn (by decide) hm)))) rfl rfl ?_
            refine ar_iload_n (pc' := 343) hM rfl rfl rfl ?_
            refine ar_ialoadN (j := j) (pc' := 344) hM rfl (am_gn (by decide) (am_gn (by decide) (am_gn (by decide) (am_gn (by decide) h136)))) rfl (by omega) (Nat.le_of_ble_eq_true rfl) rfl ?_
            suffices hj344 : ∀ z_344 : Int32, z_344 = (if (((m_gv T S gu j) + (S.2.2.1 j)) - (m_dr T S gu j)) ≤ (ba j) then 0 else (((m_gv T S gu j) + (S.2.2.1 j)) - (m_dr T S gu j)) - (ba j)) → am_Go 120 (360, [.ref 133, .int (nI lv), .int (nI (21 * lv)), .int (nI j), .int (nI (S.2.1 j)), .int z5, .int (m_gv T S gu j), .int ((m_gv T S gu j) + (S.2.2.1 j)), .int (m_dr T S gu j), .int (((m_gv T S gu j) + (S.2.2.1 j)) - (m_dr T S gu j))], [.int z_344, .int (nI (30 + j)), .ref 142], ((((w.set 142 (.inl (0, 36, .inl f))).set 142 (.inl (0, 36, .inl (upd f (12 + j) (m_gv T S gu j))))).set 142 (.inl (0, 36, .inl (upd (upd f (12 + j) (m_gv T S gu j)) (18 + j) (m_dr T S gu j))))).set 142 (.inl (0, 36, .inl (upd (upd (upd f (12 + j) (m_gv T S gu j)) (18 + j) (m_dr T S gu j)) (24 + j) ((m_wt T S gu j) - (m_dr T S gu j)))))), 0, 0) _ by
              refine ar_icmp_le (pc' := 347) hM rfl rfl (fun c => ?_) (fun c => ?_)
              · refine ar_iconst (x := 0) (pc' := 360) hM rfl (by decide) rfl ?_
                exact hj344 _ (if_pos c).symm
              · refine ar_iload (pc' := 349) hM rfl rfl rfl ?_
                refine ar_aload_n (pc' := 350) hM rfl rfl rfl ?_
                refine ar_getfield (pc' := 353) hM rfl (am_gn (by decide) (am_gn (by decide) (am_gn (by decide) (am_gn (by decide) hm)))) rfl rfl ?_
                refine ar_iload_n (pc' := 354) hM rfl rfl rfl ?_
                refine ar_ialoadN (j := j) (pc' := 355) hM rfl (am_gn (by decide) (am_gn (by decide) (am_gn (by decide) (am_gn (by decide) h136)))) rfl (by omega) (Nat.le_of_ble_eq_true rfl) rfl ?_
                refine ar_isub (pc' := 356) hM rfl rfl ?_
                refine ar_goto hM rfl ?_
                exact hj344 _ (if_neg c).symm
            rintro _ rfl
            rw [show (if (((m_gv T S gu j) + (S.2.2.1 j)) - (m_dr T S gu j)) ≤ (ba j) then 0 else (((m_gv T S gu j) + (S.2.2.1 j)) - (m_dr T S gu j)) - (ba j) : Int32) = m_sp T S gu j from by rw [show m_dr T S gu j = i_dr (m_wt T S gu j) (m_gv T S gu j) (S.2.2.1 j) from rfl, (hT.1 j (by omega)).2.2, i_sp_eq]; rfl]
            refine ar_iastoreN (j := (30 + j)) (pc' := 361) hM rfl (am_gs (am_gs (am_gs (am_gs h142)))) rfl (by omega) (Nat.le_of_ble_eq_true rfl) (by decide) rfl ?_
            refine ar_iinc (z := nI (j + 1)) (pc' := 364) hM rfl rfl (nI_1 _) rfl rfl rfl ?_
            refine ar_goto hM rfl ?_
            rw [show ((w.set 142 (.inl (0, 36, .inl f))).set 142 (.inl (0, 36, .inl (upd f (12 + j) (m_gv T S gu j))))) = (w.set 142 (.inl (0, 36, .inl (upd f (12 + j) (m_gv T S gu j))))) from by rw [List.set_set]]
            rw [show ((w.set 142 (.inl (0, 36, .inl (upd f (12 + j) (m_gv T S gu j))))).set 142 (.inl (0, 36, .inl (upd (upd f (12 + j) (m_gv T S gu j)) (18 + j) (m_dr T S gu j))))) = (w.set 142 (.inl (0, 36, .inl (upd (upd f (12 + j) (m_gv T S gu j)) (18 + j) (m_dr T S gu j))))) from by rw [List.set_set]]
            rw [show ((w.set 142 (.inl (0, 36, .inl (upd (upd f (12 + j) (m_gv T S gu j)) (18 + j) (m_dr T S gu j))))).set 142 (.inl (0, 36, .inl (upd (upd (upd f (12 + j) (m_gv T S gu j)) (18 + j) (m_dr T S gu j)) (24 + j) ((m_wt T S gu j) - (m_dr T S gu j)))))) = (w.set 142 (.inl (0, 36, .inl (upd (upd (upd f (12 + j) (m_gv T S gu j)) (18 + j) (m_dr T S gu j)) (24 + j) ((m_wt T S gu j) - (m_dr T S gu j)))))) from by rw [List.set_set]]
            rw [show ((w.set 142 (.inl (0, 36, .inl (upd (upd (upd f (12 + j) (m_gv T S gu j)) (18 + j) (m_dr T S gu j)) (24 + j) ((m_wt T S gu j) - (m_dr T S gu j)))))).set 142 (.inl (0, 36, .inl (upd (upd (upd (upd f (12 + j) (m_gv T S gu j)) (18 + j) (m_dr T S gu j)) (24 + j) ((m_wt T S gu j) - (m_dr T S gu j))) (30 + j) (m_sp T S gu j))))) = (w.set 142 (.inl (0, 36, .inl (upd (upd (upd (upd f (12 + j) (m_gv T S gu j)) (18 + j) (m_dr T S gu j)) (24 + j) ((m_wt T S gu j) - (m_dr T S gu j))) (30 + j) (m_sp T S gu j))))) from by rw [List.set_set]]
            exact ih (j + 1) (upd (upd (upd (upd f (12 + j) (m_gv T S gu j)) (18 + j) (m_dr T S gu j)) (24 + j) (m_lk T S gu j)) (30 + j) (m_sp T S gu j)) (.int (nI (S.2.1 j))) (.int z5) (.int (m_gv T S gu j)) (.int ((m_gv T S gu j) + (S.2.2.1 j))) (.int (m_dr T S gu j)) (.int (((m_gv T S gu j) + (S.2.2.1 j)) - (m_dr T S gu j))) (by omega) (fun h hh => by rw [pk_un (by omega), pk_un (by omega), pk_un (by omega), pk_un (by omega)]; exact g1 h hh) (fun h hh => by rw [pk_un (by omega), pk_un (by omega), pk_un (by omega), pk_un (by omega)]; exact g2 h hh) (fun h hh => by
                rcases Nat.lt_or_ge h j with q | q
                · rw [pk_un (by omega), pk_un (by omega), pk_un (by omega), pk_un (by omega)]; exact g3 h q
                · rw [show h = j by omega, pk_un (by omega), pk_un (by omega), pk_un (by omega), pk_us]) (fun h hh => by
                rcases Nat.lt_or_ge h j with q | q
                · rw [pk_un (by omega), pk_un (by omega), pk_un (by omega), pk_un (by omega)]; exact g4 h q
                · rw [show h = j by omega, pk_un (by omega), pk_un (by omega), pk_us]) (fun h hh => by
                rcases Nat.lt_or_ge h j with q | q
                · rw [pk_un (by omega), pk_un (by omega), pk_un (by omega), pk_un (by omega)]; exact g5 h q
                · rw [show h = j by omega, pk_un (by omega), pk_us]) (fun h hh => by
                rcases Nat.lt_or_ge h j with q | q
                · rw [pk_un (by omega), pk_un (by omega), pk_un (by omega), pk_un (by omega)]; exact g6 h q
                · rw [show h = j by omega, pk_us])
          refine ar_iload (pc' := 174) hM rfl rfl rfl ?_
          refine ar_if_le (pc' := 177) hM rfl rfl (fun c174 => ?_) (fun c174 => ?_)
          · have hp0 : S.2.1 j = 0 := by rcases Nat.eq_zero_or_pos (S.2.1 j) with h | h; exact h; exact absurd c174 (nI_nle h (by omega))
            refine ar_aload_n (pc' := 190) hM rfl rfl rfl ?_
            refine ar_getfield (pc' := 193) hM rfl (am_gn (by decide) hm) rfl rfl ?_
            refine ar_iconst (x := 1) (pc' := 194) hM rfl (by decide) rfl ?_
            refine ar_icmp_ne (pc' := 197) hM rfl rfl (fun c194 => ?_) (fun c194 => ?_)
            · refine ar_bipush (x := (-9)) (pc' := 213) hM rfl (by decide) rfl ?_
              refine ar_istore (pc' := 215) hM rfl rfl rfl rfl ?_
              refine ar_iload (pc' := 217) hM rfl rfl rfl ?_
              refine ar_bipush (x := (-9)) (pc' := 219) hM rfl (by decide) rfl ?_
              refine ar_icmp_ne (pc' := 222) hM rfl rfl (fun q => absurd rfl q) (fun _ => ?_)
              refine ar_aload_n (pc' := 223) hM rfl rfl rfl ?_
              refine ar_getfield (pc' := 226) hM rfl (am_gn (by decide) hm) rfl rfl ?_
              rw [show (T.1 : Int32) = m_gv T S gu j from by unfold m_gv i_gv; rw [if_pos hp0, if_pos (by rcases hvT.2.2 with h | h; exact h; exact absurd h c194)]]
              refine ar_goto hM rfl ?_
              exact cont _
            · refine ar_aload_n (pc' := 198) hM rfl rfl rfl ?_
              refine ar_iload_n (pc' := 199) hM rfl rfl rfl ?_
              refine ar_aload_n (pc' := 200) hM rfl rfl rfl ?_
              refine ar_getfield (pc' := 203) hM rfl (am_gn (by decide) hm) rfl rfl ?_
              refine ar_iconst (x := 1) (pc' := 204) hM rfl (by decide) rfl ?_
              refine ar_isub (pc' := 205) hM rfl rfl ?_
              rw [show ((nI T.2.2.1) - 1 : Int32) = nI (T.2.2.1 - 1) from (i_pred (by omega))]
              refine ar_virtual (pc' := 208) (k3 := 0) (k4 := 0) hM rfl rfl (am_gn (by decide) hm) ⟨rfl, (by decide)⟩ rfl rfl (d_houseAt T (am_gn (by decide) hm) (am_gn (by decide) h138) lv hlv S hn6 hvS hS (T.2.2.1 - 1) (by omega)) (fun r205 w205 q205 => ?_)
              obtain ⟨rfl, q205w⟩ := q205
              rw [q205w]
              show am_Go 120 (208, [.ref 133, .int (nI lv), .int (nI (21 * lv)), .int (nI j), .int (nI (S.2.1 j)), z5, z6, z7, z8, z9], [.int (nI (S.1 (T.2.2.1 - 1)))], (w.set 142 (.inl (0, 36, .inl f))), 0, 0) _
              refine ar_goto hM rfl ?_
              refine ar_istore (pc' := 215) hM rfl rfl rfl rfl ?_
              refine ar_iload (pc' := 217) hM rfl rfl rfl ?_
              refine ar_bipush (x := (-9)) (pc' := 219) hM rfl (by decide) rfl ?_
              refine ar_icmp_ne (pc' := 222) hM rfl rfl (fun _ => ?_) (fun q => absurd q (fun e => absurd (nI_pos' (n := S.1 (T.2.2.1 - 1)) (by have := (hvS.1 (T.2.2.1 - 1) (by omega)).1; omega)) (by rw [e]; decide)))
              refine ar_aload_n (pc' := 230) hM rfl rfl rfl ?_
              refine ar_getfield (pc' := 233) hM rfl (am_gn (by decide) hm) rfl rfl ?_
              refine ar_bipush (x := 6) (pc' := 235) hM rfl (by decide) rfl ?_
              refine ar_iload (pc' := 237) hM rfl rfl rfl ?_
              refine ar_iadd (pc' := 238) hM rfl rfl ?_
              rw [show (6 + (nI (S.1 (T.2.2.1 - 1))) : Int32) = nI (6 + (S.1 (T.2.2.1 - 1))) from nI_add 6 (S.1 (T.2.2.1 - 1))]
              refine ar_ialoadN (j := 6 + S.1 (T.2.2.1 - 1)) (pc' := 239) hM rfl (am_gs h142) rfl (by have := (hvS.1 (T.2.2.1 - 1) (by omega)).1; omega) (Nat.le_of_ble_eq_true rfl) rfl ?_
              rw [show (f (6 + S.1 (T.2.2.1 - 1)) : Int32) = m_gv T S gu j from (by rw [g2 _ (hvS.1 (T.2.2.1 - 1) (by omega)).1]; unfold m_gv i_gv; rw [if_pos hp0, if_neg (by rw [c194]; decide)])]
              exact cont _
          · have hp1 : 0 < S.2.1 j := i_nle0 c174
            refine ar_aload_n (pc' := 178) hM rfl rfl rfl ?_
            refine ar_iload_n (pc' := 179) hM rfl rfl rfl ?_
            refine ar_iload (pc' := 181) hM rfl rfl rfl ?_
            refine ar_iconst (x := 1) (pc' := 182) hM rfl (by decide) rfl ?_
            refine ar_isub (pc' := 183) hM rfl rfl ?_
            rw [show ((nI (S.2.1 j)) - 1 : Int32) = nI (S.2.1 j - 1) from (i_pred hp1)]
            refine ar_virtual (pc' := 186) (k3 := 0) (k4 := 0) hM rfl rfl (am_gn (by decide) hm) ⟨rfl, (by decide)⟩ rfl rfl (d_houseAt T (am_gn (by decide) hm) (am_gn (by decide) h138) lv hlv S hn6 hvS hS (S.2.1 j - 1) (by omega)) (fun r183 w183 q183 => ?_)
            obtain ⟨rfl, q183w⟩ := q183
            rw [q183w]
            show am_Go 120 (186, [.ref 133, .int (nI lv), .int (nI (21 * lv)), .int (nI j), .int (nI (S.2.1 j)), z5, z6, z7, z8, z9], [.int (nI (S.1 (S.2.1 j - 1)))], (w.set 142 (.inl (0, 36, .inl f))), 0, 0) _
            refine ar_goto hM rfl ?_
            refine ar_istore (pc' := 215) hM rfl rfl rfl rfl ?_
            refine ar_iload (pc' := 217) hM rfl rfl rfl ?_
            refine ar_bipush (x := (-9)) (pc' := 219) hM rfl (by decide) rfl ?_
            refine ar_icmp_ne (pc' := 222) hM rfl rfl (fun _ => ?_) (fun q => absurd q (fun e => absurd (nI_pos' (n := S.1 (S.2.1 j - 1)) (by have := (hvS.1 (S.2.1 j - 1) (by omega)).1; omega)) (by rw [e]; decide)))
            refine ar_aload_n (pc' := 230) hM rfl rfl rfl ?_
            refine ar_getfield (pc' := 233) hM rfl (am_gn (by decide) hm) rfl rfl ?_
            refine ar_bipush (x := 6) (pc' := 235) hM rfl (by decide) rfl ?_
            refine ar_iload (pc' := 237) hM rfl rfl rfl ?_
            refine ar_iadd (pc' := 238) hM rfl rfl ?_
            rw [show (6 + (nI (S.1 (S.2.1 j - 1))) : Int32) = nI (6 + (S.1 (S.2.1 j - 1))) from nI_add 6 (S.1 (S.2.1 j - 1))]
            refine ar_ialoadN (j := 6 + S.1 (S.2.1 j - 1)) (pc' := 239) hM rfl (am_gs h142) rfl (by have := (hvS.1 (S.2.1 j - 1) (by omega)).1; omega) (Nat.le_of_ble_eq_true rfl) rfl ?_
            rw [show (f (6 + S.1 (S.2.1 j - 1)) : Int32) = m_gv T S gu j from (by rw [g2 _ (hvS.1 (S.2.1 j - 1) (by omega)).1]; unfold m_gv i_gv; rw [if_neg (by omega)])]
            exact cont _
      exact loop2 (T.2.2.1) 0 f (z4) (z5) (.float 0) (.float 0) (.float 0) (.float 0) (by omega) (fun h hh => hf1 h (by omega)) (fun h hh => hf2 h (by omega)) (fun h hh => absurd hh (by omega)) (fun h hh => absurd hh (by omega)) (fun h hh => absurd hh (by omega)) (fun h hh => absurd hh (by omega))
    | succ dj ih =>
      intro j f z4 z5 hj hf1 hf2
      refine ar_iload_n (pc' := 8) hM rfl rfl rfl ?_
      refine ar_aload_n (pc' := 9) hM rfl rfl rfl ?_
      refine ar_getfield (pc' := 12) hM rfl (am_gn (by decide) hm) rfl rfl ?_
      refine ar_icmp_ge (pc' := 15) hM rfl rfl (fun q => absurd q (nI_ge (a := j) (b := T.2.2.1) (by omega) (by omega))) (fun _ => ?_)
      refine ar_aload_n (pc' := 16) hM rfl rfl rfl ?_
      refine ar_getfield (pc' := 19) hM rfl (am_gn (by decide) hm) rfl rfl ?_
      refine ar_iload_n (pc' := 20) hM rfl rfl rfl ?_
      refine ar_bipush (x := 19) (pc' := 22) hM rfl (by decide) rfl ?_
      refine ar_iadd (pc' := 23) hM rfl rfl ?_
      rw [show ((nI (21 * lv)) + 19 : Int32) = nI (21 * lv + 19) from nI_add (21 * lv) 19]
      refine ar_ialoadN (j := (21 * lv + 19)) (pc' := 24) hM rfl (am_gn (by decide) h138) rfl (by omega) (Nat.le_of_ble_eq_true rfl) rfl ?_
      rw [show (nw (21 * lv + 19) : Int32) = S.2.2.2.2.2.1 from hS.2.2.1]
      refine ar_iload_n (pc' := 25) hM rfl rfl rfl ?_
      refine ar_static (pc' := 28) (k3 := 0) (k4 := 0) hM rfl (by decide) rfl rfl (d_has _ _ _) (fun r25 w25 q25 => ?_)
      obtain ⟨rfl, q25w⟩ := q25
      rw [q25w]
      show am_Go 120 (28, [.ref 133, .int (nI lv), .int (nI (21 * lv)), .int (nI j), z4, z5, .float 0, .float 0, .float 0, .float 0], [.int (if (S.2.2.2.2.2.1 >>> ((nI j) &&& 31)) &&& 1 = 1 then 1 else 0)], (w.set 142 (.inl (0, 36, .inl f))), 0, 0) _
      refine ar_istore (pc' := 30) hM rfl rfl rfl rfl ?_
      refine ar_aload_n (pc' := 31) hM rfl rfl rfl ?_
      refine ar_getfield (pc' := 34) hM rfl (am_gn (by decide) hm) rfl rfl ?_
      refine ar_iload_n (pc' := 35) hM rfl rfl rfl ?_
      refine ar_ialoadN (j := j) (pc' := 36) hM rfl (am_gn (by decide) h135) rfl (by omega) (Nat.le_of_ble_eq_true rfl) rfl ?_
      rw [show (ki j : Int32) = T.2.2.2.2.2.1 j from (hT.1 j (by omega)).2.1]
      refine ar_aload_n (pc' := 37) hM rfl rfl rfl ?_
      refine ar_getfield (pc' := 40) hM rfl (am_gn (by decide) hm) rfl rfl ?_
      refine ar_iload_n (pc' := 41) hM rfl rfl rfl ?_
      refine ar_ialoadN (j := j) (pc' := 42) hM rfl (am_gn (by decide) h134) rfl (by omega) (Nat.le_of_ble_eq_true rfl) rfl ?_
      rw [show (ne j : Int32) = T.2.2.2.2.1 j from (hT.1 j (by omega)).1]
      refine ar_static (pc' := 45) (k3 := 0) (k4 := 0) hM rfl (by decide) rfl rfl (d_wantBy _ _ _) (fun r42 w42 q42 => ?_)
      obtain ⟨rfl, q42w⟩ := q42
      rw [q42w]
      show am_Go 120 (45, [.ref 133, .int (nI lv), .int (nI (21 * lv)), .int (nI j), .int (if (S.2.2.2.2.2.1 >>> ((nI j) &&& 31)) &&& 1 = 1 then 1 else 0), z5, .float 0, .float 0, .float 0, .float 0], [.int (i_wbk (T.2.2.2.2.1 j) (T.2.2.2.2.2.1 j))], (w.set 142 (.inl (0, 36, .inl f))), 0, 0) _
      refine ar_aload_n (pc' := 46) hM rfl rfl rfl ?_
      refine ar_iload_n (pc' := 47) hM rfl rfl rfl ?_
      refine ar_virtual (pc' := 50) (k3 := 0) (k4 := 0) hM rfl rfl (am_gn (by decide) hm) ⟨rfl, (by decide)⟩ rfl rfl (by have h0 := d_heatOn (w := (w.set 142 (.inl (0, 36, .inl f)))) T (am_gn (by decide) hm) (am_gn (by decide) h137) (am_gn (by decide) h138) lv S.2.2.2.2.2.2 hlv hvT.2.1 (by have := hvS.2.2.2; omega) hS.2.2.2; rw [i_heat_congr hT.2] at h0; exact h0) (fun r47 w47 q47 => ?_)
      obtain ⟨rfl, q47w⟩ := q47
      rw [q47w]
      show am_Go 120 (50, [.ref 133, .int (nI lv), .int (nI (21 * lv)), .int (nI j), .int (if (S.2.2.2.2.2.1 >>> ((nI j) &&& 31)) &&& 1 = 1 then 1 else 0), z5, .float 0, .float 0, .float 0, .float 0], [.int (i_heat T.2.2.2.1 T.2.2.2.2.2.2.2 S.2.2.2.2.2.2), .int (i_wbk (T.2.2.2.2.1 j) (T.2.2.2.2.2.1 j))], (w.set 142 (.inl (0, 36, .inl f))), 0, 0) _
      refine ar_iadd (pc' := 51) hM rfl rfl ?_
      refine ar_aload_n (pc' := 52) hM rfl rfl rfl ?_
      refine ar_getfield (pc' := 55) hM rfl (am_gn (by decide) hm) rfl rfl ?_
      refine ar_iload_n (pc' := 56) hM rfl rfl rfl ?_
      refine ar_bipush (x := 18) (pc' := 58) hM rfl (by decide) rfl ?_
      refine ar_iadd (pc' := 59) hM rfl rfl ?_
      rw [show ((nI (21 * lv)) + 18 : Int32) = nI (21 * lv + 18) from nI_add (21 * lv) 18]
      refine ar_ialoadN (j := (21 * lv + 18)) (pc' := 60) hM rfl (am_gn (by decide) h138) rfl (by omega) (Nat.le_of_ble_eq_true rfl) rfl ?_
      rw [show (nw (21 * lv + 18) : Int32) = S.2.2.2.2.1 from hS.2.1]
      refine ar_iload_n (pc' := 61) hM rfl rfl rfl ?_
      refine ar_static (pc' := 64) (k3 := 0) (k4 := 0) hM rfl (by decide) rfl rfl (d_has _ _ _) (fun r61 w61 q61 => ?_)
      obtain ⟨rfl, q61w⟩ := q61
      rw [q61w]
      show am_Go 120 (64, [.ref 133, .int (nI lv), .int (nI (21 * lv)), .int (nI j), .int (if (S.2.2.2.2.2.1 >>> ((nI j) &&& 31)) &&& 1 = 1 then 1 else 0), z5, .float 0, .float 0, .float 0, .float 0], [.int (if (S.2.2.2.2.1 >>> ((nI j) &&& 31)) &&& 1 = 1 then 1 else 0), .int ((i_wbk (T.2.2.2.2.1 j) (T.2.2.2.2.2.1 j)) + (i_heat T.2.2.2.1 T.2.2.2.2.2.2.2 S.2.2.2.2.2.2))], (w.set 142 (.inl (0, 36, .inl f))), 0, 0) _
      suffices hj64 : ∀ z_64 : Int32, z_64 = (if (if (S.2.2.2.2.1 >>> ((nI j) &&& 31)) &&& 1 = 1 then 1 else 0) = (0 : Int32) then 0 else 3) → am_Go 120 (72, [.ref 133, .int (nI lv), .int (nI (21 * lv)), .int (nI j), .int (if (S.2.2.2.2.2.1 >>> ((nI j) &&& 31)) &&& 1 = 1 then 1 else 0), z5, .float 0, .float 0, .float 0, .float 0], [.int z_64, .int ((i_wbk (T.2.2.2.2.1 j) (T.2.2.2.2.2.1 j)) + (i_heat T.2.2.2.1 T.2.2.2.2.2.2.2 S.2.2.2.2.2.2))], (w.set 142 (.inl (0, 36, .inl f))), 0, 0) _ by
        refine ar_if_eq (pc' := 67) hM rfl rfl (fun c => ?_) (fun c => ?_)
        · refine ar_iconst (x := 0) (pc' := 72) hM rfl (by decide) rfl ?_
          exact hj64 _ (if_pos c).symm
        · refine ar_iconst (x := 3) (pc' := 68) hM rfl (by decide) rfl ?_
          refine ar_goto hM rfl ?_
          exact hj64 _ (if_neg c).symm
      rintro _ rfl
      refine ar_iadd (pc' := 73) hM rfl rfl ?_
      refine ar_aload_n (pc' := 74) hM rfl rfl rfl ?_
      refine ar_getfield (pc' := 77) hM rfl (am_gn (by decide) hm) rfl rfl ?_
      refine ar_iload_n (pc' := 78) hM rfl rfl rfl ?_
      refine ar_static (pc' := 81) (k3 := 0) (k4 := 0) hM rfl (by decide) rfl rfl (d_has _ _ _) (fun r78 w78 q78 => ?_)
      obtain ⟨rfl, q78w⟩ := q78
      rw [q78w]
      show am_Go 120 (81, [.ref 133, .int (nI lv), .int (nI (21 * lv)), .int (nI j), .int (if (S.2.2.2.2.2.1 >>> ((nI j) &&& 31)) &&& 1 = 1 then 1 else 0), z5, .float 0, .float 0, .float 0, .float 0], [.int (if (gu >>> ((nI j) &&& 31)) &&& 1 = 1 then 1 else 0), .int (((i_wbk (T.2.2.2.2.1 j) (T.2.2.2.2.2.1 j)) + (i_heat T.2.2.2.1 T.2.2.2.2.2.2.2 S.2.2.2.2.2.2)) + (if (if (S.2.2.2.2.1 >>> ((nI j) &&& 31)) &&& 1 = 1 then 1 else 0) = (0 : Int32) then 0 else 3))], (w.set 142 (.inl (0, 36, .inl f))), 0, 0) _
      suffices hj81 : ∀ z_81 : Int32, z_81 = (if (if (gu >>> ((nI j) &&& 31)) &&& 1 = 1 then 1 else 0) = (0 : Int32) then 0 else 2) → am_Go 120 (89, [.ref 133, .int (nI lv), .int (nI (21 * lv)), .int (nI j), .int (if (S.2.2.2.2.2.1 >>> ((nI j) &&& 31)) &&& 1 = 1 then 1 else 0), z5, .float 0, .float 0, .float 0, .float 0], [.int z_81, .int (((i_wbk (T.2.2.2.2.1 j) (T.2.2.2.2.2.1 j)) + (i_heat T.2.2.2.1 T.2.2.2.2.2.2.2 S.2.2.2.2.2.2)) + (if (if (S.2.2.2.2.1 >>> ((nI j) &&& 31)) &&& 1 = 1 then 1 else 0) = (0 : Int32) then 0 else 3))], (w.set 142 (.inl (0, 36, .inl f))), 0, 0) _ by
        refine ar_if_eq (pc' := 84) hM rfl rfl (fun c => ?_) (fun c => ?_)
        · refine ar_iconst (x := 0) (pc' := 89) hM rfl (by decide) rfl ?_
          exact hj81 _ (if_pos c).symm
        · refine ar_iconst (x := 2) (pc' := 85) hM rfl (by decide) rfl ?_
          refine ar_goto hM rfl ?_
          exact hj81 _ (if_neg c).symm
      rintro _ rfl
      refine ar_iadd (pc' := 90) hM rfl rfl ?_
      refine ar_istore (pc' := 92) hM rfl rfl rfl rfl ?_
      obtain ⟨wv, hwv⟩ : ∃ z : Int32, z = (((i_wbk (T.2.2.2.2.1 j) (T.2.2.2.2.2.1 j)) + (i_heat T.2.2.2.1 T.2.2.2.2.2.2.2 S.2.2.2.2.2.2)) + (if (if (S.2.2.2.2.1 >>> ((nI j) &&& 31)) &&& 1 = 1 then 1 else 0) = (0 : Int32) then 0 else 3)) + (if (if (gu >>> ((nI j) &&& 31)) &&& 1 = 1 then 1 else 0) = (0 : Int32) then 0 else 2) := ⟨_, rfl⟩
      rw [← hwv]
      refine ar_aload_n (pc' := 93) hM rfl rfl rfl ?_
      refine ar_getfield (pc' := 96) hM rfl (am_gn (by decide) hm) rfl rfl ?_
      refine ar_iload_n (pc' := 97) hM rfl rfl rfl ?_
      refine ar_iload (pc' := 99) hM rfl rfl rfl ?_
      suffices hj99 : ∀ z_99 : Int32, z_99 = (if (if (S.2.2.2.2.2.1 >>> ((nI j) &&& 31)) &&& 1 = 1 then 1 else 0) = (0 : Int32) then wv else 0) → am_Go 120 (108, [.ref 133, .int (nI lv), .int (nI (21 * lv)), .int (nI j), .int (if (S.2.2.2.2.2.1 >>> ((nI j) &&& 31)) &&& 1 = 1 then 1 else 0), .int wv, .float 0, .float 0, .float 0, .float 0], [.int z_99, .int (nI j), .ref 142], (w.set 142 (.inl (0, 36, .inl f))), 0, 0) _ by
        refine ar_if_eq (pc' := 102) hM rfl rfl (fun c => ?_) (fun c => ?_)
        · refine ar_iload (pc' := 108) hM rfl rfl rfl ?_
          exact hj99 _ (if_pos c).symm
        · refine ar_iconst (x := 0) (pc' := 103) hM rfl (by decide) rfl ?_
          refine ar_goto hM rfl ?_
          exact hj99 _ (if_neg c).symm
      rintro _ rfl
      rw [show (if (if (S.2.2.2.2.2.1 >>> ((nI j) &&& 31)) &&& 1 = 1 then 1 else 0) = (0 : Int32) then wv else 0 : Int32) = m_wt T S gu j from by rw [m_wt_eq, hwv]; split <;> simp_all]
      refine ar_iastoreN (j := j) (pc' := 109) hM rfl (am_gs h142) rfl (by omega) (Nat.le_of_ble_eq_true rfl) (by decide) rfl ?_
      refine ar_aload_n (pc' := 110) hM rfl rfl rfl ?_
      refine ar_getfield (pc' := 113) hM rfl (am_gn (by decide) (am_gn (by decide) hm)) rfl rfl ?_
      refine ar_bipush (x := 6) (pc' := 115) hM rfl (by decide) rfl ?_
      refine ar_iload_n (pc' := 116) hM rfl rfl rfl ?_
      refine ar_iadd (pc' := 117) hM rfl rfl ?_
      rw [show (6 + (nI j) : Int32) = nI (6 + j) from nI_add 6 j]
      refine ar_iload (pc' := 119) hM rfl rfl rfl ?_
      suffices hj119 : ∀ z_119 : Int32, z_119 = (if (if (S.2.2.2.2.2.1 >>> ((nI j) &&& 31)) &&& 1 = 1 then 1 else 0) = (0 : Int32) then if (T.2.2.2.2.2.1 j) = (3 : Int32) then wv + 2 else wv else 0) → am_Go 120 (145, [.ref 133, .int (nI lv), .int (nI (21 * lv)), .int (nI j), .int (if (S.2.2.2.2.2.1 >>> ((nI j) &&& 31)) &&& 1 = 1 then 1 else 0), .int wv, .float 0, .float 0, .float 0, .float 0], [.int z_119, .int (nI (6 + j)), .ref 142], ((w.set 142 (.inl (0, 36, .inl f))).set 142 (.inl (0, 36, .inl (upd f j (m_wt T S gu j))))), 0, 0) _ by
        refine ar_if_eq (pc' := 122) hM rfl rfl (fun c => ?_) (fun c => ?_)
        · refine ar_aload_n (pc' := 127) hM rfl rfl rfl ?_
          refine ar_getfield (pc' := 130) hM rfl (am_gn (by decide) (am_gn (by decide) hm)) rfl rfl ?_
          refine ar_iload_n (pc' := 131) hM rfl rfl rfl ?_
          refine ar_ialoadN (j := j) (pc' := 132) hM rfl (am_gn (by decide) (am_gn (by decide) h135)) rfl (by omega) (Nat.le_of_ble_eq_true rfl) rfl ?_
          rw [show (ki j : Int32) = T.2.2.2.2.2.1 j from (hT.1 j (by omega)).2.1]
          refine ar_iconst (x := 3) (pc' := 133) hM rfl (by decide) rfl ?_
          suffices hj133 : ∀ z_133 : Int32, z_133 = (if (T.2.2.2.2.2.1 j) = (3 : Int32) then wv + 2 else wv) → am_Go 120 (145, [.ref 133, .int (nI lv), .int (nI (21 * lv)), .int (nI j), .int (if (S.2.2.2.2.2.1 >>> ((nI j) &&& 31)) &&& 1 = 1 then 1 else 0), .int wv, .float 0, .float 0, .float 0, .float 0], [.int z_133, .int (nI (6 + j)), .ref 142], ((w.set 142 (.inl (0, 36, .inl f))).set 142 (.inl (0, 36, .inl (upd f j (m_wt T S gu j))))), 0, 0) _ by
            refine ar_icmp_ne (pc' := 136) hM rfl rfl (fun c => ?_) (fun c => ?_)
            · refine ar_iload (pc' := 145) hM rfl rfl rfl ?_
              exact hj133 _ (if_neg c).symm
            · refine ar_iload (pc' := 138) hM rfl rfl rfl ?_
              refine ar_iconst (x := 2) (pc' := 139) hM rfl (by decide) rfl ?_
              refine ar_iadd (pc' := 140) hM rfl rfl ?_
              refine ar_goto hM rfl ?_
              exact hj133 _ (if_pos c).symm
          rintro _ rfl
          exact hj119 _ (if_pos c).symm
        · refine ar_iconst (x := 0) (pc' := 123) hM rfl (by decide) rfl ?_
          refine ar_goto hM rfl ?_
          exact hj119 _ (if_neg c).symm
      rintro _ rfl
      rw [show (if (if (S.2.2.2.2.2.1 >>> ((nI j) &&& 31)) &&& 1 = 1 then 1 else 0) = (0 : Int32) then if (T.2.2.2.2.2.1 j) = (3 : Int32) then wv + 2 else wv else 0 : Int32) = m_sy T S gu j from by rw [m_sy_eq, m_wt_eq, hwv]; split <;> simp_all]
      refine ar_iastoreN (j := (6 + j)) (pc' := 146) hM rfl (am_gs (am_gs h142)) rfl (by omega) (Nat.le_of_ble_eq_true rfl) (by decide) rfl ?_
      refine ar_iinc (z := nI (j + 1)) (pc' := 149) hM rfl rfl (nI_1 _) rfl rfl rfl ?_
      refine ar_goto hM rfl ?_
      rw [show ((w.set 142 (.inl (0, 36, .inl f))).set 142 (.inl (0, 36, .inl (upd f j (m_wt T S gu j))))) = (w.set 142 (.inl (0, 36, .inl (upd f j (m_wt T S gu j))))) from by rw [List.set_set]]
      rw [show ((w.set 142 (.inl (0, 36, .inl (upd f j (m_wt T S gu j))))).set 142 (.inl (0, 36, .inl (upd (upd f j (m_wt T S gu j)) (6 + j) (m_sy T S gu j))))) = (w.set 142 (.inl (0, 36, .inl (upd (upd f j (m_wt T S gu j)) (6 + j) (m_sy T S gu j))))) from by rw [List.set_set]]
      exact ih (j + 1) (upd (upd f j (m_wt T S gu j)) (6 + j) (m_sy T S gu j)) (.int (if (S.2.2.2.2.2.1 >>> ((nI j) &&& 31)) &&& 1 = 1 then 1 else 0)) (.int wv) (by omega) (fun h hh => by
          rcases Nat.lt_or_ge h j with q | q
          · rw [pk_un (by omega), pk_un (by omega)]; exact hf1 h q
          · rw [show h = j by omega, pk_un (by omega), pk_us]) (fun h hh => by
          rcases Nat.lt_or_ge h j with q | q
          · rw [pk_un (by omega), pk_un (by omega)]; exact hf2 h q
          · rw [show h = j by omega, pk_us])
  have hl0 := loop (T.2.2.1) 0 td (.float 0) (.float 0) (by omega) (fun h hh => absurd hh (by omega)) (fun h hh => absurd hh (by omega))
  rw [am_si h142] at hl0
  exact hl0
