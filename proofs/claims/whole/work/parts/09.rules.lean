/-! more rules: places in rows as natural numbers; what a changed world holds -/
theorem am_gs {w : am_W} {a : Nat} {x e : am_E} (h : w[a]? = some x) : (w.set a e)[a]? = some e := List.getElem?_set_self (List.getElem?_eq_some_iff.mp h).1
theorem am_gn {w : am_W} {a b : Nat} {x e : am_E} (hn : a ≠ b) (h : w[b]? = some x) : (w.set a e)[b]? = some x := by rw [List.getElem?_set_ne hn]; exact h
theorem am_b01 {P : Prop} [Decidable P] : (if P then (1 : Int32) else 0) = 0 ∨ (if P then (1 : Int32) else 0) = 1 := by
  split
  · exact Or.inr rfl
  · exact Or.inl rfl
theorem am_ixN {i : Int32} {j n : Nat} (hi : i = nI j) (hlt : j < n) (hn : n ≤ 1000000) : am_ix i n = true ∧ i.toNatClampNeg = j := by
  subst hi
  refine ⟨?_, nI_clamp (by omega)⟩
  have := vp_in_nI hlt (by omega)
  unfold am_ix
  exact decide_eq_true this
section AR2
variable {y : Nat} {M : am_M} {Q : Option Value → am_W → Prop} {pc pc' q0 len a b k1 k2 : Nat} {v : Int} {ls st : List Value} {w : am_W}
theorem ar_ialoadN {q n j : Nat} {f : Nat → Int32} {i : Int32} (hM : am_P[y]? = some M) (hr : am_row M.1 pc = some (q0, .iaload, len, a, b, v)) (hw : w[q]? = some (.inl (0, n, .inl f))) (hi : i = nI j) (hlt : j < n) (hn : n ≤ 1000000) (hp : pc + 1 = pc') (k : am_Go y (pc', ls, .int (f j) :: st, w, k1, k2) Q) : am_Go y (pc, ls, .int i :: .ref q :: st, w, k1, k2) Q := by
  obtain ⟨h1, h2⟩ := am_ixN hi hlt hn
  exact ar_iaload hM hr hw h1 hp (by rw [h2]; exact k)
theorem ar_baloadN {q n j : Nat} {f : Nat → Int32} {i : Int32} (hM : am_P[y]? = some M) (hr : am_row M.1 pc = some (q0, .baload, len, a, b, v)) (hw : w[q]? = some (.inl (1, n, .inl f))) (hi : i = nI j) (hlt : j < n) (hn : n ≤ 1000000) (hq : 2 ≤ q) (hp : pc + 1 = pc') (k : am_Go y (pc', ls, .int (f j) :: st, w, k1, k2) Q) : am_Go y (pc, ls, .int i :: .ref q :: st, w, k1, k2) Q := by
  obtain ⟨h1, h2⟩ := am_ixN hi hlt hn
  exact ar_baload hM hr hw h1 hq hp (by rw [h2]; exact k)
theorem ar_aaloadN {q n j z : Nat} {f : Nat → Option Nat} {i : Int32} (hM : am_P[y]? = some M) (hr : am_row M.1 pc = some (q0, .aaload, len, a, b, v)) (hw : w[q]? = some (.inl (2, n, .inr f))) (hi : i = nI j) (hlt : j < n) (hn : n ≤ 1000000) (hq : 2 ≤ q) (hz : f j = some z) (hp : pc + 1 = pc') (k : am_Go y (pc', ls, .ref z :: st, w, k1, k2) Q) : am_Go y (pc, ls, .int i :: .ref q :: st, w, k1, k2) Q := by
  obtain ⟨h1, h2⟩ := am_ixN hi hlt hn
  exact ar_aaload hM hr hw h1 hq (by rw [h2]; exact hz) hp k
theorem ar_iastoreN {q n j : Nat} {f : Nat → Int32} {i x : Int32} (hM : am_P[y]? = some M) (hr : am_row M.1 pc = some (q0, .iastore, len, a, b, v)) (hw : w[q]? = some (.inl (0, n, .inl f))) (hi : i = nI j) (hlt : j < n) (hn : n ≤ 1000000) (hq : 2 ≤ q) (hp : pc + 1 = pc') (k : am_Go y (pc', ls, st, w.set q (.inl (0, n, .inl (upd f j x))), k1, k2) Q) : am_Go y (pc, ls, .int x :: .int i :: .ref q :: st, w, k1, k2) Q := by
  obtain ⟨h1, h2⟩ := am_ixN hi hlt hn
  exact ar_iastore hM hr hw h1 hq hp (by rw [h2]; exact k)
theorem ar_bastoreN {q n j : Nat} {f : Nat → Int32} {i x : Int32} (hM : am_P[y]? = some M) (hr : am_row M.1 pc = some (q0, .bastore, len, a, b, v)) (hw : w[q]? = some (.inl (1, n, .inl f))) (hi : i = nI j) (hlt : j < n) (hn : n ≤ 1000000) (hq : 2 ≤ q) (hx : am_fit 1 (.int x) = true) (hp : pc + 1 = pc') (k : am_Go y (pc', ls, st, w.set q (.inl (1, n, .inl (upd f j x))), k1, k2) Q) : am_Go y (pc, ls, .int x :: .int i :: .ref q :: st, w, k1, k2) Q := by
  obtain ⟨h1, h2⟩ := am_ixN hi hlt hn
  exact ar_bastore hM hr hw h1 hq hx hp (by rw [h2]; exact k)
theorem ar_arraycopyN {c q1 q2 n1 n2 m : Nat} {f g : Nat → Int32} {n : Int32} (hM : am_P[y]? = some M) (hr : am_row M.1 pc = some (q0, .invokestatic c, len, a, b, v)) (ha : a = 1001) (hw1 : w[q1]? = some (.inl (0, n1, .inl f))) (hw2 : w[q2]? = some (.inl (0, n2, .inl g))) (hm : n = nI m) (h1 : m ≤ n1) (h2 : m ≤ n2) (hn : m ≤ 1000000) (hq1 : 2 ≤ q1) (hq2 : 2 ≤ q2) (hc : (st.map fun v => v.category).sum ≤ 8) (hp : pc + 3 = pc') (k : am_Go y (pc', ls, st, w.set q2 (.inl (0, n2, .inl (va_cpy f g 0 0 m))), k1, k2) Q) : am_Go y (pc, ls, .int n :: .int 0 :: .ref q2 :: .int 0 :: .ref q1 :: st, w, k1, k2) Q := by
  subst hm
  have e0 : (0 : Int32).toNatClampNeg = 0 := rfl
  have e1 : (nI m).toNatClampNeg = m := nI_clamp (by omega)
  exact ar_arraycopy hM hr ha hw1 hw2 ⟨by decide, by decide, nI_pos (by omega), by rw [e0, e1]; omega, by rw [e0, e1]; omega, hq1, hq2, hc⟩ hp (by rw [e0, e1]; exact k)
end AR2
/-- nothing changes but at these places -/
def am_same (X : Nat → Prop) (w w' : am_W) : Prop := ∀ b, ¬ X b → w'[b]? = w[b]?
theorem am_same.rf {X : Nat → Prop} {w : am_W} : am_same X w w := fun _ _ => rfl
theorem am_same.set {X : Nat → Prop} {w w1 : am_W} {a : Nat} {e : am_E} (h : am_same X w w1) (ha : X a) : am_same X w (w1.set a e) := fun b hb => by rw [List.getElem?_set_ne (fun q => hb (by rw [← q]; exact ha))]; exact h b hb
theorem am_same.tr {X : Nat → Prop} {w w1 w2 : am_W} (h1 : am_same X w w1) (h2 : am_same X w1 w2) : am_same X w w2 := fun b hb => (h2 b hb).trans (h1 b hb)
theorem am_same.mono {X Y : Nat → Prop} {w w1 : am_W} (h : am_same X w w1) (hXY : ∀ b, X b → Y b) : am_same Y w w1 := fun b hb => h b (fun q => hb (hXY b q))
theorem am_same.at {X : Nat → Prop} {w w1 : am_W} (h : am_same X w w1) {b : Nat} {x : Option am_E} (hb : ¬ X b) (hx : w[b]? = x) : w1[b]? = x := (h b hb).trans hx
