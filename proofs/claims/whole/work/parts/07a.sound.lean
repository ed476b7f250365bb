/-! THE REAL MACHINE FOLLOWS THE SMALL ONE, I: how a state of the small machine lies in the real one -/
def am_fac : Nat → Int32 := fun k => match k with
  | 0 => 1
  | 1 => 1
  | 2 => 2
  | 3 => 6
  | 4 => 24
  | 5 => 120
  | _ => 720
/-- addresses (the static row, the script, the first new cell), the row classes, the classes, the script -/
abbrev am_G : Type := (Nat × Nat × Nat) × (ClassId × ClassId × ClassId) × va_G × Nat × (Nat → Int32)
def am_ad (g : am_G) : Nat → Nat
  | 0 => g.1.1
  | 1 => g.1.2.1
  | k + 2 => g.1.2.2 + k
def am_vm (g : am_G) : Value → Value
  | .ref k => .ref (am_ad g k)
  | v => v
def am_kc (g : am_G) (t : Nat) : ClassId := if t = 0 then g.2.1.1 else if t = 1 then g.2.1.2.1 else g.2.1.2.2
def am_em (g : am_G) : am_E → va_E
  | .inl (t, n, .inl f) => .inl (am_kc g t, n, .inl f)
  | .inl (t, n, .inr f) => .inl (am_kc g t, n, .inr (.inr (.inr (.inr (fun j => (f j).map (am_ad g))))))
  | .inr (ci, fs) => .inr (ci, fs.map (am_vm g))
abbrev am_new (g : am_G) : Nat → Prop := fun q => g.1.2.2 ≤ q
def am_H (g : am_G) (w : am_W) (H : Heap) : Prop := 2 ≤ w.length ∧ H.size = g.1.2.2 + (w.length - 2) ∧ w[0]? = some (.inl (0, 7, .inl am_fac)) ∧ w[1]? = some (.inl (0, g.2.2.2.1, .inl g.2.2.2.2)) ∧ ∀ (k : Nat) (e : am_E), w[k + 2]? = some e → va_at g.2.2.1 am_cl (g.1.2.2 + k, am_em g e) H
def am_O (g : am_G) (U : State) (H : Heap) : Prop := va_T .int g.1.1 7 (fun j => .int (am_fac j)) (am_new g) U H ∧ va_T .int g.1.2.1 g.2.2.2.1 (fun j => .int (g.2.2.2.2 j)) (am_new g) U H ∧ va_Z "ThirstRow" "FACTORIALS" "[I" (.ref g.1.1) (am_new g) U H
abbrev am_tys (g : am_G) : List (ClassId × FieldType) := [(g.2.1.1, .int), (g.2.1.2.1, .boolean), (g.2.1.2.2, .object RX6)]
def am_K (g : am_G) (U : State) : Prop := va_K g.2.2.1 am_cl (am_tys g) U ∧ (∀ w ∈ am_nests, va_Nw w U) ∧ va_AO RX6 U
def am_rl (v : Value) : Bool := match v with
  | .float _ => false
  | .double _ => false
  | _ => true
def am_lv (g : am_G) (ls : List Value) : List (Nat × Value) := (List.range ls.length).filterMap (fun i => match ls[i]? with
  | some v => if am_rl v = true then some (i, am_vm g v) else none
  | none => none)
abbrev am_L (g : am_G) (ls : List Value) (rs : Array Slot) : Prop := lv_has rs ls.length (am_lv g ls)
theorem am_lv_mem {g : am_G} {ls : List Value} {i : Nat} {v : Value} : (i, v) ∈ am_lv g ls ↔ ∃ u, ls[i]? = some u ∧ am_rl u = true ∧ v = am_vm g u := by
  unfold am_lv
  rw [List.mem_filterMap]
  constructor
  · rintro ⟨j, hj, h⟩
    split at h
    next u hu =>
      split at h
      next hr => cases h; exact ⟨u, hu, hr, rfl⟩
      next => cases h
    next => cases h
  · rintro ⟨u, hu, hr, rfl⟩
    refine ⟨i, List.mem_range.mpr (List.getElem?_eq_some_iff.mp hu).1, ?_⟩
    simp only [hu]
    rw [if_pos hr]
theorem am_L.at {g : am_G} {ls : List Value} {rs : Array Slot} (h : am_L g ls rs) {i : Nat} {u : Value} (hu : ls[i]? = some u) (hr : am_rl u = true) : rs[i]? = some (.val (am_vm g u)) := h.2.2 (i, am_vm g u) (am_lv_mem.mpr ⟨u, hu, hr, rfl⟩)
theorem am_vm_cat (g : am_G) (v : Value) : (am_vm g v).category = v.category := by cases v <;> rfl
theorem am_free_lt {ls : List Value} {i : Nat} (hf : am_free ls i = true) : i < ls.length := by
  simp only [am_free, Bool.and_eq_true] at hf
  have h := hf.1
  simp only [Nat.blt] at h
  exact Nat.le_of_ble_eq_true h
theorem am_free_prev {ls : List Value} {j : Nat} {u : Value} (hf : am_free ls (j + 1) = true) (hu : ls[j]? = some u) (hr : am_rl u = true) : ¬ u.category = 2 := by
  simp only [am_free, Bool.and_eq_true] at hf
  have h := hf.2
  rw [hu] at h
  cases u <;> simp_all [Value.category, am_rl]
theorem am_L.store1 {g : am_G} {ls : List Value} {rs' : Array Slot} {i : Nat} {v : Value} (hf : am_free ls i = true) (h : lv_has rs' ls.length ((i, am_vm g v) :: (am_lv g ls).filter (fun q => !(q.1 == i) && !(q.1 + 1 == i && q.2.category == 2)))) : am_L g (ls.set i v) rs' := by
  refine ⟨by rw [List.length_set]; exact h.1, h.2.1, fun q hq => ?_⟩
  obtain ⟨j, x⟩ := q
  obtain ⟨u, hu, hr, rfl⟩ := am_lv_mem.mp hq
  have hi := am_free_lt hf
  by_cases hj : i = j
  · subst hj
    rw [List.getElem?_set_self hi] at hu
    cases hu
    exact h.2.2 _ List.mem_cons_self
  · rw [List.getElem?_set_ne hj] at hu
    refine h.2.2 _ (List.mem_cons_of_mem _ (List.mem_filter.mpr ⟨am_lv_mem.mpr ⟨u, hu, hr, rfl⟩, ?_⟩))
    simp only [Bool.and_eq_true, Bool.not_eq_true', beq_eq_false_iff_ne, ne_eq, Bool.and_eq_false_iff]
    refine ⟨fun e => hj e.symm, ?_⟩
    by_cases hz : j + 1 = i
    · subst hz
      exact Or.inr (by rw [am_vm_cat]; exact am_free_prev hf hu hr)
    · exact Or.inl hz
theorem am_L.store2 {g : am_G} {ls : List Value} {rs' : Array Slot} {i : Nat} {v : Value} (hf : am_free ls i = true) (h2 : i + 1 < ls.length) (h : lv_has rs' ls.length ((i, am_vm g v) :: (am_lv g ls).filter (fun q => !(q.1 == i) && (!(q.1 == i + 1) && !(q.1 + 1 == i && q.2.category == 2))))) : am_L g ((ls.set i v).set (i + 1) (.float 0)) rs' := by
  refine ⟨by rw [List.length_set, List.length_set]; exact h.1, h.2.1, fun q hq => ?_⟩
  obtain ⟨j, x⟩ := q
  obtain ⟨u, hu, hr, rfl⟩ := am_lv_mem.mp hq
  have hi := am_free_lt hf
  by_cases hk : i + 1 = j
  · subst hk
    rw [List.getElem?_set_self (by rw [List.length_set]; exact h2)] at hu
    cases hu
    simp [am_rl] at hr
  · rw [List.getElem?_set_ne hk] at hu
    by_cases hj : i = j
    · subst hj
      rw [List.getElem?_set_self hi] at hu
      cases hu
      exact h.2.2 _ List.mem_cons_self
    · rw [List.getElem?_set_ne hj] at hu
      refine h.2.2 _ (List.mem_cons_of_mem _ (List.mem_filter.mpr ⟨am_lv_mem.mpr ⟨u, hu, hr, rfl⟩, ?_⟩))
      simp only [Bool.and_eq_true, Bool.not_eq_true', beq_eq_false_iff_ne, ne_eq, Bool.and_eq_false_iff]
      refine ⟨fun e => hj e.symm, fun e => hk e.symm, ?_⟩
      by_cases hz : j + 1 = i
      · subst hz
        exact Or.inr (by rw [am_vm_cat]; exact am_free_prev hf hu hr)
      · exact Or.inl hz
/-- the locals with which a method begins -/
theorem am_sl_len (g : am_G) (vs : List Value) : (lg_sl (vs.map (am_vm g))).length = (am_sl vs).length := by
  induction vs with
  | nil => rfl
  | cons v vs ih =>
    simp only [List.map_cons, lg_sl, am_sl, List.flatMap_cons, List.length_append] at ih ⊢
    rw [ih, am_vm_cat]
    split <;> rfl
theorem am_sl_at (g : am_G) : ∀ (vs : List Value) (o i : Nat) (u : Value), (am_sl vs)[i]? = some u → am_rl u = true → (o + i, am_vm g u) ∈ lv_args o (vs.map (am_vm g)) := by
  intro vs
  induction vs with
  | nil => intro o i u h; simp [am_sl] at h
  | cons v vs ih =>
    intro o i u h hr
    simp only [am_sl, List.flatMap_cons] at h
    simp only [List.map_cons, lv_args, am_vm_cat]
    by_cases hc : v.category = 2
    · rw [if_pos hc] at h
      rw [if_pos hc]
      match i, h with
      | 0, h => cases h; exact List.mem_cons_self
      | 1, h => cases h; simp [am_rl] at hr
      | k + 2, h =>
        refine List.mem_cons_of_mem _ ?_
        have := ih (o + 2) k u h hr
        rw [show o + (k + 2) = o + 2 + k by omega]
        exact this
    · rw [if_neg hc] at h
      rw [if_neg hc]
      match i, h with
      | 0, h => cases h; exact List.mem_cons_self
      | k + 1, h =>
        refine List.mem_cons_of_mem _ ?_
        have := ih (o + 1) k u h hr
        rw [show o + (k + 1) = o + 1 + k by omega]
        exact this
theorem am_L.entry {g : am_G} {vs : List Value} {n : Nat} (h : (am_sl vs).length ≤ n) : am_L g (am_ent n vs) ((lg_sl (vs.map (am_vm g)) ++ List.replicate (n - (lg_sl (vs.map (am_vm g))).length) Slot.unset).toArray) := by
  have e := lv_entry (vs.map (am_vm g)) (n := n) (by rw [am_sl_len]; exact h)
  have hl : (am_ent n vs).length = n := by unfold am_ent; rw [List.length_append, List.length_replicate]; omega
  refine ⟨by rw [hl]; exact e.1, e.2.1, fun q hq => ?_⟩
  obtain ⟨j, x⟩ := q
  obtain ⟨u, hu, hr, rfl⟩ := am_lv_mem.mp hq
  refine e.2.2 _ ?_
  have hj : j < (am_sl vs).length := by
    rcases Nat.lt_or_ge j (am_sl vs).length with q | q
    · exact q
    · unfold am_ent at hu
      rw [List.getElem?_append_right q] at hu
      have := List.eq_of_mem_replicate (List.mem_of_getElem? hu)
      subst this
      simp [am_rl] at hr
  have := am_sl_at g vs 0 j u (by unfold am_ent at hu; rwa [List.getElem?_append_left hj] at hu) hr
  simpa using this
/-- a cell changes -/
theorem am_H.set {g : am_G} {w : am_W} {H H1 : Heap} {k : Nat} {e0 e : am_E} (h : am_H g w H) (hw : w[k + 2]? = some e0) (he : va_at g.2.2.1 am_cl (g.1.2.2 + k, am_em g e) H1) (z : H1.size = H.size) (oq : ∀ q : Nat, q ≠ g.1.2.2 + k → H1[q]? = H[q]?) : am_H g (w.set (k + 2) e) H1 := by
  obtain ⟨h1, h2, h3, h4, h5⟩ := h
  have hl := (List.getElem?_eq_some_iff.mp hw).1
  refine ⟨by rw [List.length_set]; exact h1, by rw [List.length_set, z]; exact h2, by rw [List.getElem?_set_ne (by omega)]; exact h3, by rw [List.getElem?_set_ne (by omega)]; exact h4, fun j e' hj => ?_⟩
  by_cases hk : k = j
  · subst hk
    rw [List.getElem?_set_self hl] at hj
    cases hj
    exact he
  · rw [List.getElem?_set_ne (by omega)] at hj
    exact (h5 j e' hj).kept (oq _ (show g.1.2.2 + j ≠ g.1.2.2 + k by omega))
/-- a cell comes -/
theorem am_H.app {g : am_G} {w : am_W} {H H1 : Heap} {e : am_E} (h : am_H g w H) (he : va_at g.2.2.1 am_cl (H.size, am_em g e) H1) (z : H1.size = H.size + 1) (oq : ∀ q : Nat, q < H.size → H1[q]? = H[q]?) : am_H g (w ++ [e]) H1 := by
  obtain ⟨h1, h2, h3, h4, h5⟩ := h
  refine ⟨by rw [List.length_append]; omega, by rw [List.length_append, z, h2]; simp only [List.length_cons, List.length_nil]; omega, by rw [List.getElem?_append_left (by omega)]; exact h3, by rw [List.getElem?_append_left (by omega)]; exact h4, fun j e' hj => ?_⟩
  rcases Nat.lt_or_ge (j + 2) w.length with q | q
  · rw [List.getElem?_append_left q] at hj
    exact (h5 j e' hj).kept (oq _ (show g.1.2.2 + j < H.size by omega))
  · rw [List.getElem?_append_right q] at hj
    have hz : j + 2 - w.length < 1 := (List.getElem?_eq_some_iff.mp hj).1
    rw [show j + 2 - w.length = 0 by omega] at hj
    cases hj
    rw [show g.1.2.2 + j = H.size by omega]
    exact he
theorem am_ad_len {g : am_G} {w : am_W} {H : Heap} (h : am_H g w H) : am_ad g w.length = H.size := by
  obtain ⟨h1, h2, -⟩ := h
  obtain ⟨n, hn⟩ : ∃ n, w.length = n + 2 := ⟨w.length - 2, by omega⟩
  rw [hn] at h2 ⊢
  show g.1.2.2 + n = H.size
  omega
theorem am_O.moved {g : am_G} {u U : State} {H : Heap} (hvm : u.vm.Alike U.vm) (h : am_O g u H) : am_O g U H := ⟨va_T.moved hvm h.1, va_T.moved hvm h.2.1, va_Z.moved hvm h.2.2⟩
theorem am_O.kept {g : am_G} {U : State} {H H1 : Heap} (h : am_O g U H) (hq : ∀ a : Nat, a < H.size → ¬ am_new g a → H1[a]? = H[a]?) : am_O g U H1 := ⟨h.1.kept hq, h.2.1.kept hq, h.2.2.kept hq⟩
theorem am_K.warm {g : am_G} {s U : State} (hW : s.WarmedH U.vm) (h : am_K g s) : am_K g U := by
  refine ⟨va_K.moved hW.alike h.1, fun w hw => ?_, va_AO.moved hW.alike h.2.2⟩
  have hz := h.2.1 w hw
  simp only [am_nests, List.mem_cons, List.not_mem_nil, or_false] at hw
  rcases hw with rfl | rfl | rfl | rfl | rfl | rfl | rfl | rfl | rfl | rfl | rfl <;> exact va_Nw.warmM hW hz
theorem am_K.same {g : am_G} {s U : State} (hvm : s.vm = U.vm) (h : am_K g s) : am_K g U := by
  refine ⟨va_K.moved (by rw [hvm]; exact Vm.Alike.refl _) h.1, fun w hw => ?_, va_AO.moved (by rw [hvm]; exact Vm.Alike.refl _) h.2.2⟩
  have hz := h.2.1 w hw
  simp only [am_nests, List.mem_cons, List.not_mem_nil, or_false] at hw
  rcases hw with rfl | rfl | rfl | rfl | rfl | rfl | rfl | rfl | rfl | rfl | rfl <;> exact va_Nw.same rfl hvm hz
def am_good : List Cond := lw_tbl.filter goodWord
theorem am_good_in {w : Cond} (h : w ∈ lw_tbl) (hg : goodWord w = true) : w ∈ am_good := List.mem_filter.mpr ⟨h, hg⟩
theorem am_good_of {ws : List Cond} (ps : List Nat) (h2 : ws = ps.filterMap (fun i => lw_tbl[i]?)) (h3 : ws.all goodWord = true) : ∀ w ∈ ws, w ∈ am_good := by
  intro w hm
  refine am_good_in ?_ (List.all_eq_true.mp h3 w hm)
  rw [h2] at hm
  obtain ⟨i, -, hi⟩ := List.mem_filterMap.mp hm
  exact List.mem_of_getElem? hi
/-- what the tables say of a class -/
def am_clok (a : Nat) (q : vw_C) : Prop := (∀ w ∈ u_ws q.1 q.2.1 q.2.2, w ∈ am_good) ∧ (∀ x, x < q.2.2 → ∀ y, y < q.2.2 → x ≠ y → (q.2.1 x).2.1 ≠ (q.2.1 y).2.1) ∧ ∃ ty : Nat → FieldType, (∀ k, k < q.2.2 → parseFieldDescriptor (q.2.1 k).2.2.1 = some (ty k)) ∧ ∀ fs, am_D[a]? = some fs → fs.length = q.2.2 ∧ ∀ (g : am_G) (j : Nat), j < q.2.2 → defaultValue (ty j) = vp_V (fs.map (am_vm g)) j
set_option maxRecDepth 100000 in
theorem zc_0 : am_clok 0 (RX0, TX0, 3) := ⟨am_good_of [206, 208, 210] (by decide +kernel) (by decide +kernel), nmX0, tyX0, tyX0_ok, fun fs h => by
  cases h
  refine ⟨rfl, fun g j hj => ?_⟩
  have hj : j < 3 := hj
  rcases (show j = 0 ∨ j = 1 ∨ j = 2 by omega) with rfl | rfl | rfl <;> rfl⟩
set_option maxRecDepth 100000 in
theorem zc_1 : am_clok 1 (RX1, TX1, 7) := ⟨am_good_of [336, 338, 340, 342, 344, 346, 348] (by decide +kernel) (by decide +kernel), nmX1, tyX1, tyX1_ok, fun fs h => by
  cases h
  refine ⟨rfl, fun g j hj => ?_⟩
  have hj : j < 7 := hj
  rcases (show j = 0 ∨ j = 1 ∨ j = 2 ∨ j = 3 ∨ j = 4 ∨ j = 5 ∨ j = 6 by omega) with rfl | rfl | rfl | rfl | rfl | rfl | rfl <;> rfl⟩
set_option maxRecDepth 100000 in
theorem zc_2 : am_clok 2 (RX2, TX2, 5) := ⟨am_good_of [305, 307, 309, 311, 313] (by decide +kernel) (by decide +kernel), nmX2, tyX2, tyX2_ok, fun fs h => by
  cases h
  refine ⟨rfl, fun g j hj => ?_⟩
  have hj : j < 5 := hj
  rcases (show j = 0 ∨ j = 1 ∨ j = 2 ∨ j = 3 ∨ j = 4 by omega) with rfl | rfl | rfl | rfl | rfl <;> rfl⟩
set_option maxRecDepth 100000 in
theorem zc_3 : am_clok 3 (RX3, TX3, 1) := ⟨am_good_of [138] (by decide +kernel) (by decide +kernel), nmX3, tyX3, tyX3_ok, fun fs h => by
  cases h
  refine ⟨rfl, fun g j hj => ?_⟩
  have hj : j < 1 := hj
  rcases (show j = 0 by omega) with rfl <;> rfl⟩
set_option maxRecDepth 100000 in
theorem zc_4 : am_clok 4 (RX4, TX4, 4) := ⟨am_good_of [239, 241, 243, 245] (by decide +kernel) (by decide +kernel), nmX4, tyX4, tyX4_ok, fun fs h => by
  cases h
  refine ⟨rfl, fun g j hj => ?_⟩
  have hj : j < 4 := hj
  rcases (show j = 0 ∨ j = 1 ∨ j = 2 ∨ j = 3 by omega) with rfl | rfl | rfl | rfl <;> rfl⟩
set_option maxRecDepth 100000 in
theorem zc_5 : am_clok 5 (RX5, TX5, 2) := ⟨am_good_of [223, 225] (by decide +kernel) (by decide +kernel), nmX5, tyX5, tyX5_ok, fun fs h => by
  cases h
  refine ⟨rfl, fun g j hj => ?_⟩
  have hj : j < 2 := hj
  rcases (show j = 0 ∨ j = 1 by omega) with rfl | rfl <;> rfl⟩
set_option maxRecDepth 100000 in
theorem zc_6 : am_clok 6 (RX6, TX6, 6) := ⟨am_good_of [180, 182, 184, 186, 188, 190] (by decide +kernel) (by decide +kernel), nmX6, tyX6, tyX6_ok, fun fs h => by
  cases h
  refine ⟨rfl, fun g j hj => ?_⟩
  have hj : j < 6 := hj
  rcases (show j = 0 ∨ j = 1 ∨ j = 2 ∨ j = 3 ∨ j = 4 ∨ j = 5 by omega) with rfl | rfl | rfl | rfl | rfl | rfl <;> rfl⟩
set_option maxRecDepth 100000 in
theorem zc_7 : am_clok 7 (RX7, TX7, 2) := ⟨am_good_of [71, 73] (by decide +kernel) (by decide +kernel), nmX7, tyX7, tyX7_ok, fun fs h => by
  cases h
  refine ⟨rfl, fun g j hj => ?_⟩
  have hj : j < 2 := hj
  rcases (show j = 0 ∨ j = 1 by omega) with rfl | rfl <;> rfl⟩
set_option maxRecDepth 100000 in
theorem zc_8 : am_clok 8 (RX8, TX8, 7) := ⟨am_good_of [271, 273, 275, 277, 279, 281, 283] (by decide +kernel) (by decide +kernel), nmX8, tyX8, tyX8_ok, fun fs h => by
  cases h
  refine ⟨rfl, fun g j hj => ?_⟩
  have hj : j < 7 := hj
  rcases (show j = 0 ∨ j = 1 ∨ j = 2 ∨ j = 3 ∨ j = 4 ∨ j = 5 ∨ j = 6 by omega) with rfl | rfl | rfl | rfl | rfl | rfl | rfl <;> rfl⟩
set_option maxRecDepth 100000 in
theorem zc_9 : am_clok 9 (RX9, TX9, 8) := ⟨am_good_of [119, 121, 123, 125, 127, 129, 131, 133] (by decide +kernel) (by decide +kernel), nmX9, tyX9, tyX9_ok, fun fs h => by
  cases h
  refine ⟨rfl, fun g j hj => ?_⟩
  have hj : j < 8 := hj
  rcases (show j = 0 ∨ j = 1 ∨ j = 2 ∨ j = 3 ∨ j = 4 ∨ j = 5 ∨ j = 6 ∨ j = 7 by omega) with rfl | rfl | rfl | rfl | rfl | rfl | rfl | rfl <;> rfl⟩
set_option maxRecDepth 100000 in
theorem zc_10 : am_clok 10 (RX10, TX10, 11) := ⟨am_good_of [362, 364, 366, 368, 370, 372, 374, 376, 378, 380, 382] (by decide +kernel) (by decide +kernel), nmX10, tyX10, tyX10_ok, fun fs h => by
  cases h
  refine ⟨rfl, fun g j hj => ?_⟩
  have hj : j < 11 := hj
  rcases (show j = 0 ∨ j = 1 ∨ j = 2 ∨ j = 3 ∨ j = 4 ∨ j = 5 ∨ j = 6 ∨ j = 7 ∨ j = 8 ∨ j = 9 ∨ j = 10 by omega) with rfl | rfl | rfl | rfl | rfl | rfl | rfl | rfl | rfl | rfl | rfl <;> rfl⟩
set_option maxRecDepth 100000 in
theorem zc_11 : am_clok 11 (RX11, TX11, 30) := ⟨am_good_of [842, 844, 846, 848, 850, 852, 854, 856, 858, 860, 862, 864, 866, 868, 870, 872, 874, 876, 878, 880, 882, 884, 886, 888, 890, 892, 894, 896, 898, 900] (by decide +kernel) (by decide +kernel), nmX11, tyX11, tyX11_ok, fun fs h => by
  cases h
  refine ⟨rfl, fun g j hj => ?_⟩
  have hj : j < 30 := hj
  rcases (show j = 0 ∨ j = 1 ∨ j = 2 ∨ j = 3 ∨ j = 4 ∨ j = 5 ∨ j = 6 ∨ j = 7 ∨ j = 8 ∨ j = 9 ∨ j = 10 ∨ j = 11 ∨ j = 12 ∨ j = 13 ∨ j = 14 ∨ j = 15 ∨ j = 16 ∨ j = 17 ∨ j = 18 ∨ j = 19 ∨ j = 20 ∨ j = 21 ∨ j = 22 ∨ j = 23 ∨ j = 24 ∨ j = 25 ∨ j = 26 ∨ j = 27 ∨ j = 28 ∨ j = 29 by omega) with rfl | rfl | rfl | rfl | rfl | rfl | rfl | rfl | rfl | rfl | rfl | rfl | rfl | rfl | rfl | rfl | rfl | rfl | rfl | rfl | rfl | rfl | rfl | rfl | rfl | rfl | rfl | rfl | rfl | rfl <;> rfl⟩
theorem am_clok_of : ∀ {a : Nat} {q : vw_C}, am_cl[a]? = some q → am_clok a q
  | 0, _, h => by cases h; exact zc_0
  | 1, _, h => by cases h; exact zc_1
  | 2, _, h => by cases h; exact zc_2
  | 3, _, h => by cases h; exact zc_3
  | 4, _, h => by cases h; exact zc_4
  | 5, _, h => by cases h; exact zc_5
  | 6, _, h => by cases h; exact zc_6
  | 7, _, h => by cases h; exact zc_7
  | 8, _, h => by cases h; exact zc_8
  | 9, _, h => by cases h; exact zc_9
  | 10, _, h => by cases h; exact zc_10
  | 11, _, h => by cases h; exact zc_11
  | _ + 12, _, h => by cases h
