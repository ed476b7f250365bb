/-! the law ends with 1 -/
theorem am_whole (L : Nat) (xs : Nat → Int32) (hL : L ≤ 256) : am_Go 168 (0, [.ref 1, .float 0, .float 0, .float 0], [], am_w0 L xs, 0, 0) (fun res _ => res = some (.int 1)) := g_start hL (am_w0 L xs) rfl rfl rfl
