/-! the class's state as a value (st_), its pictures (wp_), what its methods compute (fr_, fb_, fs_) -/
/-- a RUNG: kinds, bits, what was on, links, powers, coils' kinds, coils' numbers -/
abbrev st_R : Type := (Nat → Int32) × (Nat → Int32) × (Nat → Bool) × (Nat → Bool) × (Nat → Bool) × (Nat → Int32) × (Nat → Int32)
/-- a BLOCK: kind, a, b, c, n, guarded, counted, hadPower, sum, errorBefore, runs, faults -/
abbrev st_B : Type := Int32 × Int32 × Int32 × Int32 × UInt64 × Bool × Int32 × Bool × UInt64 × UInt64 × Int32 × Int32
abbrev wp_Z (a : Nat) (cZ : ClassId) (n : Nat) (f : Nat → Bool) : Nat × va_E := (a, .inl (cZ, n, .inl (fun j => sf_b (f j))))
abbrev wp_I (a : Nat) (cI : ClassId) (n : Nat) (f : Nat → Int32) : Nat × va_E := (a, .inl (cI, n, .inl f))
abbrev wp_D (a : Nat) (cD : ClassId) (n : Nat) (f : Nat → UInt64) : Nat × va_E := (a, .inl (cD, n, .inr (.inr (.inr (.inl f)))))
abbrev wp_R (cI cZ : ClassId) (a : Nat → Nat) (r : st_R) : va_W := [(a 0, .inr (1, [.ref (a 1), .ref (a 2), .ref (a 3), .ref (a 4), .ref (a 5), .ref (a 6), .ref (a 7)])),
  wp_I (a 1) cI 12 r.1, wp_I (a 2) cI 12 r.2.1, wp_Z (a 3) cZ 12 r.2.2.1, wp_Z (a 4) cZ 8 r.2.2.2.1, wp_Z (a 5) cZ 15 r.2.2.2.2.1, wp_I (a 6) cI 3 r.2.2.2.2.2.1, wp_I (a 7) cI 3 r.2.2.2.2.2.2]
abbrev wp_B (a : Nat) (b : st_B) : Nat × va_E := (a, .inr (0, [.int b.1, .int b.2.1, .int b.2.2.1, .int b.2.2.2.1, .double b.2.2.2.2.1, .int (sf_b b.2.2.2.2.2.1), .int b.2.2.2.2.2.2.1, .int (sf_b b.2.2.2.2.2.2.2.1), .double b.2.2.2.2.2.2.2.2.1, .double b.2.2.2.2.2.2.2.2.2.1, .int b.2.2.2.2.2.2.2.2.2.2.1, .int b.2.2.2.2.2.2.2.2.2.2.2]))
theorem ix_nat {x N : Int32} {n : Nat} (hN : N = nI n) (hn : n < 2 ^ 31) (h : fc_ix x N = true) : x = nI x.toNatClampNeg ∧ x.toNatClampNeg < n := by
  unfold fc_ix at h
  rw [Bool.and_eq_true, decide_eq_true_eq, decide_eq_true_eq] at h
  rcases pk_ix x hn with q | q | ⟨j, hj, q⟩
  · exact absurd q h.1
  · exact absurd (hN ▸ q) h.2
  · rw [q, nI_clamp (Nat.lt_trans hj hn)]
    exact ⟨rfl, hj⟩
-- RUNG
def fr_cell (r : st_R) (j : Nat) (k b : Int32) : st_R := (va_up r.1 j k, va_up r.2.1 j (if fc_looks k = true then b else 0), va_up r.2.2.1 j false, r.2.2.2)
def fr_link (r : st_R) (j : Nat) (x : Bool) : st_R := (r.1, r.2.1, r.2.2.1, va_up r.2.2.2.1 j x, r.2.2.2.2)
def fr_coil (r : st_R) (j : Nat) (k n : Int32) : st_R := (r.1, r.2.1, r.2.2.1, r.2.2.2.1, r.2.2.2.2.1, va_up r.2.2.2.2.2.1 j k, va_up r.2.2.2.2.2.2 j n)
def fr_con (k : Int32) (on was : Bool) : Bool := if k = 1 then true else if k = 2 then on else if k = 3 then !on else if k = 4 then on && !was else if k = 5 then !on && was else false
def fr_on (r : st_R) (bt : Nat → Bool) (j : Nat) : Bool := bt (r.2.1 j).toNatClampNeg
def fr_cond (r : st_R) (bt : Nat → Bool) (j : Nat) : Bool := fr_con (r.1 j) (fr_on r bt j) (r.2.2.1 j)
def fr_seen (r : st_R) (bt : Nat → Bool) (j : Nat) : st_R := (r.1, r.2.1, va_up r.2.2.1 j (fr_on r bt j), r.2.2.2)
def fr_pw (r : st_R) (f : Nat → Bool) : st_R := (r.1, r.2.1, r.2.2.1, r.2.2.2.1, f, r.2.2.2.2.2)
def fr_either (r : st_R) (u : Nat) : Bool := r.2.2.2.2.1 u || r.2.2.2.2.1 (u + 5)
def fr_join (r : st_R) (row col : Nat) : st_R := if r.2.2.2.1 (row * 4 + col) = true then
    fr_pw r (va_up (va_up r.2.2.2.2.1 (row * 5 + col + 1) (fr_either r (row * 5 + col + 1))) (row * 5 + col + 1 + 5) (fr_either r (row * 5 + col + 1))) else r
def fr_step (r : st_R) (bt : Nat → Bool) (col row : Nat) : st_R := fr_pw (fr_seen r bt (row * 4 + col)) (va_up r.2.2.2.2.1 (row * 5 + col + 1) (fr_cond r bt (row * 4 + col) && r.2.2.2.2.1 (row * 5 + col)))
def fr_start (r : st_R) : st_R := fr_pw r (va_up (va_up (va_up r.2.2.2.2.1 (0 * 5) true) (1 * 5) true) (2 * 5) true)
def fr_col (r : st_R) (bt : Nat → Bool) (col : Nat) : st_R := fr_join (fr_join (fr_join (fr_step (fr_step (fr_step r bt col 0) bt col 1) bt col 2) 0 col) 1 col) 0 col
def fr_look (r : st_R) (bt : Nat → Bool) : st_R := fr_col (fr_col (fr_col (fr_col (fr_start r) bt 0) bt 1) bt 2) bt 3
theorem fr_pw_cb (r : st_R) (f : Nat → Bool) : (fr_pw r f).2.1 = r.2.1 := rfl
theorem fr_join_cb (r : st_R) (i j : Nat) : (fr_join r i j).2.1 = r.2.1 := by
  unfold fr_join
  split
  · rfl
  · rfl
theorem fr_step_cb (r : st_R) (bt : Nat → Bool) (i j : Nat) : (fr_step r bt i j).2.1 = r.2.1 := rfl
theorem fr_start_cb (r : st_R) : (fr_start r).2.1 = r.2.1 := rfl
theorem fr_cols (r : st_R) (bt : Nat → Bool) (i : Nat) : (fr_col r bt i).2.1 = r.2.1 := by
  unfold fr_col
  rw [fr_join_cb, fr_join_cb, fr_join_cb, fr_step_cb, fr_step_cb, fr_step_cb]
