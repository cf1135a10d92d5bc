/-! a rung, class and reference -/
def cQ (x : st_M) (g k w : Nat) : Bool := ma_cond x (12 * g + 4 * w + k) && (decide (k = 0) || mg_power x (12 * g + 4 * w + (k - 1)))
def cW (x : st_M) (g k : Nat) : Nat → Bool := va_up (va_up (va_up (mg_was x) (12 * g + 4 * 0 + k) (mf_on x (12 * g + 4 * 0 + k))) (12 * g + 4 * 1 + k) (mf_on x (12 * g + 4 * 1 + k))) (12 * g + 4 * 2 + k) (mf_on x (12 * g + 4 * 2 + k))
theorem cstep_eq (x : st_M) (g k w : Nat) : ms_cstep x g k w = mu_now (mu_was x (va_up (mg_was x) (12 * g + 4 * w + k) (mf_on x (12 * g + 4 * w + k)))) (va_up (mg_now x) w (cQ x g k w)) := rfl
theorem cond_was {x : st_M} {f n : Nat → Bool} {j : Nat} (h : f j = mg_was x j) : ma_cond (mu_now (mu_was x f) n) j = ma_cond x j := by
  unfold ma_cond
  rw [show mg_was (mu_now (mu_was x f) n) j = mg_was x j from h]
  rfl
theorem cQ_was {x : st_M} {f n : Nat → Bool} {g k w : Nat} (h : f (12 * g + 4 * w + k) = mg_was x (12 * g + 4 * w + k)) : cQ (mu_now (mu_was x f) n) g k w = cQ x g k w := by
  unfold cQ
  rw [cond_was h]
theorem csteps_eq (x : st_M) (g k : Nat) : ms_csteps x g k = mu_now (mu_was x (cW x g k)) (va_up (va_up (va_up (mg_now x) 0 (cQ x g k 0)) 1 (cQ x g k 1)) 2 (cQ x g k 2)) := by
  unfold ms_csteps
  rw [cstep_eq x g k 0, cstep_eq _ g k 1, cstep_eq _ g k 2]
  have e1 : cQ (mu_now (mu_was x (va_up (mg_was x) (12 * g + 4 * 0 + k) (mf_on x (12 * g + 4 * 0 + k)))) (va_up (mg_now x) 0 (cQ x g k 0))) g k 1 = cQ x g k 1 := cQ_was (va_up_ne _ _ (by omega))
  rw [e1]
  have e2 : cQ (mu_now (mu_was x (va_up (va_up (mg_was x) (12 * g + 4 * 0 + k) (mf_on x (12 * g + 4 * 0 + k))) (12 * g + 4 * 1 + k) (mf_on x (12 * g + 4 * 1 + k)))) (va_up (va_up (mg_now x) 0 (cQ x g k 0)) 1 (cQ x g k 1))) g k 2 = cQ x g k 2 := cQ_was (by rw [va_up_ne _ _ (by omega), va_up_ne _ _ (by omega)])
  exact congrArg (fun b => mu_now (mu_was x (cW x g k)) (va_up (va_up (va_up (mg_now x) 0 (cQ x g k 0)) 1 (cQ x g k 1)) 2 b)) e2
def ju (n : Nat → Bool) (up : Bool) : Nat → Bool := if up = true then (if n 0 = true then va_up (va_up n 0 true) 1 true else if n 1 = true then va_up (va_up n 0 true) 1 true else n) else n
def jd (n : Nat → Bool) (dn : Bool) : Nat → Bool := if dn = true then (if n 1 = true then va_up (va_up n 1 true) 2 true else if n 2 = true then va_up (va_up n 1 true) 2 true else n) else n
theorem u_eq (x : st_M) (b : Bool) : ms_u x b = mu_now x (ju (mg_now x) b) := by
  unfold ms_u ju
  repeat' split
  all_goals rfl
theorem d_eq (x : st_M) (b : Bool) : ms_d x b = mu_now x (jd (mg_now x) b) := by
  unfold ms_d jd
  repeat' split
  all_goals rfl
theorem joins_eq (x : st_M) (u d : Bool) : ms_joins x u d = mu_now x (jd (ju (jd (ju (mg_now x) u) d) u) d) := by
  unfold ms_joins
  rw [u_eq x u, d_eq _ d, u_eq _ u, d_eq _ d]
def cN (x : st_M) (g k : Nat) : Nat → Bool := jd (ju (jd (ju (va_up (va_up (va_up (mg_now x) 0 (cQ x g k 0)) 1 (cQ x g k 1)) 2 (cQ x g k 2)) (mg_link x (8 * g + k))) (mg_link x (8 * g + 4 + k))) (mg_link x (8 * g + k))) (mg_link x (8 * g + 4 + k))
def cP (x : st_M) (g k : Nat) : Nat → Bool := va_up (va_up (va_up (mg_power x) (12 * g + 4 * 0 + k) (cN x g k 0)) (12 * g + 4 * 1 + k) (cN x g k 1)) (12 * g + 4 * 2 + k) (cN x g k 2)
theorem column_eq (x : st_M) (g k : Nat) : ms_column x g k = mu_power (mu_now (mu_was x (cW x g k)) (cN x g k)) (cP x g k) := by
  unfold ms_column
  rw [joins_eq, csteps_eq]
  rfl
def nu (p : Bool × Bool × Bool) (u : Bool) : Bool × Bool × Bool := (p.1 || (u && p.2.1), p.2.1 || (u && p.1), p.2.2)
def nd (p : Bool × Bool × Bool) (d : Bool) : Bool × Bool × Bool := (p.1, p.2.1 || (d && p.2.2), p.2.2 || (d && p.2.1))
def n3 (n : Nat → Bool) : Bool × Bool × Bool := (n 0, n 1, n 2)
theorem ju_3 (n : Nat → Bool) (u : Bool) : n3 (ju n u) = nu (n3 n) u := by
  unfold ju n3 nu
  cases u <;> cases h0 : n 0 <;> cases h1 : n 1 <;> simp [va_up, h0, h1]
theorem jd_3 (n : Nat → Bool) (u : Bool) : n3 (jd n u) = nd (n3 n) u := by
  unfold jd n3 nd
  cases u <;> cases h1 : n 1 <;> cases h2 : n 2 <;> simp [va_up, h1, h2]
theorem nud : ∀ (u d a b c : Bool), nd (nu (nd (nu (a, b, c) u) d) u) d = nu (nd (nu (a, b, c) u) d) u := by decide
theorem cN_3 (x : st_M) (g k : Nat) : n3 (cN x g k) = nu (nd (nu (cQ x g k 0, cQ x g k 1, cQ x g k 2) (mg_link x (8 * g + k))) (mg_link x (8 * g + 4 + k))) (mg_link x (8 * g + k)) := by
  unfold cN
  rw [jd_3, ju_3, jd_3, ju_3]
  exact nud _ _ _ _ _
-- the class's column
theorem jn0 (r : st_R) (k j : Nat) : (fr_join r 0 k).2.2.2.2.1 j = if j = k + 1 then (r.2.2.2.2.1 (k + 1) || (r.2.2.2.1 k && r.2.2.2.2.1 (k + 6))) else if j = k + 6 then (r.2.2.2.2.1 (k + 6) || (r.2.2.2.1 k && r.2.2.2.2.1 (k + 1))) else r.2.2.2.2.1 j := by
  unfold fr_join
  rw [show 0 * 4 + k = k by omega]
  cases h : r.2.2.2.1 k
  · simp only [Bool.false_eq_true, if_false, Bool.false_and, Bool.or_false]
    split
    · rename_i q
      rw [q]
    · split
      · rename_i q
        rw [q]
      · rfl
  · simp only [if_true, Bool.true_and]
    show va_up (va_up r.2.2.2.2.1 (k + 1) (fr_either r (k + 1))) (k + 1 + 5) (fr_either r (k + 1)) j = _
    unfold fr_either
    by_cases q1 : j = k + 1
    · rw [va_up_ne _ _ (by omega), q1, va_up_self, if_pos rfl]
    · rw [if_neg q1]
      by_cases q2 : j = k + 6
      · rw [if_pos q2, q2, va_up_self, Bool.or_comm]
      · rw [if_neg q2, va_up_ne _ _ (by omega), va_up_ne _ _ (by omega)]
theorem jn1 (r : st_R) (k j : Nat) : (fr_join r 1 k).2.2.2.2.1 j = if j = k + 6 then (r.2.2.2.2.1 (k + 6) || (r.2.2.2.1 (4 + k) && r.2.2.2.2.1 (k + 11))) else if j = k + 11 then (r.2.2.2.2.1 (k + 11) || (r.2.2.2.1 (4 + k) && r.2.2.2.2.1 (k + 6))) else r.2.2.2.2.1 j := by
  unfold fr_join
  rw [show 1 * 4 + k = 4 + k by omega, show 1 * 5 + k + 1 = k + 6 by omega]
  cases h : r.2.2.2.1 (4 + k)
  · simp only [Bool.false_eq_true, if_false, Bool.false_and, Bool.or_false]
    split
    · rename_i q
      rw [q]
    · split
      · rename_i q
        rw [q]
      · rfl
  · simp only [if_true, Bool.true_and]
    show va_up (va_up r.2.2.2.2.1 (k + 6) (fr_either r (k + 6))) (k + 6 + 5) (fr_either r (k + 6)) j = _
    unfold fr_either
    by_cases q1 : j = k + 6
    · rw [va_up_ne _ _ (by omega), q1, va_up_self, if_pos rfl]
    · rw [if_neg q1]
      by_cases q2 : j = k + 11
      · rw [if_pos q2, q2, va_up_self, Bool.or_comm]
      · rw [if_neg q2, va_up_ne _ _ (by omega), va_up_ne _ _ (by omega)]
def fQ (r : st_R) (bt : Nat → Bool) (k w : Nat) : Bool := fr_cond r bt (w * 4 + k) && r.2.2.2.2.1 (w * 5 + k)
def fr_s3 (r : st_R) (bt : Nat → Bool) (k : Nat) : st_R := fr_step (fr_step (fr_step r bt k 0) bt k 1) bt k 2
theorem s3_pw (r : st_R) (bt : Nat → Bool) (k j : Nat) : (fr_s3 r bt k).2.2.2.2.1 j = if j = k + 11 then fQ r bt k 2 else if j = k + 6 then fQ r bt k 1 else if j = k + 1 then fQ r bt k 0 else r.2.2.2.2.1 j := by
  have c1 : fr_cond (fr_step r bt k 0) bt (1 * 4 + k) = fr_cond r bt (1 * 4 + k) := by
    show fr_con (r.1 (1 * 4 + k)) (fr_on r bt (1 * 4 + k)) (va_up r.2.2.1 (0 * 4 + k) (fr_on r bt (0 * 4 + k)) (1 * 4 + k)) = _
    rw [va_up_ne _ _ (by omega)]
    rfl
  have c2 : fr_cond (fr_step (fr_step r bt k 0) bt k 1) bt (2 * 4 + k) = fr_cond r bt (2 * 4 + k) := by
    show fr_con (r.1 (2 * 4 + k)) (fr_on r bt (2 * 4 + k)) (va_up (va_up r.2.2.1 (0 * 4 + k) (fr_on r bt (0 * 4 + k))) (1 * 4 + k) (fr_on r bt (1 * 4 + k)) (2 * 4 + k)) = _
    rw [va_up_ne _ _ (by omega), va_up_ne _ _ (by omega)]
    rfl
  have p1 : (fr_step r bt k 0).2.2.2.2.1 (1 * 5 + k) = r.2.2.2.2.1 (1 * 5 + k) := va_up_ne _ _ (by omega)
  have p2 : (fr_step (fr_step r bt k 0) bt k 1).2.2.2.2.1 (2 * 5 + k) = r.2.2.2.2.1 (2 * 5 + k) := (va_up_ne _ _ (by omega)).trans (va_up_ne _ _ (by omega))
  show va_up (va_up (va_up r.2.2.2.2.1 (0 * 5 + k + 1) (fQ r bt k 0)) (1 * 5 + k + 1) (fr_cond (fr_step r bt k 0) bt (1 * 4 + k) && (fr_step r bt k 0).2.2.2.2.1 (1 * 5 + k))) (2 * 5 + k + 1) (fr_cond (fr_step (fr_step r bt k 0) bt k 1) bt (2 * 4 + k) && (fr_step (fr_step r bt k 0) bt k 1).2.2.2.2.1 (2 * 5 + k)) j = _
  rw [c1, c2, p1, p2]
  by_cases q1 : j = k + 11
  · rw [if_pos q1, q1, show 2 * 5 + k + 1 = k + 11 by omega, va_up_self]
    rfl
  · rw [if_neg q1, va_up_ne _ _ (by omega)]
    by_cases q2 : j = k + 6
    · rw [if_pos q2, q2, show 1 * 5 + k + 1 = k + 6 by omega, va_up_self]
      rfl
    · rw [if_neg q2, va_up_ne _ _ (by omega)]
      by_cases q3 : j = k + 1
      · rw [if_pos q3, q3, show 0 * 5 + k + 1 = k + 1 by omega, va_up_self]
      · rw [if_neg q3, va_up_ne _ _ (by omega)]
theorem col_pw (r : st_R) (bt : Nat → Bool) (k : Nat) : ((fr_col r bt k).2.2.2.2.1 (k + 1), (fr_col r bt k).2.2.2.2.1 (k + 6), (fr_col r bt k).2.2.2.2.1 (k + 11)) = nu (nd (nu (fQ r bt k 0, fQ r bt k 1, fQ r bt k 2) (r.2.2.2.1 k)) (r.2.2.2.1 (4 + k))) (r.2.2.2.1 k) ∧ ∀ j, j ≠ k + 1 → j ≠ k + 6 → j ≠ k + 11 → (fr_col r bt k).2.2.2.2.1 j = r.2.2.2.2.1 j := by
  have e : fr_col r bt k = fr_join (fr_join (fr_join (fr_s3 r bt k) 0 k) 1 k) 0 k := rfl
  have l0 : (fr_s3 r bt k).2.2.2.1 = r.2.2.2.1 := rfl
  have l1 : (fr_join (fr_s3 r bt k) 0 k).2.2.2.1 = r.2.2.2.1 := (join_same _ _ _).2.2.2.1
  have l2 : (fr_join (fr_join (fr_s3 r bt k) 0 k) 1 k).2.2.2.1 = r.2.2.2.1 := (join_same _ _ _).2.2.2.1.trans l1
  have a1 : k + 1 ≠ k + 6 := by omega
  have a2 : k + 1 ≠ k + 11 := by omega
  have a3 : k + 6 ≠ k + 11 := by omega
  constructor
  · rw [e]
    simp only [jn0, jn1, l1, l2, l0, s3_pw, if_pos, if_neg, a1, a2, a3, a1.symm, a2.symm, a3.symm, if_true, if_false]
    rfl
  · intro j h1 h6 h11
    rw [e, jn0, if_neg h1, if_neg h6, jn1, if_neg h6, if_neg h11, jn0, if_neg h1, if_neg h6, s3_pw, if_neg h11, if_neg h6, if_neg h1]
theorem col_was (r : st_R) (bt : Nat → Bool) (k : Nat) : (fr_col r bt k).2.2.1 = va_up (va_up (va_up r.2.2.1 (0 * 4 + k) (fr_on r bt (0 * 4 + k))) (1 * 4 + k) (fr_on r bt (1 * 4 + k))) (2 * 4 + k) (fr_on r bt (2 * 4 + k)) := by
  unfold fr_col
  rw [(join_same _ _ _).2.2.1, (join_same _ _ _).2.2.1, (join_same _ _ _).2.2.1]
  rfl
/-- the rung's numbers agree -/
def rlR (x : st_M) (g : Nat) (r : st_R) : Prop := (∀ j, j < 12 → mg_kind x (12 * g + j) = r.1 j) ∧ (∀ j, j < 12 → mg_of x (12 * g + j) = r.2.1 j) ∧ (∀ j, j < 12 → mg_was x (12 * g + j) = r.2.2.1 j) ∧ (∀ j, j < 8 → mg_link x (8 * g + j) = r.2.2.2.1 j) ∧ (∀ w, w < 3 → ∀ k, k < 4 → mg_power x (12 * g + 4 * w + k) = r.2.2.2.2.1 (w * 5 + k + 1)) ∧ (∀ w, w < 3 → mg_seen x g = r.2.2.2.2.1 (w * 5)) ∧ (∀ j, j < 3 → mg_coil x (3 * g + j) = r.2.2.2.2.2.1 j) ∧ (∀ j, j < 3 → mg_coilOf x (3 * g + j) = r.2.2.2.2.2.2 j) ∧ (mg_seen x g = false → ∀ w, w < 3 → ∀ k, k < 4 → mg_power x (12 * g + 4 * w + k) = false)
theorem con_eq {k : Int32} {on was : Bool} (h : fc_btw k 0 5 = true) : (if k = 0 then false else if k = 1 then true else if k = 2 then on else if k = 3 then !on else if k = 4 then on && !was else !on && was) = fr_con k on was := by
  obtain ⟨h1, h2⟩ := bw_nat (n := 6) rfl (by decide) (by decide) h
  generalize k.toNatClampNeg = n at h1 h2
  subst h1
  unfold fr_con
  rcases (show n = 0 ∨ n = 1 ∨ n = 2 ∨ n = 3 ∨ n = 4 ∨ n = 5 by omega) with q | q | q | q | q | q <;> subst q <;> rfl
theorem on_eq {x : st_M} {g j : Nat} {r : st_R} {bt : Nat → Bool} (R : rlR x g r) (hb : ∀ i, i < 24 → mg_bit x i = bt i) (ho : ∀ j, j < 12 → fc_ix (r.2.1 j) 24 = true) (hj : j < 12) : mf_on x (12 * g + j) = fr_on r bt j := by
  unfold mf_on fr_on
  rw [R.2.1 j hj]
  exact hb _ (ix_nat (n := 24) rfl (by decide) (ho j hj)).2
theorem cond_eq {x : st_M} {g j : Nat} {r : st_R} {bt : Nat → Bool} (R : rlR x g r) (hb : ∀ i, i < 24 → mg_bit x i = bt i) (ho : ∀ j, j < 12 → fc_ix (r.2.1 j) 24 = true) (hk : ∀ j, j < 12 → fc_btw (r.1 j) 0 5 = true) (hj : j < 12) : ma_cond x (12 * g + j) = fr_cond r bt j := by
  unfold ma_cond fr_cond
  rw [on_eq R hb ho hj, R.1 j hj, R.2.2.1 j hj]
  exact con_eq (hk j hj)
theorem cQ_eq {x : st_M} {g k w : Nat} {r : st_R} {bt : Nat → Bool} (R : rlR x g r) (hb : ∀ i, i < 24 → mg_bit x i = bt i) (ho : ∀ j, j < 12 → fc_ix (r.2.1 j) 24 = true) (hk : ∀ j, j < 12 → fc_btw (r.1 j) 0 5 = true) (hs : mg_seen x g = true) (hc : k < 4) (hw : w < 3) : cQ x g k w = fQ r bt k w := by
  unfold cQ fQ
  have e : 12 * g + 4 * w + k = 12 * g + (w * 4 + k) := by omega
  rw [e, cond_eq R hb ho hk (by omega)]
  by_cases h0 : k = 0
  · subst h0
    have h9 := R.2.2.2.2.2.1 w hw
    rw [hs] at h9
    rw [show w * 5 + 0 = w * 5 by omega, ← h9]
    rfl
  · rw [R.2.2.2.2.1 w hw (k - 1) (by omega), show w * 5 + (k - 1) + 1 = w * 5 + k by omega]
    simp [h0]
theorem col_rel {x : st_M} {g k : Nat} {r : st_R} {bt : Nat → Bool} (R : rlR x g r) (hb : ∀ i, i < 24 → mg_bit x i = bt i) (ho : ∀ j, j < 12 → fc_ix (r.2.1 j) 24 = true) (hk : ∀ j, j < 12 → fc_btw (r.1 j) 0 5 = true) (hs : mg_seen x g = true) (hc : k < 4) : rlR (ms_column x g k) g (fr_col r bt k) := by
  obtain ⟨s1, s2, s3, s4⟩ := col_same r bt k
  obtain ⟨p1, p2⟩ := col_pw r bt k
  have hn := cN_3 x g k
  rw [cQ_eq R hb ho hk hs hc (by decide), cQ_eq R hb ho hk hs hc (by decide), cQ_eq R hb ho hk hs hc (by decide), R.2.2.2.1 k (by omega), show 8 * g + 4 + k = 8 * g + (4 + k) by omega, R.2.2.2.1 (4 + k) (by omega), ← p1] at hn
  have m0 : cN x g k 0 = (fr_col r bt k).2.2.2.2.1 (k + 1) := congrArg (fun p : Bool × Bool × Bool => p.1) hn
  have m1 : cN x g k 1 = (fr_col r bt k).2.2.2.2.1 (k + 6) := congrArg (fun p : Bool × Bool × Bool => p.2.1) hn
  have m2 : cN x g k 2 = (fr_col r bt k).2.2.2.2.1 (k + 11) := congrArg (fun p : Bool × Bool × Bool => p.2.2) hn
  rw [column_eq]
  refine ⟨fun j hj => ?_, fun j hj => ?_, fun j hj => ?_, fun j hj => ?_, fun w hw k' hk' => ?_, fun w hw => ?_, fun j hj => ?_, fun j hj => ?_, fun q => ?_⟩
  · rw [s1]
    exact R.1 j hj
  · rw [s2]
    exact R.2.1 j hj
  · rw [col_was]
    show cW x g k (12 * g + j) = _
    unfold cW
    rw [show 12 * g + 4 * 0 + k = 12 * g + (0 * 4 + k) by omega, show 12 * g + 4 * 1 + k = 12 * g + (1 * 4 + k) by omega, show 12 * g + 4 * 2 + k = 12 * g + (2 * 4 + k) by omega, on_eq R hb ho (by omega), on_eq R hb ho (by omega), on_eq R hb ho (by omega)]
    by_cases q2 : j = 2 * 4 + k
    · rw [q2, va_up_self, va_up_self]
    · rw [va_up_ne _ _ (by omega), va_up_ne _ _ q2]
      by_cases q1 : j = 1 * 4 + k
      · rw [q1, va_up_self, va_up_self]
      · rw [va_up_ne _ _ (by omega), va_up_ne _ _ q1]
        by_cases q0 : j = 0 * 4 + k
        · rw [q0, va_up_self, va_up_self]
        · rw [va_up_ne _ _ (by omega), va_up_ne _ _ q0]
          exact R.2.2.1 j hj
  · rw [s3]
    exact R.2.2.2.1 j hj
  · show cP x g k (12 * g + 4 * w + k') = _
    unfold cP
    by_cases q : k' = k
    · subst q
      rcases (show w = 0 ∨ w = 1 ∨ w = 2 by omega) with rfl | rfl | rfl
      · rw [va_up_ne _ _ (by omega), va_up_ne _ _ (by omega), va_up_self, m0, show 0 * 5 + k' + 1 = k' + 1 by omega]
      · rw [va_up_ne _ _ (by omega), va_up_self, m1, show 1 * 5 + k' + 1 = k' + 6 by omega]
      · rw [va_up_self, m2, show 2 * 5 + k' + 1 = k' + 11 by omega]
    · rw [va_up_ne _ _ (by omega), va_up_ne _ _ (by omega), va_up_ne _ _ (by omega), p2 _ (by omega) (by omega) (by omega)]
      exact R.2.2.2.2.1 w hw k' hk'
  · rw [p2 _ (by omega) (by omega) (by omega)]
    exact R.2.2.2.2.2.1 w hw
  · rw [s4]
    exact R.2.2.2.2.2.2.1 j hj
  · rw [s4]
    exact R.2.2.2.2.2.2.2.1 j hj
  · exact absurd (hs.symm.trans q) (by decide)
/-- another rung stays as it is -/
theorem col_other {x : st_M} {g g' k : Nat} {r : st_R} (R : rlR x g' r) (hg : g' ≠ g) (hc : k < 4) : rlR (ms_column x g k) g' r := by
  rw [column_eq]
  refine ⟨R.1, R.2.1, fun j hj => ?_, R.2.2.2.1, fun w hw k' hk' => ?_, R.2.2.2.2.2.1, R.2.2.2.2.2.2.1, R.2.2.2.2.2.2.2.1, fun q w hw k' hk' => ?_⟩
  · show cW x g k (12 * g' + j) = _
    unfold cW
    rw [va_up_ne _ _ (by omega), va_up_ne _ _ (by omega), va_up_ne _ _ (by omega)]
    exact R.2.2.1 j hj
  · show cP x g k (12 * g' + 4 * w + k') = _
    unfold cP
    rw [va_up_ne _ _ (by omega), va_up_ne _ _ (by omega), va_up_ne _ _ (by omega)]
    exact R.2.2.2.2.1 w hw k' hk'
  · show cP x g k (12 * g' + 4 * w + k') = _
    unfold cP
    rw [va_up_ne _ _ (by omega), va_up_ne _ _ (by omega), va_up_ne _ _ (by omega)]
    exact R.2.2.2.2.2.2.2.2 q w hw k' hk'
/-- what a column leaves alone -/
theorem col_T {t : st_T} {x : st_M} {g k : Nat} (R : rlT t x) : rlT t (ms_column x g k) := by
  rw [column_eq]
  exact R
theorem col_rest (x : st_M) (g k : Nat) : mg_seen (ms_column x g k) = mg_seen x ∧ mg_scans (ms_column x g k) = mg_scans x ∧ mg_bit (ms_column x g k) = mg_bit x := by
  rw [column_eq]
  exact ⟨rfl, rfl, rfl⟩
