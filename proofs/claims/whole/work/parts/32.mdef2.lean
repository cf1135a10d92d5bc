/-! the reference's inner methods -/
def ms_count (x : st_M) (w : Int32) : st_M := if fc_btw w 0 3 = true then mu_thrown x 0 else mu_thrown x 1
def ma_count (x : st_M) (w : Int32) : Int32 := if fc_btw w 0 3 = true then (if w = 0 then mg_scans x else if w = 1 then sf_b (mg_halted x) else if w = 2 then nI (fs_on (mg_bit x) 24) else mg_all x) else 0
def mf_on (x : st_M) (k : Nat) : Bool := mg_bit x (mg_of x k).toNatClampNeg
def ms_cond (x : st_M) (k : Nat) : st_M := mu_was x (va_up (mg_was x) k (mf_on x k))
def ma_cond (x : st_M) (k : Nat) : Bool := if mg_kind x k = 0 then false else if mg_kind x k = 1 then true else if mg_kind x k = 2 then mf_on x k else if mg_kind x k = 3 then !mf_on x k else if mg_kind x k = 4 then mf_on x k && !mg_was x k else !mf_on x k && mg_was x k
/-- a block of the reference, as the class keeps one -/
def mb (x : st_M) (k : Nat) : st_B := (mg_block x k, mg_first x k, mg_second x k, mg_third x k, mg_amount x k, mg_guarded x k, mg_counted x k, mg_had x k, mg_sum x k, mg_last x k, mg_runs x k, mg_faults x k)
def ms_tcnt (x : st_M) (k : Nat) (on : Bool) : st_M := if mg_block x k = 1 then mu_counted x (va_up (mg_counted x) k (if on = false then 0 else if sd_lt (FP.i2d (mg_counted x k)) (mg_amount x k) = true then mg_counted x k + 1 else mg_counted x k))
  else if mg_bit x 22 = true then mu_counted x (va_up (mg_counted x) k 0) else if on = false then x else if mg_had x k = true then x else if sd_lt (FP.i2d (mg_counted x k)) (mg_amount x k) = true then mu_counted x (va_up (mg_counted x) k (mg_counted x k + 1)) else x
def ms_tfin (x : st_M) (k : Nat) (on : Bool) : st_M := mu_bit (mu_had x (va_up (mg_had x) k on)) (va_up (mg_bit x) (mg_third x k).toNatClampNeg (sd_eq (FP.i2d (mg_counted x k)) (mg_amount x k)))
def ms_tally (x : st_M) (k : Nat) (on : Bool) : st_M := ms_tfin (ms_tcnt x k on) k on
def mk_bad (x : st_M) (k : Nat) : Bool := if mg_block x k = 7 then sd_eq (fb_y (mb x k) (mg_register x)) FP.dconst0 else if mg_block x k = 8 then sd_gt (fb_y (mb x k) (mg_register x)) (mg_amount x k) else false
def mk_lim (va vb n : UInt64) : UInt64 := if sd_gt (if sd_lt va vb = true then vb else va) n = true then n else (if sd_lt va vb = true then vb else va)
def mk_v (x : st_M) (k : Nat) : UInt64 := if mg_block x k = 4 then FP.dadd (fb_x (mb x k) (mg_register x)) (fb_y (mb x k) (mg_register x)) else if mg_block x k = 5 then FP.dsub (fb_x (mb x k) (mg_register x)) (fb_y (mb x k) (mg_register x)) else if mg_block x k = 6 then FP.dmul (fb_x (mb x k) (mg_register x)) (fb_y (mb x k) (mg_register x))
  else if mg_block x k = 7 then FP.ddiv (fb_x (mb x k) (mg_register x)) (fb_y (mb x k) (mg_register x)) else if mg_block x k = 8 then mk_lim (fb_x (mb x k) (mg_register x)) (fb_y (mb x k) (mg_register x)) (mg_amount x k) else fb_v (mb x k) (mg_register x)
def mk_out (v : UInt64) : Bool := sd_gt v 4786511204640096256 || sd_lt v 14009883241494872064
def ms_r9 (x : st_M) (k : Nat) : st_M := if mg_block x k = 4 then x else if mg_block x k = 5 then x else if mg_block x k = 6 then x else if mg_block x k = 7 then x else if mg_block x k = 8 then x else mu_last (mu_sum x (va_up (mg_sum x) k (fb_sum (mb x k) (mg_register x)))) (va_up (mg_last x) k (fb_e (mb x k) (mg_register x)))
def ms_keep (x : st_M) (k : Nat) (v : UInt64) : st_M := mu_register x (va_up (mg_register x) (mg_third x k).toNatClampNeg v)
def ms_reckon (x : st_M) (k : Nat) : st_M := if mk_bad x k = true then x else if mk_out (mk_v x k) = true then ms_r9 x k else ms_keep (ms_r9 x k) k (mk_v x k)
def ma_reckon (x : st_M) (k : Nat) : Bool := mk_bad x k || mk_out (mk_v x k)
def ms_runs (x : st_M) (k : Nat) : st_M := mu_runs x (va_up (mg_runs x) k (mg_runs x k + 1))
def ms_flt (x : st_M) (k : Nat) : st_M := mu_all (mu_faults x (va_up (mg_faults x) k (mg_faults x k + 1))) (mg_all x + 1)
def ms_wrong (x : st_M) (k : Nat) : st_M := if mg_guarded x k = true then mu_bit (ms_flt x k) (va_up (mg_bit x) 23 true) else mu_by (mu_halted (mu_bit (ms_flt x k) (fs_off (mg_bit x))) true) (nI k)
def ms_perf1 (x : st_M) (k : Nat) (on : Bool) : st_M := if mg_block x k = 0 then x else if ¬ 3 ≤ mg_block x k then ms_tally x k on else if mg_block x k = 3 then (if on = true then mu_bit x (va_up (mg_bit x) (mg_third x k).toNatClampNeg (sd_lt (fb_x (mb x k) (mg_register x)) (fb_y (mb x k) (mg_register x)))) else x)
  else if on = true then (if ma_reckon x k = true then ms_wrong (ms_reckon x k) k else ms_reckon x k) else mu_last (mu_sum x (va_up (mg_sum x) k FP.dconst0)) (va_up (mg_last x) k FP.dconst0)
def ms_perform (x : st_M) (k : Nat) (on : Bool) : st_M := ms_perf1 (ms_runs x k) k on
def ma_perf1 (x : st_M) (k : Nat) (on : Bool) : Bool := if mg_block x k = 0 then false else if ¬ 3 ≤ mg_block x k then false else if mg_block x k = 3 then false else if on = true then (if ma_reckon x k = true then !mg_guarded (ms_reckon x k) k else false) else false
def ma_perform (x : st_M) (k : Nat) (on : Bool) : Bool := ma_perf1 (ms_runs x k) k on
theorem nz_t {n : Nat} (hn : n < 4) (h : nI n = 0) : n = 0 := by
  have h1 := congrArg Int32.toInt h
  rw [nI_toInt (Nat.lt_trans hn (by decide))] at h1
  exact Int.ofNat.inj h1
theorem nz_f {n : Nat} (h : ¬ nI n = 0) : ¬ n = 0 := fun q => h (by rw [q]; rfl)
theorem nI_sub1 {n : Nat} (h : ¬ n = 0) : nI n - 1 = nI (n - 1) := by
  obtain ⟨j, rfl⟩ : ∃ j, n = j + 1 := ⟨n - 1, by omega⟩
  rw [← nI_1 j]
  exact Int32.add_sub_cancel _ _
def ms_cstep (x : st_M) (g k row : Nat) : st_M := mu_now (ms_cond x (12 * g + 4 * row + k)) (va_up (mg_now (ms_cond x (12 * g + 4 * row + k))) row (ma_cond x (12 * g + 4 * row + k) && (decide (k = 0) || mg_power (ms_cond x (12 * g + 4 * row + k)) (12 * g + 4 * row + (k - 1)))))
def ms_u (x : st_M) (up : Bool) : st_M := if up = true then (if mg_now x 0 = true then mu_now x (va_up (va_up (mg_now x) 0 true) 1 true) else if mg_now x 1 = true then mu_now x (va_up (va_up (mg_now x) 0 true) 1 true) else x) else x
def ms_d (x : st_M) (dn : Bool) : st_M := if dn = true then (if mg_now x 1 = true then mu_now x (va_up (va_up (mg_now x) 1 true) 2 true) else if mg_now x 2 = true then mu_now x (va_up (va_up (mg_now x) 1 true) 2 true) else x) else x
def ms_ps (x : st_M) (g k : Nat) : st_M := mu_power x (va_up (va_up (va_up (mg_power x) (12 * g + 4 * 0 + k) (mg_now x 0)) (12 * g + 4 * 1 + k) (mg_now x 1)) (12 * g + 4 * 2 + k) (mg_now x 2))
def ms_joins (x : st_M) (up dn : Bool) : st_M := ms_d (ms_u (ms_d (ms_u x up) dn) up) dn
def ms_csteps (x : st_M) (g k : Nat) : st_M := ms_cstep (ms_cstep (ms_cstep x g k 0) g k 1) g k 2
def ms_column (x : st_M) (g k : Nat) : st_M := ms_ps (ms_joins (ms_csteps x g k) (mg_link (ms_csteps x g k) (8 * g + k)) (mg_link (ms_csteps x g k) (8 * g + 4 + k))) g k
theorem u_of (x : st_M) (b : Bool) : mg_of (ms_u x b) = mg_of x := by
  unfold ms_u
  repeat' split
  all_goals rfl
theorem d_of (x : st_M) (b : Bool) : mg_of (ms_d x b) = mg_of x := by
  unfold ms_d
  repeat' split
  all_goals rfl
theorem cstep_of (x : st_M) (g k r : Nat) : mg_of (ms_cstep x g k r) = mg_of x := rfl
theorem csteps_of (x : st_M) (g k : Nat) : mg_of (ms_csteps x g k) = mg_of x := by
  unfold ms_csteps
  rw [cstep_of, cstep_of, cstep_of]
theorem column_of (x : st_M) (g k : Nat) : mg_of (ms_column x g k) = mg_of x := by
  show mg_of (ms_joins (ms_csteps x g k) _ _) = _
  unfold ms_joins
  rw [d_of, u_of, d_of, u_of, csteps_of]
def ms_drive (x : st_M) (k n : Int32) (on : Bool) : st_M := if k = 1 then mu_bit x (va_up (mg_bit x) n.toNatClampNeg on) else if k = 2 then (if on = true then mu_bit x (va_up (mg_bit x) n.toNatClampNeg true) else x) else if k = 3 then (if on = true then mu_bit x (va_up (mg_bit x) n.toNatClampNeg false) else x) else if k = 4 then ms_perform x n.toNatClampNeg on else x
def ma_drive (x : st_M) (k n : Int32) (on : Bool) : Bool := if k = 1 then false else if k = 2 then false else if k = 3 then false else if k = 4 then ma_perform x n.toNatClampNeg on else false
def ms_row (x : st_M) (g row : Nat) : st_M := ms_drive x (mg_coil x (3 * g + row)) (mg_coilOf x (3 * g + row)) (mg_power x (12 * g + 4 * row + 3))
def ma_row (x : st_M) (g row : Nat) : Bool := ma_drive x (mg_coil x (3 * g + row)) (mg_coilOf x (3 * g + row)) (mg_power x (12 * g + 4 * row + 3))
/-- what the reference needs to go on: numbers as said -/
def ok_M (x : st_M) : Prop := (∀ j, j < 60 → fc_ix (mg_of x j) 24 = true) ∧ (∀ j, j < 15 → fc_isCoil (mg_coil x j) (mg_coilOf x j) = true) ∧ (∀ j, j < 8 → fb_ok (mb x j)) ∧ rg_ok (mg_register x)
def ms_cols (x : st_M) (g : Nat) : st_M := ms_column (ms_column (ms_column (ms_column (mu_seen x (va_up (mg_seen x) g true)) g 0) g 1) g 2) g 3
def ms_rung (x : st_M) (g : Nat) : st_M := if ma_row (ms_cols x g) g 0 = true then ms_row (ms_cols x g) g 0 else if ma_row (ms_row (ms_cols x g) g 0) g 1 = true then ms_row (ms_row (ms_cols x g) g 0) g 1 else ms_row (ms_row (ms_row (ms_cols x g) g 0) g 1) g 2
def ma_rung (x : st_M) (g : Nat) : Bool := if ma_row (ms_cols x g) g 0 = true then true else if ma_row (ms_row (ms_cols x g) g 0) g 1 = true then true else ma_row (ms_row (ms_row (ms_cols x g) g 0) g 1) g 2
def ok_Rg (x : st_M) (g : Nat) : Prop := (∀ j, j < 60 → fc_ix (mg_of x j) 24 = true) ∧ ok_M (ms_cols x g) ∧ (ma_row (ms_cols x g) g 0 = false → ok_M (ms_row (ms_cols x g) g 0) ∧ (ma_row (ms_row (ms_cols x g) g 0) g 1 = false → ok_M (ms_row (ms_row (ms_cols x g) g 0) g 1)))
def ms_rg (x : st_M) (g : Nat) : st_M := if mg_halted x = true then x else ms_rung x g
def ms_once (x : st_M) : st_M := ms_rg (ms_rg (ms_rg (ms_rg (ms_rg (mu_scans x (mg_scans x + 1)) 0) 1) 2) 3) 4
def ms_loop : Nat → st_M → st_M
  | 0, x => x
  | n + 1, x => if mg_halted x = true then x else ms_loop n (ms_once x)
def ms_scan (x : st_M) (n : Int32) : st_M := if fc_btw n 1 50 = true then (if mg_halted x = true then mu_thrown x 2 else if mg_halted (ms_loop n.toNatClampNeg (mu_thrown x 0)) = true then mu_thrown (ms_loop n.toNatClampNeg (mu_thrown x 0)) 3 else ms_loop n.toNatClampNeg (mu_thrown x 0)) else mu_thrown x 1
def ma_scan (x : st_M) (n : Int32) : Int32 := if fc_btw n 1 50 = true then (if mg_halted x = true then 0 else if mg_halted (ms_loop n.toNatClampNeg (mu_thrown x 0)) = true then 0 else mg_scans (ms_loop n.toNatClampNeg (mu_thrown x 0))) else 0
theorem blk_kind {k a b c : Int32} {n : UInt64} (h : fc_isBlock k a b c n = true) : k = 0 ∨ k = 1 ∨ k = 2 ∨ k = 3 ∨ k = 4 ∨ k = 5 ∨ k = 6 ∨ k = 7 ∨ k = 8 ∨ k = 9 := by
  unfold fc_isBlock at h
  repeat' split at h
  all_goals first | (subst_vars; simp; done) | (simp only [*]; simp; done) | cases h
theorem ok_lt3 {k a b c : Int32} {n : UInt64} (h : fc_isBlock k a b c n = true) (h0 : ¬ k = 0) (h3 : ¬ 3 ≤ k) : k = 1 ∨ k = 2 := by
  rcases blk_kind h with q | q | q | q | q | q | q | q | q | q
  · exact absurd q h0
  · exact Or.inl q
  · exact Or.inr q
  all_goals (subst q; exact absurd (by decide) h3)
theorem ok_is9 {k a b c : Int32} {n : UInt64} (h : fc_isBlock k a b c n = true) (h0 : ¬ k = 0) (h1 : ¬ k = 1) (h2 : ¬ k = 2) (h3 : ¬ k = 3) (h4 : ¬ k = 4) (h5 : ¬ k = 5) (h6 : ¬ k = 6) (h7 : ¬ k = 7) (h8 : ¬ k = 8) : k = 9 := by
  rcases blk_kind h with q | q | q | q | q | q | q | q | q | q
  all_goals first | exact q | exact absurd q (by assumption)
theorem ge3_ne {k : Int32} (h : 3 ≤ k) : ¬ k = 1 ∧ ¬ k = 2 := ⟨fun q => by subst q; exact absurd h (by decide), fun q => by subst q; exact absurd h (by decide)⟩
theorem pf_0 {x : st_M} {k : Nat} {on : Bool} (h : mg_block x k = 0) : ms_perform x k on = ms_runs x k ∧ ma_perform x k on = false := by
  unfold ms_perform ma_perform ms_perf1 ma_perf1
  rw [if_pos (show mg_block (ms_runs x k) k = 0 from h), if_pos (show mg_block (ms_runs x k) k = 0 from h)]
  exact ⟨rfl, rfl⟩
theorem pf_12 {x : st_M} {k : Nat} {on : Bool} (h : ¬ mg_block x k = 0) (h3 : ¬ 3 ≤ mg_block x k) : ms_perform x k on = ms_tally (ms_runs x k) k on ∧ ma_perform x k on = false := by
  unfold ms_perform ma_perform ms_perf1 ma_perf1
  rw [if_neg (show ¬ mg_block (ms_runs x k) k = 0 from h), if_neg (show ¬ mg_block (ms_runs x k) k = 0 from h), if_pos (show ¬ 3 ≤ mg_block (ms_runs x k) k from h3), if_pos (show ¬ 3 ≤ mg_block (ms_runs x k) k from h3)]
  exact ⟨rfl, rfl⟩
theorem pf_n {x : st_M} {k : Nat} {on : Bool} (h : ¬ mg_block x k = 0) (h3 : 3 ≤ mg_block x k) : ms_perform x k on = (if mg_block x k = 3 then (if on = true then mu_bit (ms_runs x k) (va_up (mg_bit x) (mg_third x k).toNatClampNeg (sd_lt (fb_x (mb x k) (mg_register x)) (fb_y (mb x k) (mg_register x)))) else ms_runs x k)
  else if on = true then (if ma_reckon (ms_runs x k) k = true then ms_wrong (ms_reckon (ms_runs x k) k) k else ms_reckon (ms_runs x k) k) else mu_last (mu_sum (ms_runs x k) (va_up (mg_sum x) k FP.dconst0)) (va_up (mg_last x) k FP.dconst0)) ∧ ma_perform x k on = (if mg_block x k = 3 then false else if on = true then (if ma_reckon (ms_runs x k) k = true then !mg_guarded (ms_reckon (ms_runs x k) k) k else false) else false) := by
  unfold ms_perform ma_perform ms_perf1 ma_perf1
  rw [if_neg (show ¬ mg_block (ms_runs x k) k = 0 from h), if_neg (show ¬ mg_block (ms_runs x k) k = 0 from h), if_neg (show ¬ ¬ 3 ≤ mg_block (ms_runs x k) k from fun q => q h3), if_neg (show ¬ ¬ 3 ≤ mg_block (ms_runs x k) k from fun q => q h3)]
  exact ⟨rfl, rfl⟩
theorem pf_3 {x : st_M} {k : Nat} {on : Bool} (h : ¬ mg_block x k = 0) (h3 : 3 ≤ mg_block x k) (hq : mg_block x k = 3) : ms_perform x k on = (if on = true then mu_bit (ms_runs x k) (va_up (mg_bit x) (mg_third x k).toNatClampNeg (sd_lt (fb_x (mb x k) (mg_register x)) (fb_y (mb x k) (mg_register x)))) else ms_runs x k) ∧ ma_perform x k on = false := by
  obtain ⟨e1, e2⟩ := pf_n (on := on) h h3
  rw [e1, e2, if_pos hq, if_pos hq]
  exact ⟨rfl, rfl⟩
theorem pf_off {x : st_M} {k : Nat} {on : Bool} (h : ¬ mg_block x k = 0) (h3 : 3 ≤ mg_block x k) (hq : ¬ mg_block x k = 3) (ho : on = false) : ms_perform x k on = mu_last (mu_sum (ms_runs x k) (va_up (mg_sum x) k FP.dconst0)) (va_up (mg_last x) k FP.dconst0) ∧ ma_perform x k on = false := by
  obtain ⟨e1, e2⟩ := pf_n (on := on) h h3
  rw [e1, e2, if_neg hq, if_neg hq, ho]
  exact ⟨rfl, rfl⟩
theorem pf_ok {x : st_M} {k : Nat} {on : Bool} (h : ¬ mg_block x k = 0) (h3 : 3 ≤ mg_block x k) (hq : ¬ mg_block x k = 3) (ho : on = true) (hw : ma_reckon (ms_runs x k) k = false) : ms_perform x k on = ms_reckon (ms_runs x k) k ∧ ma_perform x k on = false := by
  obtain ⟨e1, e2⟩ := pf_n (on := on) h h3
  rw [e1, e2, if_neg hq, if_neg hq, if_pos ho, if_pos ho, hw]
  exact ⟨rfl, rfl⟩
theorem pf_bad {x : st_M} {k : Nat} {on : Bool} (h : ¬ mg_block x k = 0) (h3 : 3 ≤ mg_block x k) (hq : ¬ mg_block x k = 3) (ho : on = true) (hw : ma_reckon (ms_runs x k) k = true) : ms_perform x k on = ms_wrong (ms_reckon (ms_runs x k) k) k ∧ ma_perform x k on = !mg_guarded (ms_reckon (ms_runs x k) k) k := by
  obtain ⟨e1, e2⟩ := pf_n (on := on) h h3
  rw [e1, e2, if_neg hq, if_neg hq, if_pos ho, if_pos ho, if_pos hw, if_pos hw]
  exact ⟨rfl, rfl⟩
theorem fb_ok_iff (x : st_M) (k : Nat) : fb_ok (mb x k) ↔ (fc_isBlock (mg_block x k) (mg_first x k) (mg_second x k) (mg_third x k) (mg_amount x k) = true ∧ sd_K 1033 (mg_sum x k) ∧ sd_K 1065 (mg_last x k)) := Iff.rfl
theorem fb_ok_runs {x : st_M} {k : Nat} (h : fb_ok (mb x k)) : fb_ok (mb (ms_runs x k) k) := (fb_ok_iff (ms_runs x k) k).mpr ((fb_ok_iff x k).mp h)
theorem rg_h {x : st_M} {g : Nat} (h : mg_halted x = true) : ms_rg x g = x := if_pos h
theorem rg_n {x : st_M} {g : Nat} (h : mg_halted x = false) : ms_rg x g = ms_rung x g := if_neg (by rw [h]; decide)
theorem sn_a {x : st_M} {n : Int32} (h : fc_btw n 1 50 = false) : ms_scan x n = mu_thrown x 1 ∧ ma_scan x n = 0 := by
  unfold ms_scan ma_scan
  rw [h]
  exact ⟨rfl, rfl⟩
theorem sn_b {x : st_M} {n : Int32} (h : fc_btw n 1 50 = true) (h2 : mg_halted x = true) : ms_scan x n = mu_thrown x 2 ∧ ma_scan x n = 0 := by
  unfold ms_scan ma_scan
  rw [if_pos h, if_pos h, if_pos h2, if_pos h2]
  exact ⟨rfl, rfl⟩
theorem sn_c {x : st_M} {n : Int32} (h : fc_btw n 1 50 = true) (h2 : mg_halted x = false) (h3 : mg_halted (ms_loop n.toNatClampNeg (mu_thrown x 0)) = true) : ms_scan x n = mu_thrown (ms_loop n.toNatClampNeg (mu_thrown x 0)) 3 ∧ ma_scan x n = 0 := by
  have n2 : ¬ mg_halted x = true := by rw [h2]; decide
  unfold ms_scan ma_scan
  rw [if_pos h, if_pos h, if_neg n2, if_neg n2, if_pos h3, if_pos h3]
  exact ⟨rfl, rfl⟩
theorem sn_d {x : st_M} {n : Int32} (h : fc_btw n 1 50 = true) (h2 : mg_halted x = false) (h3 : mg_halted (ms_loop n.toNatClampNeg (mu_thrown x 0)) = false) : ms_scan x n = ms_loop n.toNatClampNeg (mu_thrown x 0) ∧ ma_scan x n = mg_scans (ms_loop n.toNatClampNeg (mu_thrown x 0)) := by
  have n2 : ¬ mg_halted x = true := by rw [h2]; decide
  have n3 : ¬ mg_halted (ms_loop n.toNatClampNeg (mu_thrown x 0)) = true := by rw [h3]; decide
  unfold ms_scan ma_scan
  rw [if_pos h, if_pos h, if_neg n2, if_neg n2, if_neg n3, if_neg n3]
  exact ⟨rfl, rfl⟩
