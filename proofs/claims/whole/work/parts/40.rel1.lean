/-! class and reference side by side: numbers, a block -/
theorem nn_val {x : UInt64} (h : vf_n64 x) : FP.Core.val64 x ≠ .nan := by
  unfold vf_n64 at h
  rw [UInt64.le_iff_toNat_le, FP.Core.mask_toNat] at h
  exact (FP.Core.ne_nan x).mpr h
theorem sd_tri {x y : UInt64} (hx : FP.Core.val64 x ≠ .nan) (hy : FP.Core.val64 y ≠ .nan) : sd_gt x y = !sd_le x y ∧ sd_lt x y = !sd_ge x y := by
  unfold sd_gt sd_le sd_lt sd_ge
  rcases q : FP.dcmp x y with _ | o
  · exact absurd ((FP.Core.dcmp_none x y).mp q) (by rintro (h | h) <;> contradiction)
  · cases o <;> exact ⟨by decide, by decide⟩
theorem out_val {v : UInt64} (h : FP.Core.val64 v ≠ .nan) : mk_out v = !fc_val v := by
  unfold mk_out fc_val
  rw [(sd_tri h (show FP.Core.val64 4786511204640096256 ≠ .nan by decide)).1, (sd_tri h (show FP.Core.val64 14009883241494872064 ≠ .nan by decide)).2]
  cases sd_le v 4786511204640096256 <;> cases sd_ge v 14009883241494872064 <;> rfl
theorem mval_eq (v : UInt64) : mc_val v = fc_val v := by
  unfold mc_val fc_val
  rw [Bool.and_comm]
theorem lim_eq {va vb n : UInt64} (h : sd_gt vb n = false) : mk_lim va vb n = fc_lim va vb n := by
  unfold mk_lim fc_lim
  cases q : sd_lt va vb
  · simp only [Bool.false_eq_true, if_false]
  · simp only [if_true]
    rw [h]
    rfl
theorem i2d_nn (c : Int32) : FP.Core.val64 (FP.i2d c) ≠ .nan := (FP.Core.dcmp_some (FP.Core.dcmp_int (FP.Core.i2d_int c) (FP.Core.i2d_int c))).1
theorem cn_cmp {n : UInt64} (h : fc_cntb n = true) (c : Int32) : FP.dcmp (FP.i2d c) n = some (compare c.toInt (FP.d2i n).toInt) := by
  unfold fc_cntb at h
  rw [Bool.and_eq_true, Bool.and_eq_true] at h
  have he := h.2.2
  unfold sd_eq at he
  rw [decide_eq_true_eq] at he
  obtain ⟨h1, h2⟩ := FP.Core.dcmp_some he
  have hk := (FP.Core.dcmp_eq_key h1 h2).mp he
  have h4 := FP.Core.dcmp_int (FP.Core.i2d_int c) (FP.Core.i2d_int (FP.d2i n))
  have h5 := FP.Core.dcmp_key (i2d_nn c) h1
  have h6 := FP.Core.dcmp_key (i2d_nn c) h2
  have h7 : FP.dcmp (FP.i2d c) n = some (compare (FP.Core.dkey (FP.i2d c)) (FP.Core.dkey n)) := h5
  rw [h7, hk]
  exact h6.symm.trans h4
theorem cn_1 {n : UInt64} (h : fc_cntb n = true) : 1 ≤ (FP.d2i n).toInt := by
  have h0 := h
  unfold fc_cntb at h
  rw [Bool.and_eq_true, Bool.and_eq_true] at h
  have h1 := h.1
  unfold sd_ge at h1
  rw [decide_eq_true_eq] at h1
  have hc : FP.dcmp FP.dconst1 n = some (compare (1 : Int) (FP.d2i n).toInt) := by
    have := cn_cmp h0 1
    rw [show FP.i2d 1 = FP.dconst1 by decide] at this
    exact this
  have hs := FP.Core.dcmp_swap FP.dconst1 n
  have hs' : FP.dcmp n FP.dconst1 = (FP.dcmp FP.dconst1 n).map Ordering.swap := hs
  rw [hs', hc] at h1
  rcases Int.lt_trichotomy 1 (FP.d2i n).toInt with q | q | q
  · omega
  · omega
  · rw [show compare (1 : Int) (FP.d2i n).toInt = .gt from (FP.Core.compare_gt_iff _ _).mpr q] at h1
    exact absurd h1 (by decide)
theorem cn_lt {n : UInt64} (h : fc_cntb n = true) (c : Int32) : sd_lt (FP.i2d c) n = decide (c.toInt < (FP.d2i n).toInt) := by
  unfold sd_lt
  rw [cn_cmp h]
  apply decide_eq_decide.mpr
  rw [Option.some.injEq, FP.Core.compare_lt_iff]
theorem cn_ge {n : UInt64} (h : fc_cntb n = true) {c : Int32} (hc : c.toInt ≤ (FP.d2i n).toInt) : sd_eq (FP.i2d c) n = sd_ge (FP.i2d c) n := by
  unfold sd_ge sd_eq
  rw [cn_cmp h]
  apply decide_eq_decide.mpr
  constructor
  · exact fun q => Or.inr q
  · rintro (q | q)
    · rw [Option.some.injEq, FP.Core.compare_gt_iff] at q
      omega
    · exact q
theorem cn_up {n : UInt64} (h : fc_cntb n = true) {c : Int32} (hl : sd_lt (FP.i2d c) n = true) : (c + 1).toInt ≤ (FP.d2i n).toInt := by
  rw [cn_lt h, decide_eq_true_eq] at hl
  have h1 := (FP.d2i n).toInt_lt
  have h2 := c.le_toInt
  have e1 : (1 : Int32).toInt = 1 := by decide
  rw [Int32.toInt_add, e1, Int.bmod_eq_of_le (by omega) (by omega)]
  omega
/-- the reference's block and the class's: equal, but for the remembered power where it isn't asked for -/
def rl_B (b k : st_B) : Prop := ∃ h, b = fb_had k h ∧ (k.1 = 2 → h = k.2.2.2.2.2.2.2.1)
/-- what stays true of the class's blocks -/
def iv_B (k : st_B) : Prop := (¬ k.1 = 9 → k.2.2.2.2.2.2.2.2.1 = FP.dconst0 ∧ k.2.2.2.2.2.2.2.2.2.1 = FP.dconst0) ∧ (k.1 = 1 ∨ k.1 = 2 → k.2.2.2.2.2.2.1.toInt ≤ (FP.d2i k.2.2.2.2.1).toInt)
theorem ev0 {x : st_B} {on : Bool} {bt : Nat → Bool} {rg : Nat → UInt64} (h : x.1 = 0) : fb_runb x on rg = true ∧ fb_runz x on bt rg = bt ∧ fb_rund x on rg = rg ∧ fb_run x on bt rg = fb_runs x := by
  simp [fb_runb, fb_runz, fb_rund, fb_run, fb_run1, fb_runs_1, h]
theorem ev1 {x : st_B} {on : Bool} {bt : Nat → Bool} {rg : Nat → UInt64} (h : x.1 = 1) : fb_runb x on rg = true ∧ fb_runz x on bt rg = fb_dbit x on bt ∧ fb_rund x on rg = rg ∧ fb_run x on bt rg = fb_delay (fb_runs x) on := by
  simp [fb_runb, fb_runz, fb_rund, fb_run, fb_run1, fb_runs_1, h]
theorem ev2 {x : st_B} {on : Bool} {bt : Nat → Bool} {rg : Nat → UInt64} (h : x.1 = 2) : fb_runb x on rg = true ∧ fb_runz x on bt rg = fb_cbit x on bt ∧ fb_rund x on rg = rg ∧ fb_run x on bt rg = fb_count (fb_runs x) on bt := by
  simp [fb_runb, fb_runz, fb_rund, fb_run, fb_run1, fb_runs_1, h]
theorem ev3 {x : st_B} {on : Bool} {bt : Nat → Bool} {rg : Nat → UInt64} (h : x.1 = 3) : fb_runb x on rg = true ∧ fb_runz x on bt rg = va_up bt (fb_c x) (if on = true then sd_lt (fb_x x rg) (fb_y x rg) else bt (fb_c x)) ∧ fb_rund x on rg = rg ∧ fb_run x on bt rg = fb_runs x := by
  simp [fb_runb, fb_runz, fb_rund, fb_run, fb_run1, fb_runs_1, h]
theorem ev9 {x : st_B} {on : Bool} {bt : Nat → Bool} {rg : Nat → UInt64} (h : x.1 = 9) : fb_runb x on rg = fb_regb x on rg ∧ fb_runz x on bt rg = bt ∧ fb_rund x on rg = fb_regr x on rg ∧ fb_run1 (fb_runs x) on bt rg = fb_reg (fb_runs x) on rg := by
  simp [fb_runb, fb_runz, fb_rund, fb_run1, fb_runs_1, h]
theorem ev4 {x : st_B} {on : Bool} {bt : Nat → Bool} {rg : Nat → UInt64} (h0 : ¬ x.1 = 0) (h1 : ¬ x.1 = 1) (h2 : ¬ x.1 = 2) (h3 : ¬ x.1 = 3) (h9 : ¬ x.1 = 9) : fb_runb x on rg = (!on || fb_calcb x rg) ∧ fb_runz x on bt rg = bt ∧ fb_rund x on rg = (if on = true then fb_calcr x rg else rg) ∧ fb_run1 (fb_runs x) on bt rg = fb_runs x := by
  simp [fb_runb, fb_runz, fb_rund, fb_run1, fb_runs_1, h0, h1, h2, h3, h9]
/-- bits, registers, blocks, faults, halts agree -/
def rlT (t : st_T) (x : st_M) : Prop := (∀ i, i < 24 → mg_bit x i = t.1 i) ∧ (∀ i, i < 8 → mg_register x i = t.2.1 i) ∧ (∀ k, k < 8 → rl_B (mb x k) (t.2.2.1 k)) ∧ mg_all x = t.2.2.2.1 ∧ mg_halted x = fs_hlt t.2.2.2.2 ∧ (mg_halted x = true → mg_by x = t.2.2.2.2)
theorem mkT {t : st_T} {x x' : st_M} {k : Nat} {bt : Nat → Bool} {rg : Nat → UInt64} {k' : st_B} (R : rlT t x) (h1 : ∀ i, i < 24 → mg_bit x' i = bt i) (h2 : ∀ i, i < 8 → mg_register x' i = rg i) (h3 : ∀ j, j ≠ k → mb x' j = mb x j) (h4 : rl_B (mb x' k) k') (h5 : mg_all x' = mg_all x) (h6 : mg_halted x' = mg_halted x) (h7 : mg_by x' = mg_by x) : rlT (bt, rg, va_up t.2.2.1 k k', t.2.2.2.1, t.2.2.2.2) x' := by
  refine ⟨h1, h2, fun j hj => ?_, h5.trans R.2.2.2.1, h6.trans R.2.2.2.2.1, fun hh => h7.trans (R.2.2.2.2.2 (h6 ▸ hh))⟩
  show rl_B (mb x' j) (va_up t.2.2.1 k k' j)
  by_cases q : j = k
  · rw [q, va_up_self]
    exact h4
  · rw [va_up_ne _ _ q, h3 j q]
    exact R.2.2.1 j hj
theorem mb_runs_self (x : st_M) (k : Nat) : mb (ms_runs x k) k = fb_runs (mb x k) := by
  show (mg_block x k, mg_first x k, mg_second x k, mg_third x k, mg_amount x k, mg_guarded x k, mg_counted x k, mg_had x k, mg_sum x k, mg_last x k, va_up (mg_runs x) k (mg_runs x k + 1) k, mg_faults x k) = _
  rw [va_up_self]
  rfl
theorem mb_runs_ne (x : st_M) {k j : Nat} (h : j ≠ k) : mb (ms_runs x k) j = mb x j := by
  show (mg_block x j, mg_first x j, mg_second x j, mg_third x j, mg_amount x j, mg_guarded x j, mg_counted x j, mg_had x j, mg_sum x j, mg_last x j, va_up (mg_runs x) k (mg_runs x k + 1) j, mg_faults x j) = _
  rw [va_up_ne _ _ h]
  rfl
theorem mb_sums_self (x : st_M) (k : Nat) (v w : UInt64) : mb (mu_last (mu_sum x (va_up (mg_sum x) k v)) (va_up (mg_last x) k w)) k = fb_sums (mb x k) v w := by
  show (mg_block x k, mg_first x k, mg_second x k, mg_third x k, mg_amount x k, mg_guarded x k, mg_counted x k, mg_had x k, va_up (mg_sum x) k v k, va_up (mg_last x) k w k, mg_runs x k, mg_faults x k) = _
  rw [va_up_self, va_up_self]
  rfl
theorem mb_sums_ne (x : st_M) {k j : Nat} (v w : UInt64) (h : j ≠ k) : mb (mu_last (mu_sum x (va_up (mg_sum x) k v)) (va_up (mg_last x) k w)) j = mb x j := by
  show (mg_block x j, mg_first x j, mg_second x j, mg_third x j, mg_amount x j, mg_guarded x j, mg_counted x j, mg_had x j, va_up (mg_sum x) k v j, va_up (mg_last x) k w j, mg_runs x j, mg_faults x j) = _
  rw [va_up_ne _ _ h, va_up_ne _ _ h]
  rfl
theorem mb_flt_self (x : st_M) (k : Nat) : mb (ms_flt x k) k = fb_flts (mb x k) := by
  show (mg_block x k, mg_first x k, mg_second x k, mg_third x k, mg_amount x k, mg_guarded x k, mg_counted x k, mg_had x k, mg_sum x k, mg_last x k, mg_runs x k, va_up (mg_faults x) k (mg_faults x k + 1) k) = _
  rw [va_up_self]
  rfl
theorem mb_flt_ne (x : st_M) {k j : Nat} (h : j ≠ k) : mb (ms_flt x k) j = mb x j := by
  show (mg_block x j, mg_first x j, mg_second x j, mg_third x j, mg_amount x j, mg_guarded x j, mg_counted x j, mg_had x j, mg_sum x j, mg_last x j, mg_runs x j, va_up (mg_faults x) k (mg_faults x k + 1) j) = _
  rw [va_up_ne _ _ h]
  rfl
-- the counters
def tcf (x : st_M) (k : Nat) (on : Bool) : Nat → Int32 := if mg_block x k = 1 then va_up (mg_counted x) k (if on = false then 0 else if sd_lt (FP.i2d (mg_counted x k)) (mg_amount x k) = true then mg_counted x k + 1 else mg_counted x k)
  else if mg_bit x 22 = true then va_up (mg_counted x) k 0 else if on = false then mg_counted x else if mg_had x k = true then mg_counted x else if sd_lt (FP.i2d (mg_counted x k)) (mg_amount x k) = true then va_up (mg_counted x) k (mg_counted x k + 1) else mg_counted x
theorem tcnt_eq (x : st_M) (k : Nat) (on : Bool) : ms_tcnt x k on = mu_counted x (tcf x k on) := by
  unfold ms_tcnt tcf
  repeat' split
  all_goals rfl
theorem tcf_ne (x : st_M) {k j : Nat} (on : Bool) (h : j ≠ k) : tcf x k on j = mg_counted x j := by
  unfold tcf
  repeat' split
  all_goals first | rfl | exact va_up_ne _ _ h
theorem tally_self (x : st_M) (k : Nat) (on : Bool) : mb (ms_tally x k on) k = fb_had (fb_cnt (mb x k) (tcf x k on k)) on := by
  unfold ms_tally
  rw [tcnt_eq]
  show (mg_block x k, mg_first x k, mg_second x k, mg_third x k, mg_amount x k, mg_guarded x k, tcf x k on k, va_up (mg_had x) k on k, mg_sum x k, mg_last x k, mg_runs x k, mg_faults x k) = _
  rw [va_up_self]
  rfl
theorem tally_ne (x : st_M) {k j : Nat} (on : Bool) (h : j ≠ k) : mb (ms_tally x k on) j = mb x j := by
  unfold ms_tally
  rw [tcnt_eq]
  show (mg_block x j, mg_first x j, mg_second x j, mg_third x j, mg_amount x j, mg_guarded x j, tcf x k on j, va_up (mg_had x) k on j, mg_sum x j, mg_last x j, mg_runs x j, mg_faults x j) = _
  rw [va_up_ne _ _ h, tcf_ne x on h]
  rfl
theorem tally_bit (x : st_M) (k : Nat) (on : Bool) : mg_bit (ms_tally x k on) = va_up (mg_bit x) (mg_third x k).toNatClampNeg (sd_eq (FP.i2d (tcf x k on k)) (mg_amount x k)) ∧ mg_register (ms_tally x k on) = mg_register x ∧ mg_all (ms_tally x k on) = mg_all x ∧ mg_halted (ms_tally x k on) = mg_halted x ∧ mg_by (ms_tally x k on) = mg_by x := by
  unfold ms_tally
  rw [tcnt_eq]
  exact ⟨rfl, rfl, rfl, rfl, rfl⟩
theorem up_agree {f g : Nat → Bool} {n j : Nat} {v w : Bool} (h : ∀ i, i < n → f i = g i) (hv : v = w) : ∀ i, i < n → va_up f j v i = va_up g j w i := by
  intro i hi
  subst hv
  by_cases q : i = j
  · rw [q, va_up_self, va_up_self]
  · rw [va_up_ne _ _ q, va_up_ne _ _ q]
    exact h i hi
theorem up_agreeD {f g : Nat → UInt64} {n j : Nat} {v w : UInt64} (h : ∀ i, i < n → f i = g i) (hv : v = w) : ∀ i, i < n → va_up f j v i = va_up g j w i := by
  intro i hi
  subst hv
  by_cases q : i = j
  · rw [q, va_up_self, va_up_self]
  · rw [va_up_ne _ _ q, va_up_ne _ _ q]
    exact h i hi
theorem up_same {f : Nat → Bool} {j i : Nat} : va_up f j (f j) i = f i := by
  by_cases q : i = j
  · rw [q, va_up_self]
  · rw [va_up_ne _ _ q]
