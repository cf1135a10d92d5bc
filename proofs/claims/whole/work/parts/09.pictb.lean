/-! BLOCK: what its methods compute -/
def fb_tell (x : st_B) (w : Int32) : Int32 := if w = 0 then x.1 else if w = 1 then x.2.2.2.2.2.2.1 else if w = 2 then sf_b x.2.2.2.2.2.1 else if w = 3 then x.2.2.2.2.2.2.2.2.2.2.1 else x.2.2.2.2.2.2.2.2.2.2.2
def fb_become (x : st_B) (k a b c : Int32) (n : UInt64) : st_B := (k, a, b, c, n, x.2.2.2.2.2.1, 0, false, FP.dconst0, FP.dconst0, 0, 0)
def fb_cnt (x : st_B) (v : Int32) : st_B := (x.1, x.2.1, x.2.2.1, x.2.2.2.1, x.2.2.2.2.1, x.2.2.2.2.2.1, v, x.2.2.2.2.2.2.2)
def fb_had (x : st_B) (v : Bool) : st_B := (x.1, x.2.1, x.2.2.1, x.2.2.2.1, x.2.2.2.2.1, x.2.2.2.2.2.1, x.2.2.2.2.2.2.1, v, x.2.2.2.2.2.2.2.2)
def fb_sums (x : st_B) (v w : UInt64) : st_B := (x.1, x.2.1, x.2.2.1, x.2.2.2.1, x.2.2.2.2.1, x.2.2.2.2.2.1, x.2.2.2.2.2.2.1, x.2.2.2.2.2.2.2.1, v, w, x.2.2.2.2.2.2.2.2.2.2)
def fb_runs (x : st_B) : st_B := (x.1, x.2.1, x.2.2.1, x.2.2.2.1, x.2.2.2.2.1, x.2.2.2.2.2.1, x.2.2.2.2.2.2.1, x.2.2.2.2.2.2.2.1, x.2.2.2.2.2.2.2.2.1, x.2.2.2.2.2.2.2.2.2.1, x.2.2.2.2.2.2.2.2.2.2.1 + 1, x.2.2.2.2.2.2.2.2.2.2.2)
def fb_flts (x : st_B) : st_B := (x.1, x.2.1, x.2.2.1, x.2.2.2.1, x.2.2.2.2.1, x.2.2.2.2.2.1, x.2.2.2.2.2.2.1, x.2.2.2.2.2.2.2.1, x.2.2.2.2.2.2.2.2.1, x.2.2.2.2.2.2.2.2.2.1, x.2.2.2.2.2.2.2.2.2.2.1, x.2.2.2.2.2.2.2.2.2.2.2 + 1)
def fb_grd (x : st_B) (v : Bool) : st_B := (x.1, x.2.1, x.2.2.1, x.2.2.2.1, x.2.2.2.2.1, v, x.2.2.2.2.2.2)
def fb_c (x : st_B) : Nat := x.2.2.2.1.toNatClampNeg
def fb_dcnt (x : st_B) (pw : Bool) : Int32 := if pw = false then 0 else if sd_lt (FP.i2d x.2.2.2.2.2.2.1) x.2.2.2.2.1 = true then x.2.2.2.2.2.2.1 + 1 else x.2.2.2.2.2.2.1
def fb_delay (x : st_B) (pw : Bool) : st_B := fb_cnt x (fb_dcnt x pw)
def fb_dbit (x : st_B) (pw : Bool) (bt : Nat → Bool) : Nat → Bool := va_up bt (fb_c x) (sd_ge (FP.i2d (fb_dcnt x pw)) x.2.2.2.2.1)
def fb_ccnt (x : st_B) (pw : Bool) (bt : Nat → Bool) : Int32 := if bt 22 = true then 0 else if pw = false then x.2.2.2.2.2.2.1 else if x.2.2.2.2.2.2.2.1 = true then x.2.2.2.2.2.2.1 else if sd_lt (FP.i2d x.2.2.2.2.2.2.1) x.2.2.2.2.1 = true then x.2.2.2.2.2.2.1 + 1 else x.2.2.2.2.2.2.1
def fb_count (x : st_B) (pw : Bool) (bt : Nat → Bool) : st_B := fb_had (fb_cnt x (fb_ccnt x pw bt)) pw
def fb_cbit (x : st_B) (pw : Bool) (bt : Nat → Bool) : Nat → Bool := va_up bt (fb_c x) (sd_ge (FP.i2d (fb_ccnt x pw bt)) x.2.2.2.2.1)
def fb_keepr (x : st_B) (v : UInt64) (rg : Nat → UInt64) : Nat → UInt64 := if fc_val v = true then va_up rg (fb_c x) v else rg
def fb_x (x : st_B) (rg : Nat → UInt64) : UInt64 := rg x.2.1.toNatClampNeg
def fb_y (x : st_B) (rg : Nat → UInt64) : UInt64 := rg x.2.2.1.toNatClampNeg
def fb_calcb (x : st_B) (rg : Nat → UInt64) : Bool :=
  if x.1 = 4 then fc_val (FP.dadd (fb_x x rg) (fb_y x rg)) else if x.1 = 5 then fc_val (FP.dsub (fb_x x rg) (fb_y x rg)) else if x.1 = 6 then fc_val (FP.dmul (fb_x x rg) (fb_y x rg))
  else if x.1 = 7 then !sd_eq (fb_y x rg) FP.dconst0 && fc_val (FP.ddiv (fb_x x rg) (fb_y x rg)) else sd_le (fb_y x rg) x.2.2.2.2.1 && fc_val (fc_lim (fb_x x rg) (fb_y x rg) x.2.2.2.2.1)
def fb_calcr (x : st_B) (rg : Nat → UInt64) : Nat → UInt64 :=
  if x.1 = 4 then fb_keepr x (FP.dadd (fb_x x rg) (fb_y x rg)) rg else if x.1 = 5 then fb_keepr x (FP.dsub (fb_x x rg) (fb_y x rg)) rg else if x.1 = 6 then fb_keepr x (FP.dmul (fb_x x rg) (fb_y x rg)) rg
  else if x.1 = 7 then (if sd_eq (fb_y x rg) FP.dconst0 = true then rg else fb_keepr x (FP.ddiv (fb_x x rg) (fb_y x rg)) rg) else if sd_le (fb_y x rg) x.2.2.2.2.1 = true then fb_keepr x (fc_lim (fb_x x rg) (fb_y x rg) x.2.2.2.2.1) rg else rg
def fb_e (x : st_B) (rg : Nat → UInt64) : UInt64 := FP.dsub (fb_y x rg) (fb_x x rg)
def fb_sum (x : st_B) (rg : Nat → UInt64) : UInt64 := fc_lim (FP.dadd x.2.2.2.2.2.2.2.2.1 (FP.dmul (fb_e x rg) 4593671619917905920)) 13875379345695965184 4652007308841189376
def fb_v (x : st_B) (rg : Nat → UInt64) : UInt64 := FP.dmul x.2.2.2.2.1 (FP.dadd (FP.dadd (fb_e x rg) (fb_sum x rg)) (FP.dmul (FP.dsub (fb_e x rg) x.2.2.2.2.2.2.2.2.2.1) 4602678819172646912))
def fb_reg (x : st_B) (pw : Bool) (rg : Nat → UInt64) : st_B := if pw = false then fb_sums x FP.dconst0 FP.dconst0 else fb_sums x (fb_sum x rg) (fb_e x rg)
def fb_regb (x : st_B) (pw : Bool) (rg : Nat → UInt64) : Bool := if pw = false then true else fc_val (fb_v x rg)
def fb_regr (x : st_B) (pw : Bool) (rg : Nat → UInt64) : Nat → UInt64 := if pw = false then rg else fb_keepr x (fb_v x rg) rg
-- RUN
def fb_runb (x : st_B) (pw : Bool) (rg : Nat → UInt64) : Bool := if x.1 = 0 then true else if x.1 = 1 then true else if x.1 = 2 then true else if x.1 = 3 then true else if x.1 = 9 then fb_regb x pw rg else !pw || fb_calcb x rg
def fb_run1 (x : st_B) (pw : Bool) (bt : Nat → Bool) (rg : Nat → UInt64) : st_B := if x.1 = 1 then fb_delay x pw else if x.1 = 2 then fb_count x pw bt else if x.1 = 9 then fb_reg x pw rg else x
def fb_run (x : st_B) (pw : Bool) (bt : Nat → Bool) (rg : Nat → UInt64) : st_B := if fb_runb x pw rg = true then fb_run1 (fb_runs x) pw bt rg else fb_flts (fb_run1 (fb_runs x) pw bt rg)
def fb_runz (x : st_B) (pw : Bool) (bt : Nat → Bool) (rg : Nat → UInt64) : Nat → Bool := if x.1 = 1 then fb_dbit x pw bt else if x.1 = 2 then fb_cbit x pw bt else if x.1 = 3 then va_up bt (fb_c x) (if pw = true then sd_lt (fb_x x rg) (fb_y x rg) else bt (fb_c x)) else bt
def fb_rund (x : st_B) (pw : Bool) (rg : Nat → UInt64) : Nat → UInt64 := if x.1 = 0 then rg else if x.1 = 1 then rg else if x.1 = 2 then rg else if x.1 = 3 then rg else if x.1 = 9 then fb_regr x pw rg else if pw = true then fb_calcr x rg else rg
/-- what a BLOCK needs to run: numbers as said, sums and registers in their bounds -/
def fb_ok (x : st_B) : Prop := fc_isBlock x.1 x.2.1 x.2.2.1 x.2.2.2.1 x.2.2.2.2.1 = true ∧ sd_K 1033 x.2.2.2.2.2.2.2.2.1 ∧ sd_K 1065 x.2.2.2.2.2.2.2.2.2.1
def rg_ok (rg : Nat → UInt64) : Prop := ∀ j, j < 8 → fc_val (rg j) = true
theorem ix_bbit {x : Int32} (h : fc_bbit x = true) : fc_ix x 24 = true := by
  unfold fc_bbit fc_btw at h
  rw [Bool.and_eq_true, decide_eq_true_eq, decide_eq_true_eq] at h
  unfold fc_ix
  rw [Bool.and_eq_true, decide_eq_true_eq, decide_eq_true_eq]
  have h1 := h.1
  have h2 := h.2
  rw [Int32.lt_iff_toInt_lt] at h1 h2
  constructor
  · rw [Int32.lt_iff_toInt_lt]
    have e1 : (8 : Int32).toInt = 8 := by decide
    have e0 : (0 : Int32).toInt = 0 := by decide
    omega
  · rw [Int32.le_iff_toInt_le]
    have e1 : (21 : Int32).toInt = 21 := by decide
    have e0 : (24 : Int32).toInt = 24 := by decide
    omega
theorem val_K {v : UInt64} (h : fc_val v = true) : sd_K 1063 v := by
  unfold fc_val at h
  rw [Bool.and_eq_true] at h
  exact sd_btw (lo := 14009883241494872064) (hi := 4786511204640096256) (by decide) (by decide) (by decide) h.1 h.2
theorem setg_K {v : UInt64} (h : fc_setg v = true) : sd_K 1033 v := by
  unfold fc_setg at h
  rw [Bool.and_eq_true] at h
  exact sd_btw (lo := 13875379345695965184) (hi := 4652007308841189376) (by decide) (by decide) (by decide) h.1 h.2
theorem sd_nlt_ge {x y : UInt64} (hx : FP.Core.val64 x ≠ .nan) (hy : FP.Core.val64 y ≠ .nan) (h : sd_lt x y = false) : sd_ge x y = true := by
  unfold sd_lt at h
  unfold sd_ge
  rw [decide_eq_false_iff_not] at h
  rw [decide_eq_true_iff]
  rcases q : FP.dcmp x y with _ | o
  · exact absurd ((FP.Core.dcmp_none x y).mp q) (by rintro (h | h) <;> contradiction)
  · cases o
    · exact absurd q h
    · exact Or.inr rfl
    · exact Or.inl rfl
theorem sd_ngt_le {x y : UInt64} (hx : FP.Core.val64 x ≠ .nan) (hy : FP.Core.val64 y ≠ .nan) (h : sd_gt x y = false) : sd_le x y = true := by
  unfold sd_gt at h
  unfold sd_le
  rw [decide_eq_false_iff_not] at h
  rw [decide_eq_true_iff]
  rcases q : FP.dcmp x y with _ | o
  · exact absurd ((FP.Core.dcmp_none x y).mp q) (by rintro (h | h) <;> contradiction)
  · cases o
    · exact Or.inl rfl
    · exact Or.inr rfl
    · exact absurd q h
theorem lim_K {v : UInt64} (hv : FP.Core.val64 v ≠ .nan) : sd_K 1033 (fc_lim v 13875379345695965184 4652007308841189376) := by
  have n1 : FP.Core.val64 13875379345695965184 ≠ .nan := by decide
  have n2 : FP.Core.val64 4652007308841189376 ≠ .nan := by decide
  unfold fc_lim
  by_cases h1 : sd_lt v 13875379345695965184 = true
  · rw [if_pos h1]
    unfold sd_K
    decide
  · rw [if_neg h1]
    by_cases h2 : sd_gt v 4652007308841189376 = true
    · rw [if_pos h2]
      unfold sd_K
      decide
    · rw [if_neg h2]
      exact sd_btw (lo := 13875379345695965184) (hi := 4652007308841189376) (by decide) (by decide) (by decide) (sd_nlt_ge hv n1 (Bool.eq_false_iff.mpr h1)) (sd_ngt_le hv n2 (Bool.eq_false_iff.mpr h2))
theorem kk_125 : sd_K 1021 4593671619917905920 := by unfold sd_K; decide
theorem kk_5 : sd_K 1023 4602678819172646912 := by unfold sd_K; decide
section SDE
variable {x y z w n : UInt64}
theorem ke_e (hx : sd_K 1063 x) (hy : sd_K 1063 y) : sd_K 1065 (FP.dsub x y) := sd_sub hx hy (by decide)
theorem ke_m (hx : sd_K 1065 x) : sd_K 1064 (FP.dmul x 4593671619917905920) := (sd_mul hx kk_125 (by decide) (by decide)).mono (by decide)
theorem ke_s (hx : sd_K 1033 x) (hy : sd_K 1065 y) : sd_K 1066 (FP.dadd x (FP.dmul y 4593671619917905920)) := sd_add (hx.mono (by decide)) (ke_m hy) (by decide)
theorem ke_c (hx : sd_K 1065 x) (hy : sd_K 1065 y) : sd_K 1067 (FP.dsub x y) := sd_sub hx hy (by decide)
theorem ke_a (hx : sd_K 1065 x) (hy : sd_K 1033 y) : sd_K 1067 (FP.dadd x y) := sd_add hx (hy.mono (by decide)) (by decide)
theorem ke_h (hx : sd_K 1067 x) : sd_K 1068 (FP.dmul x 4602678819172646912) := (sd_mul hx kk_5 (by decide) (by decide)).mono (by decide)
theorem ke_t (hx : sd_K 1067 x) (hy : sd_K 1068 y) : sd_K 1070 (FP.dadd x y) := sd_add (hx.mono (by decide)) hy (by decide)
theorem ke_v (hx : sd_K 1033 x) (hy : sd_K 1070 y) : sd_K 1081 (FP.dmul x y) := (sd_mul hx hy (by decide) (by decide)).mono (by decide)
end SDE
theorem ok_12 {k a b c : Int32} {n : UInt64} (h : fc_isBlock k a b c n = true) (hk : k = 1 ∨ k = 2) : fc_ix c 24 = true ∧ fc_cntb n = true := by
  rcases hk with rfl | rfl
  · have h' : (fc_bbit c && fc_cntb n) = true := h
    rw [Bool.and_eq_true] at h'
    exact ⟨ix_bbit h'.1, h'.2⟩
  · have h' : (fc_bbit c && fc_cntb n) = true := h
    rw [Bool.and_eq_true] at h'
    exact ⟨ix_bbit h'.1, h'.2⟩
theorem ok_3 {k a b c : Int32} {n : UInt64} (h : fc_isBlock k a b c n = true) (hk : k = 3) : fc_ix a 8 = true ∧ fc_ix b 8 = true ∧ fc_ix c 24 = true := by
  subst hk
  have h' : (fc_regs a b && fc_bbit c) = true := h
  unfold fc_regs at h'
  rw [Bool.and_eq_true, Bool.and_eq_true] at h'
  exact ⟨h'.1.1, h'.1.2, ix_bbit h'.2⟩
theorem ok_r {k a b c : Int32} {n : UInt64} (h : fc_isBlock k a b c n = true) (h0 : ¬ k = 0) (h1 : ¬ k = 1) (h2 : ¬ k = 2) (h3 : ¬ k = 3) : fc_ix a 8 = true ∧ fc_ix b 8 = true ∧ fc_ix c 8 = true := by
  unfold fc_isBlock fc_regs at h
  rw [if_neg h0, if_neg h1, if_neg h2, if_neg h3] at h
  have two : ∀ {x y z : Bool}, ((x && y) && z) = true → x = true ∧ y = true ∧ z = true := by
    intro x y z q
    rw [Bool.and_eq_true, Bool.and_eq_true] at q
    exact ⟨q.1.1, q.1.2, q.2⟩
  have thr : ∀ {x y z w : Bool}, ((x && y) && (z && w)) = true → x = true ∧ y = true ∧ z = true := by
    intro x y z w q
    rw [Bool.and_eq_true, Bool.and_eq_true, Bool.and_eq_true] at q
    exact ⟨q.1.1, q.1.2, q.2.1⟩
  split at h
  · exact two h
  · split at h
    · exact two h
    · split at h
      · exact two h
      · split at h
        · exact two h
        · split at h
          · exact thr h
          · split at h
            · exact thr h
            · exact absurd h (by decide)
theorem ok_9 {k a b c : Int32} {n : UInt64} (h : fc_isBlock k a b c n = true) (hk : k = 8 ∨ k = 9) : fc_setg n = true := by
  rcases hk with rfl | rfl
  · have h' : (fc_regs a b && (fc_ix c 8 && fc_setg n)) = true := h
    rw [Bool.and_eq_true, Bool.and_eq_true] at h'
    exact h'.2.2
  · have h' : (fc_regs a b && (fc_ix c 8 && fc_setg n)) = true := h
    rw [Bool.and_eq_true, Bool.and_eq_true] at h'
    exact h'.2.2
theorem fb_runs_1 (x : st_B) : (fb_runs x).1 = x.1 := rfl
