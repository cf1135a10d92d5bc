/-! rows, rungs, scans, class and reference -/
/-- what running coils leaves alone -/
def keep (x x' : st_M) : Prop := mg_was x' = mg_was x ∧ mg_link x' = mg_link x ∧ mg_power x' = mg_power x ∧ mg_seen x' = mg_seen x ∧ mg_kind x' = mg_kind x ∧ mg_of x' = mg_of x ∧ mg_coil x' = mg_coil x ∧ mg_coilOf x' = mg_coilOf x ∧ mg_scans x' = mg_scans x
theorem keep.tr {x y z : st_M} (h : keep x y) (h2 : keep y z) : keep x z := ⟨h2.1.trans h.1, h2.2.1.trans h.2.1, h2.2.2.1.trans h.2.2.1, h2.2.2.2.1.trans h.2.2.2.1, h2.2.2.2.2.1.trans h.2.2.2.2.1, h2.2.2.2.2.2.1.trans h.2.2.2.2.2.1, h2.2.2.2.2.2.2.1.trans h.2.2.2.2.2.2.1, h2.2.2.2.2.2.2.2.1.trans h.2.2.2.2.2.2.2.1, h2.2.2.2.2.2.2.2.2.trans h.2.2.2.2.2.2.2.2⟩
theorem keep.rf (x : st_M) : keep x x := ⟨rfl, rfl, rfl, rfl, rfl, rfl, rfl, rfl, rfl⟩
theorem keep_runs (x : st_M) (k : Nat) : keep x (ms_runs x k) := ⟨rfl, rfl, rfl, rfl, rfl, rfl, rfl, rfl, rfl⟩
theorem keep_tally (x : st_M) (k : Nat) (on : Bool) : keep x (ms_tally x k on) := by
  unfold ms_tally
  rw [tcnt_eq]
  exact ⟨rfl, rfl, rfl, rfl, rfl, rfl, rfl, rfl, rfl⟩
theorem keep_r9 (x : st_M) (k : Nat) : keep x (ms_r9 x k) := by
  unfold ms_r9
  repeat' split
  all_goals exact ⟨rfl, rfl, rfl, rfl, rfl, rfl, rfl, rfl, rfl⟩
theorem keep_reckon (x : st_M) (k : Nat) : keep x (ms_reckon x k) := by
  unfold ms_reckon
  split
  · exact keep.rf x
  · split
    · exact keep_r9 x k
    · exact (keep_r9 x k).tr ⟨rfl, rfl, rfl, rfl, rfl, rfl, rfl, rfl, rfl⟩
theorem keep_wrong (x : st_M) (k : Nat) : keep x (ms_wrong x k) := by
  unfold ms_wrong
  split <;> exact ⟨rfl, rfl, rfl, rfl, rfl, rfl, rfl, rfl, rfl⟩
theorem keep_perf1 (x : st_M) (k : Nat) (on : Bool) : keep x (ms_perf1 x k on) := by
  unfold ms_perf1
  split
  · exact keep.rf x
  · split
    · exact keep_tally x k on
    · split
      · split
        · exact ⟨rfl, rfl, rfl, rfl, rfl, rfl, rfl, rfl, rfl⟩
        · exact keep.rf x
      · split
        · split
          · exact (keep_reckon x k).tr (keep_wrong _ k)
          · exact keep_reckon x k
        · exact ⟨rfl, rfl, rfl, rfl, rfl, rfl, rfl, rfl, rfl⟩
theorem keep_drive (x : st_M) (k n : Int32) (on : Bool) : keep x (ms_drive x k n on) := by
  unfold ms_drive
  split
  · exact ⟨rfl, rfl, rfl, rfl, rfl, rfl, rfl, rfl, rfl⟩
  · split
    · split
      · exact ⟨rfl, rfl, rfl, rfl, rfl, rfl, rfl, rfl, rfl⟩
      · exact keep.rf x
    · split
      · split
        · exact ⟨rfl, rfl, rfl, rfl, rfl, rfl, rfl, rfl, rfl⟩
        · exact keep.rf x
      · split
        · exact (keep_runs x _).tr (keep_perf1 _ _ on)
        · exact keep.rf x
theorem rlR.keep {x x' : st_M} {g : Nat} {r : st_R} (R : rlR x g r) (h : keep x x') : rlR x' g r := by
  obtain ⟨a1, a2, a3, a4, a5, a6, a7, a8, -⟩ := h
  unfold rlR
  rw [a1, a2, a3, a4, a5, a6, a7, a8]
  exact R
/-- what stays true of the class's state, beyond ok_Y -/
def iv_T (t : st_T) : Prop := ok_T t ∧ ∀ k, k < 8 → iv_B (t.2.2.1 k)
theorem run_iv {k : st_B} {on : Bool} {bt : Nat → Bool} {rg : Nat → UInt64} (h : fb_ok k) (hi : iv_B k) : iv_B (fb_run k on bt rg) := by
  obtain ⟨e1, -, -, -, e5, -⟩ := runs_same k on bt rg
  refine ⟨fun q => ?_, fun q => ?_⟩
  · rw [e1] at q
    rw [(sums_same q).1, (sums_same q).2]
    exact hi.1 q
  · rw [e1] at q
    rw [e5]
    have hn := (ok_12 h.1 q).2
    rcases q with q | q
    · rw [(ev1 q).2.2.2]
      exact dcnt_le hn (hi.2 (Or.inl q))
    · rw [(ev2 q).2.2.2]
      exact ccnt_le hn (hi.2 (Or.inr q))
theorem blk_iv {t : st_T} {k : Nat} {on : Bool} (h : iv_T t) (hk : k < 8) : iv_T (fs_blk t k on) := by
  refine ⟨blk_ok h.1 hk, fun j hj => ?_⟩
  show iv_B (va_up t.2.2.1 k (fb_run (t.2.2.1 k) on t.1 t.2.1) j)
  by_cases q : j = k
  · rw [q, va_up_self]
    exact run_iv (h.1.1 k hk) (h.2 k hk)
  · rw [va_up_ne _ _ q]
    exact h.2 j hj
theorem fault_iv {t : st_T} {k : Nat} (h : iv_T t) : iv_T (fs_fault t k) := by
  refine ⟨fault_ok h.1, ?_⟩
  unfold fs_fault
  split <;> exact h.2
theorem drive_iv {t : st_T} {k n : Int32} {on : Bool} (h : iv_T t) (hc : fc_isCoil k n = true) : iv_T (fs_drive t k n on) := by
  unfold fs_drive
  split
  · exact h
  · split
    · exact h
    · split
      · exact h
      · split
        · rename_i h4
          have hk := (ix_nat (n := 8) rfl (by decide) (coil_4 hc h4)).2
          split
          · exact blk_iv h hk
          · exact fault_iv (blk_iv h hk)
        · exact h
theorem drive_rel {t : st_T} {x : st_M} {k n : Int32} {on : Bool} (R : rlT t x) (hi : iv_T t) (hc : fc_isCoil k n = true) (hnh : fs_hlt t.2.2.2.2 = false) : rlT (fs_drive t k n on) (ms_drive x k n on) ∧ ma_drive x k n on = fs_hlt (fs_drive t k n on).2.2.2.2 := by
  unfold fs_drive ms_drive ma_drive
  by_cases h1 : k = 1
  · rw [if_pos h1, if_pos h1, if_pos h1]
    exact ⟨⟨up_agree R.1 rfl, R.2⟩, hnh.symm⟩
  rw [if_neg h1, if_neg h1, if_neg h1]
  by_cases h2 : k = 2
  · rw [if_pos h2, if_pos h2, if_pos h2]
    refine ⟨?_, hnh.symm⟩
    cases on
    · rw [if_neg (by decide), Bool.or_false]
      exact ⟨fun i hi => (R.1 i hi).trans up_same.symm, R.2⟩
    · rw [if_pos rfl, Bool.or_true]
      exact ⟨up_agree R.1 rfl, R.2⟩
  rw [if_neg h2, if_neg h2, if_neg h2]
  by_cases h3 : k = 3
  · rw [if_pos h3, if_pos h3, if_pos h3]
    refine ⟨?_, hnh.symm⟩
    cases on
    · rw [if_neg (by decide), Bool.not_false, Bool.and_true]
      exact ⟨fun i hi => (R.1 i hi).trans up_same.symm, R.2⟩
    · rw [if_pos rfl, Bool.not_true, Bool.and_false]
      exact ⟨up_agree R.1 rfl, R.2⟩
  rw [if_neg h3, if_neg h3, if_neg h3]
  by_cases h4 : k = 4
  · rw [if_pos h4, if_pos h4, if_pos h4]
    have hk := (ix_nat (n := 8) rfl (by decide) (coil_4 hc h4)).2
    exact pf_rel hk R (hi.1.1 _ hk) hi.1.2 (hi.2 _ hk) hnh
  · rw [if_neg h4, if_neg h4, if_neg h4]
    exact ⟨R, hnh.symm⟩
theorem row_rel {t : st_T} {x : st_M} {g w : Nat} {r : st_R} (hw : w < 3) (R : rlT t x) (Rr : rlR x g r) (hi : iv_T t) (hr : ok_R r) (hnh : fs_hlt t.2.2.2.2 = false) : rlT (fs_row r t w) (ms_row x g w) ∧ ma_row x g w = fs_hlt (fs_row r t w).2.2.2.2 ∧ iv_T (fs_row r t w) ∧ keep x (ms_row x g w) := by
  unfold fs_row ms_row ma_row
  rw [if_neg (by rw [hnh]; decide), Rr.2.2.2.2.2.2.1 w hw, Rr.2.2.2.2.2.2.2.1 w hw, Rr.2.2.2.2.1 w hw 3 (by decide)]
  obtain ⟨h1, h2⟩ := drive_rel (on := r.2.2.2.2.1 (w * 5 + 3 + 1)) R hi (hr.2 w hw) hnh
  exact ⟨h1, h2, drive_iv hi (hr.2 w hw), keep_drive _ _ _ _⟩
/-- the whole states agree -/
def rl (sc : Int32) (y : st_Y) (x : st_M) : Prop := rlT y.1 x ∧ (∀ g, g < 5 → rlR x g (y.2 g)) ∧ mg_scans x = sc
def iv (y : st_Y) : Prop := iv_T y.1 ∧ ∀ g, g < 5 → ok_R (y.2 g) ∧ ∀ j, j < 12 → fc_btw ((y.2 g).1 j) 0 5 = true
theorem iv.ok {y : st_Y} (h : iv y) : ok_Y y := ⟨h.1.1, fun g hg => (h.2 g hg).1⟩
theorem okM_of {t : st_T} {x : st_M} {rs : Nat → st_R} (R : rlT t x) (Rr : ∀ g, g < 5 → rlR x g (rs g)) (hi : iv_T t) (hr : ∀ g, g < 5 → ok_R (rs g)) : ok_M x := by
  refine ⟨fun j hj => ?_, fun j hj => ?_, fun j hj => ?_, fun j hj => ?_⟩
  · have h := (Rr (j / 12) (by omega)).2.1 (j % 12) (by omega)
    rw [show 12 * (j / 12) + j % 12 = j by omega] at h
    rw [h]
    exact (hr (j / 12) (by omega)).1 (j % 12) (by omega)
  · have h := (Rr (j / 3) (by omega)).2.2.2.2.2.2.1 (j % 3) (by omega)
    have h' := (Rr (j / 3) (by omega)).2.2.2.2.2.2.2.1 (j % 3) (by omega)
    rw [show 3 * (j / 3) + j % 3 = j by omega] at h h'
    rw [h, h']
    exact (hr (j / 3) (by omega)).2 (j % 3) (by omega)
  · obtain ⟨h, hb, -⟩ := R.2.2.1 j hj
    rw [hb]
    exact hi.1.1 j hj
  · show fc_val (mg_register x j) = true
    rw [R.2.1 j hj]
    exact hi.1.2 j hj
theorem up_other {rs : Nat → st_R} {x : st_M} {g : Nat} {r : st_R} (h : rlR x g r) (h2 : ∀ j, j < 5 → j ≠ g → rlR x j (rs j)) : ∀ j, j < 5 → rlR x j (va_up rs g r j) := by
  intro j hj
  by_cases q : j = g
  · rw [q, va_up_self]
    exact h
  · rw [va_up_ne _ _ q]
    exact h2 j hj q
theorem cols_rel {y : st_Y} {x : st_M} {g : Nat} (hg : g < 5) (R : rlT y.1 x) (Rr : ∀ g, g < 5 → rlR x g (y.2 g)) (hi : iv y) : rlT y.1 (ms_cols x g) ∧ rlR (ms_cols x g) g (fr_look (y.2 g) y.1.1) ∧ (∀ j, j < 5 → j ≠ g → rlR (ms_cols x g) j (y.2 j)) ∧ mg_scans (ms_cols x g) = mg_scans x := by
  have r0 := Rr g hg
  obtain ⟨h1, h2⟩ := hi.2 g hg
  have S : rlR (mu_seen x (va_up (mg_seen x) g true)) g (fr_start (y.2 g)) := by
    refine ⟨r0.1, r0.2.1, r0.2.2.1, r0.2.2.2.1, fun w hw k hk => ?_, fun w hw => ?_, r0.2.2.2.2.2.2.1, r0.2.2.2.2.2.2.2.1, fun q => ?_⟩
    · show mg_power x (12 * g + 4 * w + k) = va_up (va_up (va_up (y.2 g).2.2.2.2.1 (0 * 5) true) (1 * 5) true) (2 * 5) true (w * 5 + k + 1)
      rw [va_up_ne _ _ (by omega), va_up_ne _ _ (by omega), va_up_ne _ _ (by omega)]
      exact r0.2.2.2.2.1 w hw k hk
    · show va_up (mg_seen x) g true g = va_up (va_up (va_up (y.2 g).2.2.2.2.1 (0 * 5) true) (1 * 5) true) (2 * 5) true (w * 5)
      rw [va_up_self]
      rcases (show w = 0 ∨ w = 1 ∨ w = 2 by omega) with rfl | rfl | rfl
      · rw [va_up_ne _ _ (by decide), va_up_ne _ _ (by decide), va_up_self]
      · rw [va_up_ne _ _ (by decide), va_up_self]
      · rw [va_up_self]
    · have q' : va_up (mg_seen x) g true g = false := q
      rw [va_up_self] at q'
      exact absurd q' (by decide)
  have So : ∀ j, j < 5 → j ≠ g → rlR (mu_seen x (va_up (mg_seen x) g true)) j (y.2 j) := by
    intro j hj hjg
    have r1 := Rr j hj
    have e : mg_seen (mu_seen x (va_up (mg_seen x) g true)) j = mg_seen x j := va_up_ne _ _ hjg
    refine ⟨r1.1, r1.2.1, r1.2.2.1, r1.2.2.2.1, r1.2.2.2.2.1, fun w hw => e.trans (r1.2.2.2.2.2.1 w hw), r1.2.2.2.2.2.2.1, r1.2.2.2.2.2.2.2.1, fun q => r1.2.2.2.2.2.2.2.2 (e.symm.trans q)⟩
  have hs0 : mg_seen (mu_seen x (va_up (mg_seen x) g true)) g = true := va_up_self _ _ _
  have T0 : rlT y.1 (mu_seen x (va_up (mg_seen x) g true)) := R
  have n0 : mg_scans (mu_seen x (va_up (mg_seen x) g true)) = mg_scans x := rfl
  have step : ∀ (k : Nat) (z : st_M) (r : st_R), k < 4 → rlT y.1 z → rlR z g r → r.1 = (y.2 g).1 → r.2.1 = (y.2 g).2.1 → (∀ j, j < 5 → j ≠ g → rlR z j (y.2 j)) → mg_seen z g = true → mg_scans z = mg_scans x →
      rlT y.1 (ms_column z g k) ∧ rlR (ms_column z g k) g (fr_col r y.1.1 k) ∧ (fr_col r y.1.1 k).1 = (y.2 g).1 ∧ (fr_col r y.1.1 k).2.1 = (y.2 g).2.1 ∧ (∀ j, j < 5 → j ≠ g → rlR (ms_column z g k) j (y.2 j)) ∧ mg_seen (ms_column z g k) g = true ∧ mg_scans (ms_column z g k) = mg_scans x := by
    intro k z r hk a1 a2 a3 a4 a5 a6 a7
    obtain ⟨c1, c2, -⟩ := col_rest z g k
    exact ⟨col_T a1, col_rel a2 a1.1 (by rw [a4]; exact h1.1) (by rw [a3]; exact h2) a6 hk, (col_same r y.1.1 k).1.trans a3, (col_same r y.1.1 k).2.1.trans a4, fun j hj hjg => col_other (a5 j hj hjg) hjg hk, by rw [c1]; exact a6, c2.trans a7⟩
  obtain ⟨b1, b2, b3, b4, b5, b6, b7⟩ := step 0 _ _ (by decide) T0 S rfl rfl So hs0 n0
  obtain ⟨d1, d2, d3, d4, d5, d6, d7⟩ := step 1 _ _ (by decide) b1 b2 b3 b4 b5 b6 b7
  obtain ⟨f1, f2, f3, f4, f5, f6, f7⟩ := step 2 _ _ (by decide) d1 d2 d3 d4 d5 d6 d7
  obtain ⟨i1, i2, i3, i4, i5, i6, i7⟩ := step 3 _ _ (by decide) f1 f2 f3 f4 f5 f6 f7
  exact ⟨i1, i2, i5, i7⟩
theorem rung_rel {sc : Int32} {y : st_Y} {x : st_M} {g : Nat} (hg : g < 5) (R : rl sc y x) (hi : iv y) (hnh : mg_halted x = false) : ok_Rg x g ∧ rl sc (fs_rung y g) (ms_rung x g) ∧ iv (fs_rung y g) := by
  have hn : fs_hlt y.1.2.2.2.2 = false := by rw [← R.1.2.2.2.2.1]; exact hnh
  obtain ⟨c1, c2, c3, c4⟩ := cols_rel hg R.1 R.2.1 hi
  have hl := look_ok (bt := y.1.1) (hi.2 g hg).1
  obtain ⟨x0, ex0⟩ : ∃ z, z = ms_cols x g := ⟨_, rfl⟩
  obtain ⟨r, er⟩ : ∃ z, z = fr_look (y.2 g) y.1.1 := ⟨_, rfl⟩
  rw [← ex0, ← er] at c2
  rw [← ex0] at c1 c3 c4
  rw [← er] at hl
  have hrs : ∀ j, j < 5 → ok_R (va_up y.2 g r j) := by
    intro j hj
    by_cases q : j = g
    · rw [q, va_up_self]
      exact hl
    · rw [va_up_ne _ _ q]
      exact (hi.2 j hj).1
  have hks : ∀ j, j < 5 → ∀ i, i < 12 → fc_btw ((va_up y.2 g r j).1 i) 0 5 = true := by
    intro j hj i hi'
    by_cases q : j = g
    · rw [q, va_up_self, er, (look_same _ _).1]
      exact (hi.2 g hg).2 i hi'
    · rw [va_up_ne _ _ q]
      exact (hi.2 j hj).2 i hi'
  have all : ∀ z, keep x0 z → ∀ j, j < 5 → rlR z j (va_up y.2 g r j) := fun z hz => up_other (c2.keep hz) (fun j hj hjg => (c3 j hj hjg).keep hz)
  have m0 : ok_M x0 := okM_of c1 (all x0 (keep.rf x0)) hi.1 hrs
  -- row 0
  obtain ⟨p1, p2, p3, p4⟩ := row_rel (w := 0) (by decide) c1 c2 hi.1 hl hn
  obtain ⟨t1, et1⟩ : ∃ z, z = fs_row r y.1 0 := ⟨_, rfl⟩
  obtain ⟨x1, ex1⟩ : ∃ z, z = ms_row x0 g 0 := ⟨_, rfl⟩
  rw [← et1, ← ex1] at p1
  rw [← et1] at p2 p3
  rw [← ex1] at p4
  have m1 : ok_M x1 := okM_of p1 (all x1 p4) p3 hrs
  have fin : ∀ (t : st_T) (z : st_M), rlT t z → iv_T t → keep x0 z → rl sc (t, va_up y.2 g r) z ∧ iv (t, va_up y.2 g r) := fun t z a1 a2 a3 => ⟨⟨a1, all z a3, a3.2.2.2.2.2.2.2.2.trans (c4.trans R.2.2)⟩, a2, fun j hj => ⟨hrs j hj, hks j hj⟩⟩
  have eY : fs_rung y g = (fs_rows r y.1, va_up y.2 g r) := by
    unfold fs_rung
    rw [if_neg (by rw [hn]; decide), ← er]
  have k0 := (R.2.1 g hg)
  have hof : ∀ j, j < 60 → fc_ix (mg_of x j) 24 = true := (okM_of R.1 R.2.1 hi.1 (fun j hj => (hi.2 j hj).1)).1
  rw [eY]
  unfold ms_rung ok_Rg fs_rows
  rw [← ex0, ← et1, ← ex1]
  cases q1 : fs_hlt t1.2.2.2.2
  · have p2' : ma_row x0 g 0 = false := by rw [p2]; exact q1
    obtain ⟨s1, s2, s3, s4⟩ := row_rel (w := 1) (by decide) p1 (c2.keep p4) p3 hl q1
    obtain ⟨t2, et2⟩ : ∃ z, z = fs_row r t1 1 := ⟨_, rfl⟩
    obtain ⟨x2, ex2⟩ : ∃ z, z = ms_row x1 g 1 := ⟨_, rfl⟩
    rw [← et2, ← ex2] at s1
    rw [← et2] at s2 s3
    rw [← ex2] at s4
    have m2 : ok_M x2 := okM_of s1 (all x2 (p4.tr s4)) s3 hrs
    rw [if_neg (by rw [p2']; decide), ← et2, ← ex2]
    refine ⟨⟨hof, m0, fun _ => ⟨m1, fun _ => m2⟩⟩, ?_⟩
    cases q2 : fs_hlt t2.2.2.2.2
    · have s2' : ma_row x1 g 1 = false := by rw [s2]; exact q2
      obtain ⟨u1, u2, u3, u4⟩ := row_rel (w := 2) (by decide) s1 (c2.keep (p4.tr s4)) s3 hl q2
      rw [if_neg (by rw [s2']; decide)]
      exact fin _ _ u1 u3 ((p4.tr s4).tr u4)
    · have s2' : ma_row x1 g 1 = true := by rw [s2]; exact q2
      rw [if_pos s2', row_h q2]
      exact fin _ _ s1 s3 (p4.tr s4)
  · have p2' : ma_row x0 g 0 = true := by rw [p2]; exact q1
    rw [if_pos p2', row_h q1, row_h q1]
    exact ⟨⟨hof, m0, fun q => absurd (p2'.symm.trans q) (by decide)⟩, fin _ _ p1 p3 p4⟩
theorem rg_rel {sc : Int32} {y : st_Y} {x : st_M} {g : Nat} (hg : g < 5) (R : rl sc y x) (hi : iv y) : rl sc (fs_rung y g) (ms_rg x g) ∧ iv (fs_rung y g) := by
  cases h : mg_halted x
  · rw [rg_n h]
    exact (rung_rel hg R hi h).2
  · have h2 : fs_hlt y.1.2.2.2.2 = true := by rw [← R.1.2.2.2.2.1]; exact h
    rw [rg_h h, rung_h h2]
    exact ⟨R, hi⟩
theorem scans_rel {sc : Int32} {y : st_Y} {x : st_M} (v : Int32) (R : rl sc y x) : rl v y (mu_scans x v) := ⟨R.1, R.2.1, rfl⟩
theorem once_rel {sc : Int32} {y : st_Y} {x : st_M} (R : rl sc y x) (hi : iv y) : rl (sc + 1) (fs_scan y) (ms_once x) ∧ iv (fs_scan y) := by
  have h0 : rl (sc + 1) y (mu_scans x (mg_scans x + 1)) := by
    rw [R.2.2]
    exact scans_rel _ R
  obtain ⟨a1, b1⟩ := rg_rel (g := 0) (by decide) h0 hi
  obtain ⟨a2, b2⟩ := rg_rel (g := 1) (by decide) a1 b1
  obtain ⟨a3, b3⟩ := rg_rel (g := 2) (by decide) a2 b2
  obtain ⟨a4, b4⟩ := rg_rel (g := 3) (by decide) a3 b3
  exact rg_rel (g := 4) (by decide) a4 b4
theorem loop_h {x : st_M} (h : mg_halted x = true) : ∀ n, ms_loop n x = x
  | 0 => rfl
  | n + 1 => if_pos h
theorem loop_rel (n : Nat) : ∀ (q : Int32 × st_Y) (x : st_M), rl q.1 q.2 x → iv q.2 → mg_halted x = false → rl (fp_scan n q).1 (fp_scan n q).2 (ms_loop n x) ∧ iv (fp_scan n q).2 := by
  induction n with
  | zero => exact fun q x R hi _ => ⟨R, hi⟩
  | succ n ih =>
    intro q x R hi hn
    have e : ms_loop (n + 1) x = ms_loop n (ms_once x) := if_neg (by rw [hn]; decide)
    obtain ⟨a, b⟩ := once_rel R hi
    rw [e]
    unfold fp_scan
    generalize fs_scan q.2 = y1 at a b ⊢
    generalize ms_once x = x1 at a b ⊢
    have hh := a.1.2.2.2.2.1
    cases h : fs_hlt y1.1.2.2.2.2
    · rw [if_neg (by decide)]
      exact ih (q.1 + 1, y1) x1 a b (hh.trans h)
    · rw [if_pos rfl, loop_h (hh.trans h)]
      exact ⟨a, b⟩
def rl_inv (x : st_M) : Prop := ∃ sc y, rl sc y x ∧ iv y
theorem inv_1 (x : st_M) (g : Nat) (hg : g < 5) (h : rl_inv x) (hn : mg_halted x = false) : ok_Rg x g ∧ rl_inv (ms_rung x g) := by
  obtain ⟨sc, y, R, hi⟩ := h
  obtain ⟨a, b, d⟩ := rung_rel hg R hi hn
  exact ⟨a, sc, _, b, d⟩
theorem inv_2 (x : st_M) (v : Int32) (h : rl_inv x) : rl_inv (mu_scans x v) := by
  obtain ⟨sc, y, R, hi⟩ := h
  exact ⟨v, y, scans_rel v R, hi⟩
