/-! what stays true of the state: numbers as said, sums and registers in their bounds -/
def ok_T (x : st_T) : Prop := (∀ j, j < 8 → fb_ok (x.2.2.1 j)) ∧ rg_ok x.2.1
def ok_R (r : st_R) : Prop := (∀ j, j < 12 → fc_ix (r.2.1 j) 24 = true) ∧ ∀ j, j < 3 → fc_isCoil (r.2.2.2.2.2.1 j) (r.2.2.2.2.2.2 j) = true
theorem kk_0 (K : Nat) (hK : 0 < K) : sd_K K FP.dconst0 := by
  unfold sd_K
  show 0 % 2 ^ 63 < K * 2 ^ 52
  have : 0 < K * 2 ^ 52 := Nat.mul_pos hK (by decide)
  simpa using this
theorem keepr_ok {x : st_B} {v : UInt64} {rg : Nat → UInt64} (h : rg_ok rg) : rg_ok (fb_keepr x v rg) := by
  unfold fb_keepr
  split
  · rename_i hv
    intro j hj
    by_cases q : j = fb_c x
    · rw [q, va_up_self]
      exact hv
    · rw [va_up_ne _ _ q]
      exact h j hj
  · exact h
theorem regr_ok {x : st_B} {pw : Bool} {rg : Nat → UInt64} (h : rg_ok rg) : rg_ok (fb_regr x pw rg) := by
  unfold fb_regr
  split
  · exact h
  · exact keepr_ok h
theorem calcr_ok {x : st_B} {rg : Nat → UInt64} (h : rg_ok rg) : rg_ok (fb_calcr x rg) := by
  unfold fb_calcr
  split
  · exact keepr_ok h
  · split
    · exact keepr_ok h
    · split
      · exact keepr_ok h
      · split
        · split
          · exact h
          · exact keepr_ok h
        · split
          · exact keepr_ok h
          · exact h
theorem rund_ok {x : st_B} {pw : Bool} {rg : Nat → UInt64} (h : rg_ok rg) : rg_ok (fb_rund x pw rg) := by
  unfold fb_rund
  split
  · exact h
  · split
    · exact h
    · split
      · exact h
      · split
        · exact h
        · split
          · exact regr_ok h
          · split
            · exact calcr_ok h
            · exact h
theorem runs_same (x : st_B) (pw : Bool) (bt : Nat → Bool) (rg : Nat → UInt64) : (fb_run x pw bt rg).1 = x.1 ∧ (fb_run x pw bt rg).2.1 = x.2.1 ∧ (fb_run x pw bt rg).2.2.1 = x.2.2.1 ∧ (fb_run x pw bt rg).2.2.2.1 = x.2.2.2.1 ∧ (fb_run x pw bt rg).2.2.2.2.1 = x.2.2.2.2.1 ∧ (fb_run x pw bt rg).2.2.2.2.2.1 = x.2.2.2.2.2.1 := by
  unfold fb_run fb_run1 fb_reg
  repeat' split
  all_goals exact ⟨rfl, rfl, rfl, rfl, rfl, rfl⟩
theorem sums_same {x : st_B} {pw : Bool} {bt : Nat → Bool} {rg : Nat → UInt64} (h : ¬ x.1 = 9) : (fb_run x pw bt rg).2.2.2.2.2.2.2.2.1 = x.2.2.2.2.2.2.2.2.1 ∧ (fb_run x pw bt rg).2.2.2.2.2.2.2.2.2.1 = x.2.2.2.2.2.2.2.2.2.1 := by
  unfold fb_run fb_run1
  rw [fb_runs_1, if_neg h]
  repeat' split
  all_goals exact ⟨rfl, rfl⟩
theorem run1_9 {x : st_B} {pw : Bool} {bt : Nat → Bool} {rg : Nat → UInt64} (h : x.1 = 9) : fb_run1 (fb_runs x) pw bt rg = fb_reg (fb_runs x) pw rg := by
  unfold fb_run1
  rw [fb_runs_1, h, if_neg (by decide), if_neg (by decide), if_pos rfl]
theorem sums_9 {x : st_B} {pw : Bool} {bt : Nat → Bool} {rg : Nat → UInt64} (h : x.1 = 9) : (fb_run x pw bt rg).2.2.2.2.2.2.2.2.1 = (if pw = false then FP.dconst0 else fb_sum x rg) ∧ (fb_run x pw bt rg).2.2.2.2.2.2.2.2.2.1 = (if pw = false then FP.dconst0 else fb_e x rg) := by
  have key : (fb_reg (fb_runs x) pw rg).2.2.2.2.2.2.2.2.1 = (if pw = false then FP.dconst0 else fb_sum x rg) ∧ (fb_reg (fb_runs x) pw rg).2.2.2.2.2.2.2.2.2.1 = (if pw = false then FP.dconst0 else fb_e x rg) := by
    unfold fb_reg
    cases pw
    · exact ⟨rfl, rfl⟩
    · exact ⟨rfl, rfl⟩
  unfold fb_run
  rw [run1_9 h]
  split
  · exact key
  · exact key
theorem run_ok {x : st_B} {pw : Bool} {bt : Nat → Bool} {rg : Nat → UInt64} (h : fb_ok x) (hr : rg_ok rg) : fb_ok (fb_run x pw bt rg) := by
  obtain ⟨e1, e2, e3, e4, e5, -⟩ := runs_same x pw bt rg
  refine ⟨by rw [e1, e2, e3, e4, e5]; exact h.1, ?_⟩
  by_cases h9 : x.1 = 9
  · rw [(sums_9 h9).1, (sums_9 h9).2]
    have hv := ok_r h.1 (by rw [h9]; decide) (by rw [h9]; decide) (by rw [h9]; decide) (by rw [h9]; decide)
    have kx := val_K (hr _ (ix_nat (n := 8) rfl (by decide) hv.1).2)
    have ky := val_K (hr _ (ix_nat (n := 8) rfl (by decide) hv.2.1).2)
    have k1 : sd_K 1065 (fb_e x rg) := ke_e ky kx
    have k3 : sd_K 1033 (fb_sum x rg) := lim_K ((ke_s h.2.1 k1).fin (by decide)).ne_nan
    cases pw
    · exact ⟨kk_0 _ (by decide), kk_0 _ (by decide)⟩
    · exact ⟨k3, k1⟩
  · rw [(sums_same h9).1, (sums_same h9).2]
    exact h.2
theorem blk_ok {x : st_T} {k : Nat} {pw : Bool} (h : ok_T x) (hk : k < 8) : ok_T (fs_blk x k pw) := by
  refine ⟨fun j hj => ?_, rund_ok h.2⟩
  show fb_ok (va_up x.2.2.1 k (fb_run (x.2.2.1 k) pw x.1 x.2.1) j)
  by_cases q : j = k
  · rw [q, va_up_self]
    exact run_ok (h.1 k hk) h.2
  · rw [va_up_ne _ _ q]
    exact h.1 j hj
theorem fault_ok {x : st_T} {k : Nat} (h : ok_T x) : ok_T (fs_fault x k) := by
  unfold fs_fault
  split <;> exact h
theorem drive_ok {x : st_T} {k n : Int32} {pw : Bool} (h : ok_T x) (hc : fc_isCoil k n = true) : ok_T (fs_drive x k n pw) := by
  unfold fs_drive
  split
  · exact h
  · split
    · exact h
    · split
      · exact h
      · split
        · rename_i h4
          have hk := (ix_nat (n := 8) rfl (by decide) (coil_4 hc h4)).2
          split
          · exact blk_ok h hk
          · exact fault_ok (blk_ok h hk)
        · exact h
theorem row_ok {r : st_R} {x : st_T} {row : Nat} (h : ok_T x) (hr : ok_R r) (hrow : row < 3) : ok_T (fs_row r x row) := by
  unfold fs_row
  split
  · exact h
  · exact drive_ok h (hr.2 row hrow)
theorem rows_ok {r : st_R} {x : st_T} (h : ok_T x) (hr : ok_R r) : ok_T (fs_rows r x) := row_ok (row_ok (row_ok h hr (by decide)) hr (by decide)) hr (by decide)
theorem join_same (r : st_R) (i j : Nat) : (fr_join r i j).1 = r.1 ∧ (fr_join r i j).2.1 = r.2.1 ∧ (fr_join r i j).2.2.1 = r.2.2.1 ∧ (fr_join r i j).2.2.2.1 = r.2.2.2.1 ∧ (fr_join r i j).2.2.2.2.2 = r.2.2.2.2.2 := by
  unfold fr_join
  split
  · exact ⟨rfl, rfl, rfl, rfl, rfl⟩
  · exact ⟨rfl, rfl, rfl, rfl, rfl⟩
theorem col_same (r : st_R) (bt : Nat → Bool) (i : Nat) : (fr_col r bt i).1 = r.1 ∧ (fr_col r bt i).2.1 = r.2.1 ∧ (fr_col r bt i).2.2.2.1 = r.2.2.2.1 ∧ (fr_col r bt i).2.2.2.2.2 = r.2.2.2.2.2 := by
  unfold fr_col
  refine ⟨?_, ?_, ?_, ?_⟩
  · rw [(join_same _ _ _).1, (join_same _ _ _).1, (join_same _ _ _).1]
    rfl
  · rw [(join_same _ _ _).2.1, (join_same _ _ _).2.1, (join_same _ _ _).2.1]
    rfl
  · rw [(join_same _ _ _).2.2.2.1, (join_same _ _ _).2.2.2.1, (join_same _ _ _).2.2.2.1]
    rfl
  · rw [(join_same _ _ _).2.2.2.2, (join_same _ _ _).2.2.2.2, (join_same _ _ _).2.2.2.2]
    rfl
theorem look_same (r : st_R) (bt : Nat → Bool) : (fr_look r bt).1 = r.1 ∧ (fr_look r bt).2.1 = r.2.1 ∧ (fr_look r bt).2.2.2.1 = r.2.2.2.1 ∧ (fr_look r bt).2.2.2.2.2 = r.2.2.2.2.2 := by
  unfold fr_look
  refine ⟨?_, ?_, ?_, ?_⟩
  · rw [(col_same _ _ _).1, (col_same _ _ _).1, (col_same _ _ _).1, (col_same _ _ _).1]
    rfl
  · rw [(col_same _ _ _).2.1, (col_same _ _ _).2.1, (col_same _ _ _).2.1, (col_same _ _ _).2.1]
    rfl
  · rw [(col_same _ _ _).2.2.1, (col_same _ _ _).2.2.1, (col_same _ _ _).2.2.1, (col_same _ _ _).2.2.1]
    rfl
  · rw [(col_same _ _ _).2.2.2, (col_same _ _ _).2.2.2, (col_same _ _ _).2.2.2, (col_same _ _ _).2.2.2]
    rfl
theorem look_ok {r : st_R} {bt : Nat → Bool} (h : ok_R r) : ok_R (fr_look r bt) := by
  obtain ⟨-, e2, -, e4⟩ := look_same r bt
  refine ⟨fun j hj => by rw [e2]; exact h.1 j hj, fun j hj => by rw [e4]; exact h.2 j hj⟩
def ok_Y (y : st_T × (Nat → st_R)) : Prop := ok_T y.1 ∧ ∀ g, g < 5 → ok_R (y.2 g)
theorem rung_ok {y : st_T × (Nat → st_R)} {g : Nat} (h : ok_Y y) (hg : g < 5) : ok_Y (fs_rung y g) := by
  unfold fs_rung
  split
  · exact h
  · refine ⟨rows_ok h.1 (look_ok (h.2 g hg)), fun j hj => ?_⟩
    show ok_R (va_up y.2 g (fr_look (y.2 g) y.1.1) j)
    by_cases q : j = g
    · rw [q, va_up_self]
      exact look_ok (h.2 g hg)
    · rw [va_up_ne _ _ q]
      exact h.2 j hj
theorem scan_ok {y : st_T × (Nat → st_R)} (h : ok_Y y) : ok_Y (fs_scan y) := rung_ok (rung_ok (rung_ok (rung_ok (rung_ok h (by decide)) (by decide)) (by decide)) (by decide)) (by decide)
theorem row_h {r : st_R} {x : st_T} {row : Nat} (h : fs_hlt x.2.2.2.2 = true) : fs_row r x row = x := by
  unfold fs_row
  rw [if_pos h]
theorem rung_h {y : st_T × (Nat → st_R)} {g : Nat} (h : fs_hlt y.1.2.2.2.2 = true) : fs_rung y g = y := by
  unfold fs_rung
  rw [if_pos h]
/-- the whole object's world -/
abbrev wp_S (cI cZ cD cR cB : ClassId) (o : Nat → Nat) (ra : Nat → Nat → Nat) (ba : Nat → Nat) (sc : Int32) (y : st_T × (Nat → st_R)) : va_W :=
  wp_H cZ cD cR cB o ra ba y.1.1 y.1.2.1 sc y.1.2.2.2.1 y.1.2.2.2.2 ++ (wp_rs cI cZ ra y.2 ++ (wp_bs ba y.1.2.2.1 ++ []))
/-- .. with rung g in front, which is r now -/
abbrev wp_F (cI cZ cD cR cB : ClassId) (o : Nat → Nat) (ra : Nat → Nat → Nat) (ba : Nat → Nat) (sc : Int32) (g : Nat) (r : st_R) (x : st_T) (rs : Nat → st_R) : va_W :=
  wp_R cI cZ (ra g) r ++ (wp_H cZ cD cR cB o ra ba x.1 x.2.1 sc x.2.2.2.1 x.2.2.2.2 ++ (wp_rx cI cZ ra rs g ++ (wp_bs ba x.2.2.1 ++ [])))
