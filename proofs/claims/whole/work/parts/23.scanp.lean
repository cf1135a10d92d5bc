/-! scan: n SCANS, ended by a halt -/
def fp_scan : Nat → Int32 × st_Y → Int32 × st_Y
  | 0, q => q
  | n + 1, q => if fs_hlt (fs_scan q.2).1.2.2.2.2 = true then (q.1 + 1, fs_scan q.2) else fp_scan n (q.1 + 1, fs_scan q.2)
def fp_scanY (n : Int32) (q : Int32 × st_Y) : Int32 × st_Y := if fc_btw n 1 50 = false then q else if fs_hlt q.2.1.2.2.2.2 = true then q else fp_scan n.toNatClampNeg q
theorem ix_50 {n : Int32} (h : fc_btw n 1 50 = true) : n = nI n.toNatClampNeg ∧ n.toNatClampNeg ≤ 50 := by
  unfold fc_btw at h
  rw [Bool.and_eq_true, decide_eq_true_eq, decide_eq_true_eq] at h
  have h1 := h.1
  have h2 := h.2
  rw [Int32.lt_iff_toInt_lt] at h1 h2
  have e1 : (1 : Int32).toInt = 1 := by decide
  have e0 : (50 : Int32).toInt = 50 := by decide
  have hx : fc_ix n 51 = true := by
    unfold fc_ix
    rw [Bool.and_eq_true, decide_eq_true_eq, decide_eq_true_eq]
    have e5 : (51 : Int32).toInt = 51 := by decide
    have ez : (0 : Int32).toInt = 0 := by decide
    constructor
    · rw [Int32.lt_iff_toInt_lt]
      omega
    · rw [Int32.le_iff_toInt_le]
      omega
  have h9 := ix_nat (n := 51) rfl (by decide) hx
  exact ⟨h9.1, by omega⟩
