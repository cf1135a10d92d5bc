/-! numbers: what the class's and the reference's static methods compute (fc_, fm_) -/
def fc_btw (i lo hi : Int32) : Bool := decide (¬ i < lo) && decide (¬ hi < i)
def fc_ix (i n : Int32) : Bool := decide (¬ i < 0) && decide (¬ n ≤ i)
def fc_row (g row : Int32) : Bool := fc_ix g 5 && fc_ix row 3
def fc_looks (k : Int32) : Bool := fc_btw k 2 5
def fc_isCell (k b : Int32) : Bool := fc_btw k 0 5 && (!fc_looks k || fc_ix b 24)
def fc_isCoil (k n : Int32) : Bool := if k = 0 then true else if k = 1 then fc_btw n 8 23 else if k = 2 then fc_btw n 8 23 else if k = 3 then fc_btw n 8 23 else if k = 4 then fc_ix n 8 else false
def fc_regs (a b : Int32) : Bool := fc_ix a 8 && fc_ix b 8
def fc_bbit (i : Int32) : Bool := fc_btw i 8 21
def fc_cntb (n : UInt64) : Bool := sd_ge n FP.dconst1 && (sd_le n 4652007308841189376 && sd_eq n (FP.i2d (FP.d2i n)))
def fc_setg (n : UInt64) : Bool := sd_ge n 13875379345695965184 && sd_le n 4652007308841189376
def fc_val (n : UInt64) : Bool := sd_ge n 14009883241494872064 && sd_le n 4786511204640096256
def fc_isBlock (k a b c : Int32) (n : UInt64) : Bool :=
  if k = 0 then true else if k = 1 then fc_bbit c && fc_cntb n else if k = 2 then fc_bbit c && fc_cntb n else if k = 3 then fc_regs a b && fc_bbit c
  else if k = 4 then fc_regs a b && fc_ix c 8 else if k = 5 then fc_regs a b && fc_ix c 8 else if k = 6 then fc_regs a b && fc_ix c 8 else if k = 7 then fc_regs a b && fc_ix c 8
  else if k = 8 then fc_regs a b && (fc_ix c 8 && fc_setg n) else if k = 9 then fc_regs a b && (fc_ix c 8 && fc_setg n) else false
def fc_lim (v lo hi : UInt64) : UInt64 := if sd_lt v lo = true then lo else if sd_gt v hi = true then hi else v
def fm_at (g row col : Int32) : Int32 := 12 * g + 4 * row + col
def fm_reg (r : Int32) : Bool := fc_btw r 0 7
def fm_fits (k a b c : Int32) (n : UInt64) : Bool :=
  if fc_btw k 0 9 = false then false else if k = 0 then true
  else if ¬ 3 ≤ k then fc_btw c 8 21 && (sd_ge n FP.dconst1 && (sd_le n 4652007308841189376 && sd_eq n (FP.i2d (FP.d2i n))))
  else if fm_reg a = false then false else if fm_reg b = false then false else if k = 3 then fc_btw c 8 21
  else fm_reg c && (decide (k < 8) || (sd_ge n 13875379345695965184 && sd_le n 4652007308841189376))
theorem sd_nl_lt {x y : UInt64} (h : ¬ Op.cmpValue (FP.dcmp x y) .l < 0) : sd_ge x y = true := by
  cases q : sd_ge x y
  · exact absurd (sd_l_lt.mpr q) h
  · rfl
theorem sd_ng_gt {x y : UInt64} (h : ¬ 0 < Op.cmpValue (FP.dcmp x y) .g) : sd_le x y = true := by
  cases q : sd_le x y
  · exact absurd (sd_g_gt.mpr q) h
  · rfl
theorem sd_ng_ge {x y : UInt64} (h : ¬ 0 ≤ Op.cmpValue (FP.dcmp x y) .g) : sd_lt x y = true := by
  cases q : sd_lt x y
  · exact absurd (sd_g_ge.mpr q) h
  · rfl
theorem sd_nl_le {x y : UInt64} (h : ¬ Op.cmpValue (FP.dcmp x y) .l ≤ 0) : sd_gt x y = true := by
  cases q : sd_gt x y
  · exact absurd (sd_l_le.mpr q) h
  · rfl
theorem sd_nl_eq {x y : UInt64} (h : ¬ Op.cmpValue (FP.dcmp x y) .l = 0) : sd_eq x y = false := by
  cases q : sd_eq x y
  · rfl
  · exact absurd (sd_l_eq.mpr q) h
