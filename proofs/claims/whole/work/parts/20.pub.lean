/-- block k in front, rungs beside it -/
theorem sf_pickB {ba : Nat → Nat} {bs : Nat → st_B} {k : Nat} (hk : k < 8) (X Z : va_W) : List.Perm (X ++ (Z ++ (wp_bs ba bs ++ []))) ([wp_B (ba k) (bs k)] ++ (X ++ (Z ++ (wp_bx ba bs k ++ [])))) := by
  have h := pm_b (ba := ba) (bs := bs) hk (X ++ Z) []
  rw [List.append_assoc, List.append_assoc] at h
  exact h
theorem sf_pickB' {ba : Nat → Nat} {bs : Nat → st_B} {k : Nat} {b : st_B} (hk : k < 8) (X Z : va_W) : List.Perm ([wp_B (ba k) b] ++ (X ++ (Z ++ (wp_bx ba bs k ++ [])))) (X ++ (Z ++ (wp_bs ba (va_up bs k b) ++ []))) := by
  have h := pm_b' (ba := ba) (bs := bs) (b := b) hk (X ++ Z) []
  rw [List.append_assoc, List.append_assoc] at h
  exact h
/-! the public methods: what they answer and do -/
abbrev st_Y : Type := st_T × (Nat → st_R)
theorem and2 {a b : Bool} (h : (a && b) = true) : a = true ∧ b = true := by
  rw [Bool.and_eq_true] at h
  exact h
def fp_cell (y : st_Y) (g r c k b : Int32) : st_Y := (y.1, va_up y.2 g.toNatClampNeg (fr_cell (y.2 g.toNatClampNeg) (r.toNatClampNeg * 4 + c.toNatClampNeg) k b))
def fp_link (y : st_Y) (g r c : Int32) (x : Bool) : st_Y := (y.1, va_up y.2 g.toNatClampNeg (fr_link (y.2 g.toNatClampNeg) (r.toNatClampNeg * 4 + c.toNatClampNeg) x))
def fp_coil (y : st_Y) (g r k n : Int32) : st_Y := (y.1, va_up y.2 g.toNatClampNeg (fr_coil (y.2 g.toNatClampNeg) r.toNatClampNeg k n))
def fp_bs (y : st_Y) (f : Nat → st_B) : st_Y := ((y.1.1, y.1.2.1, f, y.1.2.2.2), y.2)
def fp_block (y : st_Y) (k kd a b c : Int32) (n : UInt64) : st_Y := fp_bs y (va_up y.1.2.2.1 k.toNatClampNeg (fb_become (y.1.2.2.1 k.toNatClampNeg) kd a b c n))
def fp_guard (y : st_Y) (k : Int32) (x : Bool) : st_Y := fp_bs y (va_up y.1.2.2.1 k.toNatClampNeg (fb_grd (y.1.2.2.1 k.toNatClampNeg) x))
def fp_input (y : st_Y) (i : Int32) (x : Bool) : st_Y := ((va_up y.1.1 i.toNatClampNeg x, y.1.2), y.2)
def fp_set (y : st_Y) (i : Int32) (v : UInt64) : st_Y := ((y.1.1, va_up y.1.2.1 i.toNatClampNeg v, y.1.2.2), y.2)
def fp_resume (y : st_Y) : st_Y := ((y.1.1, y.1.2.1, y.1.2.2.1, y.1.2.2.2.1, -1), y.2)
def fp_count (y : st_Y) (sc w : Int32) : Int32 := if w = 0 then sc else if w = 1 then sf_b (fs_hlt y.1.2.2.2.2) else if w = 2 then nI (fs_on y.1.1 24) else y.1.2.2.2.1
def fp_col (c : Int32) : Nat := (c + 1).toNatClampNeg
theorem ix_col {c : Int32} (h : fc_btw c (-1) 3 = true) : c + 1 = nI (fp_col c) ∧ fp_col c < 5 := by
  unfold fc_btw at h
  rw [Bool.and_eq_true, decide_eq_true_eq, decide_eq_true_eq] at h
  have h1 := h.1
  have h2 := h.2
  rw [Int32.lt_iff_toInt_lt] at h1 h2
  have e8 : (-1 : Int32).toInt = -1 := by decide
  have e0 : (3 : Int32).toInt = 3 := by decide
  have e1 : (1 : Int32).toInt = 1 := by decide
  have hs : (c + 1).toInt = c.toInt + 1 := by
    rw [Int32.toInt_add, e1]
    exact Int.bmod_eq_of_le (by omega) (by omega)
  have hx : fc_ix (c + 1) 5 = true := by
    unfold fc_ix
    rw [Bool.and_eq_true, decide_eq_true_eq, decide_eq_true_eq]
    have e5 : (5 : Int32).toInt = 5 := by decide
    have ez : (0 : Int32).toInt = 0 := by decide
    constructor
    · rw [Int32.lt_iff_toInt_lt, hs]
      omega
    · rw [Int32.le_iff_toInt_le, hs]
      omega
  exact ix_nat (n := 5) rfl (by decide) hx
