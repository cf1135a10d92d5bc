/-! the calls, class and reference -/
theorem btw_ix {i u n : Int32} (h : u.toInt + 1 = n.toInt) : fc_btw i 0 u = fc_ix i n := by
  unfold fc_btw fc_ix
  congr 1
  apply decide_eq_decide.mpr
  rw [Int32.lt_iff_toInt_lt, Int32.le_iff_toInt_le]
  omega
theorem bx2 (i : Int32) : fc_btw i 0 1 = fc_ix i 2 := btw_ix (by decide)
theorem bx3 (i : Int32) : fc_btw i 0 2 = fc_ix i 3 := btw_ix (by decide)
theorem bx4 (i : Int32) : fc_btw i 0 3 = fc_ix i 4 := btw_ix (by decide)
theorem bx5 (i : Int32) : fc_btw i 0 4 = fc_ix i 5 := btw_ix (by decide)
theorem bx8 (i : Int32) : fc_btw i 0 7 = fc_ix i 8 := btw_ix (by decide)
theorem bx24 (i : Int32) : fc_btw i 0 23 = fc_ix i 24 := btw_ix (by decide)
theorem in6 {k : Int32} (h : fc_btw k 0 5 = true) : k = 0 ∨ k = 1 ∨ k = 2 ∨ k = 3 ∨ k = 4 ∨ k = 5 := by
  obtain ⟨h1, h2⟩ := bw_nat (n := 6) rfl (by decide) (by decide) h
  generalize k.toNatClampNeg = n at h1 h2
  subst h1
  rcases (show n = 0 ∨ n = 1 ∨ n = 2 ∨ n = 3 ∨ n = 4 ∨ n = 5 by omega) with q | q | q | q | q | q <;> subst q <;> decide
theorem in5 {k : Int32} (h : fc_btw k 0 4 = true) : k = 0 ∨ k = 1 ∨ k = 2 ∨ k = 3 ∨ k = 4 := by
  obtain ⟨h1, h2⟩ := bw_nat (n := 5) rfl (by decide) (by decide) h
  generalize k.toNatClampNeg = n at h1 h2
  subst h1
  rcases (show n = 0 ∨ n = 1 ∨ n = 2 ∨ n = 3 ∨ n = 4 by omega) with q | q | q | q | q <;> subst q <;> decide
theorem in10 {k : Int32} (h : fc_btw k 0 9 = true) : k = 0 ∨ k = 1 ∨ k = 2 ∨ k = 3 ∨ k = 4 ∨ k = 5 ∨ k = 6 ∨ k = 7 ∨ k = 8 ∨ k = 9 := by
  obtain ⟨h1, h2⟩ := bw_nat (n := 10) rfl (by decide) (by decide) h
  generalize k.toNatClampNeg = n at h1 h2
  subst h1
  rcases (show n = 0 ∨ n = 1 ∨ n = 2 ∨ n = 3 ∨ n = 4 ∨ n = 5 ∨ n = 6 ∨ n = 7 ∨ n = 8 ∨ n = 9 by omega) with q | q | q | q | q | q | q | q | q | q <;> subst q <;> decide
theorem cell_eq (k b : Int32) : mc_cell k b = fc_isCell k b := by
  unfold mc_cell fc_isCell
  cases h : fc_btw k 0 5
  · rfl
  · rw [bx24]
    rcases in6 h with q | q | q | q | q | q <;> subst q <;> rfl
theorem cell_of {k : Int32} (b : Int32) (h : fc_btw k 0 5 = true) : (if k ≤ 1 then (0 : Int32) else b) = (if fc_looks k = true then b else 0) := by
  rcases in6 h with q | q | q | q | q | q <;> subst q <;> rfl
theorem cel2_eq (g r c : Int32) : mc_cel2 g r c = (fc_row g r && fc_ix c 4) := by
  unfold mc_cel2 fc_row
  rw [bx5, bx3, bx4, Bool.and_assoc]
theorem link_eq (g r c : Int32) : mc_link g r c = (fc_ix g 5 && (fc_ix r 2 && fc_ix c 4)) := by
  unfold mc_link
  rw [bx5, bx2, bx4]
theorem row_eq (g r : Int32) : mc_row g r = fc_row g r := by
  unfold mc_row fc_row
  rw [bx5, bx3]
theorem pow_eq (g r c : Int32) : mc_pow g r c = (fc_row g r && fc_btw c (-1) 3) := by
  unfold mc_pow fc_row
  rw [bx5, bx3, Bool.and_assoc]
theorem coil_eq (k n : Int32) : mc_coil k n = fc_isCoil k n := by
  unfold mc_coil
  cases h : fc_btw k 0 4
  · unfold fc_isCoil
    have hn : ∀ j : Int32, fc_btw j 0 4 = true → ¬ k = j := fun j hj q => by rw [← q, h] at hj; cases hj
    rw [if_neg (hn 0 (by decide)), if_neg (hn 1 (by decide)), if_neg (hn 2 (by decide)), if_neg (hn 3 (by decide)), if_neg (hn 4 (by decide))]
    rfl
  · rw [bx8]
    rcases in5 h with q | q | q | q | q <;> subst q
    · rfl
    · show (true && (true && fc_btw n 8 23)) = fc_btw n 8 23
      rfl
    · show (true && (true && fc_btw n 8 23)) = fc_btw n 8 23
      rfl
    · show (true && (true && fc_btw n 8 23)) = fc_btw n 8 23
      rfl
    · show (true && (fc_ix n 8 && true)) = fc_ix n 8
      cases fc_ix n 8 <;> rfl
theorem fits_eq (k a b c : Int32) (n : UInt64) : fm_fits k a b c n = fc_isBlock k a b c n := by
  unfold fm_fits
  cases h : fc_btw k 0 9
  · unfold fc_isBlock
    have hn : ∀ j : Int32, fc_btw j 0 9 = true → ¬ k = j := fun j hj q => by rw [← q, h] at hj; cases hj
    rw [if_pos rfl, if_neg (hn 0 (by decide)), if_neg (hn 1 (by decide)), if_neg (hn 2 (by decide)), if_neg (hn 3 (by decide)), if_neg (hn 4 (by decide)), if_neg (hn 5 (by decide)), if_neg (hn 6 (by decide)), if_neg (hn 7 (by decide)), if_neg (hn 8 (by decide)), if_neg (hn 9 (by decide))]
  · rw [if_neg (by decide)]
    unfold fm_reg
    rw [bx8, bx8, bx8]
    rcases in10 h with q | q | q | q | q | q | q | q | q | q <;> subst q <;> simp only [fc_isBlock, fc_regs, fc_bbit, fc_cntb, fc_setg] <;> generalize sd_ge n 13875379345695965184 = u1 <;> generalize sd_le n 4652007308841189376 = u2
    all_goals first | rfl | (cases fc_ix a 8 <;> cases fc_ix b 8 <;> cases fc_ix c 8 <;> cases u1 <;> cases u2 <;> rfl) | (cases fc_ix a 8 <;> cases fc_ix b 8 <;> rfl)
-- what the law sees of a call
def kc2 (C1 C2 : Bool) : Int32 := if C1 = true then (if C2 = true then 0 else 2) else 1
def kc1 (C : Bool) : Int32 := if C = true then 0 else 1
def yn2 {α : Type} (C1 C2 : Bool) (a b : α) : α := if C1 = true then (if C2 = true then a else b) else b
def yn1 {α : Type} (C : Bool) (a b : α) : α := if C = true then a else b
theorem rl.thr {sc : Int32} {y : st_Y} {x : st_M} (R : rl sc y x) (v : Int32) : rl sc y (mu_thrown x v) := R
theorem row_ne {rs : Nat → st_R} {g j : Nat} {r : st_R} (h : j ≠ g) : va_up rs g r j = rs j := va_up_ne _ _ h
theorem q_cell {sc : Int32} {y : st_Y} {x : st_M} (R : rl sc y x) (hi : iv y) (g r c k b : Int32) : mg_thrown (ms_cell x g r c k b) = kc2 (fc_isCell k b) (fc_row g r && fc_ix c 4) ∧ (kc2 (fc_isCell k b) (fc_row g r && fc_ix c 4) = 0 → ma_cell x g r c k b = (y.2 g.toNatClampNeg).1 (r.toNatClampNeg * 4 + c.toNatClampNeg)) ∧ rl sc (yn2 (fc_isCell k b) (fc_row g r && fc_ix c 4) (fp_cell y g r c k b) y) (ms_cell x g r c k b) ∧ iv (yn2 (fc_isCell k b) (fc_row g r && fc_ix c 4) (fp_cell y g r c k b) y) := by
  unfold ms_cell ma_cell kc2 yn2
  rw [cell_eq, cel2_eq]
  cases h1 : fc_isCell k b
  · exact ⟨rfl, fun q => absurd q (show ¬ (1 : Int32) = 0 by decide), R.thr 1, hi⟩
  cases h2 : (fc_row g r && fc_ix c 4)
  · exact ⟨rfl, fun q => absurd q (show ¬ (2 : Int32) = 0 by decide), R.thr 2, hi⟩
  have e1 := and2 h2
  have e2 := and2 e1.1
  have n1 := (ix_nat (n := 5) rfl (by decide) e2.1).2
  have n2 := (ix_nat (n := 3) rfl (by decide) e2.2).2
  have n3 := (ix_nat (n := 4) rfl (by decide) e1.2).2
  have hk : fc_btw k 0 5 = true := (and2 h1).1
  unfold mi_cell fp_cell
  generalize g.toNatClampNeg = G at n1 ⊢
  generalize r.toNatClampNeg = W at n2 ⊢
  generalize c.toNatClampNeg = K at n3 ⊢
  have r0 := R.2.1 G n1
  rw [cell_of b hk]
  refine ⟨rfl, fun _ => ?_, ⟨R.1, fun j hj => ?_, R.2.2⟩, hi.1, fun j hj => ?_⟩
  · show mg_kind x (12 * G + 4 * W + K) = _
    rw [show 12 * G + 4 * W + K = 12 * G + (W * 4 + K) by omega]
    exact r0.1 _ (by omega)
  · show rlR _ j (va_up y.2 G (fr_cell (y.2 G) (W * 4 + K) k b) j)
    by_cases q : j = G
    · subst q
      rw [va_up_self, show 12 * j + 4 * W + K = 12 * j + (W * 4 + K) by omega]
      refine ⟨fun i hi => ?_, fun i hi => ?_, fun i hi => ?_, r0.2.2.2⟩
      · show va_up (mg_kind x) (12 * j + (W * 4 + K)) k (12 * j + i) = va_up (y.2 j).1 (W * 4 + K) k i
        by_cases qi : i = W * 4 + K
        · rw [qi, va_up_self, va_up_self]
        · rw [va_up_ne _ _ (by omega), va_up_ne _ _ qi]
          exact r0.1 i hi
      · show va_up (mg_of x) (12 * j + (W * 4 + K)) _ (12 * j + i) = va_up (y.2 j).2.1 (W * 4 + K) _ i
        by_cases qi : i = W * 4 + K
        · rw [qi, va_up_self, va_up_self]
        · rw [va_up_ne _ _ (by omega), va_up_ne _ _ qi]
          exact r0.2.1 i hi
      · show va_up (mg_was x) (12 * j + (W * 4 + K)) false (12 * j + i) = va_up (y.2 j).2.2.1 (W * 4 + K) false i
        by_cases qi : i = W * 4 + K
        · rw [qi, va_up_self, va_up_self]
        · rw [va_up_ne _ _ (by omega), va_up_ne _ _ qi]
          exact r0.2.2.1 i hi
    · rw [va_up_ne _ _ q]
      have r1 := R.2.1 j hj
      refine ⟨fun i hi => ?_, fun i hi => ?_, fun i hi => ?_, r1.2.2.2⟩
      · exact (va_up_ne _ _ (by omega)).trans (r1.1 i hi)
      · exact (va_up_ne _ _ (by omega)).trans (r1.2.1 i hi)
      · exact (va_up_ne _ _ (by omega)).trans (r1.2.2.1 i hi)
  · show ok_R (va_up y.2 G (fr_cell (y.2 G) (W * 4 + K) k b) j) ∧ ∀ i, i < 12 → fc_btw ((va_up y.2 G (fr_cell (y.2 G) (W * 4 + K) k b) j).1 i) 0 5 = true
    by_cases q : j = G
    · subst q
      rw [va_up_self]
      obtain ⟨i1, i2⟩ := hi.2 j hj
      refine ⟨⟨fun i hi => ?_, i1.2⟩, fun i hi => ?_⟩
      · show fc_ix (va_up (y.2 j).2.1 (W * 4 + K) (if fc_looks k = true then b else 0) i) 24 = true
        by_cases qi : i = W * 4 + K
        · rw [qi, va_up_self]
          have h4 := (and2 h1).2
          cases hl : fc_looks k
          · rfl
          · rw [hl] at h4
            exact h4
        · rw [va_up_ne _ _ qi]
          exact i1.1 i hi
      · show fc_btw (va_up (y.2 j).1 (W * 4 + K) k i) 0 5 = true
        by_cases qi : i = W * 4 + K
        · rw [qi, va_up_self]
          exact hk
        · rw [va_up_ne _ _ qi]
          exact i2 i hi
    · rw [va_up_ne _ _ q]
      exact hi.2 j hj
theorem q_link {sc : Int32} {y : st_Y} {x : st_M} (R : rl sc y x) (hi : iv y) (g r c : Int32) (v : Bool) : mg_thrown (ms_link x g r c v) = kc1 (fc_ix g 5 && (fc_ix r 2 && fc_ix c 4)) ∧ (kc1 (fc_ix g 5 && (fc_ix r 2 && fc_ix c 4)) = 0 → ma_link x g r c = (y.2 g.toNatClampNeg).2.2.2.1 (r.toNatClampNeg * 4 + c.toNatClampNeg)) ∧ rl sc (yn1 (fc_ix g 5 && (fc_ix r 2 && fc_ix c 4)) (fp_link y g r c v) y) (ms_link x g r c v) ∧ iv (yn1 (fc_ix g 5 && (fc_ix r 2 && fc_ix c 4)) (fp_link y g r c v) y) := by
  unfold ms_link ma_link kc1 yn1
  rw [link_eq]
  cases h2 : (fc_ix g 5 && (fc_ix r 2 && fc_ix c 4))
  · exact ⟨rfl, fun q => absurd q (show ¬ (1 : Int32) = 0 by decide), R.thr 1, hi⟩
  have e1 := and2 h2
  have e2 := and2 e1.2
  have n1 := (ix_nat (n := 5) rfl (by decide) e1.1).2
  have n2 := (ix_nat (n := 2) rfl (by decide) e2.1).2
  have n3 := (ix_nat (n := 4) rfl (by decide) e2.2).2
  unfold mi_link fp_link
  generalize g.toNatClampNeg = G at n1 ⊢
  generalize r.toNatClampNeg = W at n2 ⊢
  generalize c.toNatClampNeg = K at n3 ⊢
  have r0 := R.2.1 G n1
  refine ⟨rfl, fun _ => ?_, ⟨R.1, fun j hj => ?_, R.2.2⟩, hi.1, fun j hj => ?_⟩
  · show mg_link x (8 * G + 4 * W + K) = _
    rw [show 8 * G + 4 * W + K = 8 * G + (W * 4 + K) by omega]
    exact r0.2.2.2.1 _ (by omega)
  · show rlR _ j (va_up y.2 G (fr_link (y.2 G) (W * 4 + K) v) j)
    by_cases q : j = G
    · subst q
      rw [va_up_self, show 8 * j + 4 * W + K = 8 * j + (W * 4 + K) by omega]
      refine ⟨r0.1, r0.2.1, r0.2.2.1, fun i hi => ?_, r0.2.2.2.2⟩
      show va_up (mg_link x) (8 * j + (W * 4 + K)) v (8 * j + i) = va_up (y.2 j).2.2.2.1 (W * 4 + K) v i
      by_cases qi : i = W * 4 + K
      · rw [qi, va_up_self, va_up_self]
      · rw [va_up_ne _ _ (by omega), va_up_ne _ _ qi]
        exact r0.2.2.2.1 i hi
    · rw [va_up_ne _ _ q]
      have r1 := R.2.1 j hj
      exact ⟨r1.1, r1.2.1, r1.2.2.1, fun i hi => (va_up_ne _ _ (by omega)).trans (r1.2.2.2.1 i hi), r1.2.2.2.2⟩
  · show ok_R (va_up y.2 G (fr_link (y.2 G) (W * 4 + K) v) j) ∧ ∀ i, i < 12 → fc_btw ((va_up y.2 G (fr_link (y.2 G) (W * 4 + K) v) j).1 i) 0 5 = true
    by_cases q : j = G
    · subst q
      rw [va_up_self]
      exact hi.2 j hj
    · rw [va_up_ne _ _ q]
      exact hi.2 j hj
theorem q_coil {sc : Int32} {y : st_Y} {x : st_M} (R : rl sc y x) (hi : iv y) (g r k n : Int32) : mg_thrown (ms_coil x g r k n) = kc2 (fc_isCoil k n) (fc_row g r) ∧ (kc2 (fc_isCoil k n) (fc_row g r) = 0 → ma_coil x g r k n = (y.2 g.toNatClampNeg).2.2.2.2.2.1 r.toNatClampNeg) ∧ rl sc (yn2 (fc_isCoil k n) (fc_row g r) (fp_coil y g r k n) y) (ms_coil x g r k n) ∧ iv (yn2 (fc_isCoil k n) (fc_row g r) (fp_coil y g r k n) y) := by
  unfold ms_coil ma_coil kc2 yn2
  rw [coil_eq, row_eq]
  cases h1 : fc_isCoil k n
  · exact ⟨rfl, fun q => absurd q (show ¬ (1 : Int32) = 0 by decide), R.thr 1, hi⟩
  cases h2 : fc_row g r
  · exact ⟨rfl, fun q => absurd q (show ¬ (2 : Int32) = 0 by decide), R.thr 2, hi⟩
  have e2 := and2 h2
  have n1 := (ix_nat (n := 5) rfl (by decide) e2.1).2
  have n2 := (ix_nat (n := 3) rfl (by decide) e2.2).2
  unfold mi_coil fp_coil
  generalize g.toNatClampNeg = G at n1 ⊢
  generalize r.toNatClampNeg = W at n2 ⊢
  have r0 := R.2.1 G n1
  refine ⟨rfl, fun _ => r0.2.2.2.2.2.2.1 W n2, ⟨R.1, fun j hj => ?_, R.2.2⟩, hi.1, fun j hj => ?_⟩
  · show rlR _ j (va_up y.2 G (fr_coil (y.2 G) W k n) j)
    by_cases q : j = G
    · subst q
      rw [va_up_self]
      refine ⟨r0.1, r0.2.1, r0.2.2.1, r0.2.2.2.1, r0.2.2.2.2.1, r0.2.2.2.2.2.1, fun i hi => ?_, fun i hi => ?_, r0.2.2.2.2.2.2.2.2⟩
      · show va_up (mg_coil x) (3 * j + W) k (3 * j + i) = va_up (y.2 j).2.2.2.2.2.1 W k i
        by_cases qi : i = W
        · rw [qi, va_up_self, va_up_self]
        · rw [va_up_ne _ _ (by omega), va_up_ne _ _ qi]
          exact r0.2.2.2.2.2.2.1 i hi
      · show va_up (mg_coilOf x) (3 * j + W) n (3 * j + i) = va_up (y.2 j).2.2.2.2.2.2 W n i
        by_cases qi : i = W
        · rw [qi, va_up_self, va_up_self]
        · rw [va_up_ne _ _ (by omega), va_up_ne _ _ qi]
          exact r0.2.2.2.2.2.2.2.1 i hi
    · rw [va_up_ne _ _ q]
      have r1 := R.2.1 j hj
      exact ⟨r1.1, r1.2.1, r1.2.2.1, r1.2.2.2.1, r1.2.2.2.2.1, r1.2.2.2.2.2.1, fun i hi => (va_up_ne _ _ (by omega)).trans (r1.2.2.2.2.2.2.1 i hi), fun i hi => (va_up_ne _ _ (by omega)).trans (r1.2.2.2.2.2.2.2.1 i hi), r1.2.2.2.2.2.2.2.2⟩
  · show ok_R (va_up y.2 G (fr_coil (y.2 G) W k n) j) ∧ ∀ i, i < 12 → fc_btw ((va_up y.2 G (fr_coil (y.2 G) W k n) j).1 i) 0 5 = true
    by_cases q : j = G
    · subst q
      rw [va_up_self]
      obtain ⟨i1, i2⟩ := hi.2 j hj
      refine ⟨⟨i1.1, fun i hi => ?_⟩, i2⟩
      show fc_isCoil (va_up (y.2 j).2.2.2.2.2.1 W k i) (va_up (y.2 j).2.2.2.2.2.2 W n i) = true
      by_cases qi : i = W
      · rw [qi, va_up_self, va_up_self]
        exact h1
      · rw [va_up_ne _ _ qi, va_up_ne _ _ qi]
        exact i1.2 i hi
    · rw [va_up_ne _ _ q]
      exact hi.2 j hj
theorem mb_new_self (x : st_M) (i : Nat) (k a b c : Int32) (n : UInt64) : mb (mb_new x i k a b c n) i = fb_become (mb x i) k a b c n := by
  show (va_up (mg_block x) i k i, va_up (mg_first x) i a i, va_up (mg_second x) i b i, va_up (mg_third x) i c i, va_up (mg_amount x) i n i, mg_guarded x i, va_up (mg_counted x) i 0 i, va_up (mg_had x) i false i, va_up (mg_sum x) i FP.dconst0 i, va_up (mg_last x) i FP.dconst0 i, va_up (mg_runs x) i 0 i, va_up (mg_faults x) i 0 i) = _
  simp only [va_up_self]
  rfl
theorem mb_new_ne (x : st_M) {i j : Nat} (k a b c : Int32) (n : UInt64) (h : j ≠ i) : mb (mb_new x i k a b c n) j = mb x j := by
  show (va_up (mg_block x) i k j, va_up (mg_first x) i a j, va_up (mg_second x) i b j, va_up (mg_third x) i c j, va_up (mg_amount x) i n j, mg_guarded x j, va_up (mg_counted x) i 0 j, va_up (mg_had x) i false j, va_up (mg_sum x) i FP.dconst0 j, va_up (mg_last x) i FP.dconst0 j, va_up (mg_runs x) i 0 j, va_up (mg_faults x) i 0 j) = _
  rw [va_up_ne _ _ h, va_up_ne _ _ h, va_up_ne _ _ h, va_up_ne _ _ h, va_up_ne _ _ h, va_up_ne _ _ h, va_up_ne _ _ h, va_up_ne _ _ h, va_up_ne _ _ h, va_up_ne _ _ h, va_up_ne _ _ h]
  rfl
theorem mb_grd_self (x : st_M) (i : Nat) (v : Bool) : mb (mu_guarded (mu_thrown x 0) (va_up (mg_guarded x) i v)) i = fb_grd (mb x i) v := by
  show (mg_block x i, mg_first x i, mg_second x i, mg_third x i, mg_amount x i, va_up (mg_guarded x) i v i, mg_counted x i, mg_had x i, mg_sum x i, mg_last x i, mg_runs x i, mg_faults x i) = _
  rw [va_up_self]
  rfl
theorem mb_grd_ne (x : st_M) {i j : Nat} (v : Bool) (h : j ≠ i) : mb (mu_guarded (mu_thrown x 0) (va_up (mg_guarded x) i v)) j = mb x j := by
  show (mg_block x j, mg_first x j, mg_second x j, mg_third x j, mg_amount x j, va_up (mg_guarded x) i v j, mg_counted x j, mg_had x j, mg_sum x j, mg_last x j, mg_runs x j, mg_faults x j) = _
  rw [va_up_ne _ _ h]
  rfl
theorem q_block {sc : Int32} {y : st_Y} {x : st_M} (R : rl sc y x) (hi : iv y) (i k a b c : Int32) (n : UInt64) : mg_thrown (ms_block x i k a b c n) = kc2 (fc_isBlock k a b c n) (fc_ix i 8) ∧ (kc2 (fc_isBlock k a b c n) (fc_ix i 8) = 0 → ma_block x i k a b c n = (y.1.2.2.1 i.toNatClampNeg).1) ∧ rl sc (yn2 (fc_isBlock k a b c n) (fc_ix i 8) (fp_block y i k a b c n) y) (ms_block x i k a b c n) ∧ iv (yn2 (fc_isBlock k a b c n) (fc_ix i 8) (fp_block y i k a b c n) y) := by
  unfold ms_block ma_block kc2 yn2
  rw [fits_eq, bx8]
  cases h1 : fc_isBlock k a b c n
  · exact ⟨rfl, fun q => absurd q (show ¬ (1 : Int32) = 0 by decide), R.thr 1, hi⟩
  cases h2 : fc_ix i 8
  · exact ⟨rfl, fun q => absurd q (show ¬ (2 : Int32) = 0 by decide), R.thr 2, hi⟩
  have n1 := (ix_nat (n := 8) rfl (by decide) h2).2
  unfold fp_block fp_bs
  generalize i.toNatClampNeg = I at n1 ⊢
  obtain ⟨h, hb, hh⟩ := R.1.2.2.1 I n1
  refine ⟨rfl, fun _ => congrArg (fun b : st_B => b.1) hb, ⟨?_, fun j hj => R.2.1 j hj, R.2.2⟩, ?_, hi.2⟩
  · exact mkT (k := I) (x' := mb_new x I k a b c n) R.1 R.1.1 R.1.2.1 (fun j hj => mb_new_ne x k a b c n hj) ⟨false, by rw [mb_new_self, hb]; rfl, fun _ => rfl⟩ rfl rfl rfl
  · refine ⟨⟨fun j hj => ?_, hi.1.1.2⟩, fun j hj => ?_⟩
    · show fb_ok (va_up y.1.2.2.1 I (fb_become (y.1.2.2.1 I) k a b c n) j)
      by_cases q : j = I
      · rw [q, va_up_self]
        exact ⟨h1, kk_0 _ (by decide), kk_0 _ (by decide)⟩
      · rw [va_up_ne _ _ q]
        exact hi.1.1.1 j hj
    · show iv_B (va_up y.1.2.2.1 I (fb_become (y.1.2.2.1 I) k a b c n) j)
      by_cases q : j = I
      · rw [q, va_up_self]
        refine ⟨fun _ => ⟨rfl, rfl⟩, fun qk => ?_⟩
        have h9 := cn_1 (ok_12 (a := a) (b := b) (c := c) (n := n) h1 qk).2
        show (0 : Int32).toInt ≤ (FP.d2i n).toInt
        have e0 : (0 : Int32).toInt = 0 := by decide
        omega
      · rw [va_up_ne _ _ q]
        exact hi.1.2 j hj
theorem q_guard {sc : Int32} {y : st_Y} {x : st_M} (R : rl sc y x) (hi : iv y) (i : Int32) (v : Bool) : mg_thrown (ms_guard x i v) = kc1 (fc_ix i 8) ∧ (kc1 (fc_ix i 8) = 0 → ma_guard x i = (y.1.2.2.1 i.toNatClampNeg).2.2.2.2.2.1) ∧ rl sc (yn1 (fc_ix i 8) (fp_guard y i v) y) (ms_guard x i v) ∧ iv (yn1 (fc_ix i 8) (fp_guard y i v) y) := by
  unfold ms_guard ma_guard kc1 yn1
  rw [bx8]
  cases h2 : fc_ix i 8
  · exact ⟨rfl, fun q => absurd q (show ¬ (1 : Int32) = 0 by decide), R.thr 1, hi⟩
  have n1 := (ix_nat (n := 8) rfl (by decide) h2).2
  unfold fp_guard fp_bs
  generalize i.toNatClampNeg = I at n1 ⊢
  obtain ⟨h, hb, hh⟩ := R.1.2.2.1 I n1
  refine ⟨rfl, fun _ => congrArg (fun b : st_B => b.2.2.2.2.2.1) hb, ⟨?_, fun j hj => R.2.1 j hj, R.2.2⟩, ?_, hi.2⟩
  · exact mkT (k := I) (x' := mu_guarded (mu_thrown x 0) (va_up (mg_guarded x) I v)) R.1 R.1.1 R.1.2.1 (fun j hj => mb_grd_ne x v hj) ⟨h, by rw [mb_grd_self, hb]; rfl, fun q => hh q⟩ rfl rfl rfl
  · refine ⟨⟨fun j hj => ?_, hi.1.1.2⟩, fun j hj => ?_⟩
    · show fb_ok (va_up y.1.2.2.1 I (fb_grd (y.1.2.2.1 I) v) j)
      by_cases q : j = I
      · rw [q, va_up_self]
        exact hi.1.1.1 I n1
      · rw [va_up_ne _ _ q]
        exact hi.1.1.1 j hj
    · show iv_B (va_up y.1.2.2.1 I (fb_grd (y.1.2.2.1 I) v) j)
      by_cases q : j = I
      · rw [q, va_up_self]
        exact hi.1.2 I n1
      · rw [va_up_ne _ _ q]
        exact hi.1.2 j hj
theorem q_input {sc : Int32} {y : st_Y} {x : st_M} (R : rl sc y x) (hi : iv y) (i : Int32) (v : Bool) : mg_thrown (ms_input x i v) = kc1 (fc_ix i 8) ∧ (kc1 (fc_ix i 8) = 0 → ma_input x i = y.1.1 i.toNatClampNeg) ∧ rl sc (yn1 (fc_ix i 8) (fp_input y i v) y) (ms_input x i v) ∧ iv (yn1 (fc_ix i 8) (fp_input y i v) y) := by
  unfold ms_input ma_input kc1 yn1
  rw [bx8]
  cases h2 : fc_ix i 8
  · exact ⟨rfl, fun q => absurd q (show ¬ (1 : Int32) = 0 by decide), R.thr 1, hi⟩
  have n1 := (ix_nat (n := 8) rfl (by decide) h2).2
  exact ⟨rfl, fun _ => R.1.1 _ (by omega), ⟨⟨up_agree R.1.1 rfl, R.1.2⟩, fun j hj => R.2.1 j hj, R.2.2⟩, hi⟩
theorem q_set {sc : Int32} {y : st_Y} {x : st_M} (R : rl sc y x) (hi : iv y) (i : Int32) (v : UInt64) : mg_thrown (ms_set x i v) = kc2 (fc_val v) (fc_ix i 8) ∧ (kc2 (fc_val v) (fc_ix i 8) = 0 → ma_set x i v = y.1.2.1 i.toNatClampNeg) ∧ rl sc (yn2 (fc_val v) (fc_ix i 8) (fp_set y i v) y) (ms_set x i v) ∧ iv (yn2 (fc_val v) (fc_ix i 8) (fp_set y i v) y) := by
  unfold ms_set ma_set kc2 yn2 fm_reg
  rw [mval_eq, bx8]
  cases h1 : fc_val v
  · exact ⟨rfl, fun q => absurd q (show ¬ (1 : Int32) = 0 by decide), R.thr 1, hi⟩
  cases h2 : fc_ix i 8
  · exact ⟨rfl, fun q => absurd q (show ¬ (2 : Int32) = 0 by decide), R.thr 2, hi⟩
  have n1 := (ix_nat (n := 8) rfl (by decide) h2).2
  refine ⟨rfl, fun _ => R.1.2.1 _ n1, ⟨⟨R.1.1, up_agreeD R.1.2.1 rfl, R.1.2.2⟩, fun j hj => R.2.1 j hj, R.2.2⟩, ⟨⟨hi.1.1.1, fun j hj => ?_⟩, hi.1.2⟩, hi.2⟩
  show fc_val (va_up y.1.2.1 i.toNatClampNeg v j) = true
  by_cases q : j = i.toNatClampNeg
  · rw [q, va_up_self]
    exact h1
  · rw [va_up_ne _ _ q]
    exact hi.1.1.2 j hj
theorem q_resume {sc : Int32} {y : st_Y} {x : st_M} (R : rl sc y x) (hi : iv y) : ma_resume x = y.1.2.2.2.2 ∧ rl sc (fp_resume y) (ms_resume x) ∧ iv (fp_resume y) := by
  refine ⟨?_, ⟨⟨R.1.1, R.1.2.1, R.1.2.2.1, R.1.2.2.2.1, rfl, fun q => absurd q (show ¬ false = true by decide)⟩, fun j hj => R.2.1 j hj, R.2.2⟩, hi⟩
  unfold ma_resume
  cases h : mg_halted x
  · have h9 := R.1.2.2.2.2.1
    rw [h] at h9
    have h8 := h9.symm
    unfold fs_hlt at h8
    rw [decide_eq_false_iff_not, Classical.not_not] at h8
    exact h8.symm
  · exact R.1.2.2.2.2.2 h
theorem q_bit {sc : Int32} {y : st_Y} {x : st_M} (R : rl sc y x) (i : Int32) : mg_thrown (ms_bit x i) = kc1 (fc_ix i 24) ∧ (kc1 (fc_ix i 24) = 0 → ma_bit x i = y.1.1 i.toNatClampNeg) ∧ rl sc y (ms_bit x i) := by
  unfold ms_bit ma_bit kc1
  rw [bx24]
  cases h2 : fc_ix i 24
  · exact ⟨rfl, fun q => absurd q (show ¬ (1 : Int32) = 0 by decide), R.thr 1⟩
  · exact ⟨rfl, fun _ => R.1.1 _ (ix_nat (n := 24) rfl (by decide) h2).2, R.thr 0⟩
theorem q_register {sc : Int32} {y : st_Y} {x : st_M} (R : rl sc y x) (i : Int32) : mg_thrown (ms_register x i) = kc1 (fc_ix i 8) ∧ (kc1 (fc_ix i 8) = 0 → ma_register x i = y.1.2.1 i.toNatClampNeg) ∧ rl sc y (ms_register x i) := by
  unfold ms_register ma_register kc1 fm_reg
  rw [bx8]
  cases h2 : fc_ix i 8
  · exact ⟨rfl, fun q => absurd q (show ¬ (1 : Int32) = 0 by decide), R.thr 1⟩
  · exact ⟨rfl, fun _ => R.1.2.1 _ (ix_nat (n := 8) rfl (by decide) h2).2, R.thr 0⟩
theorem q_power {sc : Int32} {y : st_Y} {x : st_M} (R : rl sc y x) (g r c : Int32) : mg_thrown (ms_power x g r c) = kc1 (fc_row g r && fc_btw c (-1) 3) ∧ (kc1 (fc_row g r && fc_btw c (-1) 3) = 0 → ma_power x g r c = (y.2 g.toNatClampNeg).2.2.2.2.1 (r.toNatClampNeg * 5 + fp_col c)) ∧ rl sc y (ms_power x g r c) := by
  unfold ms_power ma_power kc1
  rw [pow_eq]
  cases h2 : (fc_row g r && fc_btw c (-1) 3)
  · exact ⟨rfl, fun q => absurd q (show ¬ (1 : Int32) = 0 by decide), R.thr 1⟩
  refine ⟨rfl, fun _ => ?_, R.thr 0⟩
  have e1 := and2 h2
  have e2 := and2 e1.1
  have n1 := (ix_nat (n := 5) rfl (by decide) e2.1).2
  have n2 := (ix_nat (n := 3) rfl (by decide) e2.2).2
  have n3 := ix_col e1.2
  have r0 := R.2.1 _ n1
  rw [Bool.true_and]
  by_cases hc : c < 0
  · have hz : fp_col c = 0 := by
      have h5 := e1.2
      unfold fc_btw at h5
      have h6 := (and2 h5).1
      rw [decide_eq_true_eq, Int32.lt_iff_toInt_lt] at h6
      rw [Int32.lt_iff_toInt_lt] at hc
      have t1 : (-1 : Int32).toInt = -1 := by decide
      have t0 : (0 : Int32).toInt = 0 := by decide
      have : c = -1 := Int32.toInt_inj.mp (by omega)
      rw [this]
      rfl
    rw [hz, decide_eq_true hc, Bool.true_or, Bool.and_true]
    exact r0.2.2.2.2.2.1 _ n2
  · have n4 := bw_col e1.2 hc
    have hz : fp_col c = c.toNatClampNeg + 1 := by
      have h5 := n3.1
      rw [n4.1] at h5
      have h6 : nI c.toNatClampNeg + 1 = nI (c.toNatClampNeg + 1) := nI_1 _
      have h7 := h6.symm.trans h5
      have h8 := congrArg Int32.toNatClampNeg h7
      rw [nI_clamp (by omega), nI_clamp (by rw [← n4.1]; omega)] at h8
      rw [← n4.1] at h8
      exact h8.symm
    rw [hz, decide_eq_false hc, Bool.false_or]
    have p := r0.2.2.2.2.1 _ n2 _ n4.2
    rw [show r.toNatClampNeg * 5 + (c.toNatClampNeg + 1) = r.toNatClampNeg * 5 + c.toNatClampNeg + 1 by omega, ← p]
    cases hs : mg_seen x g.toNatClampNeg
    · rw [Bool.false_and, r0.2.2.2.2.2.2.2.2 hs _ n2 _ n4.2]
    · rw [Bool.true_and]
theorem q_told {sc : Int32} {y : st_Y} {x : st_M} (R : rl sc y x) (i w : Int32) : mg_thrown (ms_told x i w) = kc2 (fc_btw w 0 4) (fc_ix i 8) ∧ (kc2 (fc_btw w 0 4) (fc_ix i 8) = 0 → ma_told x i w = fb_tell (y.1.2.2.1 i.toNatClampNeg) w) ∧ rl sc y (ms_told x i w) := by
  unfold ms_told ma_told kc2
  rw [bx8]
  cases h1 : fc_btw w 0 4
  · exact ⟨rfl, fun q => absurd q (show ¬ (1 : Int32) = 0 by decide), R.thr 1⟩
  cases h2 : fc_ix i 8
  · exact ⟨rfl, fun q => absurd q (show ¬ (2 : Int32) = 0 by decide), R.thr 2⟩
  refine ⟨rfl, fun _ => ?_, R.thr 0⟩
  obtain ⟨h, hb, hh⟩ := R.1.2.2.1 _ (ix_nat (n := 8) rfl (by decide) h2).2
  have e : fb_tell (mb x i.toNatClampNeg) w = fb_tell (y.1.2.2.1 i.toNatClampNeg) w := by
    rw [hb]
    rfl
  rw [← e]
  rfl
theorem on_agree {f g : Nat → Bool} : ∀ n, (∀ i, i < n → f i = g i) → fs_on f n = fs_on g n
  | 0, _ => rfl
  | n + 1, h => by
    show fs_on f n + (if f n = true then 1 else 0) = fs_on g n + (if g n = true then 1 else 0)
    rw [on_agree n (fun i hi => h i (Nat.lt_succ_of_lt hi)), h n (Nat.lt_succ_self n)]
theorem q_count {sc : Int32} {y : st_Y} {x : st_M} (R : rl sc y x) (w : Int32) : mg_thrown (ms_count x w) = kc1 (fc_btw w 0 3) ∧ (kc1 (fc_btw w 0 3) = 0 → ma_count x w = fp_count y sc w) ∧ rl sc y (ms_count x w) := by
  unfold ms_count ma_count kc1 fp_count
  cases h1 : fc_btw w 0 3
  · exact ⟨rfl, fun q => absurd q (show ¬ (1 : Int32) = 0 by decide), R.thr 1⟩
  refine ⟨rfl, fun _ => ?_, R.thr 0⟩
  rw [if_pos rfl, R.2.2, R.1.2.2.2.1, R.1.2.2.2.2.1, on_agree 24 R.1.1]
-- SCAN leaves what was thrown alone
theorem thr_perf1 (x : st_M) (k : Nat) (on : Bool) : mg_thrown (ms_perf1 x k on) = mg_thrown x := by
  have t1 : mg_thrown (ms_tally x k on) = mg_thrown x := by
    unfold ms_tally
    rw [tcnt_eq]
    rfl
  have t2 : mg_thrown (ms_r9 x k) = mg_thrown x := by
    unfold ms_r9
    repeat' split
    all_goals rfl
  have t3 : mg_thrown (ms_reckon x k) = mg_thrown x := by
    unfold ms_reckon
    split
    · rfl
    · split
      · exact t2
      · exact t2
  have t4 : ∀ z, mg_thrown (ms_wrong z k) = mg_thrown z := by
    intro z
    unfold ms_wrong
    split <;> rfl
  unfold ms_perf1
  split
  · rfl
  · split
    · exact t1
    · split
      · split <;> rfl
      · split
        · split
          · exact (t4 _).trans t3
          · exact t3
        · rfl
theorem thr_row (x : st_M) (g w : Nat) : mg_thrown (ms_row x g w) = mg_thrown x := by
  unfold ms_row ms_drive
  split
  · rfl
  · split
    · split <;> rfl
    · split
      · split <;> rfl
      · split
        · exact thr_perf1 _ _ _
        · rfl
theorem thr_col (x : st_M) (g k : Nat) : mg_thrown (ms_column x g k) = mg_thrown x := by
  rw [column_eq]
theorem thr_rung (x : st_M) (g : Nat) : mg_thrown (ms_rung x g) = mg_thrown x := by
  have hc : mg_thrown (ms_cols x g) = mg_thrown x := by
    unfold ms_cols
    rw [thr_col, thr_col, thr_col, thr_col]
  unfold ms_rung
  split
  · rw [thr_row, hc]
  · split
    · rw [thr_row, thr_row, hc]
    · rw [thr_row, thr_row, thr_row, hc]
theorem thr_rg (x : st_M) (g : Nat) : mg_thrown (ms_rg x g) = mg_thrown x := by
  unfold ms_rg
  split
  · rfl
  · exact thr_rung x g
theorem thr_once (x : st_M) : mg_thrown (ms_once x) = mg_thrown x := by
  unfold ms_once
  rw [thr_rg, thr_rg, thr_rg, thr_rg, thr_rg]
theorem thr_loop (n : Nat) : ∀ x, mg_thrown (ms_loop n x) = mg_thrown x := by
  induction n with
  | zero => exact fun x => rfl
  | succ n ih =>
    intro x
    unfold ms_loop
    split
    · rfl
    · rw [ih, thr_once]
def kcs (n : Int32) (q : Int32 × st_Y) : Int32 := if fc_btw n 1 50 = true then (if fs_hlt q.2.1.2.2.2.2 = true then 2 else if fs_hlt (fp_scanY n q).2.1.2.2.2.2 = true then 3 else 0) else 1
theorem q_scan {sc : Int32} {y : st_Y} {x : st_M} (R : rl sc y x) (hi : iv y) (n : Int32) : mg_thrown (ms_scan x n) = kcs n (sc, y) ∧ (kcs n (sc, y) = 0 → ma_scan x n = (fp_scanY n (sc, y)).1) ∧ rl (fp_scanY n (sc, y)).1 (fp_scanY n (sc, y)).2 (ms_scan x n) ∧ iv (fp_scanY n (sc, y)).2 := by
  unfold kcs
  cases h1 : fc_btw n 1 50
  · obtain ⟨a, b⟩ := sn_a (x := x) h1
    have e : fp_scanY n (sc, y) = (sc, y) := by
      unfold fp_scanY
      rw [if_pos h1]
    rw [a, e]
    exact ⟨rfl, fun q => absurd q (show ¬ (1 : Int32) = 0 by decide), R.thr 1, hi⟩
  cases h2 : mg_halted x
  · have h2' : fs_hlt y.1.2.2.2.2 = false := by rw [← R.1.2.2.2.2.1]; exact h2
    have e : fp_scanY n (sc, y) = fp_scan n.toNatClampNeg (sc, y) := by
      unfold fp_scanY
      rw [if_neg (by rw [h1]; decide), if_neg (by rw [h2']; decide)]
    obtain ⟨c1, c2⟩ := loop_rel n.toNatClampNeg (sc, y) (mu_thrown x 0) (R.thr 0) hi h2
    have ht := thr_loop n.toNatClampNeg (mu_thrown x 0)
    rw [← e] at c1 c2
    have hh := c1.1.2.2.2.2.1
    have n2 : ¬ fs_hlt y.1.2.2.2.2 = true := by rw [h2']; decide
    rw [if_pos rfl, if_neg n2]
    cases h3 : fs_hlt (fp_scanY n (sc, y)).2.1.2.2.2.2
    · obtain ⟨a, b⟩ := sn_d h1 h2 (hh.trans h3)
      rw [a, b]
      exact ⟨ht, fun _ => c1.2.2, c1, c2⟩
    · obtain ⟨a, b⟩ := sn_c h1 h2 (hh.trans h3)
      rw [a]
      exact ⟨rfl, fun q => absurd q (show ¬ (3 : Int32) = 0 by decide), c1.thr 3, c2⟩
  · have h2' : fs_hlt y.1.2.2.2.2 = true := by rw [← R.1.2.2.2.2.1]; exact h2
    obtain ⟨a, b⟩ := sn_b h1 h2
    have e : fp_scanY n (sc, y) = (sc, y) := by
      unfold fp_scanY
      rw [if_neg (by rw [h1]; decide), if_pos h2']
    rw [a, e]
    rw [if_pos rfl, if_pos h2']
    exact ⟨rfl, fun q => absurd q (show ¬ (2 : Int32) = 0 by decide), R.thr 2, hi⟩
theorem q_start : rl 0 st_Y0 st_M0 ∧ iv st_Y0 := by
  refine ⟨⟨⟨fun i _ => rfl, fun i _ => rfl, fun k _ => ⟨false, rfl, fun _ => rfl⟩, rfl, rfl, fun q => absurd q (by decide)⟩, fun g _ => ⟨fun _ _ => rfl, fun _ _ => rfl, fun _ _ => rfl, fun _ _ => rfl, fun _ _ _ _ => rfl, fun _ _ => rfl, fun _ _ => rfl, fun _ _ => rfl, fun _ _ _ _ _ => rfl⟩, rfl⟩, ⟨⟨fun j _ => ⟨rfl, kk_0 _ (by decide), kk_0 _ (by decide)⟩, fun j _ => by show fc_val FP.dconst0 = true; decide +kernel⟩, fun k _ => ⟨fun _ => ⟨rfl, rfl⟩, fun q => by
    rcases q with q | q
    · exact absurd (show (0 : Int32) = 1 from q) (by decide)
    · exact absurd (show (0 : Int32) = 2 from q) (by decide)⟩⟩, fun g _ => ⟨⟨fun j _ => rfl, fun j _ => rfl⟩, fun j _ => by show fc_btw 0 0 5 = true; decide⟩⟩
