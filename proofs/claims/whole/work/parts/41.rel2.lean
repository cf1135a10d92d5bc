/-! a run of a block, class and reference -/
theorem dcnt_le {k : st_B} {on : Bool} (hn : fc_cntb k.2.2.2.2.1 = true) (hc : k.2.2.2.2.2.2.1.toInt ≤ (FP.d2i k.2.2.2.2.1).toInt) : (fb_dcnt k on).toInt ≤ (FP.d2i k.2.2.2.2.1).toInt := by
  unfold fb_dcnt
  have h1 := cn_1 hn
  split
  · have e0 : (0 : Int32).toInt = 0 := by decide
    omega
  · split
    · rename_i hl
      exact cn_up hn hl
    · exact hc
theorem ccnt_le {k : st_B} {on : Bool} {bt : Nat → Bool} (hn : fc_cntb k.2.2.2.2.1 = true) (hc : k.2.2.2.2.2.2.1.toInt ≤ (FP.d2i k.2.2.2.2.1).toInt) : (fb_ccnt k on bt).toInt ≤ (FP.d2i k.2.2.2.2.1).toInt := by
  unfold fb_ccnt
  have h1 := cn_1 hn
  split
  · have e0 : (0 : Int32).toInt = 0 := by decide
    omega
  · split
    · exact hc
    · split
      · exact hc
      · split
        · rename_i hl
          exact cn_up hn hl
        · exact hc
theorem pr_0 {t : st_T} {x : st_M} {k : Nat} {on : Bool} (hk : k < 8) (R : rlT t x) (h0 : (t.2.2.1 k).1 = 0) : rlT (fs_blk t k on) (ms_perform x k on) ∧ ma_perform x k on = false := by
  obtain ⟨h, hb, hh⟩ := R.2.2.1 k hk
  have e1 : mg_block x k = 0 := (congrArg (fun b : st_B => b.1) hb).trans h0
  obtain ⟨q1, q2⟩ := pf_0 (on := on) e1
  rw [q1, q2]
  refine ⟨?_, rfl⟩
  unfold fs_blk
  obtain ⟨-, z1, z2, z3⟩ := ev0 (on := on) (bt := t.1) (rg := t.2.1) h0
  rw [z1, z2, z3]
  refine mkT R R.1 R.2.1 (fun j hj => mb_runs_ne x hj) ⟨h, ?_, fun q => hh q⟩ rfl rfl rfl
  rw [mb_runs_self, hb]
  rfl
theorem pr_1 {t : st_T} {x : st_M} {k : Nat} {on : Bool} (hk : k < 8) (R : rlT t x) (hok : fb_ok (t.2.2.1 k)) (hiv : iv_B (t.2.2.1 k)) (h1 : (t.2.2.1 k).1 = 1) : rlT (fs_blk t k on) (ms_perform x k on) ∧ ma_perform x k on = false := by
  obtain ⟨h, hb, hh⟩ := R.2.2.1 k hk
  have e1 : mg_block x k = 1 := (congrArg (fun b : st_B => b.1) hb).trans h1
  have e4 : mg_third x k = (t.2.2.1 k).2.2.2.1 := congrArg (fun b : st_B => b.2.2.2.1) hb
  have e5 : mg_amount x k = (t.2.2.1 k).2.2.2.2.1 := congrArg (fun b : st_B => b.2.2.2.2.1) hb
  have e7 : mg_counted x k = (t.2.2.1 k).2.2.2.2.2.2.1 := congrArg (fun b : st_B => b.2.2.2.2.2.2.1) hb
  obtain ⟨q1, q2⟩ := pf_12 (on := on) (show ¬ mg_block x k = 0 by rw [e1]; decide) (by rw [e1]; decide)
  have hcn := (ok_12 hok.1 (Or.inl h1)).2
  have et : tcf (ms_runs x k) k on k = fb_dcnt (t.2.2.1 k) on := by
    unfold tcf fb_dcnt
    rw [if_pos (show mg_block (ms_runs x k) k = 1 from e1), va_up_self, show mg_counted (ms_runs x k) k = _ from e7, show mg_amount (ms_runs x k) k = _ from e5]
  obtain ⟨b1, b2, b3, b4, b5⟩ := tally_bit (ms_runs x k) k on
  rw [q1, q2]
  refine ⟨?_, rfl⟩
  unfold fs_blk
  obtain ⟨-, z1, z2, z3⟩ := ev1 (on := on) (bt := t.1) (rg := t.2.1) h1
  rw [z1, z2, z3]
  refine mkT R (fun i hi => ?_) (fun i hi => ?_) (fun j hj => ?_) ⟨on, ?_, fun q => absurd (h1.symm.trans q) (by decide)⟩ b3 b4 b5
  · rw [b1, et, show (mg_third (ms_runs x k) k) = _ from e4, show mg_amount (ms_runs x k) k = _ from e5]
    exact up_agree R.1 (cn_ge hcn (dcnt_le hcn (hiv.2 (Or.inl h1)))) i hi
  · rw [b2]
    exact R.2.1 i hi
  · rw [tally_ne _ _ hj, mb_runs_ne x hj]
  · rw [tally_self, et, mb_runs_self, hb]
    rfl
theorem pr_2 {t : st_T} {x : st_M} {k : Nat} {on : Bool} (hk : k < 8) (R : rlT t x) (hok : fb_ok (t.2.2.1 k)) (hiv : iv_B (t.2.2.1 k)) (h1 : (t.2.2.1 k).1 = 2) : rlT (fs_blk t k on) (ms_perform x k on) ∧ ma_perform x k on = false := by
  obtain ⟨h, hb, hh⟩ := R.2.2.1 k hk
  have e1 : mg_block x k = 2 := (congrArg (fun b : st_B => b.1) hb).trans h1
  have e4 : mg_third x k = (t.2.2.1 k).2.2.2.1 := congrArg (fun b : st_B => b.2.2.2.1) hb
  have e5 : mg_amount x k = (t.2.2.1 k).2.2.2.2.1 := congrArg (fun b : st_B => b.2.2.2.2.1) hb
  have e7 : mg_counted x k = (t.2.2.1 k).2.2.2.2.2.2.1 := congrArg (fun b : st_B => b.2.2.2.2.2.2.1) hb
  have e8 : mg_had x k = (t.2.2.1 k).2.2.2.2.2.2.2.1 := (congrArg (fun b : st_B => b.2.2.2.2.2.2.2.1) hb).trans (hh h1)
  obtain ⟨q1, q2⟩ := pf_12 (on := on) (show ¬ mg_block x k = 0 by rw [e1]; decide) (by rw [e1]; decide)
  have hcn := (ok_12 hok.1 (Or.inr h1)).2
  have et : tcf (ms_runs x k) k on k = fb_ccnt (t.2.2.1 k) on t.1 := by
    unfold tcf fb_ccnt
    rw [if_neg (show ¬ mg_block (ms_runs x k) k = 1 from by show ¬ mg_block x k = 1; rw [e1]; decide), show mg_bit (ms_runs x k) 22 = _ from R.1 22 (by decide), show mg_had (ms_runs x k) k = _ from e8, show mg_counted (ms_runs x k) k = _ from e7, show mg_amount (ms_runs x k) k = _ from e5]
    have e7' : mg_counted (ms_runs x k) k = (t.2.2.1 k).2.2.2.2.2.2.1 := e7
    cases t.1 22 <;> cases on <;> cases (t.2.2.1 k).2.2.2.2.2.2.2.1 <;> cases sd_lt (FP.i2d (t.2.2.1 k).2.2.2.2.2.2.1) (t.2.2.1 k).2.2.2.2.1
    all_goals first | exact e7' | exact va_up_self _ _ _
  obtain ⟨b1, b2, b3, b4, b5⟩ := tally_bit (ms_runs x k) k on
  rw [q1, q2]
  refine ⟨?_, rfl⟩
  unfold fs_blk
  obtain ⟨-, z1, z2, z3⟩ := ev2 (on := on) (bt := t.1) (rg := t.2.1) h1
  rw [z1, z2, z3]
  refine mkT R (fun i hi => ?_) (fun i hi => ?_) (fun j hj => ?_) ⟨on, ?_, fun q => rfl⟩ b3 b4 b5
  · rw [b1, et, show (mg_third (ms_runs x k) k) = _ from e4, show mg_amount (ms_runs x k) k = _ from e5]
    exact up_agree R.1 (cn_ge hcn (ccnt_le hcn (hiv.2 (Or.inr h1)))) i hi
  · rw [b2]
    exact R.2.1 i hi
  · rw [tally_ne _ _ hj, mb_runs_ne x hj]
  · rw [tally_self, et, mb_runs_self, hb]
    rfl
theorem fx_eq {x : st_M} {k : Nat} {c : st_B} {h : Bool} {rg : Nat → UInt64} (hb : mb x k = fb_had c h) (hr : ∀ i, i < 8 → mg_register x i = rg i) (ha : fc_ix c.2.1 8 = true) (hbb : fc_ix c.2.2.1 8 = true) : fb_x (mb x k) (mg_register x) = fb_x c rg ∧ fb_y (mb x k) (mg_register x) = fb_y c rg := by
  rw [hb]
  exact ⟨hr _ (ix_nat (n := 8) rfl (by decide) ha).2, hr _ (ix_nat (n := 8) rfl (by decide) hbb).2⟩
theorem pr_3 {t : st_T} {x : st_M} {k : Nat} {on : Bool} (hk : k < 8) (R : rlT t x) (hok : fb_ok (t.2.2.1 k)) (h1 : (t.2.2.1 k).1 = 3) : rlT (fs_blk t k on) (ms_perform x k on) ∧ ma_perform x k on = false := by
  obtain ⟨h, hb, hh⟩ := R.2.2.1 k hk
  have e1 : mg_block x k = 3 := (congrArg (fun b : st_B => b.1) hb).trans h1
  have e4 : mg_third x k = (t.2.2.1 k).2.2.2.1 := congrArg (fun b : st_B => b.2.2.2.1) hb
  have ho := ok_3 hok.1 h1
  obtain ⟨f1, f2⟩ := fx_eq hb R.2.1 ho.1 ho.2.1
  obtain ⟨q1, q2⟩ := pf_3 (on := on) (show ¬ mg_block x k = 0 by rw [e1]; decide) (by rw [e1]; decide) e1
  rw [q1, q2, f1, f2, e4]
  refine ⟨?_, rfl⟩
  unfold fs_blk
  obtain ⟨-, z1, z2, z3⟩ := ev3 (on := on) (bt := t.1) (rg := t.2.1) h1
  rw [z1, z2, z3]
  have hB : rl_B (mb (ms_runs x k) k) (fb_runs (t.2.2.1 k)) := ⟨h, by rw [mb_runs_self, hb]; rfl, fun q => hh q⟩
  cases on
  · rw [if_neg (by decide), if_neg (by decide)]
    exact mkT R (fun i hi => (R.1 i hi).trans up_same.symm) R.2.1 (fun j hj => mb_runs_ne x hj) hB rfl rfl rfl
  · rw [if_pos rfl, if_pos rfl]
    exact mkT R (fun i hi => up_agree R.1 rfl i hi) R.2.1 (fun j hj => mb_runs_ne x hj) hB rfl rfl rfl
theorem pr_off {t : st_T} {x : st_M} {k : Nat} (hk : k < 8) (R : rlT t x) (hok : fb_ok (t.2.2.1 k)) (hiv : iv_B (t.2.2.1 k)) (n0 : ¬ (t.2.2.1 k).1 = 0) (n1 : ¬ (t.2.2.1 k).1 = 1) (n2 : ¬ (t.2.2.1 k).1 = 2) (n3 : ¬ (t.2.2.1 k).1 = 3) : fb_runb (t.2.2.1 k) false t.2.1 = true ∧ rlT (fs_blk t k false) (ms_perform x k false) ∧ ma_perform x k false = false := by
  obtain ⟨h, hb, hh⟩ := R.2.2.1 k hk
  have e1 : mg_block x k = (t.2.2.1 k).1 := congrArg (fun b : st_B => b.1) hb
  have g3 : 3 ≤ (t.2.2.1 k).1 := by
    rcases blk_kind hok.1 with q | q | q | q | q | q | q | q | q | q
    all_goals first | exact absurd q (by assumption) | (rw [q]; decide)
  obtain ⟨q1, q2⟩ := pf_off (x := x) (k := k) (on := false) (by rw [e1]; exact n0) (by rw [e1]; exact g3) (by rw [e1]; exact n3) rfl
  rw [q1, q2]
  have key : ∀ k' : st_B, fb_run (t.2.2.1 k) false t.1 t.2.1 = k' → fb_runz (t.2.2.1 k) false t.1 t.2.1 = t.1 → fb_rund (t.2.2.1 k) false t.2.1 = t.2.1 → fb_sums (fb_runs (t.2.2.1 k)) FP.dconst0 FP.dconst0 = k' → rlT (fs_blk t k false) (mu_last (mu_sum (ms_runs x k) (va_up (mg_sum x) k FP.dconst0)) (va_up (mg_last x) k FP.dconst0)) := by
    intro k' z1 z2 z3 z4
    unfold fs_blk
    rw [z1, z2, z3]
    refine mkT R R.1 R.2.1 (fun j hj => (mb_sums_ne (ms_runs x k) _ _ hj).trans (mb_runs_ne x hj)) ⟨h, ?_, ?_⟩ rfl rfl rfl
    · exact (mb_sums_self (ms_runs x k) k _ _).trans (by rw [mb_runs_self, hb, ← z4]; rfl)
    · rw [← z4]
      exact fun q => hh q
  by_cases h9 : (t.2.2.1 k).1 = 9
  · obtain ⟨z0, z1, z2, z3⟩ := ev9 (on := false) (bt := t.1) (rg := t.2.1) h9
    refine ⟨z0, key _ rfl z1 z2 ?_, rfl⟩
    unfold fb_run
    rw [z0, z3]
    rfl
  · obtain ⟨z0, z1, z2, z3⟩ := ev4 (on := false) (bt := t.1) (rg := t.2.1) n0 n1 n2 n3 h9
    refine ⟨z0, key _ rfl z1 z2 ?_, rfl⟩
    unfold fb_run
    rw [z0, z3]
    obtain ⟨s1, s2⟩ := hiv.1 h9
    show fb_sums (fb_runs (t.2.2.1 k)) FP.dconst0 FP.dconst0 = fb_runs (t.2.2.1 k)
    unfold fb_sums fb_runs
    rw [s1, s2]
-- RECKON
theorem rk_same (x : st_M) (k : Nat) : mg_bit (ms_reckon x k) = mg_bit x ∧ mg_all (ms_reckon x k) = mg_all x ∧ mg_halted (ms_reckon x k) = mg_halted x ∧ mg_by (ms_reckon x k) = mg_by x ∧ mg_guarded (ms_reckon x k) = mg_guarded x := by
  unfold ms_reckon ms_keep ms_r9
  repeat' split
  all_goals exact ⟨rfl, rfl, rfl, rfl, rfl⟩
theorem r9_same (x : st_M) (k : Nat) : mg_register (ms_r9 x k) = mg_register x ∧ mg_third (ms_r9 x k) = mg_third x := by
  unfold ms_r9
  repeat' split
  all_goals exact ⟨rfl, rfl⟩
theorem rk_nb {x : st_M} {k : Nat} {c : st_B} {h : Bool} {rg : Nat → UInt64} {V : UInt64} (hb : mb x k = fb_had c h) (hr : ∀ i, i < 8 → mg_register x i = rg i) (hbad : mk_bad x k = false) (hv : mk_v x k = V) (hnn : FP.Core.val64 V ≠ .nan) : ma_reckon x k = !fc_val V ∧ (∀ i, i < 8 → mg_register (ms_reckon x k) i = fb_keepr c V rg i) ∧ ∀ j, mb (ms_reckon x k) j = mb (ms_r9 x k) j := by
  have e4 : mg_third x k = c.2.2.2.1 := congrArg (fun b : st_B => b.2.2.2.1) hb
  obtain ⟨s1, s2⟩ := r9_same x k
  unfold ma_reckon ms_reckon fb_keepr
  rw [hbad, hv, out_val hnn]
  cases q : fc_val V
  · refine ⟨rfl, fun i hi => ?_, fun j => rfl⟩
    show mg_register (ms_r9 x k) i = rg i
    rw [s1]
    exact hr i hi
  · refine ⟨rfl, fun i hi => ?_, fun j => rfl⟩
    show va_up (mg_register (ms_r9 x k)) (mg_third (ms_r9 x k) k).toNatClampNeg V i = va_up rg (fb_c c) V i
    rw [s1, s2, e4]
    exact up_agreeD hr rfl i hi
theorem rk_rel {x : st_M} {k : Nat} {c : st_B} {h : Bool} {bt : Nat → Bool} {rg : Nat → UInt64} (hb : mb x k = fb_had c h) (hr : ∀ i, i < 8 → mg_register x i = rg i) (hok : fb_ok c) (hrg : rg_ok rg) (n0 : ¬ c.1 = 0) (n1 : ¬ c.1 = 1) (n2 : ¬ c.1 = 2) (n3 : ¬ c.1 = 3) :
    ma_reckon x k = !fb_runb c true rg ∧ (∀ i, i < 8 → mg_register (ms_reckon x k) i = fb_rund c true rg i) ∧ (∀ j, j ≠ k → mb (ms_reckon x k) j = mb x j) ∧ ∃ c' : st_B, mb (ms_reckon x k) k = fb_had c' h ∧ ((¬ c.1 = 9 ∧ c' = c) ∨ (c.1 = 9 ∧ c' = fb_sums c (fb_sum c rg) (fb_e c rg))) := by
  have e1 : mg_block x k = c.1 := congrArg (fun b : st_B => b.1) hb
  have e5 : mg_amount x k = c.2.2.2.2.1 := congrArg (fun b : st_B => b.2.2.2.2.1) hb
  have ho := ok_r hok.1 n0 n1 n2 n3
  obtain ⟨f1, f2⟩ := fx_eq hb hr ho.1 ho.2.1
  have kx : sd_K 1063 (fb_x c rg) := val_K (hrg _ (ix_nat (n := 8) rfl (by decide) ho.1).2)
  have ky : sd_K 1063 (fb_y c rg) := val_K (hrg _ (ix_nat (n := 8) rfl (by decide) ho.2.1).2)
  by_cases h9 : c.1 = 9
  · have e9 : mg_block x k = 9 := e1.trans h9
    obtain ⟨z0, z1, z2, z3⟩ := ev9 (on := true) (bt := bt) (rg := rg) h9
    have fe : fb_e (mb x k) (mg_register x) = fb_e c rg := by
      unfold fb_e
      rw [f1, f2]
    have fs : fb_sum (mb x k) (mg_register x) = fb_sum c rg := by
      unfold fb_sum
      rw [fe, hb]
      rfl
    have fv : fb_v (mb x k) (mg_register x) = fb_v c rg := by
      unfold fb_v
      rw [fe, fs, hb]
      rfl
    have kn := setg_K (ok_9 hok.1 (Or.inr h9))
    have k1 : sd_K 1065 (fb_e c rg) := ke_e ky kx
    have k3 : sd_K 1033 (fb_sum c rg) := lim_K ((ke_s hok.2.1 k1).fin (by decide)).ne_nan
    have k8 : sd_K 1081 (fb_v c rg) := ke_v kn (ke_t (ke_a k1 k3) (ke_h (ke_c k1 hok.2.2)))
    have hbad : mk_bad x k = false := by simp [mk_bad, e9]
    have hv : mk_v x k = fb_v c rg := by
      unfold mk_v
      rw [e9, fv]
      rfl
    obtain ⟨a1, a2, a3⟩ := rk_nb hb hr hbad hv (k8.fin (by decide)).ne_nan
    have er : ms_r9 x k = mu_last (mu_sum x (va_up (mg_sum x) k (fb_sum c rg))) (va_up (mg_last x) k (fb_e c rg)) := by
      unfold ms_r9
      rw [e9, fs, fe]
      rfl
    refine ⟨a1.trans (by rw [z0]; rfl), fun i hi => (a2 i hi).trans (by rw [z2]; rfl), fun j hj => ?_, fb_sums c (fb_sum c rg) (fb_e c rg), ?_, Or.inr ⟨h9, rfl⟩⟩
    · rw [a3, er]
      exact mb_sums_ne x _ _ hj
    · rw [a3, er]
      exact (mb_sums_self x k _ _).trans (by rw [hb]; rfl)
  · obtain ⟨z0, z1, z2, z3⟩ := ev4 (on := true) (bt := bt) (rg := rg) n0 n1 n2 n3 h9
    have z0' : fb_runb c true rg = fb_calcb c rg := z0
    have z2' : fb_rund c true rg = fb_calcr c rg := z2
    rw [z0', z2']
    have fin : ∀ V, ms_r9 x k = x → mk_bad x k = false → mk_v x k = V → FP.Core.val64 V ≠ .nan → fb_calcb c rg = fc_val V → fb_calcr c rg = fb_keepr c V rg →
        ma_reckon x k = !fb_calcb c rg ∧ (∀ i, i < 8 → mg_register (ms_reckon x k) i = fb_calcr c rg i) ∧ (∀ j, j ≠ k → mb (ms_reckon x k) j = mb x j) ∧ ∃ c' : st_B, mb (ms_reckon x k) k = fb_had c' h ∧ ((¬ c.1 = 9 ∧ c' = c) ∨ (c.1 = 9 ∧ c' = fb_sums c (fb_sum c rg) (fb_e c rg))) := by
      intro V er hbad hv hnn y1 y2
      obtain ⟨a1, a2, a3⟩ := rk_nb hb hr hbad hv hnn
      rw [y1, y2]
      exact ⟨a1, a2, fun j hj => by rw [a3, er], c, by rw [a3, er]; exact hb, Or.inl ⟨h9, rfl⟩⟩
    have bad : ma_reckon x k = true → ms_reckon x k = x → fb_calcb c rg = false → fb_calcr c rg = rg →
        ma_reckon x k = !fb_calcb c rg ∧ (∀ i, i < 8 → mg_register (ms_reckon x k) i = fb_calcr c rg i) ∧ (∀ j, j ≠ k → mb (ms_reckon x k) j = mb x j) ∧ ∃ c' : st_B, mb (ms_reckon x k) k = fb_had c' h ∧ ((¬ c.1 = 9 ∧ c' = c) ∨ (c.1 = 9 ∧ c' = fb_sums c (fb_sum c rg) (fb_e c rg))) := by
      intro y0 y1 y2 y3
      rw [y0, y1, y2, y3]
      exact ⟨rfl, hr, fun j _ => rfl, c, hb, Or.inl ⟨h9, rfl⟩⟩
    rcases blk_kind hok.1 with q | q | q | q | q | q | q | q | q | q
    · exact absurd q n0
    · exact absurd q n1
    · exact absurd q n2
    · exact absurd q n3
    · have e := e1.trans q
      exact fin (FP.dadd (fb_x c rg) (fb_y c rg)) (by unfold ms_r9; rw [e]; rfl) (by simp [mk_bad, e]) (by unfold mk_v; rw [e, f1, f2]; rfl) ((sd_add kx ky (by decide)).fin (by decide)).ne_nan (by simp [fb_calcb, q]) (by simp [fb_calcr, q])
    · have e := e1.trans q
      exact fin (FP.dsub (fb_x c rg) (fb_y c rg)) (by unfold ms_r9; rw [e]; rfl) (by simp [mk_bad, e]) (by unfold mk_v; rw [e, f1, f2]; rfl) ((sd_sub kx ky (by decide)).fin (by decide)).ne_nan (by simp [fb_calcb, q]) (by simp [fb_calcr, q])
    · have e := e1.trans q
      exact fin (FP.dmul (fb_x c rg) (fb_y c rg)) (by unfold ms_r9; rw [e]; rfl) (by simp [mk_bad, e]) (by unfold mk_v; rw [e, f1, f2]; rfl) ((sd_mul kx ky (by decide) (by decide)).fin (by decide)).ne_nan (by simp [fb_calcb, q]) (by simp [fb_calcr, q])
    · have e := e1.trans q
      cases hz : sd_eq (fb_y c rg) FP.dconst0
      · exact fin (FP.ddiv (fb_x c rg) (fb_y c rg)) (by unfold ms_r9; rw [e]; rfl) (by unfold mk_bad; rw [e, f2]; exact hz) (by unfold mk_v; rw [e, f1, f2]; rfl) (nn_val (sd_div (kx.fin (by decide)) (ky.fin (by decide)) hz)) (by simp [fb_calcb, q, hz]) (by simp [fb_calcr, q, hz])
      · have hbd : mk_bad x k = true := by
          unfold mk_bad
          rw [e, f2]
          exact hz
        exact bad (by unfold ma_reckon; rw [hbd]; rfl) (if_pos hbd) (by simp [fb_calcb, q, hz]) (by simp [fb_calcr, q, hz])
    · have e := e1.trans q
      have hn : FP.Core.val64 c.2.2.2.2.1 ≠ .nan := ((setg_K (ok_9 hok.1 (Or.inl q))).fin (by decide)).ne_nan
      have hy : FP.Core.val64 (fb_y c rg) ≠ .nan := (ky.fin (by decide)).ne_nan
      have hxn : FP.Core.val64 (fb_x c rg) ≠ .nan := (kx.fin (by decide)).ne_nan
      have ht := (sd_tri hy hn).1
      cases hz : sd_le (fb_y c rg) c.2.2.2.2.1
      · have hbd : mk_bad x k = true := by
          unfold mk_bad
          rw [e, f2, e5]
          show sd_gt (fb_y c rg) c.2.2.2.2.1 = true
          rw [ht, hz]
          rfl
        exact bad (by unfold ma_reckon; rw [hbd]; rfl) (if_pos hbd) (by simp [fb_calcb, q, hz]) (by simp [fb_calcr, q, hz])
      · rw [hz] at ht
        have hlm : FP.Core.val64 (fc_lim (fb_x c rg) (fb_y c rg) c.2.2.2.2.1) ≠ .nan := by
          unfold fc_lim
          split
          · exact hy
          · split
            · exact hn
            · exact hxn
        exact fin (fc_lim (fb_x c rg) (fb_y c rg) c.2.2.2.2.1) (by unfold ms_r9; rw [e]; rfl) (by unfold mk_bad; rw [e, f2, e5]; exact ht) (by unfold mk_v; rw [e, f1, f2, e5]; exact lim_eq ht) hlm (by simp [fb_calcb, q, hz]) (by simp [fb_calcr, q, hz])
    · exact absurd q h9
theorem hlt_nI {k : Nat} (hk : k < 8) : fs_hlt (nI k) = true := by
  unfold fs_hlt
  rw [decide_eq_true_eq]
  intro q
  have := congrArg Int32.toInt q
  rw [nI_toInt (Nat.lt_trans hk (by decide))] at this
  have e : (-1 : Int32).toInt = -1 := by decide
  omega
theorem off_agree {f g : Nat → Bool} (h : ∀ i, i < 24 → f i = g i) : ∀ i, i < 24 → fs_off f i = fs_off g i := by
  unfold fs_off
  exact up_agree (up_agree (up_agree (up_agree (up_agree (up_agree (up_agree (up_agree h rfl) rfl) rfl) rfl) rfl) rfl) rfl) rfl
theorem mb_by (x : st_M) (v : Int32) (j : Nat) : mb (mu_by x v) j = mb x j := rfl
theorem mb_hal (x : st_M) (v : Bool) (j : Nat) : mb (mu_halted x v) j = mb x j := rfl
theorem mb_bt (x : st_M) (v : Nat → Bool) (j : Nat) : mb (mu_bit x v) j = mb x j := rfl
theorem mb_wrong_ne (x : st_M) {k j : Nat} (h : j ≠ k) : mb (ms_wrong x k) j = mb x j := by
  unfold ms_wrong
  split
  · rw [mb_bt]
    exact mb_flt_ne x h
  · rw [mb_by, mb_hal, mb_bt]
    exact mb_flt_ne x h
theorem mb_wrong_self (x : st_M) (k : Nat) : mb (ms_wrong x k) k = fb_flts (mb x k) := by
  unfold ms_wrong
  split
  · rw [mb_bt]
    exact mb_flt_self x k
  · rw [mb_by, mb_hal, mb_bt]
    exact mb_flt_self x k
theorem pr_on {t : st_T} {x : st_M} {k : Nat} (hk : k < 8) (R : rlT t x) (hok : fb_ok (t.2.2.1 k)) (hrg : rg_ok t.2.1) (hnh : fs_hlt t.2.2.2.2 = false) (n0 : ¬ (t.2.2.1 k).1 = 0) (n1 : ¬ (t.2.2.1 k).1 = 1) (n2 : ¬ (t.2.2.1 k).1 = 2) (n3 : ¬ (t.2.2.1 k).1 = 3) :
    (fb_runb (t.2.2.1 k) true t.2.1 = true → rlT (fs_blk t k true) (ms_perform x k true) ∧ ma_perform x k true = false) ∧ (fb_runb (t.2.2.1 k) true t.2.1 = false → rlT (fs_fault (fs_blk t k true) k) (ms_perform x k true) ∧ ma_perform x k true = fs_hlt (fs_fault (fs_blk t k true) k).2.2.2.2) := by
  obtain ⟨h, hb, hh⟩ := R.2.2.1 k hk
  have e1 : mg_block x k = (t.2.2.1 k).1 := congrArg (fun b : st_B => b.1) hb
  have e6 : mg_guarded x k = (t.2.2.1 k).2.2.2.2.2.1 := congrArg (fun b : st_B => b.2.2.2.2.2.1) hb
  have g3 : 3 ≤ (t.2.2.1 k).1 := by
    rcases blk_kind hok.1 with q | q | q | q | q | q | q | q | q | q
    all_goals first | exact absurd q (by assumption) | (rw [q]; decide)
  have hb1 : mb (ms_runs x k) k = fb_had (fb_runs (t.2.2.1 k)) h := by
    rw [mb_runs_self, hb]
    rfl
  obtain ⟨a1, a2, a3, c', a4, a5⟩ := rk_rel (x := ms_runs x k) (k := k) (c := fb_runs (t.2.2.1 k)) (bt := t.1) (rg := t.2.1) hb1 R.2.1 hok hrg n0 n1 n2 n3
  have a1' : ma_reckon (ms_runs x k) k = !fb_runb (t.2.2.1 k) true t.2.1 := a1
  have a2' : ∀ i, i < 8 → mg_register (ms_reckon (ms_runs x k) k) i = fb_rund (t.2.2.1 k) true t.2.1 i := a2
  obtain ⟨s1, s2, s3, s4, s5⟩ := rk_same (ms_runs x k) k
  have zz : fb_runz (t.2.2.1 k) true t.1 t.2.1 = t.1 ∧ fb_run1 (fb_runs (t.2.2.1 k)) true t.1 t.2.1 = c' ∧ c'.1 = (t.2.2.1 k).1 ∧ c'.2.2.2.2.2.2.2.1 = (t.2.2.1 k).2.2.2.2.2.2.2.1 := by
    rcases a5 with ⟨h9, rfl⟩ | ⟨h9, rfl⟩
    · obtain ⟨-, z1, -, z3⟩ := ev4 (x := t.2.2.1 k) (on := true) (bt := t.1) (rg := t.2.1) n0 n1 n2 n3 h9
      exact ⟨z1, z3, rfl, rfl⟩
    · obtain ⟨-, z1, -, z3⟩ := ev9 (x := t.2.2.1 k) (on := true) (bt := t.1) (rg := t.2.1) h9
      exact ⟨z1, z3, rfl, rfl⟩
  obtain ⟨z1, z3, z4, z5⟩ := zz
  have ga : ¬ mg_block x k = 0 := by rw [e1]; exact n0
  have gb : 3 ≤ mg_block x k := by rw [e1]; exact g3
  have gc : ¬ mg_block x k = 3 := by rw [e1]; exact n3
  constructor
  · intro hr
    obtain ⟨q1, q2⟩ := pf_ok (on := true) ga gb gc rfl (by rw [a1', hr]; rfl)
    rw [q1, q2]
    refine ⟨?_, rfl⟩
    unfold fs_blk fb_run
    rw [if_pos hr, z1, z3]
    exact mkT R (fun i hi => by rw [s1]; exact R.1 i hi) a2' (fun j hj => (a3 j hj).trans (mb_runs_ne x hj)) ⟨h, a4, fun q => by rw [z5]; exact hh (z4.symm.trans q)⟩ s2 s3 s4
  · intro hr
    obtain ⟨q1, q2⟩ := pf_bad (on := true) ga gb gc rfl (by rw [a1', hr]; rfl)
    have e6' : mg_guarded (ms_reckon (ms_runs x k) k) k = (t.2.2.1 k).2.2.2.2.2.1 := by
      rw [s5]
      exact e6
    have eB : fs_blk t k true = (t.1, fb_rund (t.2.2.1 k) true t.2.1, va_up t.2.2.1 k (fb_flts c'), t.2.2.2.1, t.2.2.2.2) := by
      unfold fs_blk fb_run
      rw [if_neg (by rw [hr]; decide), z1, z3]
    have e9 : c'.2.2.2.2.2.1 = (t.2.2.1 k).2.2.2.2.2.1 := by
      rcases a5 with ⟨-, rfl⟩ | ⟨-, rfl⟩
      · rfl
      · rfl
    have eg : ((fs_blk t k true).2.2.1 k).2.2.2.2.2.1 = (t.2.2.1 k).2.2.2.2.2.1 := by
      rw [eB]
      show (va_up t.2.2.1 k (fb_flts c') k).2.2.2.2.2.1 = _
      rw [va_up_self]
      exact e9
    have hB : rl_B (mb (ms_wrong (ms_reckon (ms_runs x k) k) k) k) (fb_flts c') := ⟨h, by rw [mb_wrong_self, a4]; rfl, fun q => by show h = c'.2.2.2.2.2.2.2.1; rw [z5]; exact hh (z4.symm.trans q)⟩
    have hne : ∀ j, j ≠ k → mb (ms_wrong (ms_reckon (ms_runs x k) k) k) j = mb x j := fun j hj => (mb_wrong_ne _ hj).trans ((a3 j hj).trans (mb_runs_ne x hj))
    have hbl : ∀ j, j < 8 → rl_B (mb (ms_wrong (ms_reckon (ms_runs x k) k) k) j) (va_up t.2.2.1 k (fb_flts c') j) := by
      intro j hj
      by_cases q : j = k
      · rw [q, va_up_self]
        exact hB
      · rw [va_up_ne _ _ q, hne j q]
        exact R.2.2.1 j hj
    rw [q1, q2, e6']
    unfold fs_fault
    rw [eg, eB]
    cases hgd : (t.2.2.1 k).2.2.2.2.2.1
    · have ew : ms_wrong (ms_reckon (ms_runs x k) k) k = mu_by (mu_halted (mu_bit (ms_flt (ms_reckon (ms_runs x k) k) k) (fs_off (mg_bit (ms_reckon (ms_runs x k) k)))) true) (nI k) := if_neg (by rw [e6', hgd]; decide)
      rw [if_neg (by decide)]
      refine ⟨⟨fun i hi => ?_, fun i hi => ?_, hbl, ?_, ?_, fun _ => ?_⟩, (hlt_nI hk).symm⟩
      · rw [ew]
        show fs_off (mg_bit (ms_reckon (ms_runs x k) k)) i = fs_off t.1 i
        rw [s1]
        exact off_agree R.1 i hi
      · rw [ew]
        exact a2' i hi
      · rw [ew]
        show mg_all (ms_reckon (ms_runs x k) k) + 1 = t.2.2.2.1 + 1
        rw [s2]
        exact congrArg (· + 1) R.2.2.2.1
      · rw [ew]
        exact (hlt_nI hk).symm
      · rw [ew]
    · have ew : ms_wrong (ms_reckon (ms_runs x k) k) k = mu_bit (ms_flt (ms_reckon (ms_runs x k) k) k) (va_up (mg_bit (ms_reckon (ms_runs x k) k)) 23 true) := if_pos (by rw [e6', hgd])
      rw [if_pos rfl]
      refine ⟨⟨fun i hi => ?_, fun i hi => ?_, hbl, ?_, ?_, fun hq => ?_⟩, hnh.symm⟩
      · rw [ew]
        show va_up (mg_bit (ms_reckon (ms_runs x k) k)) 23 true i = va_up t.1 23 true i
        rw [s1]
        exact up_agree R.1 rfl i hi
      · rw [ew]
        exact a2' i hi
      · rw [ew]
        show mg_all (ms_reckon (ms_runs x k) k) + 1 = t.2.2.2.1 + 1
        rw [s2]
        exact congrArg (· + 1) R.2.2.2.1
      · rw [ew]
        exact s3.trans R.2.2.2.2.1
      · rw [ew] at hq ⊢
        exact s4.trans (R.2.2.2.2.2 (s3.symm.trans hq))
theorem pf_rel {t : st_T} {x : st_M} {k : Nat} {on : Bool} (hk : k < 8) (R : rlT t x) (hok : fb_ok (t.2.2.1 k)) (hrg : rg_ok t.2.1) (hiv : iv_B (t.2.2.1 k)) (hnh : fs_hlt t.2.2.2.2 = false) :
    rlT (if fb_runb (t.2.2.1 k) on t.2.1 = true then fs_blk t k on else fs_fault (fs_blk t k on) k) (ms_perform x k on) ∧ ma_perform x k on = fs_hlt (if fb_runb (t.2.2.1 k) on t.2.1 = true then fs_blk t k on else fs_fault (fs_blk t k on) k).2.2.2.2 := by
  have nof : fb_runb (t.2.2.1 k) on t.2.1 = true → rlT (fs_blk t k on) (ms_perform x k on) ∧ ma_perform x k on = false → rlT (if fb_runb (t.2.2.1 k) on t.2.1 = true then fs_blk t k on else fs_fault (fs_blk t k on) k) (ms_perform x k on) ∧ ma_perform x k on = fs_hlt (if fb_runb (t.2.2.1 k) on t.2.1 = true then fs_blk t k on else fs_fault (fs_blk t k on) k).2.2.2.2 := by
    intro h1 h2
    rw [if_pos h1]
    exact ⟨h2.1, h2.2.trans hnh.symm⟩
  by_cases n0 : (t.2.2.1 k).1 = 0
  · exact nof (ev0 (bt := t.1) n0).1 (pr_0 hk R n0)
  by_cases n1 : (t.2.2.1 k).1 = 1
  · exact nof (ev1 (bt := t.1) n1).1 (pr_1 hk R hok hiv n1)
  by_cases n2 : (t.2.2.1 k).1 = 2
  · exact nof (ev2 (bt := t.1) n2).1 (pr_2 hk R hok hiv n2)
  by_cases n3 : (t.2.2.1 k).1 = 3
  · exact nof (ev3 (bt := t.1) n3).1 (pr_3 hk R hok n3)
  cases on
  · obtain ⟨h1, h2⟩ := pr_off hk R hok hiv n0 n1 n2 n3
    exact nof h1 h2
  · obtain ⟨h1, h2⟩ := pr_on hk R hok hrg hnh n0 n1 n2 n3
    cases q : fb_runb (t.2.2.1 k) true t.2.1
    · rw [if_neg (by decide)]
      exact h2 q
    · rw [if_pos rfl]
      exact ⟨(h1 q).1, (h1 q).2.trans hnh.symm⟩
