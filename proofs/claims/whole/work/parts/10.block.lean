set_option maxHeartbeats 4000000 in
set_option maxRecDepth 100000 in
theorem c_X0_become (l : Launch) (dC : Nat → ClassId) (dI : Nat → Nat → Nat) (ha : Nat) (x : st_B) (k a0 b0 c0 : Int32) (n : UInt64) (sz : Nat)  : Met l yX0_become wX0_become ({ frames := 0, cells := 0, slots := 0, locals := 0 }) (sf_PV (dC, dI) vwCl [] ([wp_B ha x]) sz [.ref ha, .int k, .int a0, .int b0, .int c0, .double n]) (sf_V (dC, dI) vwCl (some (.int x.1)) ([wp_B ha x]) ([wp_B ha (fb_become x k a0 b0 c0 n)])) 0 0 (va_A ([wp_B ha x]) sz) := by
  refine Met.ofW (cc := cX0_become) (maxL := 8) (ret := (some .int)) (by decide) rfl ?_
  intro p e s m args below meth c s₁ B hml hv
  have hx := B.exec
  have hb := B.bytes
  have hr := B.returns
  have hts := atoms_spec (ws := wX0_become) B.pre
  have hg : ∀ w ∈ gw_all, w.before args s = true := fun w h => hts w (List.mem_cons_of_mem _ h)
  have hown : s.vm.findClass RX0 = some m.cls := findClass_of_methodNamed B.named
  have hlocks := B.notSynchronized
  obtain ⟨rfl, hsz, hP, hD0, hK, hZ⟩ := hv
  subst hsz
  have hl := lv_entry ([.ref ha, .int k, .int a0, .int b0, .int c0, .double n]) (n := 8) (Nat.le_of_ble_eq_true rfl)
  rw [lg_entry_eq]
  generalize (lg_sl ([.ref ha, .int k, .int a0, .int b0, .int c0, .double n]) ++ List.replicate (8 - (lg_sl ([.ref ha, .int k, .int a0, .int b0, .int c0, .double n])).length) Slot.unset).toArray = ls at hl ⊢
  have hl : lv_has ls 8 [(0, .ref ha), (1, .int k), (2, .int a0), (3, .int b0), (4, .int c0), (5, .double n)] := hl
  obtain ⟨A, hAe⟩ : ∃ A : Nat → Prop, A = va_A ([wp_B ha x]) s.heap.size := ⟨_, rfl⟩
  have hD := hD0.self (sz := s.heap.size)
  rw [← hAe] at hD
  have hA : ∀ q : Nat, s.heap.size ≤ q → A q := fun q h => by rw [hAe]; exact Or.inr h
  have hS : va_S A s.heap s.heap [] := va_S.rf
  have hP : va_P (dC, dI) vwCl [(ha, .inr (0, [.int x.1, .int x.2.1, .int x.2.2.1, .int x.2.2.2.1, .double x.2.2.2.2.1, .int (sf_b x.2.2.2.2.2.1), .int x.2.2.2.2.2.2.1, .int (sf_b x.2.2.2.2.2.2.2.1), .double x.2.2.2.2.2.2.2.2.1, .double x.2.2.2.2.2.2.2.2.2.1, .int x.2.2.2.2.2.2.2.2.2.2.1, .int x.2.2.2.2.2.2.2.2.2.2.2]))] s.heap := hP
  have hD : va_D A [(ha, .inr (0, [.int x.1, .int x.2.1, .int x.2.2.1, .int x.2.2.2.1, .double x.2.2.2.2.1, .int (sf_b x.2.2.2.2.2.1), .int x.2.2.2.2.2.2.1, .int (sf_b x.2.2.2.2.2.2.2.1), .double x.2.2.2.2.2.2.2.2.1, .double x.2.2.2.2.2.2.2.2.2.1, .int x.2.2.2.2.2.2.2.2.2.2.1, .int x.2.2.2.2.2.2.2.2.2.2.2]))] := hD
  refine lv_aload_n hx hb dX0_become_0 rfl (lv_at hl 0 rfl) ?_
  refine va_get (D := (dC, dI)) (ci := 0) (v := .int x.1) (C := RX0) (T := TX0) (N := 12) hx hb hg in_X0 hown hK hP 0 rfl rfl 0 (by decide) (hg _ mw_81) (fun _ h9 => h9) rfl dX0_become_1 ?_
  refine lv_istore (lv' := [(7, .int x.1), (0, .ref ha), (1, .int k), (2, .int a0), (3, .int b0), (4, .int c0), (5, .double n)]) hx hb dX0_become_4 hl (by decide) rfl (fun ls hl => ?_)
  refine lv_aload_n hx hb dX0_become_6 rfl (lv_at hl 1 rfl) ?_
  refine lv_iload_n hx hb dX0_become_7 rfl (lv_at hl 2 rfl) ?_
  refine va_put (D := (dC, dI)) (ci := 0) (v := .int k) (ty := .int) (C := RX0) (T := TX0) (N := 12) hx hb hg in_X0 tyX0 tyX0_ok nmX0 hown hK hP hD hS 0 rfl rfl 0 (by decide) (hg _ mw_81) (fun _ h9 => h9) rfl (by decide +kernel) rfl rfl (Nat.le_of_ble_eq_true rfl) dX0_become_8 (fun H locs hP hD hS => ?_)
  have hP : va_P (dC, dI) vwCl [(ha, .inr (0, [.int k, .int x.2.1, .int x.2.2.1, .int x.2.2.2.1, .double x.2.2.2.2.1, .int (sf_b x.2.2.2.2.2.1), .int x.2.2.2.2.2.2.1, .int (sf_b x.2.2.2.2.2.2.2.1), .double x.2.2.2.2.2.2.2.2.1, .double x.2.2.2.2.2.2.2.2.2.1, .int x.2.2.2.2.2.2.2.2.2.2.1, .int x.2.2.2.2.2.2.2.2.2.2.2]))] H := hP
  have hD : va_D A [(ha, .inr (0, [.int k, .int x.2.1, .int x.2.2.1, .int x.2.2.2.1, .double x.2.2.2.2.1, .int (sf_b x.2.2.2.2.2.1), .int x.2.2.2.2.2.2.1, .int (sf_b x.2.2.2.2.2.2.2.1), .double x.2.2.2.2.2.2.2.2.1, .double x.2.2.2.2.2.2.2.2.2.1, .int x.2.2.2.2.2.2.2.2.2.2.1, .int x.2.2.2.2.2.2.2.2.2.2.2]))] := hD
  refine lv_aload_n hx hb dX0_become_11 rfl (lv_at hl 1 rfl) ?_
  refine lv_iload_n hx hb dX0_become_12 rfl (lv_at hl 3 rfl) ?_
  refine va_put (D := (dC, dI)) (ci := 0) (v := .int a0) (ty := .int) (C := RX0) (T := TX0) (N := 12) hx hb hg in_X0 tyX0 tyX0_ok nmX0 hown hK hP hD hS 0 rfl rfl 1 (by decide) (hg _ mw_82) (fun _ h9 => h9) rfl (by decide +kernel) rfl rfl (Nat.le_of_ble_eq_true rfl) dX0_become_13 (fun H locs hP hD hS => ?_)
  have hP : va_P (dC, dI) vwCl [(ha, .inr (0, [.int k, .int a0, .int x.2.2.1, .int x.2.2.2.1, .double x.2.2.2.2.1, .int (sf_b x.2.2.2.2.2.1), .int x.2.2.2.2.2.2.1, .int (sf_b x.2.2.2.2.2.2.2.1), .double x.2.2.2.2.2.2.2.2.1, .double x.2.2.2.2.2.2.2.2.2.1, .int x.2.2.2.2.2.2.2.2.2.2.1, .int x.2.2.2.2.2.2.2.2.2.2.2]))] H := hP
  have hD : va_D A [(ha, .inr (0, [.int k, .int a0, .int x.2.2.1, .int x.2.2.2.1, .double x.2.2.2.2.1, .int (sf_b x.2.2.2.2.2.1), .int x.2.2.2.2.2.2.1, .int (sf_b x.2.2.2.2.2.2.2.1), .double x.2.2.2.2.2.2.2.2.1, .double x.2.2.2.2.2.2.2.2.2.1, .int x.2.2.2.2.2.2.2.2.2.2.1, .int x.2.2.2.2.2.2.2.2.2.2.2]))] := hD
  refine lv_aload_n hx hb dX0_become_16 rfl (lv_at hl 1 rfl) ?_
  refine lv_iload_n hx hb dX0_become_17 rfl (lv_at hl 4 rfl) ?_
  refine va_put (D := (dC, dI)) (ci := 0) (v := .int b0) (ty := .int) (C := RX0) (T := TX0) (N := 12) hx hb hg in_X0 tyX0 tyX0_ok nmX0 hown hK hP hD hS 0 rfl rfl 2 (by decide) (hg _ mw_83) (fun _ h9 => h9) rfl (by decide +kernel) rfl rfl (Nat.le_of_ble_eq_true rfl) dX0_become_18 (fun H locs hP hD hS => ?_)
  have hP : va_P (dC, dI) vwCl [(ha, .inr (0, [.int k, .int a0, .int b0, .int x.2.2.2.1, .double x.2.2.2.2.1, .int (sf_b x.2.2.2.2.2.1), .int x.2.2.2.2.2.2.1, .int (sf_b x.2.2.2.2.2.2.2.1), .double x.2.2.2.2.2.2.2.2.1, .double x.2.2.2.2.2.2.2.2.2.1, .int x.2.2.2.2.2.2.2.2.2.2.1, .int x.2.2.2.2.2.2.2.2.2.2.2]))] H := hP
  have hD : va_D A [(ha, .inr (0, [.int k, .int a0, .int b0, .int x.2.2.2.1, .double x.2.2.2.2.1, .int (sf_b x.2.2.2.2.2.1), .int x.2.2.2.2.2.2.1, .int (sf_b x.2.2.2.2.2.2.2.1), .double x.2.2.2.2.2.2.2.2.1, .double x.2.2.2.2.2.2.2.2.2.1, .int x.2.2.2.2.2.2.2.2.2.2.1, .int x.2.2.2.2.2.2.2.2.2.2.2]))] := hD
  refine lv_aload_n hx hb dX0_become_21 rfl (lv_at hl 1 rfl) ?_
  refine lv_iload hx hb dX0_become_22 (lv_at hl 5 rfl) ?_
  refine va_put (D := (dC, dI)) (ci := 0) (v := .int c0) (ty := .int) (C := RX0) (T := TX0) (N := 12) hx hb hg in_X0 tyX0 tyX0_ok nmX0 hown hK hP hD hS 0 rfl rfl 3 (by decide) (hg _ mw_84) (fun _ h9 => h9) rfl (by decide +kernel) rfl rfl (Nat.le_of_ble_eq_true rfl) dX0_become_24 (fun H locs hP hD hS => ?_)
  have hP : va_P (dC, dI) vwCl [(ha, .inr (0, [.int k, .int a0, .int b0, .int c0, .double x.2.2.2.2.1, .int (sf_b x.2.2.2.2.2.1), .int x.2.2.2.2.2.2.1, .int (sf_b x.2.2.2.2.2.2.2.1), .double x.2.2.2.2.2.2.2.2.1, .double x.2.2.2.2.2.2.2.2.2.1, .int x.2.2.2.2.2.2.2.2.2.2.1, .int x.2.2.2.2.2.2.2.2.2.2.2]))] H := hP
  have hD : va_D A [(ha, .inr (0, [.int k, .int a0, .int b0, .int c0, .double x.2.2.2.2.1, .int (sf_b x.2.2.2.2.2.1), .int x.2.2.2.2.2.2.1, .int (sf_b x.2.2.2.2.2.2.2.1), .double x.2.2.2.2.2.2.2.2.1, .double x.2.2.2.2.2.2.2.2.2.1, .int x.2.2.2.2.2.2.2.2.2.2.1, .int x.2.2.2.2.2.2.2.2.2.2.2]))] := hD
  refine lv_aload_n hx hb dX0_become_27 rfl (lv_at hl 1 rfl) ?_
  refine lv_dload hx hb dX0_become_28 (lv_at hl 6 rfl) ?_
  refine va_put (D := (dC, dI)) (ci := 0) (v := .double n) (ty := .double) (C := RX0) (T := TX0) (N := 12) hx hb hg in_X0 tyX0 tyX0_ok nmX0 hown hK hP hD hS 0 rfl rfl 4 (by decide) (hg _ mw_85) (fun _ h9 => h9) rfl (by decide +kernel) rfl rfl (Nat.le_of_ble_eq_true rfl) dX0_become_30 (fun H locs hP hD hS => ?_)
  have hP : va_P (dC, dI) vwCl [(ha, .inr (0, [.int k, .int a0, .int b0, .int c0, .double n, .int (sf_b x.2.2.2.2.2.1), .int x.2.2.2.2.2.2.1, .int (sf_b x.2.2.2.2.2.2.2.1), .double x.2.2.2.2.2.2.2.2.1, .double x.2.2.2.2.2.2.2.2.2.1, .int x.2.2.2.2.2.2.2.2.2.2.1, .int x.2.2.2.2.2.2.2.2.2.2.2]))] H := hP
  have hD : va_D A [(ha, .inr (0, [.int k, .int a0, .int b0, .int c0, .double n, .int (sf_b x.2.2.2.2.2.1), .int x.2.2.2.2.2.2.1, .int (sf_b x.2.2.2.2.2.2.2.1), .double x.2.2.2.2.2.2.2.2.1, .double x.2.2.2.2.2.2.2.2.2.1, .int x.2.2.2.2.2.2.2.2.2.2.1, .int x.2.2.2.2.2.2.2.2.2.2.2]))] := hD
  refine lv_aload_n hx hb dX0_become_33 rfl (lv_at hl 1 rfl) ?_
  refine lv_iconst (v := 0) hx hb dX0_become_34 (by decide) ?_
  refine va_put (D := (dC, dI)) (ci := 0) (v := .int 0) (ty := .int) (C := RX0) (T := TX0) (N := 12) hx hb hg in_X0 tyX0 tyX0_ok nmX0 hown hK hP hD hS 0 rfl rfl 6 (by decide) (hg _ mw_88) (fun _ h9 => h9) rfl (by decide +kernel) rfl rfl (Nat.le_of_ble_eq_true rfl) dX0_become_35 (fun H locs hP hD hS => ?_)
  have hP : va_P (dC, dI) vwCl [(ha, .inr (0, [.int k, .int a0, .int b0, .int c0, .double n, .int (sf_b x.2.2.2.2.2.1), .int 0, .int (sf_b x.2.2.2.2.2.2.2.1), .double x.2.2.2.2.2.2.2.2.1, .double x.2.2.2.2.2.2.2.2.2.1, .int x.2.2.2.2.2.2.2.2.2.2.1, .int x.2.2.2.2.2.2.2.2.2.2.2]))] H := hP
  have hD : va_D A [(ha, .inr (0, [.int k, .int a0, .int b0, .int c0, .double n, .int (sf_b x.2.2.2.2.2.1), .int 0, .int (sf_b x.2.2.2.2.2.2.2.1), .double x.2.2.2.2.2.2.2.2.1, .double x.2.2.2.2.2.2.2.2.2.1, .int x.2.2.2.2.2.2.2.2.2.2.1, .int x.2.2.2.2.2.2.2.2.2.2.2]))] := hD
  refine lv_aload_n hx hb dX0_become_38 rfl (lv_at hl 1 rfl) ?_
  refine lv_iconst (v := 0) hx hb dX0_become_39 (by decide) ?_
  refine sf_topi (y := sf_b false) rfl ?_
  refine va_put (D := (dC, dI)) (ci := 0) (v := .int (sf_b false)) (ty := .boolean) (C := RX0) (T := TX0) (N := 12) hx hb hg in_X0 tyX0 tyX0_ok nmX0 hown hK hP hD hS 0 rfl rfl 7 (by decide) (hg _ mw_89) (fun _ h9 => h9) rfl (by decide +kernel) (sf_b_nb _) (sf_b_fit _) (Nat.le_of_ble_eq_true rfl) dX0_become_40 (fun H locs hP hD hS => ?_)
  have hP : va_P (dC, dI) vwCl [(ha, .inr (0, [.int k, .int a0, .int b0, .int c0, .double n, .int (sf_b x.2.2.2.2.2.1), .int 0, .int (sf_b false), .double x.2.2.2.2.2.2.2.2.1, .double x.2.2.2.2.2.2.2.2.2.1, .int x.2.2.2.2.2.2.2.2.2.2.1, .int x.2.2.2.2.2.2.2.2.2.2.2]))] H := hP
  have hD : va_D A [(ha, .inr (0, [.int k, .int a0, .int b0, .int c0, .double n, .int (sf_b x.2.2.2.2.2.1), .int 0, .int (sf_b false), .double x.2.2.2.2.2.2.2.2.1, .double x.2.2.2.2.2.2.2.2.2.1, .int x.2.2.2.2.2.2.2.2.2.2.1, .int x.2.2.2.2.2.2.2.2.2.2.2]))] := hD
  refine lv_aload_n hx hb dX0_become_43 rfl (lv_at hl 1 rfl) ?_
  refine lv_dconst0 hx hb dX0_become_44 ?_
  refine va_put (D := (dC, dI)) (ci := 0) (v := .double FP.dconst0) (ty := .double) (C := RX0) (T := TX0) (N := 12) hx hb hg in_X0 tyX0 tyX0_ok nmX0 hown hK hP hD hS 0 rfl rfl 8 (by decide) (hg _ mw_90) (fun _ h9 => h9) rfl (by decide +kernel) rfl rfl (Nat.le_of_ble_eq_true rfl) dX0_become_45 (fun H locs hP hD hS => ?_)
  have hP : va_P (dC, dI) vwCl [(ha, .inr (0, [.int k, .int a0, .int b0, .int c0, .double n, .int (sf_b x.2.2.2.2.2.1), .int 0, .int (sf_b false), .double FP.dconst0, .double x.2.2.2.2.2.2.2.2.2.1, .int x.2.2.2.2.2.2.2.2.2.2.1, .int x.2.2.2.2.2.2.2.2.2.2.2]))] H := hP
  have hD : va_D A [(ha, .inr (0, [.int k, .int a0, .int b0, .int c0, .double n, .int (sf_b x.2.2.2.2.2.1), .int 0, .int (sf_b false), .double FP.dconst0, .double x.2.2.2.2.2.2.2.2.2.1, .int x.2.2.2.2.2.2.2.2.2.2.1, .int x.2.2.2.2.2.2.2.2.2.2.2]))] := hD
  refine lv_aload_n hx hb dX0_become_48 rfl (lv_at hl 1 rfl) ?_
  refine lv_dconst0 hx hb dX0_become_49 ?_
  refine va_put (D := (dC, dI)) (ci := 0) (v := .double FP.dconst0) (ty := .double) (C := RX0) (T := TX0) (N := 12) hx hb hg in_X0 tyX0 tyX0_ok nmX0 hown hK hP hD hS 0 rfl rfl 9 (by decide) (hg _ mw_91) (fun _ h9 => h9) rfl (by decide +kernel) rfl rfl (Nat.le_of_ble_eq_true rfl) dX0_become_50 (fun H locs hP hD hS => ?_)
  have hP : va_P (dC, dI) vwCl [(ha, .inr (0, [.int k, .int a0, .int b0, .int c0, .double n, .int (sf_b x.2.2.2.2.2.1), .int 0, .int (sf_b false), .double FP.dconst0, .double FP.dconst0, .int x.2.2.2.2.2.2.2.2.2.2.1, .int x.2.2.2.2.2.2.2.2.2.2.2]))] H := hP
  have hD : va_D A [(ha, .inr (0, [.int k, .int a0, .int b0, .int c0, .double n, .int (sf_b x.2.2.2.2.2.1), .int 0, .int (sf_b false), .double FP.dconst0, .double FP.dconst0, .int x.2.2.2.2.2.2.2.2.2.2.1, .int x.2.2.2.2.2.2.2.2.2.2.2]))] := hD
  refine lv_aload_n hx hb dX0_become_53 rfl (lv_at hl 1 rfl) ?_
  refine lv_iconst (v := 0) hx hb dX0_become_54 (by decide) ?_
  refine va_put (D := (dC, dI)) (ci := 0) (v := .int 0) (ty := .int) (C := RX0) (T := TX0) (N := 12) hx hb hg in_X0 tyX0 tyX0_ok nmX0 hown hK hP hD hS 0 rfl rfl 10 (by decide) (hg _ mw_92) (fun _ h9 => h9) rfl (by decide +kernel) rfl rfl (Nat.le_of_ble_eq_true rfl) dX0_become_55 (fun H locs hP hD hS => ?_)
  have hP : va_P (dC, dI) vwCl [(ha, .inr (0, [.int k, .int a0, .int b0, .int c0, .double n, .int (sf_b x.2.2.2.2.2.1), .int 0, .int (sf_b false), .double FP.dconst0, .double FP.dconst0, .int 0, .int x.2.2.2.2.2.2.2.2.2.2.2]))] H := hP
  have hD : va_D A [(ha, .inr (0, [.int k, .int a0, .int b0, .int c0, .double n, .int (sf_b x.2.2.2.2.2.1), .int 0, .int (sf_b false), .double FP.dconst0, .double FP.dconst0, .int 0, .int x.2.2.2.2.2.2.2.2.2.2.2]))] := hD
  refine lv_aload_n hx hb dX0_become_58 rfl (lv_at hl 1 rfl) ?_
  refine lv_iconst (v := 0) hx hb dX0_become_59 (by decide) ?_
  refine va_put (D := (dC, dI)) (ci := 0) (v := .int 0) (ty := .int) (C := RX0) (T := TX0) (N := 12) hx hb hg in_X0 tyX0 tyX0_ok nmX0 hown hK hP hD hS 0 rfl rfl 11 (by decide) (hg _ mw_93) (fun _ h9 => h9) rfl (by decide +kernel) rfl rfl (Nat.le_of_ble_eq_true rfl) dX0_become_60 (fun H locs hP hD hS => ?_)
  have hP : va_P (dC, dI) vwCl [(ha, .inr (0, [.int k, .int a0, .int b0, .int c0, .double n, .int (sf_b x.2.2.2.2.2.1), .int 0, .int (sf_b false), .double FP.dconst0, .double FP.dconst0, .int 0, .int 0]))] H := hP
  have hD : va_D A [(ha, .inr (0, [.int k, .int a0, .int b0, .int c0, .double n, .int (sf_b x.2.2.2.2.2.1), .int 0, .int (sf_b false), .double FP.dconst0, .double FP.dconst0, .int 0, .int 0]))] := hD
  refine lv_iload hx hb dX0_become_63 (lv_at hl 0 rfl) ?_
  have hP9 : va_P (dC, dI) vwCl ([wp_B ha (fb_become x k a0 b0 c0 n)]) H := by
    rw [show fb_become x k a0 b0 c0 n = (k, a0, b0, c0, n, x.2.2.2.2.2.1, 0, false, FP.dconst0, FP.dconst0, 0, 0) from by first | rfl | (simp [fb_become]; done)]
    exact hP
  have hD9 : va_D A ([wp_B ha (fb_become x k a0 b0 c0 n)]) := by
    rw [show fb_become x k a0 b0 c0 n = (k, a0, b0, c0, n, x.2.2.2.2.2.1, 0, false, FP.dconst0, FP.dconst0, 0, 0) from by first | rfl | (simp [fb_become]; done)]
    exact hD
  exact W.iret hx hb hr (fun t ht _ => ⟨rfl, by rw [ht]; exact hP9, hAe ▸ hD9, hAe ▸ hS.F ht⟩) (fun q hq => by rw [← hAe]; exact hS.2.2 q hq) dX0_become_65
set_option maxHeartbeats 4000000 in
set_option maxRecDepth 100000 in
theorem c_X0_tell (l : Launch) (dC : Nat → ClassId) (dI : Nat → Nat → Nat) (ha : Nat) (x : st_B) (wh : Int32)  : Met l yX0_tell wX0_tell ({ frames := 0, cells := 0, slots := 0, locals := 0 }) (sf_PR (dC, dI) vwCl [] ([wp_B ha x]) [.ref ha, .int wh]) (sf_R (some (.int (fb_tell x wh)))) 0 0 (fun _ => False) := by
  refine Met.ofW (cc := cX0_tell) (maxL := 2) (ret := (some .int)) (by decide) rfl ?_
  intro p e s m args below meth c s₁ B hml hv
  have hx := B.exec
  have hb := B.bytes
  have hr := B.returns
  have hts := atoms_spec (ws := wX0_tell) B.pre
  have hg : ∀ w ∈ gw_all, w.before args s = true := fun w h => hts w (List.mem_cons_of_mem _ h)
  have hown : s.vm.findClass RX0 = some m.cls := findClass_of_methodNamed B.named
  have hlocks := B.notSynchronized
  obtain ⟨rfl, hP, hK, hZ⟩ := hv
  have hl := lv_entry ([.ref ha, .int wh]) (n := 2) (Nat.le_of_ble_eq_true rfl)
  rw [lg_entry_eq]
  generalize (lg_sl ([.ref ha, .int wh]) ++ List.replicate (2 - (lg_sl ([.ref ha, .int wh])).length) Slot.unset).toArray = ls at hl ⊢
  have hl : lv_has ls 2 [(0, .ref ha), (1, .int wh)] := hl
  have hP : va_P (dC, dI) vwCl [(ha, .inr (0, [.int x.1, .int x.2.1, .int x.2.2.1, .int x.2.2.2.1, .double x.2.2.2.2.1, .int (sf_b x.2.2.2.2.2.1), .int x.2.2.2.2.2.2.1, .int (sf_b x.2.2.2.2.2.2.2.1), .double x.2.2.2.2.2.2.2.2.1, .double x.2.2.2.2.2.2.2.2.2.1, .int x.2.2.2.2.2.2.2.2.2.2.1, .int x.2.2.2.2.2.2.2.2.2.2.2]))] s.heap := hP
  refine lv_iload_n hx hb dX0_tell_0 rfl (lv_at hl 1 rfl) ?_
  by_cases c_1 : wh = 0
  · refine lv_tableIn (off := 31) (tgt := 32) hx hb dX0_tell_1 (by rw [c_1]; decide) (by rw [c_1]; decide) (by rw [c_1]; decide) (by decide) ?_
    refine lv_aload_n hx hb dX0_tell_32 rfl (lv_at hl 0 rfl) ?_
    refine va_get (D := (dC, dI)) (ci := 0) (v := .int x.1) (C := RX0) (T := TX0) (N := 12) hx hb hg in_X0 hown hK hP 0 rfl rfl 0 (by decide) (hg _ mw_81) (fun _ h9 => h9) rfl dX0_tell_33 ?_
    refine sf_topi (y := fb_tell x wh) (by first | rfl | (simp [fb_tell, c_1]; done)) ?_
    exact W.iret hx hb hr (fun t ht _ => ⟨rfl, ht⟩) (fun _ h => nomatch h) dX0_tell_36
  · skip
    by_cases c_2 : wh = 1
    · refine lv_tableIn (off := 36) (tgt := 37) hx hb dX0_tell_1 (by rw [c_2]; decide) (by rw [c_2]; decide) (by rw [c_2]; decide) (by decide) ?_
      refine lv_aload_n hx hb dX0_tell_37 rfl (lv_at hl 0 rfl) ?_
      refine va_get (D := (dC, dI)) (ci := 0) (v := .int x.2.2.2.2.2.2.1) (C := RX0) (T := TX0) (N := 12) hx hb hg in_X0 hown hK hP 0 rfl rfl 6 (by decide) (hg _ mw_88) (fun _ h9 => h9) rfl dX0_tell_38 ?_
      refine sf_topi (y := fb_tell x wh) (by first | rfl | (simp [fb_tell, c_1, c_2]; done)) ?_
      exact W.iret hx hb hr (fun t ht _ => ⟨rfl, ht⟩) (fun _ h => nomatch h) dX0_tell_41
    · skip
      by_cases c_3 : wh = 2
      · refine lv_tableIn (off := 41) (tgt := 42) hx hb dX0_tell_1 (by rw [c_3]; decide) (by rw [c_3]; decide) (by rw [c_3]; decide) (by decide) ?_
        refine lv_aload_n hx hb dX0_tell_42 rfl (lv_at hl 0 rfl) ?_
        refine va_get (D := (dC, dI)) (ci := 0) (v := .int (sf_b x.2.2.2.2.2.1)) (C := RX0) (T := TX0) (N := 12) hx hb hg in_X0 hown hK hP 0 rfl rfl 5 (by decide) (hg _ mw_86) (fun _ h9 => h9) rfl dX0_tell_43 ?_
        refine sf_ifeq (tgt := 53) hx hb dX0_tell_46 (by decide) (fun c_4 => ?_) (fun c_4 => ?_)
        · refine lv_iconst (v := sf_b false) hx hb dX0_tell_53 (by decide) ?_
          refine sf_topi (y := fb_tell x wh) (by first | rfl | (simp [fb_tell, c_1, c_2, c_3, c_4]; done)) ?_
          exact W.iret hx hb hr (fun t ht _ => ⟨rfl, ht⟩) (fun _ h => nomatch h) dX0_tell_54
        · refine lv_iconst (v := sf_b true) hx hb dX0_tell_49 (by decide) ?_
          refine lv_goto (tgt := 54) hx hb dX0_tell_50 (by decide) ?_
          refine sf_topi (y := fb_tell x wh) (by first | rfl | (simp [fb_tell, c_1, c_2, c_3, c_4]; done)) ?_
          exact W.iret hx hb hr (fun t ht _ => ⟨rfl, ht⟩) (fun _ h => nomatch h) dX0_tell_54
      · skip
        by_cases c_5 : wh = 3
        · refine lv_tableIn (off := 54) (tgt := 55) hx hb dX0_tell_1 (by rw [c_5]; decide) (by rw [c_5]; decide) (by rw [c_5]; decide) (by decide) ?_
          refine lv_aload_n hx hb dX0_tell_55 rfl (lv_at hl 0 rfl) ?_
          refine va_get (D := (dC, dI)) (ci := 0) (v := .int x.2.2.2.2.2.2.2.2.2.2.1) (C := RX0) (T := TX0) (N := 12) hx hb hg in_X0 hown hK hP 0 rfl rfl 10 (by decide) (hg _ mw_92) (fun _ h9 => h9) rfl dX0_tell_56 ?_
          refine sf_topi (y := fb_tell x wh) (by first | rfl | (simp [fb_tell, c_1, c_2, c_3, c_5]; done)) ?_
          exact W.iret hx hb hr (fun t ht _ => ⟨rfl, ht⟩) (fun _ h => nomatch h) dX0_tell_59
        · skip
          have h_6 : wh.toInt < 0 ∨ 3 < wh.toInt := by
            have q0 : ¬ wh.toInt = 0 := lv_neT c_1 (by decide)
            have q1 : ¬ wh.toInt = 1 := lv_neT c_2 (by decide)
            have q2 : ¬ wh.toInt = 2 := lv_neT c_3 (by decide)
            have q3 : ¬ wh.toInt = 3 := lv_neT c_5 (by decide)
            omega
          refine lv_tableOut (tgt := 60) hx hb dX0_tell_1 h_6 (by decide) ?_
          refine lv_aload_n hx hb dX0_tell_60 rfl (lv_at hl 0 rfl) ?_
          refine va_get (D := (dC, dI)) (ci := 0) (v := .int x.2.2.2.2.2.2.2.2.2.2.2) (C := RX0) (T := TX0) (N := 12) hx hb hg in_X0 hown hK hP 0 rfl rfl 11 (by decide) (hg _ mw_93) (fun _ h9 => h9) rfl dX0_tell_61 ?_
          refine sf_topi (y := fb_tell x wh) (by first | rfl | (simp [fb_tell, c_1, c_2, c_3, c_5]; done)) ?_
          exact W.iret hx hb hr (fun t ht _ => ⟨rfl, ht⟩) (fun _ h => nomatch h) dX0_tell_64
set_option maxHeartbeats 4000000 in
set_option maxRecDepth 100000 in
theorem c_X0_delay (l : Launch) (dC : Nat → ClassId) (dI : Nat → Nat → Nat) (cZ : ClassId) (ha hq : Nat) (x : st_B) (bt : Nat → Bool) (pw : Bool) (sz : Nat) (hc : fc_ix x.2.2.2.1 24 = true) : Met l yX0_delay wX0_delay ({ frames := 0, cells := 0, slots := 0, locals := 0 }) (sf_PV (dC, dI) vwCl [(cZ, .boolean)] ([wp_B ha x, wp_Z hq cZ 24 bt]) sz [.ref ha, .int (sf_b pw), .ref hq]) (sf_V (dC, dI) vwCl none ([wp_B ha x, wp_Z hq cZ 24 bt]) ([wp_B ha (fb_delay x pw), wp_Z hq cZ 24 (fb_dbit x pw bt)])) 0 0 (va_A ([wp_B ha x, wp_Z hq cZ 24 bt]) sz) := by
  refine Met.ofW (cc := cX0_delay) (maxL := 3) (ret := none) (by decide) rfl ?_
  intro p e s m args below meth c s₁ B hml hv
  have hx := B.exec
  have hb := B.bytes
  have hr := B.returns
  have hts := atoms_spec (ws := wX0_delay) B.pre
  have hg : ∀ w ∈ gw_all, w.before args s = true := fun w h => hts w (List.mem_cons_of_mem _ h)
  have hown : s.vm.findClass RX0 = some m.cls := findClass_of_methodNamed B.named
  have hlocks := B.notSynchronized
  obtain ⟨rfl, hsz, hP, hD0, hK, hZ⟩ := hv
  subst hsz
  have hl := lv_entry ([.ref ha, .int (sf_b pw), .ref hq]) (n := 3) (Nat.le_of_ble_eq_true rfl)
  rw [lg_entry_eq]
  generalize (lg_sl ([.ref ha, .int (sf_b pw), .ref hq]) ++ List.replicate (3 - (lg_sl ([.ref ha, .int (sf_b pw), .ref hq])).length) Slot.unset).toArray = ls at hl ⊢
  have hl : lv_has ls 3 [(0, .ref ha), (1, .int (sf_b pw)), (2, .ref hq)] := hl
  obtain ⟨A, hAe⟩ : ∃ A : Nat → Prop, A = va_A ([wp_B ha x, wp_Z hq cZ 24 bt]) s.heap.size := ⟨_, rfl⟩
  have hD := hD0.self (sz := s.heap.size)
  rw [← hAe] at hD
  have hA : ∀ q : Nat, s.heap.size ≤ q → A q := fun q h => by rw [hAe]; exact Or.inr h
  have hS : va_S A s.heap s.heap [] := va_S.rf
  have hP : va_P (dC, dI) vwCl [(ha, .inr (0, [.int x.1, .int x.2.1, .int x.2.2.1, .int x.2.2.2.1, .double x.2.2.2.2.1, .int (sf_b x.2.2.2.2.2.1), .int x.2.2.2.2.2.2.1, .int (sf_b x.2.2.2.2.2.2.2.1), .double x.2.2.2.2.2.2.2.2.1, .double x.2.2.2.2.2.2.2.2.2.1, .int x.2.2.2.2.2.2.2.2.2.2.1, .int x.2.2.2.2.2.2.2.2.2.2.2])), (hq, .inl (cZ, 24, .inl (fun i9 => sf_b (bt i9))))] s.heap := hP
  have hD : va_D A [(ha, .inr (0, [.int x.1, .int x.2.1, .int x.2.2.1, .int x.2.2.2.1, .double x.2.2.2.2.1, .int (sf_b x.2.2.2.2.2.1), .int x.2.2.2.2.2.2.1, .int (sf_b x.2.2.2.2.2.2.2.1), .double x.2.2.2.2.2.2.2.2.1, .double x.2.2.2.2.2.2.2.2.2.1, .int x.2.2.2.2.2.2.2.2.2.2.1, .int x.2.2.2.2.2.2.2.2.2.2.2])), (hq, .inl (cZ, 24, .inl (fun i9 => sf_b (bt i9))))] := hD
  have hc9 := ix_nat (n := 24) rfl (by decide) hc
  refine lv_iload_n hx hb dX0_delay_0 rfl (lv_at hl 1 rfl) ?_
  refine sf_ifne (tgt := 12) hx hb dX0_delay_1 (by decide) (fun c_1 => ?_) (fun c_1 => ?_)
  · refine lv_aload_n hx hb dX0_delay_12 rfl (lv_at hl 0 rfl) ?_
    refine va_get (D := (dC, dI)) (ci := 0) (v := .int x.2.2.2.2.2.2.1) (C := RX0) (T := TX0) (N := 12) hx hb hg in_X0 hown hK hP 0 rfl rfl 6 (by decide) (hg _ mw_88) (fun _ h9 => h9) rfl dX0_delay_13 ?_
    refine lv_i2d hx hb dX0_delay_16 ?_
    refine lv_aload_n hx hb dX0_delay_17 rfl (lv_at hl 0 rfl) ?_
    refine va_get (D := (dC, dI)) (ci := 0) (v := .double x.2.2.2.2.1) (C := RX0) (T := TX0) (N := 12) hx hb hg in_X0 hown hK hP 0 rfl rfl 4 (by decide) (hg _ mw_85) (fun _ h9 => h9) rfl dX0_delay_18 ?_
    refine lv_dcmp hx hb dX0_delay_21 ?_
    refine lv_if_ge (tgt := 35) hx hb dX0_delay_22 (by decide) (fun c_2 => ?_) (fun c_2 => ?_)
    · have c_2 := sd_g_ge.mp c_2
      refine lv_aload_n hx hb dX0_delay_35 rfl (lv_at hl 2 rfl) ?_
      refine lv_aload_n hx hb dX0_delay_36 rfl (lv_at hl 0 rfl) ?_
      refine va_get (D := (dC, dI)) (ci := 0) (v := .int x.2.2.2.1) (C := RX0) (T := TX0) (N := 12) hx hb hg in_X0 hown hK hP 0 rfl rfl 3 (by decide) (hg _ mw_84) (fun _ h9 => h9) rfl dX0_delay_37 ?_
      refine lv_aload_n hx hb dX0_delay_40 rfl (lv_at hl 0 rfl) ?_
      refine va_get (D := (dC, dI)) (ci := 0) (v := .int x.2.2.2.2.2.2.1) (C := RX0) (T := TX0) (N := 12) hx hb hg in_X0 hown hK hP 0 rfl rfl 6 (by decide) (hg _ mw_88) (fun _ h9 => h9) rfl dX0_delay_41 ?_
      refine lv_i2d hx hb dX0_delay_44 ?_
      refine lv_aload_n hx hb dX0_delay_45 rfl (lv_at hl 0 rfl) ?_
      refine va_get (D := (dC, dI)) (ci := 0) (v := .double x.2.2.2.2.1) (C := RX0) (T := TX0) (N := 12) hx hb hg in_X0 hown hK hP 0 rfl rfl 4 (by decide) (hg _ mw_85) (fun _ h9 => h9) rfl dX0_delay_46 ?_
      refine lv_dcmp hx hb dX0_delay_49 ?_
      refine lv_if_lt (tgt := 57) hx hb dX0_delay_50 (by decide) (fun c_3 => ?_) (fun c_3 => ?_)
      · have c_3 := sd_l_lt.mp c_3
        refine lv_iconst (v := sf_b false) hx hb dX0_delay_57 (by decide) ?_
        refine sf_zast hx hb hK hP hD hS 1 0 rfl rfl (fb_c x) hc9.1 hc9.2 (by decide) dX0_delay_58 (fun H locs hP hD hS => ?_)
        have hP : va_P (dC, dI) vwCl [(ha, .inr (0, [.int x.1, .int x.2.1, .int x.2.2.1, .int x.2.2.2.1, .double x.2.2.2.2.1, .int (sf_b x.2.2.2.2.2.1), .int x.2.2.2.2.2.2.1, .int (sf_b x.2.2.2.2.2.2.2.1), .double x.2.2.2.2.2.2.2.2.1, .double x.2.2.2.2.2.2.2.2.2.1, .int x.2.2.2.2.2.2.2.2.2.2.1, .int x.2.2.2.2.2.2.2.2.2.2.2])), (hq, .inl (cZ, 24, .inl (fun i9 => sf_b ((va_up bt (fb_c x) false) i9))))] H := hP
        have hD : va_D A [(ha, .inr (0, [.int x.1, .int x.2.1, .int x.2.2.1, .int x.2.2.2.1, .double x.2.2.2.2.1, .int (sf_b x.2.2.2.2.2.1), .int x.2.2.2.2.2.2.1, .int (sf_b x.2.2.2.2.2.2.2.1), .double x.2.2.2.2.2.2.2.2.1, .double x.2.2.2.2.2.2.2.2.2.1, .int x.2.2.2.2.2.2.2.2.2.2.1, .int x.2.2.2.2.2.2.2.2.2.2.2])), (hq, .inl (cZ, 24, .inl (fun i9 => sf_b ((va_up bt (fb_c x) false) i9))))] := hD
        have hP9 : va_P (dC, dI) vwCl ([wp_B ha (fb_delay x pw), wp_Z hq cZ 24 (fb_dbit x pw bt)]) H := by
          rw [show fb_delay x pw = (x.1, x.2.1, x.2.2.1, x.2.2.2.1, x.2.2.2.2.1, x.2.2.2.2.2.1, x.2.2.2.2.2.2.1, x.2.2.2.2.2.2.2.1, x.2.2.2.2.2.2.2.2.1, x.2.2.2.2.2.2.2.2.2.1, x.2.2.2.2.2.2.2.2.2.2.1, x.2.2.2.2.2.2.2.2.2.2.2) from by first | rfl | (simp [fb_delay, fb_dbit, fb_dcnt, fb_cnt, c_1, c_2, c_3]; done)]
          rw [show fb_dbit x pw bt = va_up bt (fb_c x) false from by first | rfl | (simp [fb_delay, fb_dbit, fb_dcnt, fb_cnt, c_1, c_2, c_3]; done)]
          exact hP
        have hD9 : va_D A ([wp_B ha (fb_delay x pw), wp_Z hq cZ 24 (fb_dbit x pw bt)]) := by
          rw [show fb_delay x pw = (x.1, x.2.1, x.2.2.1, x.2.2.2.1, x.2.2.2.2.1, x.2.2.2.2.2.1, x.2.2.2.2.2.2.1, x.2.2.2.2.2.2.2.1, x.2.2.2.2.2.2.2.2.1, x.2.2.2.2.2.2.2.2.2.1, x.2.2.2.2.2.2.2.2.2.2.1, x.2.2.2.2.2.2.2.2.2.2.2) from by first | rfl | (simp [fb_delay, fb_dbit, fb_dcnt, fb_cnt, c_1, c_2, c_3]; done)]
          rw [show fb_dbit x pw bt = va_up bt (fb_c x) false from by first | rfl | (simp [fb_delay, fb_dbit, fb_dcnt, fb_cnt, c_1, c_2, c_3]; done)]
          exact hD
        exact W.vret hx hb hr (fun t ht _ => ⟨rfl, by rw [ht]; exact hP9, hAe ▸ hD9, hAe ▸ hS.F ht⟩) (fun q hq => by rw [← hAe]; exact hS.2.2 q hq) dX0_delay_59
      · have c_3 := sd_nl_lt c_3
        refine lv_iconst (v := sf_b true) hx hb dX0_delay_53 (by decide) ?_
        refine lv_goto (tgt := 58) hx hb dX0_delay_54 (by decide) ?_
        refine sf_zast hx hb hK hP hD hS 1 0 rfl rfl (fb_c x) hc9.1 hc9.2 (by decide) dX0_delay_58 (fun H locs hP hD hS => ?_)
        have hP : va_P (dC, dI) vwCl [(ha, .inr (0, [.int x.1, .int x.2.1, .int x.2.2.1, .int x.2.2.2.1, .double x.2.2.2.2.1, .int (sf_b x.2.2.2.2.2.1), .int x.2.2.2.2.2.2.1, .int (sf_b x.2.2.2.2.2.2.2.1), .double x.2.2.2.2.2.2.2.2.1, .double x.2.2.2.2.2.2.2.2.2.1, .int x.2.2.2.2.2.2.2.2.2.2.1, .int x.2.2.2.2.2.2.2.2.2.2.2])), (hq, .inl (cZ, 24, .inl (fun i9 => sf_b ((va_up bt (fb_c x) true) i9))))] H := hP
        have hD : va_D A [(ha, .inr (0, [.int x.1, .int x.2.1, .int x.2.2.1, .int x.2.2.2.1, .double x.2.2.2.2.1, .int (sf_b x.2.2.2.2.2.1), .int x.2.2.2.2.2.2.1, .int (sf_b x.2.2.2.2.2.2.2.1), .double x.2.2.2.2.2.2.2.2.1, .double x.2.2.2.2.2.2.2.2.2.1, .int x.2.2.2.2.2.2.2.2.2.2.1, .int x.2.2.2.2.2.2.2.2.2.2.2])), (hq, .inl (cZ, 24, .inl (fun i9 => sf_b ((va_up bt (fb_c x) true) i9))))] := hD
        have hP9 : va_P (dC, dI) vwCl ([wp_B ha (fb_delay x pw), wp_Z hq cZ 24 (fb_dbit x pw bt)]) H := by
          rw [show fb_delay x pw = (x.1, x.2.1, x.2.2.1, x.2.2.2.1, x.2.2.2.2.1, x.2.2.2.2.2.1, x.2.2.2.2.2.2.1, x.2.2.2.2.2.2.2.1, x.2.2.2.2.2.2.2.2.1, x.2.2.2.2.2.2.2.2.2.1, x.2.2.2.2.2.2.2.2.2.2.1, x.2.2.2.2.2.2.2.2.2.2.2) from by first | rfl | (simp [fb_delay, fb_dbit, fb_dcnt, fb_cnt, c_1, c_2, c_3]; done)]
          rw [show fb_dbit x pw bt = va_up bt (fb_c x) true from by first | rfl | (simp [fb_delay, fb_dbit, fb_dcnt, fb_cnt, c_1, c_2, c_3]; done)]
          exact hP
        have hD9 : va_D A ([wp_B ha (fb_delay x pw), wp_Z hq cZ 24 (fb_dbit x pw bt)]) := by
          rw [show fb_delay x pw = (x.1, x.2.1, x.2.2.1, x.2.2.2.1, x.2.2.2.2.1, x.2.2.2.2.2.1, x.2.2.2.2.2.2.1, x.2.2.2.2.2.2.2.1, x.2.2.2.2.2.2.2.2.1, x.2.2.2.2.2.2.2.2.2.1, x.2.2.2.2.2.2.2.2.2.2.1, x.2.2.2.2.2.2.2.2.2.2.2) from by first | rfl | (simp [fb_delay, fb_dbit, fb_dcnt, fb_cnt, c_1, c_2, c_3]; done)]
          rw [show fb_dbit x pw bt = va_up bt (fb_c x) true from by first | rfl | (simp [fb_delay, fb_dbit, fb_dcnt, fb_cnt, c_1, c_2, c_3]; done)]
          exact hD
        exact W.vret hx hb hr (fun t ht _ => ⟨rfl, by rw [ht]; exact hP9, hAe ▸ hD9, hAe ▸ hS.F ht⟩) (fun q hq => by rw [← hAe]; exact hS.2.2 q hq) dX0_delay_59
    · have c_2 := sd_ng_ge c_2
      refine lv_aload_n hx hb dX0_delay_25 rfl (lv_at hl 0 rfl) ?_
      refine lv_dup hx hb dX0_delay_26 rfl ?_
      refine va_get (D := (dC, dI)) (ci := 0) (v := .int x.2.2.2.2.2.2.1) (C := RX0) (T := TX0) (N := 12) hx hb hg in_X0 hown hK hP 0 rfl rfl 6 (by decide) (hg _ mw_88) (fun _ h9 => h9) rfl dX0_delay_27 ?_
      refine lv_iconst (v := 1) hx hb dX0_delay_30 (by decide) ?_
      refine lv_iadd hx hb dX0_delay_31 ?_
      refine va_put (D := (dC, dI)) (ci := 0) (v := .int (x.2.2.2.2.2.2.1 + 1)) (ty := .int) (C := RX0) (T := TX0) (N := 12) hx hb hg in_X0 tyX0 tyX0_ok nmX0 hown hK hP hD hS 0 rfl rfl 6 (by decide) (hg _ mw_88) (fun _ h9 => h9) rfl (by decide +kernel) rfl rfl (Nat.le_of_ble_eq_true rfl) dX0_delay_32 (fun H locs hP hD hS => ?_)
      have hP : va_P (dC, dI) vwCl [(ha, .inr (0, [.int x.1, .int x.2.1, .int x.2.2.1, .int x.2.2.2.1, .double x.2.2.2.2.1, .int (sf_b x.2.2.2.2.2.1), .int (x.2.2.2.2.2.2.1 + 1), .int (sf_b x.2.2.2.2.2.2.2.1), .double x.2.2.2.2.2.2.2.2.1, .double x.2.2.2.2.2.2.2.2.2.1, .int x.2.2.2.2.2.2.2.2.2.2.1, .int x.2.2.2.2.2.2.2.2.2.2.2])), (hq, .inl (cZ, 24, .inl (fun i9 => sf_b (bt i9))))] H := hP
      have hD : va_D A [(ha, .inr (0, [.int x.1, .int x.2.1, .int x.2.2.1, .int x.2.2.2.1, .double x.2.2.2.2.1, .int (sf_b x.2.2.2.2.2.1), .int (x.2.2.2.2.2.2.1 + 1), .int (sf_b x.2.2.2.2.2.2.2.1), .double x.2.2.2.2.2.2.2.2.1, .double x.2.2.2.2.2.2.2.2.2.1, .int x.2.2.2.2.2.2.2.2.2.2.1, .int x.2.2.2.2.2.2.2.2.2.2.2])), (hq, .inl (cZ, 24, .inl (fun i9 => sf_b (bt i9))))] := hD
      refine lv_aload_n hx hb dX0_delay_35 rfl (lv_at hl 2 rfl) ?_
      refine lv_aload_n hx hb dX0_delay_36 rfl (lv_at hl 0 rfl) ?_
      refine va_get (D := (dC, dI)) (ci := 0) (v := .int x.2.2.2.1) (C := RX0) (T := TX0) (N := 12) hx hb hg in_X0 hown hK hP 0 rfl rfl 3 (by decide) (hg _ mw_84) (fun _ h9 => h9) rfl dX0_delay_37 ?_
      refine lv_aload_n hx hb dX0_delay_40 rfl (lv_at hl 0 rfl) ?_
      refine va_get (D := (dC, dI)) (ci := 0) (v := .int (x.2.2.2.2.2.2.1 + 1)) (C := RX0) (T := TX0) (N := 12) hx hb hg in_X0 hown hK hP 0 rfl rfl 6 (by decide) (hg _ mw_88) (fun _ h9 => h9) rfl dX0_delay_41 ?_
      refine lv_i2d hx hb dX0_delay_44 ?_
      refine lv_aload_n hx hb dX0_delay_45 rfl (lv_at hl 0 rfl) ?_
      refine va_get (D := (dC, dI)) (ci := 0) (v := .double x.2.2.2.2.1) (C := RX0) (T := TX0) (N := 12) hx hb hg in_X0 hown hK hP 0 rfl rfl 4 (by decide) (hg _ mw_85) (fun _ h9 => h9) rfl dX0_delay_46 ?_
      refine lv_dcmp hx hb dX0_delay_49 ?_
      refine lv_if_lt (tgt := 57) hx hb dX0_delay_50 (by decide) (fun c_4 => ?_) (fun c_4 => ?_)
      · have c_4 := sd_l_lt.mp c_4
        refine lv_iconst (v := sf_b false) hx hb dX0_delay_57 (by decide) ?_
        refine sf_zast hx hb hK hP hD hS 1 0 rfl rfl (fb_c x) hc9.1 hc9.2 (by decide) dX0_delay_58 (fun H locs hP hD hS => ?_)
        have hP : va_P (dC, dI) vwCl [(ha, .inr (0, [.int x.1, .int x.2.1, .int x.2.2.1, .int x.2.2.2.1, .double x.2.2.2.2.1, .int (sf_b x.2.2.2.2.2.1), .int (x.2.2.2.2.2.2.1 + 1), .int (sf_b x.2.2.2.2.2.2.2.1), .double x.2.2.2.2.2.2.2.2.1, .double x.2.2.2.2.2.2.2.2.2.1, .int x.2.2.2.2.2.2.2.2.2.2.1, .int x.2.2.2.2.2.2.2.2.2.2.2])), (hq, .inl (cZ, 24, .inl (fun i9 => sf_b ((va_up bt (fb_c x) false) i9))))] H := hP
        have hD : va_D A [(ha, .inr (0, [.int x.1, .int x.2.1, .int x.2.2.1, .int x.2.2.2.1, .double x.2.2.2.2.1, .int (sf_b x.2.2.2.2.2.1), .int (x.2.2.2.2.2.2.1 + 1), .int (sf_b x.2.2.2.2.2.2.2.1), .double x.2.2.2.2.2.2.2.2.1, .double x.2.2.2.2.2.2.2.2.2.1, .int x.2.2.2.2.2.2.2.2.2.2.1, .int x.2.2.2.2.2.2.2.2.2.2.2])), (hq, .inl (cZ, 24, .inl (fun i9 => sf_b ((va_up bt (fb_c x) false) i9))))] := hD
        have hP9 : va_P (dC, dI) vwCl ([wp_B ha (fb_delay x pw), wp_Z hq cZ 24 (fb_dbit x pw bt)]) H := by
          rw [show fb_delay x pw = (x.1, x.2.1, x.2.2.1, x.2.2.2.1, x.2.2.2.2.1, x.2.2.2.2.2.1, x.2.2.2.2.2.2.1 + 1, x.2.2.2.2.2.2.2.1, x.2.2.2.2.2.2.2.2.1, x.2.2.2.2.2.2.2.2.2.1, x.2.2.2.2.2.2.2.2.2.2.1, x.2.2.2.2.2.2.2.2.2.2.2) from by first | rfl | (simp [fb_delay, fb_dbit, fb_dcnt, fb_cnt, c_1, c_2, c_4]; done)]
          rw [show fb_dbit x pw bt = va_up bt (fb_c x) false from by first | rfl | (simp [fb_delay, fb_dbit, fb_dcnt, fb_cnt, c_1, c_2, c_4]; done)]
          exact hP
        have hD9 : va_D A ([wp_B ha (fb_delay x pw), wp_Z hq cZ 24 (fb_dbit x pw bt)]) := by
          rw [show fb_delay x pw = (x.1, x.2.1, x.2.2.1, x.2.2.2.1, x.2.2.2.2.1, x.2.2.2.2.2.1, x.2.2.2.2.2.2.1 + 1, x.2.2.2.2.2.2.2.1, x.2.2.2.2.2.2.2.2.1, x.2.2.2.2.2.2.2.2.2.1, x.2.2.2.2.2.2.2.2.2.2.1, x.2.2.2.2.2.2.2.2.2.2.2) from by first | rfl | (simp [fb_delay, fb_dbit, fb_dcnt, fb_cnt, c_1, c_2, c_4]; done)]
          rw [show fb_dbit x pw bt = va_up bt (fb_c x) false from by first | rfl | (simp [fb_delay, fb_dbit, fb_dcnt, fb_cnt, c_1, c_2, c_4]; done)]
          exact hD
        exact W.vret hx hb hr (fun t ht _ => ⟨rfl, by rw [ht]; exact hP9, hAe ▸ hD9, hAe ▸ hS.F ht⟩) (fun q hq => by rw [← hAe]; exact hS.2.2 q hq) dX0_delay_59
      · have c_4 := sd_nl_lt c_4
        refine lv_iconst (v := sf_b true) hx hb dX0_delay_53 (by decide) ?_
        refine lv_goto (tgt := 58) hx hb dX0_delay_54 (by decide) ?_
        refine sf_zast hx hb hK hP hD hS 1 0 rfl rfl (fb_c x) hc9.1 hc9.2 (by decide) dX0_delay_58 (fun H locs hP hD hS => ?_)
        have hP : va_P (dC, dI) vwCl [(ha, .inr (0, [.int x.1, .int x.2.1, .int x.2.2.1, .int x.2.2.2.1, .double x.2.2.2.2.1, .int (sf_b x.2.2.2.2.2.1), .int (x.2.2.2.2.2.2.1 + 1), .int (sf_b x.2.2.2.2.2.2.2.1), .double x.2.2.2.2.2.2.2.2.1, .double x.2.2.2.2.2.2.2.2.2.1, .int x.2.2.2.2.2.2.2.2.2.2.1, .int x.2.2.2.2.2.2.2.2.2.2.2])), (hq, .inl (cZ, 24, .inl (fun i9 => sf_b ((va_up bt (fb_c x) true) i9))))] H := hP
        have hD : va_D A [(ha, .inr (0, [.int x.1, .int x.2.1, .int x.2.2.1, .int x.2.2.2.1, .double x.2.2.2.2.1, .int (sf_b x.2.2.2.2.2.1), .int (x.2.2.2.2.2.2.1 + 1), .int (sf_b x.2.2.2.2.2.2.2.1), .double x.2.2.2.2.2.2.2.2.1, .double x.2.2.2.2.2.2.2.2.2.1, .int x.2.2.2.2.2.2.2.2.2.2.1, .int x.2.2.2.2.2.2.2.2.2.2.2])), (hq, .inl (cZ, 24, .inl (fun i9 => sf_b ((va_up bt (fb_c x) true) i9))))] := hD
        have hP9 : va_P (dC, dI) vwCl ([wp_B ha (fb_delay x pw), wp_Z hq cZ 24 (fb_dbit x pw bt)]) H := by
          rw [show fb_delay x pw = (x.1, x.2.1, x.2.2.1, x.2.2.2.1, x.2.2.2.2.1, x.2.2.2.2.2.1, x.2.2.2.2.2.2.1 + 1, x.2.2.2.2.2.2.2.1, x.2.2.2.2.2.2.2.2.1, x.2.2.2.2.2.2.2.2.2.1, x.2.2.2.2.2.2.2.2.2.2.1, x.2.2.2.2.2.2.2.2.2.2.2) from by first | rfl | (simp [fb_delay, fb_dbit, fb_dcnt, fb_cnt, c_1, c_2, c_4]; done)]
          rw [show fb_dbit x pw bt = va_up bt (fb_c x) true from by first | rfl | (simp [fb_delay, fb_dbit, fb_dcnt, fb_cnt, c_1, c_2, c_4]; done)]
          exact hP
        have hD9 : va_D A ([wp_B ha (fb_delay x pw), wp_Z hq cZ 24 (fb_dbit x pw bt)]) := by
          rw [show fb_delay x pw = (x.1, x.2.1, x.2.2.1, x.2.2.2.1, x.2.2.2.2.1, x.2.2.2.2.2.1, x.2.2.2.2.2.2.1 + 1, x.2.2.2.2.2.2.2.1, x.2.2.2.2.2.2.2.2.1, x.2.2.2.2.2.2.2.2.2.1, x.2.2.2.2.2.2.2.2.2.2.1, x.2.2.2.2.2.2.2.2.2.2.2) from by first | rfl | (simp [fb_delay, fb_dbit, fb_dcnt, fb_cnt, c_1, c_2, c_4]; done)]
          rw [show fb_dbit x pw bt = va_up bt (fb_c x) true from by first | rfl | (simp [fb_delay, fb_dbit, fb_dcnt, fb_cnt, c_1, c_2, c_4]; done)]
          exact hD
        exact W.vret hx hb hr (fun t ht _ => ⟨rfl, by rw [ht]; exact hP9, hAe ▸ hD9, hAe ▸ hS.F ht⟩) (fun q hq => by rw [← hAe]; exact hS.2.2 q hq) dX0_delay_59
  · refine lv_aload_n hx hb dX0_delay_4 rfl (lv_at hl 0 rfl) ?_
    refine lv_iconst (v := 0) hx hb dX0_delay_5 (by decide) ?_
    refine va_put (D := (dC, dI)) (ci := 0) (v := .int 0) (ty := .int) (C := RX0) (T := TX0) (N := 12) hx hb hg in_X0 tyX0 tyX0_ok nmX0 hown hK hP hD hS 0 rfl rfl 6 (by decide) (hg _ mw_88) (fun _ h9 => h9) rfl (by decide +kernel) rfl rfl (Nat.le_of_ble_eq_true rfl) dX0_delay_6 (fun H locs hP hD hS => ?_)
    have hP : va_P (dC, dI) vwCl [(ha, .inr (0, [.int x.1, .int x.2.1, .int x.2.2.1, .int x.2.2.2.1, .double x.2.2.2.2.1, .int (sf_b x.2.2.2.2.2.1), .int 0, .int (sf_b x.2.2.2.2.2.2.2.1), .double x.2.2.2.2.2.2.2.2.1, .double x.2.2.2.2.2.2.2.2.2.1, .int x.2.2.2.2.2.2.2.2.2.2.1, .int x.2.2.2.2.2.2.2.2.2.2.2])), (hq, .inl (cZ, 24, .inl (fun i9 => sf_b (bt i9))))] H := hP
    have hD : va_D A [(ha, .inr (0, [.int x.1, .int x.2.1, .int x.2.2.1, .int x.2.2.2.1, .double x.2.2.2.2.1, .int (sf_b x.2.2.2.2.2.1), .int 0, .int (sf_b x.2.2.2.2.2.2.2.1), .double x.2.2.2.2.2.2.2.2.1, .double x.2.2.2.2.2.2.2.2.2.1, .int x.2.2.2.2.2.2.2.2.2.2.1, .int x.2.2.2.2.2.2.2.2.2.2.2])), (hq, .inl (cZ, 24, .inl (fun i9 => sf_b (bt i9))))] := hD
    refine lv_goto (tgt := 35) hx hb dX0_delay_9 (by decide) ?_
    refine lv_aload_n hx hb dX0_delay_35 rfl (lv_at hl 2 rfl) ?_
    refine lv_aload_n hx hb dX0_delay_36 rfl (lv_at hl 0 rfl) ?_
    refine va_get (D := (dC, dI)) (ci := 0) (v := .int x.2.2.2.1) (C := RX0) (T := TX0) (N := 12) hx hb hg in_X0 hown hK hP 0 rfl rfl 3 (by decide) (hg _ mw_84) (fun _ h9 => h9) rfl dX0_delay_37 ?_
    refine lv_aload_n hx hb dX0_delay_40 rfl (lv_at hl 0 rfl) ?_
    refine va_get (D := (dC, dI)) (ci := 0) (v := .int 0) (C := RX0) (T := TX0) (N := 12) hx hb hg in_X0 hown hK hP 0 rfl rfl 6 (by decide) (hg _ mw_88) (fun _ h9 => h9) rfl dX0_delay_41 ?_
    refine lv_i2d hx hb dX0_delay_44 ?_
    refine lv_aload_n hx hb dX0_delay_45 rfl (lv_at hl 0 rfl) ?_
    refine va_get (D := (dC, dI)) (ci := 0) (v := .double x.2.2.2.2.1) (C := RX0) (T := TX0) (N := 12) hx hb hg in_X0 hown hK hP 0 rfl rfl 4 (by decide) (hg _ mw_85) (fun _ h9 => h9) rfl dX0_delay_46 ?_
    refine lv_dcmp hx hb dX0_delay_49 ?_
    refine lv_if_lt (tgt := 57) hx hb dX0_delay_50 (by decide) (fun c_5 => ?_) (fun c_5 => ?_)
    · have c_5 := sd_l_lt.mp c_5
      refine lv_iconst (v := sf_b false) hx hb dX0_delay_57 (by decide) ?_
      refine sf_zast hx hb hK hP hD hS 1 0 rfl rfl (fb_c x) hc9.1 hc9.2 (by decide) dX0_delay_58 (fun H locs hP hD hS => ?_)
      have hP : va_P (dC, dI) vwCl [(ha, .inr (0, [.int x.1, .int x.2.1, .int x.2.2.1, .int x.2.2.2.1, .double x.2.2.2.2.1, .int (sf_b x.2.2.2.2.2.1), .int 0, .int (sf_b x.2.2.2.2.2.2.2.1), .double x.2.2.2.2.2.2.2.2.1, .double x.2.2.2.2.2.2.2.2.2.1, .int x.2.2.2.2.2.2.2.2.2.2.1, .int x.2.2.2.2.2.2.2.2.2.2.2])), (hq, .inl (cZ, 24, .inl (fun i9 => sf_b ((va_up bt (fb_c x) false) i9))))] H := hP
      have hD : va_D A [(ha, .inr (0, [.int x.1, .int x.2.1, .int x.2.2.1, .int x.2.2.2.1, .double x.2.2.2.2.1, .int (sf_b x.2.2.2.2.2.1), .int 0, .int (sf_b x.2.2.2.2.2.2.2.1), .double x.2.2.2.2.2.2.2.2.1, .double x.2.2.2.2.2.2.2.2.2.1, .int x.2.2.2.2.2.2.2.2.2.2.1, .int x.2.2.2.2.2.2.2.2.2.2.2])), (hq, .inl (cZ, 24, .inl (fun i9 => sf_b ((va_up bt (fb_c x) false) i9))))] := hD
      have hP9 : va_P (dC, dI) vwCl ([wp_B ha (fb_delay x pw), wp_Z hq cZ 24 (fb_dbit x pw bt)]) H := by
        rw [show fb_delay x pw = (x.1, x.2.1, x.2.2.1, x.2.2.2.1, x.2.2.2.2.1, x.2.2.2.2.2.1, 0, x.2.2.2.2.2.2.2.1, x.2.2.2.2.2.2.2.2.1, x.2.2.2.2.2.2.2.2.2.1, x.2.2.2.2.2.2.2.2.2.2.1, x.2.2.2.2.2.2.2.2.2.2.2) from by first | rfl | (simp [fb_delay, fb_dbit, fb_dcnt, fb_cnt, c_1, c_5]; done)]
        rw [show fb_dbit x pw bt = va_up bt (fb_c x) false from by first | rfl | (simp [fb_delay, fb_dbit, fb_dcnt, fb_cnt, c_1, c_5]; done)]
        exact hP
      have hD9 : va_D A ([wp_B ha (fb_delay x pw), wp_Z hq cZ 24 (fb_dbit x pw bt)]) := by
        rw [show fb_delay x pw = (x.1, x.2.1, x.2.2.1, x.2.2.2.1, x.2.2.2.2.1, x.2.2.2.2.2.1, 0, x.2.2.2.2.2.2.2.1, x.2.2.2.2.2.2.2.2.1, x.2.2.2.2.2.2.2.2.2.1, x.2.2.2.2.2.2.2.2.2.2.1, x.2.2.2.2.2.2.2.2.2.2.2) from by first | rfl | (simp [fb_delay, fb_dbit, fb_dcnt, fb_cnt, c_1, c_5]; done)]
        rw [show fb_dbit x pw bt = va_up bt (fb_c x) false from by first | rfl | (simp [fb_delay, fb_dbit, fb_dcnt, fb_cnt, c_1, c_5]; done)]
        exact hD
      exact W.vret hx hb hr (fun t ht _ => ⟨rfl, by rw [ht]; exact hP9, hAe ▸ hD9, hAe ▸ hS.F ht⟩) (fun q hq => by rw [← hAe]; exact hS.2.2 q hq) dX0_delay_59
    · have c_5 := sd_nl_lt c_5
      refine lv_iconst (v := sf_b true) hx hb dX0_delay_53 (by decide) ?_
      refine lv_goto (tgt := 58) hx hb dX0_delay_54 (by decide) ?_
      refine sf_zast hx hb hK hP hD hS 1 0 rfl rfl (fb_c x) hc9.1 hc9.2 (by decide) dX0_delay_58 (fun H locs hP hD hS => ?_)
      have hP : va_P (dC, dI) vwCl [(ha, .inr (0, [.int x.1, .int x.2.1, .int x.2.2.1, .int x.2.2.2.1, .double x.2.2.2.2.1, .int (sf_b x.2.2.2.2.2.1), .int 0, .int (sf_b x.2.2.2.2.2.2.2.1), .double x.2.2.2.2.2.2.2.2.1, .double x.2.2.2.2.2.2.2.2.2.1, .int x.2.2.2.2.2.2.2.2.2.2.1, .int x.2.2.2.2.2.2.2.2.2.2.2])), (hq, .inl (cZ, 24, .inl (fun i9 => sf_b ((va_up bt (fb_c x) true) i9))))] H := hP
      have hD : va_D A [(ha, .inr (0, [.int x.1, .int x.2.1, .int x.2.2.1, .int x.2.2.2.1, .double x.2.2.2.2.1, .int (sf_b x.2.2.2.2.2.1), .int 0, .int (sf_b x.2.2.2.2.2.2.2.1), .double x.2.2.2.2.2.2.2.2.1, .double x.2.2.2.2.2.2.2.2.2.1, .int x.2.2.2.2.2.2.2.2.2.2.1, .int x.2.2.2.2.2.2.2.2.2.2.2])), (hq, .inl (cZ, 24, .inl (fun i9 => sf_b ((va_up bt (fb_c x) true) i9))))] := hD
      have hP9 : va_P (dC, dI) vwCl ([wp_B ha (fb_delay x pw), wp_Z hq cZ 24 (fb_dbit x pw bt)]) H := by
        rw [show fb_delay x pw = (x.1, x.2.1, x.2.2.1, x.2.2.2.1, x.2.2.2.2.1, x.2.2.2.2.2.1, 0, x.2.2.2.2.2.2.2.1, x.2.2.2.2.2.2.2.2.1, x.2.2.2.2.2.2.2.2.2.1, x.2.2.2.2.2.2.2.2.2.2.1, x.2.2.2.2.2.2.2.2.2.2.2) from by first | rfl | (simp [fb_delay, fb_dbit, fb_dcnt, fb_cnt, c_1, c_5]; done)]
        rw [show fb_dbit x pw bt = va_up bt (fb_c x) true from by first | rfl | (simp [fb_delay, fb_dbit, fb_dcnt, fb_cnt, c_1, c_5]; done)]
        exact hP
      have hD9 : va_D A ([wp_B ha (fb_delay x pw), wp_Z hq cZ 24 (fb_dbit x pw bt)]) := by
        rw [show fb_delay x pw = (x.1, x.2.1, x.2.2.1, x.2.2.2.1, x.2.2.2.2.1, x.2.2.2.2.2.1, 0, x.2.2.2.2.2.2.2.1, x.2.2.2.2.2.2.2.2.1, x.2.2.2.2.2.2.2.2.2.1, x.2.2.2.2.2.2.2.2.2.2.1, x.2.2.2.2.2.2.2.2.2.2.2) from by first | rfl | (simp [fb_delay, fb_dbit, fb_dcnt, fb_cnt, c_1, c_5]; done)]
        rw [show fb_dbit x pw bt = va_up bt (fb_c x) true from by first | rfl | (simp [fb_delay, fb_dbit, fb_dcnt, fb_cnt, c_1, c_5]; done)]
        exact hD
      exact W.vret hx hb hr (fun t ht _ => ⟨rfl, by rw [ht]; exact hP9, hAe ▸ hD9, hAe ▸ hS.F ht⟩) (fun q hq => by rw [← hAe]; exact hS.2.2 q hq) dX0_delay_59
set_option maxHeartbeats 4000000 in
set_option maxRecDepth 100000 in
theorem c_X0_countRuns (l : Launch) (dC : Nat → ClassId) (dI : Nat → Nat → Nat) (cZ : ClassId) (ha hq : Nat) (x : st_B) (bt : Nat → Bool) (pw : Bool) (sz : Nat) (hc : fc_ix x.2.2.2.1 24 = true) : Met l yX0_countRuns wX0_countRuns ({ frames := 0, cells := 0, slots := 0, locals := 0 }) (sf_PV (dC, dI) vwCl [(cZ, .boolean)] ([wp_B ha x, wp_Z hq cZ 24 bt]) sz [.ref ha, .int (sf_b pw), .ref hq]) (sf_V (dC, dI) vwCl none ([wp_B ha x, wp_Z hq cZ 24 bt]) ([wp_B ha (fb_count x pw bt), wp_Z hq cZ 24 (fb_cbit x pw bt)])) 0 0 (va_A ([wp_B ha x, wp_Z hq cZ 24 bt]) sz) := by
  refine Met.ofW (cc := cX0_countRuns) (maxL := 3) (ret := none) (by decide) rfl ?_
  intro p e s m args below meth c s₁ B hml hv
  have hx := B.exec
  have hb := B.bytes
  have hr := B.returns
  have hts := atoms_spec (ws := wX0_countRuns) B.pre
  have hg : ∀ w ∈ gw_all, w.before args s = true := fun w h => hts w (List.mem_cons_of_mem _ h)
  have hown : s.vm.findClass RX0 = some m.cls := findClass_of_methodNamed B.named
  have hlocks := B.notSynchronized
  obtain ⟨rfl, hsz, hP, hD0, hK, hZ⟩ := hv
  subst hsz
  have hl := lv_entry ([.ref ha, .int (sf_b pw), .ref hq]) (n := 3) (Nat.le_of_ble_eq_true rfl)
  rw [lg_entry_eq]
  generalize (lg_sl ([.ref ha, .int (sf_b pw), .ref hq]) ++ List.replicate (3 - (lg_sl ([.ref ha, .int (sf_b pw), .ref hq])).length) Slot.unset).toArray = ls at hl ⊢
  have hl : lv_has ls 3 [(0, .ref ha), (1, .int (sf_b pw)), (2, .ref hq)] := hl
  obtain ⟨A, hAe⟩ : ∃ A : Nat → Prop, A = va_A ([wp_B ha x, wp_Z hq cZ 24 bt]) s.heap.size := ⟨_, rfl⟩
  have hD := hD0.self (sz := s.heap.size)
  rw [← hAe] at hD
  have hA : ∀ q : Nat, s.heap.size ≤ q → A q := fun q h => by rw [hAe]; exact Or.inr h
  have hS : va_S A s.heap s.heap [] := va_S.rf
  have hP : va_P (dC, dI) vwCl [(ha, .inr (0, [.int x.1, .int x.2.1, .int x.2.2.1, .int x.2.2.2.1, .double x.2.2.2.2.1, .int (sf_b x.2.2.2.2.2.1), .int x.2.2.2.2.2.2.1, .int (sf_b x.2.2.2.2.2.2.2.1), .double x.2.2.2.2.2.2.2.2.1, .double x.2.2.2.2.2.2.2.2.2.1, .int x.2.2.2.2.2.2.2.2.2.2.1, .int x.2.2.2.2.2.2.2.2.2.2.2])), (hq, .inl (cZ, 24, .inl (fun i9 => sf_b (bt i9))))] s.heap := hP
  have hD : va_D A [(ha, .inr (0, [.int x.1, .int x.2.1, .int x.2.2.1, .int x.2.2.2.1, .double x.2.2.2.2.1, .int (sf_b x.2.2.2.2.2.1), .int x.2.2.2.2.2.2.1, .int (sf_b x.2.2.2.2.2.2.2.1), .double x.2.2.2.2.2.2.2.2.1, .double x.2.2.2.2.2.2.2.2.2.1, .int x.2.2.2.2.2.2.2.2.2.2.1, .int x.2.2.2.2.2.2.2.2.2.2.2])), (hq, .inl (cZ, 24, .inl (fun i9 => sf_b (bt i9))))] := hD
  have hc9 := ix_nat (n := 24) rfl (by decide) hc
  refine lv_aload_n hx hb dX0_countRuns_0 rfl (lv_at hl 2 rfl) ?_
  refine lv_bipush (v := 22) hx hb dX0_countRuns_1 (by decide) ?_
  refine sf_zald hx hb hK hP 1 0 rfl rfl 22 rfl (by decide) (by decide) dX0_countRuns_3 ?_
  refine sf_ifeq (tgt := 15) hx hb dX0_countRuns_4 (by decide) (fun c_1 => ?_) (fun c_1 => ?_)
  · refine lv_iload_n hx hb dX0_countRuns_15 rfl (lv_at hl 1 rfl) ?_
    refine sf_ifeq (tgt := 49) hx hb dX0_countRuns_16 (by decide) (fun c_2 => ?_) (fun c_2 => ?_)
    · refine lv_aload_n hx hb dX0_countRuns_49 rfl (lv_at hl 0 rfl) ?_
      refine lv_iload_n hx hb dX0_countRuns_50 rfl (lv_at hl 1 rfl) ?_
      refine va_put (D := (dC, dI)) (ci := 0) (v := .int (sf_b pw)) (ty := .boolean) (C := RX0) (T := TX0) (N := 12) hx hb hg in_X0 tyX0 tyX0_ok nmX0 hown hK hP hD hS 0 rfl rfl 7 (by decide) (hg _ mw_89) (fun _ h9 => h9) rfl (by decide +kernel) (sf_b_nb _) (sf_b_fit _) (Nat.le_of_ble_eq_true rfl) dX0_countRuns_51 (fun H locs hP hD hS => ?_)
      have hP : va_P (dC, dI) vwCl [(ha, .inr (0, [.int x.1, .int x.2.1, .int x.2.2.1, .int x.2.2.2.1, .double x.2.2.2.2.1, .int (sf_b x.2.2.2.2.2.1), .int x.2.2.2.2.2.2.1, .int (sf_b pw), .double x.2.2.2.2.2.2.2.2.1, .double x.2.2.2.2.2.2.2.2.2.1, .int x.2.2.2.2.2.2.2.2.2.2.1, .int x.2.2.2.2.2.2.2.2.2.2.2])), (hq, .inl (cZ, 24, .inl (fun i9 => sf_b (bt i9))))] H := hP
      have hD : va_D A [(ha, .inr (0, [.int x.1, .int x.2.1, .int x.2.2.1, .int x.2.2.2.1, .double x.2.2.2.2.1, .int (sf_b x.2.2.2.2.2.1), .int x.2.2.2.2.2.2.1, .int (sf_b pw), .double x.2.2.2.2.2.2.2.2.1, .double x.2.2.2.2.2.2.2.2.2.1, .int x.2.2.2.2.2.2.2.2.2.2.1, .int x.2.2.2.2.2.2.2.2.2.2.2])), (hq, .inl (cZ, 24, .inl (fun i9 => sf_b (bt i9))))] := hD
      refine lv_aload_n hx hb dX0_countRuns_54 rfl (lv_at hl 2 rfl) ?_
      refine lv_aload_n hx hb dX0_countRuns_55 rfl (lv_at hl 0 rfl) ?_
      refine va_get (D := (dC, dI)) (ci := 0) (v := .int x.2.2.2.1) (C := RX0) (T := TX0) (N := 12) hx hb hg in_X0 hown hK hP 0 rfl rfl 3 (by decide) (hg _ mw_84) (fun _ h9 => h9) rfl dX0_countRuns_56 ?_
      refine lv_aload_n hx hb dX0_countRuns_59 rfl (lv_at hl 0 rfl) ?_
      refine va_get (D := (dC, dI)) (ci := 0) (v := .int x.2.2.2.2.2.2.1) (C := RX0) (T := TX0) (N := 12) hx hb hg in_X0 hown hK hP 0 rfl rfl 6 (by decide) (hg _ mw_88) (fun _ h9 => h9) rfl dX0_countRuns_60 ?_
      refine lv_i2d hx hb dX0_countRuns_63 ?_
      refine lv_aload_n hx hb dX0_countRuns_64 rfl (lv_at hl 0 rfl) ?_
      refine va_get (D := (dC, dI)) (ci := 0) (v := .double x.2.2.2.2.1) (C := RX0) (T := TX0) (N := 12) hx hb hg in_X0 hown hK hP 0 rfl rfl 4 (by decide) (hg _ mw_85) (fun _ h9 => h9) rfl dX0_countRuns_65 ?_
      refine lv_dcmp hx hb dX0_countRuns_68 ?_
      refine lv_if_lt (tgt := 76) hx hb dX0_countRuns_69 (by decide) (fun c_3 => ?_) (fun c_3 => ?_)
      · have c_3 := sd_l_lt.mp c_3
        refine lv_iconst (v := sf_b false) hx hb dX0_countRuns_76 (by decide) ?_
        refine sf_zast hx hb hK hP hD hS 1 0 rfl rfl (fb_c x) hc9.1 hc9.2 (by decide) dX0_countRuns_77 (fun H locs hP hD hS => ?_)
        have hP : va_P (dC, dI) vwCl [(ha, .inr (0, [.int x.1, .int x.2.1, .int x.2.2.1, .int x.2.2.2.1, .double x.2.2.2.2.1, .int (sf_b x.2.2.2.2.2.1), .int x.2.2.2.2.2.2.1, .int (sf_b pw), .double x.2.2.2.2.2.2.2.2.1, .double x.2.2.2.2.2.2.2.2.2.1, .int x.2.2.2.2.2.2.2.2.2.2.1, .int x.2.2.2.2.2.2.2.2.2.2.2])), (hq, .inl (cZ, 24, .inl (fun i9 => sf_b ((va_up bt (fb_c x) false) i9))))] H := hP
        have hD : va_D A [(ha, .inr (0, [.int x.1, .int x.2.1, .int x.2.2.1, .int x.2.2.2.1, .double x.2.2.2.2.1, .int (sf_b x.2.2.2.2.2.1), .int x.2.2.2.2.2.2.1, .int (sf_b pw), .double x.2.2.2.2.2.2.2.2.1, .double x.2.2.2.2.2.2.2.2.2.1, .int x.2.2.2.2.2.2.2.2.2.2.1, .int x.2.2.2.2.2.2.2.2.2.2.2])), (hq, .inl (cZ, 24, .inl (fun i9 => sf_b ((va_up bt (fb_c x) false) i9))))] := hD
        have hP9 : va_P (dC, dI) vwCl ([wp_B ha (fb_count x pw bt), wp_Z hq cZ 24 (fb_cbit x pw bt)]) H := by
          rw [show fb_count x pw bt = (x.1, x.2.1, x.2.2.1, x.2.2.2.1, x.2.2.2.2.1, x.2.2.2.2.2.1, x.2.2.2.2.2.2.1, pw, x.2.2.2.2.2.2.2.2.1, x.2.2.2.2.2.2.2.2.2.1, x.2.2.2.2.2.2.2.2.2.2.1, x.2.2.2.2.2.2.2.2.2.2.2) from by first | rfl | (simp [fb_count, fb_cbit, fb_ccnt, fb_cnt, fb_had, c_1, c_2, c_3]; done)]
          rw [show fb_cbit x pw bt = va_up bt (fb_c x) false from by first | rfl | (simp [fb_count, fb_cbit, fb_ccnt, fb_cnt, fb_had, c_1, c_2, c_3]; done)]
          exact hP
        have hD9 : va_D A ([wp_B ha (fb_count x pw bt), wp_Z hq cZ 24 (fb_cbit x pw bt)]) := by
          rw [show fb_count x pw bt = (x.1, x.2.1, x.2.2.1, x.2.2.2.1, x.2.2.2.2.1, x.2.2.2.2.2.1, x.2.2.2.2.2.2.1, pw, x.2.2.2.2.2.2.2.2.1, x.2.2.2.2.2.2.2.2.2.1, x.2.2.2.2.2.2.2.2.2.2.1, x.2.2.2.2.2.2.2.2.2.2.2) from by first | rfl | (simp [fb_count, fb_cbit, fb_ccnt, fb_cnt, fb_had, c_1, c_2, c_3]; done)]
          rw [show fb_cbit x pw bt = va_up bt (fb_c x) false from by first | rfl | (simp [fb_count, fb_cbit, fb_ccnt, fb_cnt, fb_had, c_1, c_2, c_3]; done)]
          exact hD
        exact W.vret hx hb hr (fun t ht _ => ⟨rfl, by rw [ht]; exact hP9, hAe ▸ hD9, hAe ▸ hS.F ht⟩) (fun q hq => by rw [← hAe]; exact hS.2.2 q hq) dX0_countRuns_78
      · have c_3 := sd_nl_lt c_3
        refine lv_iconst (v := sf_b true) hx hb dX0_countRuns_72 (by decide) ?_
        refine lv_goto (tgt := 77) hx hb dX0_countRuns_73 (by decide) ?_
        refine sf_zast hx hb hK hP hD hS 1 0 rfl rfl (fb_c x) hc9.1 hc9.2 (by decide) dX0_countRuns_77 (fun H locs hP hD hS => ?_)
        have hP : va_P (dC, dI) vwCl [(ha, .inr (0, [.int x.1, .int x.2.1, .int x.2.2.1, .int x.2.2.2.1, .double x.2.2.2.2.1, .int (sf_b x.2.2.2.2.2.1), .int x.2.2.2.2.2.2.1, .int (sf_b pw), .double x.2.2.2.2.2.2.2.2.1, .double x.2.2.2.2.2.2.2.2.2.1, .int x.2.2.2.2.2.2.2.2.2.2.1, .int x.2.2.2.2.2.2.2.2.2.2.2])), (hq, .inl (cZ, 24, .inl (fun i9 => sf_b ((va_up bt (fb_c x) true) i9))))] H := hP
        have hD : va_D A [(ha, .inr (0, [.int x.1, .int x.2.1, .int x.2.2.1, .int x.2.2.2.1, .double x.2.2.2.2.1, .int (sf_b x.2.2.2.2.2.1), .int x.2.2.2.2.2.2.1, .int (sf_b pw), .double x.2.2.2.2.2.2.2.2.1, .double x.2.2.2.2.2.2.2.2.2.1, .int x.2.2.2.2.2.2.2.2.2.2.1, .int x.2.2.2.2.2.2.2.2.2.2.2])), (hq, .inl (cZ, 24, .inl (fun i9 => sf_b ((va_up bt (fb_c x) true) i9))))] := hD
        have hP9 : va_P (dC, dI) vwCl ([wp_B ha (fb_count x pw bt), wp_Z hq cZ 24 (fb_cbit x pw bt)]) H := by
          rw [show fb_count x pw bt = (x.1, x.2.1, x.2.2.1, x.2.2.2.1, x.2.2.2.2.1, x.2.2.2.2.2.1, x.2.2.2.2.2.2.1, pw, x.2.2.2.2.2.2.2.2.1, x.2.2.2.2.2.2.2.2.2.1, x.2.2.2.2.2.2.2.2.2.2.1, x.2.2.2.2.2.2.2.2.2.2.2) from by first | rfl | (simp [fb_count, fb_cbit, fb_ccnt, fb_cnt, fb_had, c_1, c_2, c_3]; done)]
          rw [show fb_cbit x pw bt = va_up bt (fb_c x) true from by first | rfl | (simp [fb_count, fb_cbit, fb_ccnt, fb_cnt, fb_had, c_1, c_2, c_3]; done)]
          exact hP
        have hD9 : va_D A ([wp_B ha (fb_count x pw bt), wp_Z hq cZ 24 (fb_cbit x pw bt)]) := by
          rw [show fb_count x pw bt = (x.1, x.2.1, x.2.2.1, x.2.2.2.1, x.2.2.2.2.1, x.2.2.2.2.2.1, x.2.2.2.2.2.2.1, pw, x.2.2.2.2.2.2.2.2.1, x.2.2.2.2.2.2.2.2.2.1, x.2.2.2.2.2.2.2.2.2.2.1, x.2.2.2.2.2.2.2.2.2.2.2) from by first | rfl | (simp [fb_count, fb_cbit, fb_ccnt, fb_cnt, fb_had, c_1, c_2, c_3]; done)]
          rw [show fb_cbit x pw bt = va_up bt (fb_c x) true from by first | rfl | (simp [fb_count, fb_cbit, fb_ccnt, fb_cnt, fb_had, c_1, c_2, c_3]; done)]
          exact hD
        exact W.vret hx hb hr (fun t ht _ => ⟨rfl, by rw [ht]; exact hP9, hAe ▸ hD9, hAe ▸ hS.F ht⟩) (fun q hq => by rw [← hAe]; exact hS.2.2 q hq) dX0_countRuns_78
    · refine lv_aload_n hx hb dX0_countRuns_19 rfl (lv_at hl 0 rfl) ?_
      refine va_get (D := (dC, dI)) (ci := 0) (v := .int (sf_b x.2.2.2.2.2.2.2.1)) (C := RX0) (T := TX0) (N := 12) hx hb hg in_X0 hown hK hP 0 rfl rfl 7 (by decide) (hg _ mw_89) (fun _ h9 => h9) rfl dX0_countRuns_20 ?_
      refine sf_ifne (tgt := 49) hx hb dX0_countRuns_23 (by decide) (fun c_4 => ?_) (fun c_4 => ?_)
      · refine lv_aload_n hx hb dX0_countRuns_49 rfl (lv_at hl 0 rfl) ?_
        refine lv_iload_n hx hb dX0_countRuns_50 rfl (lv_at hl 1 rfl) ?_
        refine va_put (D := (dC, dI)) (ci := 0) (v := .int (sf_b pw)) (ty := .boolean) (C := RX0) (T := TX0) (N := 12) hx hb hg in_X0 tyX0 tyX0_ok nmX0 hown hK hP hD hS 0 rfl rfl 7 (by decide) (hg _ mw_89) (fun _ h9 => h9) rfl (by decide +kernel) (sf_b_nb _) (sf_b_fit _) (Nat.le_of_ble_eq_true rfl) dX0_countRuns_51 (fun H locs hP hD hS => ?_)
        have hP : va_P (dC, dI) vwCl [(ha, .inr (0, [.int x.1, .int x.2.1, .int x.2.2.1, .int x.2.2.2.1, .double x.2.2.2.2.1, .int (sf_b x.2.2.2.2.2.1), .int x.2.2.2.2.2.2.1, .int (sf_b pw), .double x.2.2.2.2.2.2.2.2.1, .double x.2.2.2.2.2.2.2.2.2.1, .int x.2.2.2.2.2.2.2.2.2.2.1, .int x.2.2.2.2.2.2.2.2.2.2.2])), (hq, .inl (cZ, 24, .inl (fun i9 => sf_b (bt i9))))] H := hP
        have hD : va_D A [(ha, .inr (0, [.int x.1, .int x.2.1, .int x.2.2.1, .int x.2.2.2.1, .double x.2.2.2.2.1, .int (sf_b x.2.2.2.2.2.1), .int x.2.2.2.2.2.2.1, .int (sf_b pw), .double x.2.2.2.2.2.2.2.2.1, .double x.2.2.2.2.2.2.2.2.2.1, .int x.2.2.2.2.2.2.2.2.2.2.1, .int x.2.2.2.2.2.2.2.2.2.2.2])), (hq, .inl (cZ, 24, .inl (fun i9 => sf_b (bt i9))))] := hD
        refine lv_aload_n hx hb dX0_countRuns_54 rfl (lv_at hl 2 rfl) ?_
        refine lv_aload_n hx hb dX0_countRuns_55 rfl (lv_at hl 0 rfl) ?_
        refine va_get (D := (dC, dI)) (ci := 0) (v := .int x.2.2.2.1) (C := RX0) (T := TX0) (N := 12) hx hb hg in_X0 hown hK hP 0 rfl rfl 3 (by decide) (hg _ mw_84) (fun _ h9 => h9) rfl dX0_countRuns_56 ?_
        refine lv_aload_n hx hb dX0_countRuns_59 rfl (lv_at hl 0 rfl) ?_
        refine va_get (D := (dC, dI)) (ci := 0) (v := .int x.2.2.2.2.2.2.1) (C := RX0) (T := TX0) (N := 12) hx hb hg in_X0 hown hK hP 0 rfl rfl 6 (by decide) (hg _ mw_88) (fun _ h9 => h9) rfl dX0_countRuns_60 ?_
        refine lv_i2d hx hb dX0_countRuns_63 ?_
        refine lv_aload_n hx hb dX0_countRuns_64 rfl (lv_at hl 0 rfl) ?_
        refine va_get (D := (dC, dI)) (ci := 0) (v := .double x.2.2.2.2.1) (C := RX0) (T := TX0) (N := 12) hx hb hg in_X0 hown hK hP 0 rfl rfl 4 (by decide) (hg _ mw_85) (fun _ h9 => h9) rfl dX0_countRuns_65 ?_
        refine lv_dcmp hx hb dX0_countRuns_68 ?_
        refine lv_if_lt (tgt := 76) hx hb dX0_countRuns_69 (by decide) (fun c_5 => ?_) (fun c_5 => ?_)
        · have c_5 := sd_l_lt.mp c_5
          refine lv_iconst (v := sf_b false) hx hb dX0_countRuns_76 (by decide) ?_
          refine sf_zast hx hb hK hP hD hS 1 0 rfl rfl (fb_c x) hc9.1 hc9.2 (by decide) dX0_countRuns_77 (fun H locs hP hD hS => ?_)
          have hP : va_P (dC, dI) vwCl [(ha, .inr (0, [.int x.1, .int x.2.1, .int x.2.2.1, .int x.2.2.2.1, .double x.2.2.2.2.1, .int (sf_b x.2.2.2.2.2.1), .int x.2.2.2.2.2.2.1, .int (sf_b pw), .double x.2.2.2.2.2.2.2.2.1, .double x.2.2.2.2.2.2.2.2.2.1, .int x.2.2.2.2.2.2.2.2.2.2.1, .int x.2.2.2.2.2.2.2.2.2.2.2])), (hq, .inl (cZ, 24, .inl (fun i9 => sf_b ((va_up bt (fb_c x) false) i9))))] H := hP
          have hD : va_D A [(ha, .inr (0, [.int x.1, .int x.2.1, .int x.2.2.1, .int x.2.2.2.1, .double x.2.2.2.2.1, .int (sf_b x.2.2.2.2.2.1), .int x.2.2.2.2.2.2.1, .int (sf_b pw), .double x.2.2.2.2.2.2.2.2.1, .double x.2.2.2.2.2.2.2.2.2.1, .int x.2.2.2.2.2.2.2.2.2.2.1, .int x.2.2.2.2.2.2.2.2.2.2.2])), (hq, .inl (cZ, 24, .inl (fun i9 => sf_b ((va_up bt (fb_c x) false) i9))))] := hD
          have hP9 : va_P (dC, dI) vwCl ([wp_B ha (fb_count x pw bt), wp_Z hq cZ 24 (fb_cbit x pw bt)]) H := by
            rw [show fb_count x pw bt = (x.1, x.2.1, x.2.2.1, x.2.2.2.1, x.2.2.2.2.1, x.2.2.2.2.2.1, x.2.2.2.2.2.2.1, pw, x.2.2.2.2.2.2.2.2.1, x.2.2.2.2.2.2.2.2.2.1, x.2.2.2.2.2.2.2.2.2.2.1, x.2.2.2.2.2.2.2.2.2.2.2) from by first | rfl | (simp [fb_count, fb_cbit, fb_ccnt, fb_cnt, fb_had, c_1, c_2, c_4, c_5]; done)]
            rw [show fb_cbit x pw bt = va_up bt (fb_c x) false from by first | rfl | (simp [fb_count, fb_cbit, fb_ccnt, fb_cnt, fb_had, c_1, c_2, c_4, c_5]; done)]
            exact hP
          have hD9 : va_D A ([wp_B ha (fb_count x pw bt), wp_Z hq cZ 24 (fb_cbit x pw bt)]) := by
            rw [show fb_count x pw bt = (x.1, x.2.1, x.2.2.1, x.2.2.2.1, x.2.2.2.2.1, x.2.2.2.2.2.1, x.2.2.2.2.2.2.1, pw, x.2.2.2.2.2.2.2.2.1, x.2.2.2.2.2.2.2.2.2.1, x.2.2.2.2.2.2.2.2.2.2.1, x.2.2.2.2.2.2.2.2.2.2.2) from by first | rfl | (simp [fb_count, fb_cbit, fb_ccnt, fb_cnt, fb_had, c_1, c_2, c_4, c_5]; done)]
            rw [show fb_cbit x pw bt = va_up bt (fb_c x) false from by first | rfl | (simp [fb_count, fb_cbit, fb_ccnt, fb_cnt, fb_had, c_1, c_2, c_4, c_5]; done)]
            exact hD
          exact W.vret hx hb hr (fun t ht _ => ⟨rfl, by rw [ht]; exact hP9, hAe ▸ hD9, hAe ▸ hS.F ht⟩) (fun q hq => by rw [← hAe]; exact hS.2.2 q hq) dX0_countRuns_78
        · have c_5 := sd_nl_lt c_5
          refine lv_iconst (v := sf_b true) hx hb dX0_countRuns_72 (by decide) ?_
          refine lv_goto (tgt := 77) hx hb dX0_countRuns_73 (by decide) ?_
          refine sf_zast hx hb hK hP hD hS 1 0 rfl rfl (fb_c x) hc9.1 hc9.2 (by decide) dX0_countRuns_77 (fun H locs hP hD hS => ?_)
          have hP : va_P (dC, dI) vwCl [(ha, .inr (0, [.int x.1, .int x.2.1, .int x.2.2.1, .int x.2.2.2.1, .double x.2.2.2.2.1, .int (sf_b x.2.2.2.2.2.1), .int x.2.2.2.2.2.2.1, .int (sf_b pw), .double x.2.2.2.2.2.2.2.2.1, .double x.2.2.2.2.2.2.2.2.2.1, .int x.2.2.2.2.2.2.2.2.2.2.1, .int x.2.2.2.2.2.2.2.2.2.2.2])), (hq, .inl (cZ, 24, .inl (fun i9 => sf_b ((va_up bt (fb_c x) true) i9))))] H := hP
          have hD : va_D A [(ha, .inr (0, [.int x.1, .int x.2.1, .int x.2.2.1, .int x.2.2.2.1, .double x.2.2.2.2.1, .int (sf_b x.2.2.2.2.2.1), .int x.2.2.2.2.2.2.1, .int (sf_b pw), .double x.2.2.2.2.2.2.2.2.1, .double x.2.2.2.2.2.2.2.2.2.1, .int x.2.2.2.2.2.2.2.2.2.2.1, .int x.2.2.2.2.2.2.2.2.2.2.2])), (hq, .inl (cZ, 24, .inl (fun i9 => sf_b ((va_up bt (fb_c x) true) i9))))] := hD
          have hP9 : va_P (dC, dI) vwCl ([wp_B ha (fb_count x pw bt), wp_Z hq cZ 24 (fb_cbit x pw bt)]) H := by
            rw [show fb_count x pw bt = (x.1, x.2.1, x.2.2.1, x.2.2.2.1, x.2.2.2.2.1, x.2.2.2.2.2.1, x.2.2.2.2.2.2.1, pw, x.2.2.2.2.2.2.2.2.1, x.2.2.2.2.2.2.2.2.2.1, x.2.2.2.2.2.2.2.2.2.2.1, x.2.2.2.2.2.2.2.2.2.2.2) from by first | rfl | (simp [fb_count, fb_cbit, fb_ccnt, fb_cnt, fb_had, c_1, c_2, c_4, c_5]; done)]
            rw [show fb_cbit x pw bt = va_up bt (fb_c x) true from by first | rfl | (simp [fb_count, fb_cbit, fb_ccnt, fb_cnt, fb_had, c_1, c_2, c_4, c_5]; done)]
            exact hP
          have hD9 : va_D A ([wp_B ha (fb_count x pw bt), wp_Z hq cZ 24 (fb_cbit x pw bt)]) := by
            rw [show fb_count x pw bt = (x.1, x.2.1, x.2.2.1, x.2.2.2.1, x.2.2.2.2.1, x.2.2.2.2.2.1, x.2.2.2.2.2.2.1, pw, x.2.2.2.2.2.2.2.2.1, x.2.2.2.2.2.2.2.2.2.1, x.2.2.2.2.2.2.2.2.2.2.1, x.2.2.2.2.2.2.2.2.2.2.2) from by first | rfl | (simp [fb_count, fb_cbit, fb_ccnt, fb_cnt, fb_had, c_1, c_2, c_4, c_5]; done)]
            rw [show fb_cbit x pw bt = va_up bt (fb_c x) true from by first | rfl | (simp [fb_count, fb_cbit, fb_ccnt, fb_cnt, fb_had, c_1, c_2, c_4, c_5]; done)]
            exact hD
          exact W.vret hx hb hr (fun t ht _ => ⟨rfl, by rw [ht]; exact hP9, hAe ▸ hD9, hAe ▸ hS.F ht⟩) (fun q hq => by rw [← hAe]; exact hS.2.2 q hq) dX0_countRuns_78
      · refine lv_aload_n hx hb dX0_countRuns_26 rfl (lv_at hl 0 rfl) ?_
        refine va_get (D := (dC, dI)) (ci := 0) (v := .int x.2.2.2.2.2.2.1) (C := RX0) (T := TX0) (N := 12) hx hb hg in_X0 hown hK hP 0 rfl rfl 6 (by decide) (hg _ mw_88) (fun _ h9 => h9) rfl dX0_countRuns_27 ?_
        refine lv_i2d hx hb dX0_countRuns_30 ?_
        refine lv_aload_n hx hb dX0_countRuns_31 rfl (lv_at hl 0 rfl) ?_
        refine va_get (D := (dC, dI)) (ci := 0) (v := .double x.2.2.2.2.1) (C := RX0) (T := TX0) (N := 12) hx hb hg in_X0 hown hK hP 0 rfl rfl 4 (by decide) (hg _ mw_85) (fun _ h9 => h9) rfl dX0_countRuns_32 ?_
        refine lv_dcmp hx hb dX0_countRuns_35 ?_
        refine lv_if_ge (tgt := 49) hx hb dX0_countRuns_36 (by decide) (fun c_6 => ?_) (fun c_6 => ?_)
        · have c_6 := sd_g_ge.mp c_6
          refine lv_aload_n hx hb dX0_countRuns_49 rfl (lv_at hl 0 rfl) ?_
          refine lv_iload_n hx hb dX0_countRuns_50 rfl (lv_at hl 1 rfl) ?_
          refine va_put (D := (dC, dI)) (ci := 0) (v := .int (sf_b pw)) (ty := .boolean) (C := RX0) (T := TX0) (N := 12) hx hb hg in_X0 tyX0 tyX0_ok nmX0 hown hK hP hD hS 0 rfl rfl 7 (by decide) (hg _ mw_89) (fun _ h9 => h9) rfl (by decide +kernel) (sf_b_nb _) (sf_b_fit _) (Nat.le_of_ble_eq_true rfl) dX0_countRuns_51 (fun H locs hP hD hS => ?_)
          have hP : va_P (dC, dI) vwCl [(ha, .inr (0, [.int x.1, .int x.2.1, .int x.2.2.1, .int x.2.2.2.1, .double x.2.2.2.2.1, .int (sf_b x.2.2.2.2.2.1), .int x.2.2.2.2.2.2.1, .int (sf_b pw), .double x.2.2.2.2.2.2.2.2.1, .double x.2.2.2.2.2.2.2.2.2.1, .int x.2.2.2.2.2.2.2.2.2.2.1, .int x.2.2.2.2.2.2.2.2.2.2.2])), (hq, .inl (cZ, 24, .inl (fun i9 => sf_b (bt i9))))] H := hP
          have hD : va_D A [(ha, .inr (0, [.int x.1, .int x.2.1, .int x.2.2.1, .int x.2.2.2.1, .double x.2.2.2.2.1, .int (sf_b x.2.2.2.2.2.1), .int x.2.2.2.2.2.2.1, .int (sf_b pw), .double x.2.2.2.2.2.2.2.2.1, .double x.2.2.2.2.2.2.2.2.2.1, .int x.2.2.2.2.2.2.2.2.2.2.1, .int x.2.2.2.2.2.2.2.2.2.2.2])), (hq, .inl (cZ, 24, .inl (fun i9 => sf_b (bt i9))))] := hD
          refine lv_aload_n hx hb dX0_countRuns_54 rfl (lv_at hl 2 rfl) ?_
          refine lv_aload_n hx hb dX0_countRuns_55 rfl (lv_at hl 0 rfl) ?_
          refine va_get (D := (dC, dI)) (ci := 0) (v := .int x.2.2.2.1) (C := RX0) (T := TX0) (N := 12) hx hb hg in_X0 hown hK hP 0 rfl rfl 3 (by decide) (hg _ mw_84) (fun _ h9 => h9) rfl dX0_countRuns_56 ?_
          refine lv_aload_n hx hb dX0_countRuns_59 rfl (lv_at hl 0 rfl) ?_
          refine va_get (D := (dC, dI)) (ci := 0) (v := .int x.2.2.2.2.2.2.1) (C := RX0) (T := TX0) (N := 12) hx hb hg in_X0 hown hK hP 0 rfl rfl 6 (by decide) (hg _ mw_88) (fun _ h9 => h9) rfl dX0_countRuns_60 ?_
          refine lv_i2d hx hb dX0_countRuns_63 ?_
          refine lv_aload_n hx hb dX0_countRuns_64 rfl (lv_at hl 0 rfl) ?_
          refine va_get (D := (dC, dI)) (ci := 0) (v := .double x.2.2.2.2.1) (C := RX0) (T := TX0) (N := 12) hx hb hg in_X0 hown hK hP 0 rfl rfl 4 (by decide) (hg _ mw_85) (fun _ h9 => h9) rfl dX0_countRuns_65 ?_
          refine lv_dcmp hx hb dX0_countRuns_68 ?_
          refine lv_if_lt (tgt := 76) hx hb dX0_countRuns_69 (by decide) (fun c_7 => ?_) (fun c_7 => ?_)
          · have c_7 := sd_l_lt.mp c_7
            refine lv_iconst (v := sf_b false) hx hb dX0_countRuns_76 (by decide) ?_
            refine sf_zast hx hb hK hP hD hS 1 0 rfl rfl (fb_c x) hc9.1 hc9.2 (by decide) dX0_countRuns_77 (fun H locs hP hD hS => ?_)
            have hP : va_P (dC, dI) vwCl [(ha, .inr (0, [.int x.1, .int x.2.1, .int x.2.2.1, .int x.2.2.2.1, .double x.2.2.2.2.1, .int (sf_b x.2.2.2.2.2.1), .int x.2.2.2.2.2.2.1, .int (sf_b pw), .double x.2.2.2.2.2.2.2.2.1, .double x.2.2.2.2.2.2.2.2.2.1, .int x.2.2.2.2.2.2.2.2.2.2.1, .int x.2.2.2.2.2.2.2.2.2.2.2])), (hq, .inl (cZ, 24, .inl (fun i9 => sf_b ((va_up bt (fb_c x) false) i9))))] H := hP
            have hD : va_D A [(ha, .inr (0, [.int x.1, .int x.2.1, .int x.2.2.1, .int x.2.2.2.1, .double x.2.2.2.2.1, .int (sf_b x.2.2.2.2.2.1), .int x.2.2.2.2.2.2.1, .int (sf_b pw), .double x.2.2.2.2.2.2.2.2.1, .double x.2.2.2.2.2.2.2.2.2.1, .int x.2.2.2.2.2.2.2.2.2.2.1, .int x.2.2.2.2.2.2.2.2.2.2.2])), (hq, .inl (cZ, 24, .inl (fun i9 => sf_b ((va_up bt (fb_c x) false) i9))))] := hD
            have hP9 : va_P (dC, dI) vwCl ([wp_B ha (fb_count x pw bt), wp_Z hq cZ 24 (fb_cbit x pw bt)]) H := by
              rw [show fb_count x pw bt = (x.1, x.2.1, x.2.2.1, x.2.2.2.1, x.2.2.2.2.1, x.2.2.2.2.2.1, x.2.2.2.2.2.2.1, pw, x.2.2.2.2.2.2.2.2.1, x.2.2.2.2.2.2.2.2.2.1, x.2.2.2.2.2.2.2.2.2.2.1, x.2.2.2.2.2.2.2.2.2.2.2) from by first | rfl | (simp [fb_count, fb_cbit, fb_ccnt, fb_cnt, fb_had, c_1, c_2, c_4, c_6, c_7]; done)]
              rw [show fb_cbit x pw bt = va_up bt (fb_c x) false from by first | rfl | (simp [fb_count, fb_cbit, fb_ccnt, fb_cnt, fb_had, c_1, c_2, c_4, c_6, c_7]; done)]
              exact hP
            have hD9 : va_D A ([wp_B ha (fb_count x pw bt), wp_Z hq cZ 24 (fb_cbit x pw bt)]) := by
              rw [show fb_count x pw bt = (x.1, x.2.1, x.2.2.1, x.2.2.2.1, x.2.2.2.2.1, x.2.2.2.2.2.1, x.2.2.2.2.2.2.1, pw, x.2.2.2.2.2.2.2.2.1, x.2.2.2.2.2.2.2.2.2.1, x.2.2.2.2.2.2.2.2.2.2.1, x.2.2.2.2.2.2.2.2.2.2.2) from by first | rfl | (simp [fb_count, fb_cbit, fb_ccnt, fb_cnt, fb_had, c_1, c_2, c_4, c_6, c_7]; done)]
              rw [show fb_cbit x pw bt = va_up bt (fb_c x) false from by first | rfl | (simp [fb_count, fb_cbit, fb_ccnt, fb_cnt, fb_had, c_1, c_2, c_4, c_6, c_7]; done)]
              exact hD
            exact W.vret hx hb hr (fun t ht _ => ⟨rfl, by rw [ht]; exact hP9, hAe ▸ hD9, hAe ▸ hS.F ht⟩) (fun q hq => by rw [← hAe]; exact hS.2.2 q hq) dX0_countRuns_78
          · have c_7 := sd_nl_lt c_7
            refine lv_iconst (v := sf_b true) hx hb dX0_countRuns_72 (by decide) ?_
            refine lv_goto (tgt := 77) hx hb dX0_countRuns_73 (by decide) ?_
            refine sf_zast hx hb hK hP hD hS 1 0 rfl rfl (fb_c x) hc9.1 hc9.2 (by decide) dX0_countRuns_77 (fun H locs hP hD hS => ?_)
            have hP : va_P (dC, dI) vwCl [(ha, .inr (0, [.int x.1, .int x.2.1, .int x.2.2.1, .int x.2.2.2.1, .double x.2.2.2.2.1, .int (sf_b x.2.2.2.2.2.1), .int x.2.2.2.2.2.2.1, .int (sf_b pw), .double x.2.2.2.2.2.2.2.2.1, .double x.2.2.2.2.2.2.2.2.2.1, .int x.2.2.2.2.2.2.2.2.2.2.1, .int x.2.2.2.2.2.2.2.2.2.2.2])), (hq, .inl (cZ, 24, .inl (fun i9 => sf_b ((va_up bt (fb_c x) true) i9))))] H := hP
            have hD : va_D A [(ha, .inr (0, [.int x.1, .int x.2.1, .int x.2.2.1, .int x.2.2.2.1, .double x.2.2.2.2.1, .int (sf_b x.2.2.2.2.2.1), .int x.2.2.2.2.2.2.1, .int (sf_b pw), .double x.2.2.2.2.2.2.2.2.1, .double x.2.2.2.2.2.2.2.2.2.1, .int x.2.2.2.2.2.2.2.2.2.2.1, .int x.2.2.2.2.2.2.2.2.2.2.2])), (hq, .inl (cZ, 24, .inl (fun i9 => sf_b ((va_up bt (fb_c x) true) i9))))] := hD
            have hP9 : va_P (dC, dI) vwCl ([wp_B ha (fb_count x pw bt), wp_Z hq cZ 24 (fb_cbit x pw bt)]) H := by
              rw [show fb_count x pw bt = (x.1, x.2.1, x.2.2.1, x.2.2.2.1, x.2.2.2.2.1, x.2.2.2.2.2.1, x.2.2.2.2.2.2.1, pw, x.2.2.2.2.2.2.2.2.1, x.2.2.2.2.2.2.2.2.2.1, x.2.2.2.2.2.2.2.2.2.2.1, x.2.2.2.2.2.2.2.2.2.2.2) from by first | rfl | (simp [fb_count, fb_cbit, fb_ccnt, fb_cnt, fb_had, c_1, c_2, c_4, c_6, c_7]; done)]
              rw [show fb_cbit x pw bt = va_up bt (fb_c x) true from by first | rfl | (simp [fb_count, fb_cbit, fb_ccnt, fb_cnt, fb_had, c_1, c_2, c_4, c_6, c_7]; done)]
              exact hP
            have hD9 : va_D A ([wp_B ha (fb_count x pw bt), wp_Z hq cZ 24 (fb_cbit x pw bt)]) := by
              rw [show fb_count x pw bt = (x.1, x.2.1, x.2.2.1, x.2.2.2.1, x.2.2.2.2.1, x.2.2.2.2.2.1, x.2.2.2.2.2.2.1, pw, x.2.2.2.2.2.2.2.2.1, x.2.2.2.2.2.2.2.2.2.1, x.2.2.2.2.2.2.2.2.2.2.1, x.2.2.2.2.2.2.2.2.2.2.2) from by first | rfl | (simp [fb_count, fb_cbit, fb_ccnt, fb_cnt, fb_had, c_1, c_2, c_4, c_6, c_7]; done)]
              rw [show fb_cbit x pw bt = va_up bt (fb_c x) true from by first | rfl | (simp [fb_count, fb_cbit, fb_ccnt, fb_cnt, fb_had, c_1, c_2, c_4, c_6, c_7]; done)]
              exact hD
            exact W.vret hx hb hr (fun t ht _ => ⟨rfl, by rw [ht]; exact hP9, hAe ▸ hD9, hAe ▸ hS.F ht⟩) (fun q hq => by rw [← hAe]; exact hS.2.2 q hq) dX0_countRuns_78
        · have c_6 := sd_ng_ge c_6
          refine lv_aload_n hx hb dX0_countRuns_39 rfl (lv_at hl 0 rfl) ?_
          refine lv_dup hx hb dX0_countRuns_40 rfl ?_
          refine va_get (D := (dC, dI)) (ci := 0) (v := .int x.2.2.2.2.2.2.1) (C := RX0) (T := TX0) (N := 12) hx hb hg in_X0 hown hK hP 0 rfl rfl 6 (by decide) (hg _ mw_88) (fun _ h9 => h9) rfl dX0_countRuns_41 ?_
          refine lv_iconst (v := 1) hx hb dX0_countRuns_44 (by decide) ?_
          refine lv_iadd hx hb dX0_countRuns_45 ?_
          refine va_put (D := (dC, dI)) (ci := 0) (v := .int (x.2.2.2.2.2.2.1 + 1)) (ty := .int) (C := RX0) (T := TX0) (N := 12) hx hb hg in_X0 tyX0 tyX0_ok nmX0 hown hK hP hD hS 0 rfl rfl 6 (by decide) (hg _ mw_88) (fun _ h9 => h9) rfl (by decide +kernel) rfl rfl (Nat.le_of_ble_eq_true rfl) dX0_countRuns_46 (fun H locs hP hD hS => ?_)
          have hP : va_P (dC, dI) vwCl [(ha, .inr (0, [.int x.1, .int x.2.1, .int x.2.2.1, .int x.2.2.2.1, .double x.2.2.2.2.1, .int (sf_b x.2.2.2.2.2.1), .int (x.2.2.2.2.2.2.1 + 1), .int (sf_b x.2.2.2.2.2.2.2.1), .double x.2.2.2.2.2.2.2.2.1, .double x.2.2.2.2.2.2.2.2.2.1, .int x.2.2.2.2.2.2.2.2.2.2.1, .int x.2.2.2.2.2.2.2.2.2.2.2])), (hq, .inl (cZ, 24, .inl (fun i9 => sf_b (bt i9))))] H := hP
          have hD : va_D A [(ha, .inr (0, [.int x.1, .int x.2.1, .int x.2.2.1, .int x.2.2.2.1, .double x.2.2.2.2.1, .int (sf_b x.2.2.2.2.2.1), .int (x.2.2.2.2.2.2.1 + 1), .int (sf_b x.2.2.2.2.2.2.2.1), .double x.2.2.2.2.2.2.2.2.1, .double x.2.2.2.2.2.2.2.2.2.1, .int x.2.2.2.2.2.2.2.2.2.2.1, .int x.2.2.2.2.2.2.2.2.2.2.2])), (hq, .inl (cZ, 24, .inl (fun i9 => sf_b (bt i9))))] := hD
          refine lv_aload_n hx hb dX0_countRuns_49 rfl (lv_at hl 0 rfl) ?_
          refine lv_iload_n hx hb dX0_countRuns_50 rfl (lv_at hl 1 rfl) ?_
          refine va_put (D := (dC, dI)) (ci := 0) (v := .int (sf_b pw)) (ty := .boolean) (C := RX0) (T := TX0) (N := 12) hx hb hg in_X0 tyX0 tyX0_ok nmX0 hown hK hP hD hS 0 rfl rfl 7 (by decide) (hg _ mw_89) (fun _ h9 => h9) rfl (by decide +kernel) (sf_b_nb _) (sf_b_fit _) (Nat.le_of_ble_eq_true rfl) dX0_countRuns_51 (fun H locs hP hD hS => ?_)
          have hP : va_P (dC, dI) vwCl [(ha, .inr (0, [.int x.1, .int x.2.1, .int x.2.2.1, .int x.2.2.2.1, .double x.2.2.2.2.1, .int (sf_b x.2.2.2.2.2.1), .int (x.2.2.2.2.2.2.1 + 1), .int (sf_b pw), .double x.2.2.2.2.2.2.2.2.1, .double x.2.2.2.2.2.2.2.2.2.1, .int x.2.2.2.2.2.2.2.2.2.2.1, .int x.2.2.2.2.2.2.2.2.2.2.2])), (hq, .inl (cZ, 24, .inl (fun i9 => sf_b (bt i9))))] H := hP
          have hD : va_D A [(ha, .inr (0, [.int x.1, .int x.2.1, .int x.2.2.1, .int x.2.2.2.1, .double x.2.2.2.2.1, .int (sf_b x.2.2.2.2.2.1), .int (x.2.2.2.2.2.2.1 + 1), .int (sf_b pw), .double x.2.2.2.2.2.2.2.2.1, .double x.2.2.2.2.2.2.2.2.2.1, .int x.2.2.2.2.2.2.2.2.2.2.1, .int x.2.2.2.2.2.2.2.2.2.2.2])), (hq, .inl (cZ, 24, .inl (fun i9 => sf_b (bt i9))))] := hD
          refine lv_aload_n hx hb dX0_countRuns_54 rfl (lv_at hl 2 rfl) ?_
          refine lv_aload_n hx hb dX0_countRuns_55 rfl (lv_at hl 0 rfl) ?_
          refine va_get (D := (dC, dI)) (ci := 0) (v := .int x.2.2.2.1) (C := RX0) (T := TX0) (N := 12) hx hb hg in_X0 hown hK hP 0 rfl rfl 3 (by decide) (hg _ mw_84) (fun _ h9 => h9) rfl dX0_countRuns_56 ?_
          refine lv_aload_n hx hb dX0_countRuns_59 rfl (lv_at hl 0 rfl) ?_
          refine va_get (D := (dC, dI)) (ci := 0) (v := .int (x.2.2.2.2.2.2.1 + 1)) (C := RX0) (T := TX0) (N := 12) hx hb hg in_X0 hown hK hP 0 rfl rfl 6 (by decide) (hg _ mw_88) (fun _ h9 => h9) rfl dX0_countRuns_60 ?_
          refine lv_i2d hx hb dX0_countRuns_63 ?_
          refine lv_aload_n hx hb dX0_countRuns_64 rfl (lv_at hl 0 rfl) ?_
          refine va_get (D := (dC, dI)) (ci := 0) (v := .double x.2.2.2.2.1) (C := RX0) (T := TX0) (N := 12) hx hb hg in_X0 hown hK hP 0 rfl rfl 4 (by decide) (hg _ mw_85) (fun _ h9 => h9) rfl dX0_countRuns_65 ?_
          refine lv_dcmp hx hb dX0_countRuns_68 ?_
          refine lv_if_lt (tgt := 76) hx hb dX0_countRuns_69 (by decide) (fun c_8 => ?_) (fun c_8 => ?_)
          · have c_8 := sd_l_lt.mp c_8
            refine lv_iconst (v := sf_b false) hx hb dX0_countRuns_76 (by decide) ?_
            refine sf_zast hx hb hK hP hD hS 1 0 rfl rfl (fb_c x) hc9.1 hc9.2 (by decide) dX0_countRuns_77 (fun H locs hP hD hS => ?_)
            have hP : va_P (dC, dI) vwCl [(ha, .inr (0, [.int x.1, .int x.2.1, .int x.2.2.1, .int x.2.2.2.1, .double x.2.2.2.2.1, .int (sf_b x.2.2.2.2.2.1), .int (x.2.2.2.2.2.2.1 + 1), .int (sf_b pw), .double x.2.2.2.2.2.2.2.2.1, .double x.2.2.2.2.2.2.2.2.2.1, .int x.2.2.2.2.2.2.2.2.2.2.1, .int x.2.2.2.2.2.2.2.2.2.2.2])), (hq, .inl (cZ, 24, .inl (fun i9 => sf_b ((va_up bt (fb_c x) false) i9))))] H := hP
            have hD : va_D A [(ha, .inr (0, [.int x.1, .int x.2.1, .int x.2.2.1, .int x.2.2.2.1, .double x.2.2.2.2.1, .int (sf_b x.2.2.2.2.2.1), .int (x.2.2.2.2.2.2.1 + 1), .int (sf_b pw), .double x.2.2.2.2.2.2.2.2.1, .double x.2.2.2.2.2.2.2.2.2.1, .int x.2.2.2.2.2.2.2.2.2.2.1, .int x.2.2.2.2.2.2.2.2.2.2.2])), (hq, .inl (cZ, 24, .inl (fun i9 => sf_b ((va_up bt (fb_c x) false) i9))))] := hD
            have hP9 : va_P (dC, dI) vwCl ([wp_B ha (fb_count x pw bt), wp_Z hq cZ 24 (fb_cbit x pw bt)]) H := by
              rw [show fb_count x pw bt = (x.1, x.2.1, x.2.2.1, x.2.2.2.1, x.2.2.2.2.1, x.2.2.2.2.2.1, x.2.2.2.2.2.2.1 + 1, pw, x.2.2.2.2.2.2.2.2.1, x.2.2.2.2.2.2.2.2.2.1, x.2.2.2.2.2.2.2.2.2.2.1, x.2.2.2.2.2.2.2.2.2.2.2) from by first | rfl | (simp [fb_count, fb_cbit, fb_ccnt, fb_cnt, fb_had, c_1, c_2, c_4, c_6, c_8]; done)]
              rw [show fb_cbit x pw bt = va_up bt (fb_c x) false from by first | rfl | (simp [fb_count, fb_cbit, fb_ccnt, fb_cnt, fb_had, c_1, c_2, c_4, c_6, c_8]; done)]
              exact hP
            have hD9 : va_D A ([wp_B ha (fb_count x pw bt), wp_Z hq cZ 24 (fb_cbit x pw bt)]) := by
              rw [show fb_count x pw bt = (x.1, x.2.1, x.2.2.1, x.2.2.2.1, x.2.2.2.2.1, x.2.2.2.2.2.1, x.2.2.2.2.2.2.1 + 1, pw, x.2.2.2.2.2.2.2.2.1, x.2.2.2.2.2.2.2.2.2.1, x.2.2.2.2.2.2.2.2.2.2.1, x.2.2.2.2.2.2.2.2.2.2.2) from by first | rfl | (simp [fb_count, fb_cbit, fb_ccnt, fb_cnt, fb_had, c_1, c_2, c_4, c_6, c_8]; done)]
              rw [show fb_cbit x pw bt = va_up bt (fb_c x) false from by first | rfl | (simp [fb_count, fb_cbit, fb_ccnt, fb_cnt, fb_had, c_1, c_2, c_4, c_6, c_8]; done)]
              exact hD
            exact W.vret hx hb hr (fun t ht _ => ⟨rfl, by rw [ht]; exact hP9, hAe ▸ hD9, hAe ▸ hS.F ht⟩) (fun q hq => by rw [← hAe]; exact hS.2.2 q hq) dX0_countRuns_78
          · have c_8 := sd_nl_lt c_8
            refine lv_iconst (v := sf_b true) hx hb dX0_countRuns_72 (by decide) ?_
            refine lv_goto (tgt := 77) hx hb dX0_countRuns_73 (by decide) ?_
            refine sf_zast hx hb hK hP hD hS 1 0 rfl rfl (fb_c x) hc9.1 hc9.2 (by decide) dX0_countRuns_77 (fun H locs hP hD hS => ?_)
            have hP : va_P (dC, dI) vwCl [(ha, .inr (0, [.int x.1, .int x.2.1, .int x.2.2.1, .int x.2.2.2.1, .double x.2.2.2.2.1, .int (sf_b x.2.2.2.2.2.1), .int (x.2.2.2.2.2.2.1 + 1), .int (sf_b pw), .double x.2.2.2.2.2.2.2.2.1, .double x.2.2.2.2.2.2.2.2.2.1, .int x.2.2.2.2.2.2.2.2.2.2.1, .int x.2.2.2.2.2.2.2.2.2.2.2])), (hq, .inl (cZ, 24, .inl (fun i9 => sf_b ((va_up bt (fb_c x) true) i9))))] H := hP
            have hD : va_D A [(ha, .inr (0, [.int x.1, .int x.2.1, .int x.2.2.1, .int x.2.2.2.1, .double x.2.2.2.2.1, .int (sf_b x.2.2.2.2.2.1), .int (x.2.2.2.2.2.2.1 + 1), .int (sf_b pw), .double x.2.2.2.2.2.2.2.2.1, .double x.2.2.2.2.2.2.2.2.2.1, .int x.2.2.2.2.2.2.2.2.2.2.1, .int x.2.2.2.2.2.2.2.2.2.2.2])), (hq, .inl (cZ, 24, .inl (fun i9 => sf_b ((va_up bt (fb_c x) true) i9))))] := hD
            have hP9 : va_P (dC, dI) vwCl ([wp_B ha (fb_count x pw bt), wp_Z hq cZ 24 (fb_cbit x pw bt)]) H := by
              rw [show fb_count x pw bt = (x.1, x.2.1, x.2.2.1, x.2.2.2.1, x.2.2.2.2.1, x.2.2.2.2.2.1, x.2.2.2.2.2.2.1 + 1, pw, x.2.2.2.2.2.2.2.2.1, x.2.2.2.2.2.2.2.2.2.1, x.2.2.2.2.2.2.2.2.2.2.1, x.2.2.2.2.2.2.2.2.2.2.2) from by first | rfl | (simp [fb_count, fb_cbit, fb_ccnt, fb_cnt, fb_had, c_1, c_2, c_4, c_6, c_8]; done)]
              rw [show fb_cbit x pw bt = va_up bt (fb_c x) true from by first | rfl | (simp [fb_count, fb_cbit, fb_ccnt, fb_cnt, fb_had, c_1, c_2, c_4, c_6, c_8]; done)]
              exact hP
            have hD9 : va_D A ([wp_B ha (fb_count x pw bt), wp_Z hq cZ 24 (fb_cbit x pw bt)]) := by
              rw [show fb_count x pw bt = (x.1, x.2.1, x.2.2.1, x.2.2.2.1, x.2.2.2.2.1, x.2.2.2.2.2.1, x.2.2.2.2.2.2.1 + 1, pw, x.2.2.2.2.2.2.2.2.1, x.2.2.2.2.2.2.2.2.2.1, x.2.2.2.2.2.2.2.2.2.2.1, x.2.2.2.2.2.2.2.2.2.2.2) from by first | rfl | (simp [fb_count, fb_cbit, fb_ccnt, fb_cnt, fb_had, c_1, c_2, c_4, c_6, c_8]; done)]
              rw [show fb_cbit x pw bt = va_up bt (fb_c x) true from by first | rfl | (simp [fb_count, fb_cbit, fb_ccnt, fb_cnt, fb_had, c_1, c_2, c_4, c_6, c_8]; done)]
              exact hD
            exact W.vret hx hb hr (fun t ht _ => ⟨rfl, by rw [ht]; exact hP9, hAe ▸ hD9, hAe ▸ hS.F ht⟩) (fun q hq => by rw [← hAe]; exact hS.2.2 q hq) dX0_countRuns_78
  · refine lv_aload_n hx hb dX0_countRuns_7 rfl (lv_at hl 0 rfl) ?_
    refine lv_iconst (v := 0) hx hb dX0_countRuns_8 (by decide) ?_
    refine va_put (D := (dC, dI)) (ci := 0) (v := .int 0) (ty := .int) (C := RX0) (T := TX0) (N := 12) hx hb hg in_X0 tyX0 tyX0_ok nmX0 hown hK hP hD hS 0 rfl rfl 6 (by decide) (hg _ mw_88) (fun _ h9 => h9) rfl (by decide +kernel) rfl rfl (Nat.le_of_ble_eq_true rfl) dX0_countRuns_9 (fun H locs hP hD hS => ?_)
    have hP : va_P (dC, dI) vwCl [(ha, .inr (0, [.int x.1, .int x.2.1, .int x.2.2.1, .int x.2.2.2.1, .double x.2.2.2.2.1, .int (sf_b x.2.2.2.2.2.1), .int 0, .int (sf_b x.2.2.2.2.2.2.2.1), .double x.2.2.2.2.2.2.2.2.1, .double x.2.2.2.2.2.2.2.2.2.1, .int x.2.2.2.2.2.2.2.2.2.2.1, .int x.2.2.2.2.2.2.2.2.2.2.2])), (hq, .inl (cZ, 24, .inl (fun i9 => sf_b (bt i9))))] H := hP
    have hD : va_D A [(ha, .inr (0, [.int x.1, .int x.2.1, .int x.2.2.1, .int x.2.2.2.1, .double x.2.2.2.2.1, .int (sf_b x.2.2.2.2.2.1), .int 0, .int (sf_b x.2.2.2.2.2.2.2.1), .double x.2.2.2.2.2.2.2.2.1, .double x.2.2.2.2.2.2.2.2.2.1, .int x.2.2.2.2.2.2.2.2.2.2.1, .int x.2.2.2.2.2.2.2.2.2.2.2])), (hq, .inl (cZ, 24, .inl (fun i9 => sf_b (bt i9))))] := hD
    refine lv_goto (tgt := 49) hx hb dX0_countRuns_12 (by decide) ?_
    refine lv_aload_n hx hb dX0_countRuns_49 rfl (lv_at hl 0 rfl) ?_
    refine lv_iload_n hx hb dX0_countRuns_50 rfl (lv_at hl 1 rfl) ?_
    refine va_put (D := (dC, dI)) (ci := 0) (v := .int (sf_b pw)) (ty := .boolean) (C := RX0) (T := TX0) (N := 12) hx hb hg in_X0 tyX0 tyX0_ok nmX0 hown hK hP hD hS 0 rfl rfl 7 (by decide) (hg _ mw_89) (fun _ h9 => h9) rfl (by decide +kernel) (sf_b_nb _) (sf_b_fit _) (Nat.le_of_ble_eq_true rfl) dX0_countRuns_51 (fun H locs hP hD hS => ?_)
    have hP : va_P (dC, dI) vwCl [(ha, .inr (0, [.int x.1, .int x.2.1, .int x.2.2.1, .int x.2.2.2.1, .double x.2.2.2.2.1, .int (sf_b x.2.2.2.2.2.1), .int 0, .int (sf_b pw), .double x.2.2.2.2.2.2.2.2.1, .double x.2.2.2.2.2.2.2.2.2.1, .int x.2.2.2.2.2.2.2.2.2.2.1, .int x.2.2.2.2.2.2.2.2.2.2.2])), (hq, .inl (cZ, 24, .inl (fun i9 => sf_b (bt i9))))] H := hP
    have hD : va_D A [(ha, .inr (0, [.int x.1, .int x.2.1, .int x.2.2.1, .int x.2.2.2.1, .double x.2.2.2.2.1, .int (sf_b x.2.2.2.2.2.1), .int 0, .int (sf_b pw), .double x.2.2.2.2.2.2.2.2.1, .double x.2.2.2.2.2.2.2.2.2.1, .int x.2.2.2.2.2.2.2.2.2.2.1, .int x.2.2.2.2.2.2.2.2.2.2.2])), (hq, .inl (cZ, 24, .inl (fun i9 => sf_b (bt i9))))] := hD
    refine lv_aload_n hx hb dX0_countRuns_54 rfl (lv_at hl 2 rfl) ?_
    refine lv_aload_n hx hb dX0_countRuns_55 rfl (lv_at hl 0 rfl) ?_
    refine va_get (D := (dC, dI)) (ci := 0) (v := .int x.2.2.2.1) (C := RX0) (T := TX0) (N := 12) hx hb hg in_X0 hown hK hP 0 rfl rfl 3 (by decide) (hg _ mw_84) (fun _ h9 => h9) rfl dX0_countRuns_56 ?_
    refine lv_aload_n hx hb dX0_countRuns_59 rfl (lv_at hl 0 rfl) ?_
    refine va_get (D := (dC, dI)) (ci := 0) (v := .int 0) (C := RX0) (T := TX0) (N := 12) hx hb hg in_X0 hown hK hP 0 rfl rfl 6 (by decide) (hg _ mw_88) (fun _ h9 => h9) rfl dX0_countRuns_60 ?_
    refine lv_i2d hx hb dX0_countRuns_63 ?_
    refine lv_aload_n hx hb dX0_countRuns_64 rfl (lv_at hl 0 rfl) ?_
    refine va_get (D := (dC, dI)) (ci := 0) (v := .double x.2.2.2.2.1) (C := RX0) (T := TX0) (N := 12) hx hb hg in_X0 hown hK hP 0 rfl rfl 4 (by decide) (hg _ mw_85) (fun _ h9 => h9) rfl dX0_countRuns_65 ?_
    refine lv_dcmp hx hb dX0_countRuns_68 ?_
    refine lv_if_lt (tgt := 76) hx hb dX0_countRuns_69 (by decide) (fun c_9 => ?_) (fun c_9 => ?_)
    · have c_9 := sd_l_lt.mp c_9
      refine lv_iconst (v := sf_b false) hx hb dX0_countRuns_76 (by decide) ?_
      refine sf_zast hx hb hK hP hD hS 1 0 rfl rfl (fb_c x) hc9.1 hc9.2 (by decide) dX0_countRuns_77 (fun H locs hP hD hS => ?_)
      have hP : va_P (dC, dI) vwCl [(ha, .inr (0, [.int x.1, .int x.2.1, .int x.2.2.1, .int x.2.2.2.1, .double x.2.2.2.2.1, .int (sf_b x.2.2.2.2.2.1), .int 0, .int (sf_b pw), .double x.2.2.2.2.2.2.2.2.1, .double x.2.2.2.2.2.2.2.2.2.1, .int x.2.2.2.2.2.2.2.2.2.2.1, .int x.2.2.2.2.2.2.2.2.2.2.2])), (hq, .inl (cZ, 24, .inl (fun i9 => sf_b ((va_up bt (fb_c x) false) i9))))] H := hP
      have hD : va_D A [(ha, .inr (0, [.int x.1, .int x.2.1, .int x.2.2.1, .int x.2.2.2.1, .double x.2.2.2.2.1, .int (sf_b x.2.2.2.2.2.1), .int 0, .int (sf_b pw), .double x.2.2.2.2.2.2.2.2.1, .double x.2.2.2.2.2.2.2.2.2.1, .int x.2.2.2.2.2.2.2.2.2.2.1, .int x.2.2.2.2.2.2.2.2.2.2.2])), (hq, .inl (cZ, 24, .inl (fun i9 => sf_b ((va_up bt (fb_c x) false) i9))))] := hD
      have hP9 : va_P (dC, dI) vwCl ([wp_B ha (fb_count x pw bt), wp_Z hq cZ 24 (fb_cbit x pw bt)]) H := by
        rw [show fb_count x pw bt = (x.1, x.2.1, x.2.2.1, x.2.2.2.1, x.2.2.2.2.1, x.2.2.2.2.2.1, 0, pw, x.2.2.2.2.2.2.2.2.1, x.2.2.2.2.2.2.2.2.2.1, x.2.2.2.2.2.2.2.2.2.2.1, x.2.2.2.2.2.2.2.2.2.2.2) from by first | rfl | (simp [fb_count, fb_cbit, fb_ccnt, fb_cnt, fb_had, c_1, c_9]; done)]
        rw [show fb_cbit x pw bt = va_up bt (fb_c x) false from by first | rfl | (simp [fb_count, fb_cbit, fb_ccnt, fb_cnt, fb_had, c_1, c_9]; done)]
        exact hP
      have hD9 : va_D A ([wp_B ha (fb_count x pw bt), wp_Z hq cZ 24 (fb_cbit x pw bt)]) := by
        rw [show fb_count x pw bt = (x.1, x.2.1, x.2.2.1, x.2.2.2.1, x.2.2.2.2.1, x.2.2.2.2.2.1, 0, pw, x.2.2.2.2.2.2.2.2.1, x.2.2.2.2.2.2.2.2.2.1, x.2.2.2.2.2.2.2.2.2.2.1, x.2.2.2.2.2.2.2.2.2.2.2) from by first | rfl | (simp [fb_count, fb_cbit, fb_ccnt, fb_cnt, fb_had, c_1, c_9]; done)]
        rw [show fb_cbit x pw bt = va_up bt (fb_c x) false from by first | rfl | (simp [fb_count, fb_cbit, fb_ccnt, fb_cnt, fb_had, c_1, c_9]; done)]
        exact hD
      exact W.vret hx hb hr (fun t ht _ => ⟨rfl, by rw [ht]; exact hP9, hAe ▸ hD9, hAe ▸ hS.F ht⟩) (fun q hq => by rw [← hAe]; exact hS.2.2 q hq) dX0_countRuns_78
    · have c_9 := sd_nl_lt c_9
      refine lv_iconst (v := sf_b true) hx hb dX0_countRuns_72 (by decide) ?_
      refine lv_goto (tgt := 77) hx hb dX0_countRuns_73 (by decide) ?_
      refine sf_zast hx hb hK hP hD hS 1 0 rfl rfl (fb_c x) hc9.1 hc9.2 (by decide) dX0_countRuns_77 (fun H locs hP hD hS => ?_)
      have hP : va_P (dC, dI) vwCl [(ha, .inr (0, [.int x.1, .int x.2.1, .int x.2.2.1, .int x.2.2.2.1, .double x.2.2.2.2.1, .int (sf_b x.2.2.2.2.2.1), .int 0, .int (sf_b pw), .double x.2.2.2.2.2.2.2.2.1, .double x.2.2.2.2.2.2.2.2.2.1, .int x.2.2.2.2.2.2.2.2.2.2.1, .int x.2.2.2.2.2.2.2.2.2.2.2])), (hq, .inl (cZ, 24, .inl (fun i9 => sf_b ((va_up bt (fb_c x) true) i9))))] H := hP
      have hD : va_D A [(ha, .inr (0, [.int x.1, .int x.2.1, .int x.2.2.1, .int x.2.2.2.1, .double x.2.2.2.2.1, .int (sf_b x.2.2.2.2.2.1), .int 0, .int (sf_b pw), .double x.2.2.2.2.2.2.2.2.1, .double x.2.2.2.2.2.2.2.2.2.1, .int x.2.2.2.2.2.2.2.2.2.2.1, .int x.2.2.2.2.2.2.2.2.2.2.2])), (hq, .inl (cZ, 24, .inl (fun i9 => sf_b ((va_up bt (fb_c x) true) i9))))] := hD
      have hP9 : va_P (dC, dI) vwCl ([wp_B ha (fb_count x pw bt), wp_Z hq cZ 24 (fb_cbit x pw bt)]) H := by
        rw [show fb_count x pw bt = (x.1, x.2.1, x.2.2.1, x.2.2.2.1, x.2.2.2.2.1, x.2.2.2.2.2.1, 0, pw, x.2.2.2.2.2.2.2.2.1, x.2.2.2.2.2.2.2.2.2.1, x.2.2.2.2.2.2.2.2.2.2.1, x.2.2.2.2.2.2.2.2.2.2.2) from by first | rfl | (simp [fb_count, fb_cbit, fb_ccnt, fb_cnt, fb_had, c_1, c_9]; done)]
        rw [show fb_cbit x pw bt = va_up bt (fb_c x) true from by first | rfl | (simp [fb_count, fb_cbit, fb_ccnt, fb_cnt, fb_had, c_1, c_9]; done)]
        exact hP
      have hD9 : va_D A ([wp_B ha (fb_count x pw bt), wp_Z hq cZ 24 (fb_cbit x pw bt)]) := by
        rw [show fb_count x pw bt = (x.1, x.2.1, x.2.2.1, x.2.2.2.1, x.2.2.2.2.1, x.2.2.2.2.2.1, 0, pw, x.2.2.2.2.2.2.2.2.1, x.2.2.2.2.2.2.2.2.2.1, x.2.2.2.2.2.2.2.2.2.2.1, x.2.2.2.2.2.2.2.2.2.2.2) from by first | rfl | (simp [fb_count, fb_cbit, fb_ccnt, fb_cnt, fb_had, c_1, c_9]; done)]
        rw [show fb_cbit x pw bt = va_up bt (fb_c x) true from by first | rfl | (simp [fb_count, fb_cbit, fb_ccnt, fb_cnt, fb_had, c_1, c_9]; done)]
        exact hD
      exact W.vret hx hb hr (fun t ht _ => ⟨rfl, by rw [ht]; exact hP9, hAe ▸ hD9, hAe ▸ hS.F ht⟩) (fun q hq => by rw [← hAe]; exact hS.2.2 q hq) dX0_countRuns_78
set_option maxHeartbeats 4000000 in
set_option maxRecDepth 100000 in
theorem c_X0_keep (l : Launch) (dC : Nat → ClassId) (dI : Nat → Nat → Nat) (cD : ClassId) (ha hd : Nat) (x : st_B) (rg : Nat → UInt64) (v : UInt64) (sz : Nat) (hc : fc_ix x.2.2.2.1 8 = true) : Met l yX0_keep wX0_keep ({ frames := 1, cells := 0, slots := 0, locals := 21 }) (sf_PV (dC, dI) vwCl [(cD, .double)] ([wp_B ha x, wp_D hd cD 8 rg]) sz [.ref ha, .double v, .ref hd]) (sf_V (dC, dI) vwCl (some (.int (sf_b (fc_val v)))) ([wp_B ha x, wp_D hd cD 8 rg]) ([wp_B ha x, wp_D hd cD 8 (fb_keepr x v rg)])) 0 0 (va_A ([wp_B ha x, wp_D hd cD 8 rg]) sz) := by
  refine Met.ofW (cc := cX0_keep) (maxL := 4) (ret := (some .boolean)) (by decide) rfl ?_
  intro p e s m args below meth c s₁ B hml hv
  have hx := B.exec
  have hb := B.bytes
  have hr := B.returns
  have hts := atoms_spec (ws := wX0_keep) B.pre
  have hg : ∀ w ∈ gw_all, w.before args s = true := fun w h => hts w (List.mem_cons_of_mem _ h)
  have hown : s.vm.findClass RX0 = some m.cls := findClass_of_methodNamed B.named
  have hlocks := B.notSynchronized
  obtain ⟨rfl, hsz, hP, hD0, hK, hZ⟩ := hv
  subst hsz
  have hl := lv_entry ([.ref ha, .double v, .ref hd]) (n := 4) (Nat.le_of_ble_eq_true rfl)
  rw [lg_entry_eq]
  generalize (lg_sl ([.ref ha, .double v, .ref hd]) ++ List.replicate (4 - (lg_sl ([.ref ha, .double v, .ref hd])).length) Slot.unset).toArray = ls at hl ⊢
  have hl : lv_has ls 4 [(0, .ref ha), (1, .double v), (3, .ref hd)] := hl
  obtain ⟨A, hAe⟩ : ∃ A : Nat → Prop, A = va_A ([wp_B ha x, wp_D hd cD 8 rg]) s.heap.size := ⟨_, rfl⟩
  have hD := hD0.self (sz := s.heap.size)
  rw [← hAe] at hD
  have hA : ∀ q : Nat, s.heap.size ≤ q → A q := fun q h => by rw [hAe]; exact Or.inr h
  have hS : va_S A s.heap s.heap [] := va_S.rf
  have hP : va_P (dC, dI) vwCl [(ha, .inr (0, [.int x.1, .int x.2.1, .int x.2.2.1, .int x.2.2.2.1, .double x.2.2.2.2.1, .int (sf_b x.2.2.2.2.2.1), .int x.2.2.2.2.2.2.1, .int (sf_b x.2.2.2.2.2.2.2.1), .double x.2.2.2.2.2.2.2.2.1, .double x.2.2.2.2.2.2.2.2.2.1, .int x.2.2.2.2.2.2.2.2.2.2.1, .int x.2.2.2.2.2.2.2.2.2.2.2])), (hd, .inl (cD, 8, .inr (.inr (.inr (.inl rg)))))] s.heap := hP
  have hD : va_D A [(ha, .inr (0, [.int x.1, .int x.2.1, .int x.2.2.1, .int x.2.2.2.1, .double x.2.2.2.2.1, .int (sf_b x.2.2.2.2.2.1), .int x.2.2.2.2.2.2.1, .int (sf_b x.2.2.2.2.2.2.2.1), .double x.2.2.2.2.2.2.2.2.1, .double x.2.2.2.2.2.2.2.2.2.1, .int x.2.2.2.2.2.2.2.2.2.2.1, .int x.2.2.2.2.2.2.2.2.2.2.2])), (hd, .inl (cD, 8, .inr (.inr (.inr (.inl rg)))))] := hD
  have hc9 := ix_nat (n := 8) rfl (by decide) hc
  refine lv_dload_n hx hb dX0_keep_0 rfl (lv_at hl 1 rfl) ?_
  refine sf_callRi (va_runSN (As := [.double v]) (rest := []) ⟨hx, hb, hml, hown, hg⟩ (c_X2_isValue l v) ⟨(va_cnB 1 hg (gw_C mw_341) rfl rfl rfl (hZ (.methodLinkNest RX0 81 yX2_isValue RX2) (by decide +kernel)) (hg _ mw_21) (by decide +kernel) ⟨Nat.le_of_ble_eq_true rfl, Nat.le_of_ble_eq_true rfl⟩), hg _ mw_340, trivial⟩ sf_pre0 rfl rfl hl.1 rfl (lv_room (Nat.le_of_ble_eq_true rfl)) dX0_keep_1 ⟨Nat.zero_le _, Nat.zero_le _⟩) ?_
  refine sf_ifne (tgt := 9) hx hb dX0_keep_4 (by decide) (fun c_1 => ?_) (fun c_1 => ?_)
  · refine lv_aload_n hx hb dX0_keep_9 rfl (lv_at hl 2 rfl) ?_
    refine lv_aload_n hx hb dX0_keep_10 rfl (lv_at hl 0 rfl) ?_
    refine va_get (D := (dC, dI)) (ci := 0) (v := .int x.2.2.2.1) (C := RX0) (T := TX0) (N := 12) hx hb hg in_X0 hown hK hP 0 rfl rfl 3 (by decide) (hg _ mw_84) (fun _ h9 => h9) rfl dX0_keep_11 ?_
    refine lv_dload_n hx hb dX0_keep_14 rfl (lv_at hl 1 rfl) ?_
    refine sf_dast hx hb hK hP hD hS 1 0 rfl rfl (fb_c x) hc9.1 hc9.2 (by decide) dX0_keep_15 (fun H locs hP hD hS => ?_)
    have hP : va_P (dC, dI) vwCl [(ha, .inr (0, [.int x.1, .int x.2.1, .int x.2.2.1, .int x.2.2.2.1, .double x.2.2.2.2.1, .int (sf_b x.2.2.2.2.2.1), .int x.2.2.2.2.2.2.1, .int (sf_b x.2.2.2.2.2.2.2.1), .double x.2.2.2.2.2.2.2.2.1, .double x.2.2.2.2.2.2.2.2.2.1, .int x.2.2.2.2.2.2.2.2.2.2.1, .int x.2.2.2.2.2.2.2.2.2.2.2])), (hd, .inl (cD, 8, .inr (.inr (.inr (.inl (va_up rg (fb_c x) v))))))] H := hP
    have hD : va_D A [(ha, .inr (0, [.int x.1, .int x.2.1, .int x.2.2.1, .int x.2.2.2.1, .double x.2.2.2.2.1, .int (sf_b x.2.2.2.2.2.1), .int x.2.2.2.2.2.2.1, .int (sf_b x.2.2.2.2.2.2.2.1), .double x.2.2.2.2.2.2.2.2.1, .double x.2.2.2.2.2.2.2.2.2.1, .int x.2.2.2.2.2.2.2.2.2.2.1, .int x.2.2.2.2.2.2.2.2.2.2.2])), (hd, .inl (cD, 8, .inr (.inr (.inr (.inl (va_up rg (fb_c x) v))))))] := hD
    refine lv_iconst (v := sf_b true) hx hb dX0_keep_16 (by decide) ?_
    refine sf_topi (y := sf_b (fc_val v)) (by first | rfl | (simp [fb_keepr, c_1]; done)) ?_
    have hP9 : va_P (dC, dI) vwCl ([wp_B ha x, wp_D hd cD 8 (fb_keepr x v rg)]) H := by
      rw [show fb_keepr x v rg = va_up rg (fb_c x) v from by first | rfl | (simp [fb_keepr, c_1]; done)]
      exact hP
    have hD9 : va_D A ([wp_B ha x, wp_D hd cD 8 (fb_keepr x v rg)]) := by
      rw [show fb_keepr x v rg = va_up rg (fb_c x) v from by first | rfl | (simp [fb_keepr, c_1]; done)]
      exact hD
    exact W.zret hx hb hr (sf_b_nb _) (fun t ht _ => ⟨rfl, by rw [ht]; exact hP9, hAe ▸ hD9, hAe ▸ hS.F ht⟩) (fun q hq => by rw [← hAe]; exact hS.2.2 q hq) dX0_keep_17
  · refine lv_iconst (v := sf_b false) hx hb dX0_keep_7 (by decide) ?_
    refine sf_topi (y := sf_b (fc_val v)) (by first | rfl | (simp [fb_keepr, c_1]; done)) ?_
    have hP9 : va_P (dC, dI) vwCl ([wp_B ha x, wp_D hd cD 8 (fb_keepr x v rg)]) s.heap := by
      rw [show fb_keepr x v rg = rg from by first | rfl | (simp [fb_keepr, c_1]; done)]
      exact hP
    have hD9 : va_D A ([wp_B ha x, wp_D hd cD 8 (fb_keepr x v rg)]) := by
      rw [show fb_keepr x v rg = rg from by first | rfl | (simp [fb_keepr, c_1]; done)]
      exact hD
    exact W.zret hx hb hr (sf_b_nb _) (fun t ht _ => ⟨rfl, by rw [ht]; exact hP9, hAe ▸ hD9, hAe ▸ hS.F ht⟩) (fun q hq => by rw [← hAe]; exact hS.2.2 q hq) dX0_keep_8
set_option maxHeartbeats 4000000 in
set_option maxRecDepth 100000 in
theorem c_X0_calculate (l : Launch) (dC : Nat → ClassId) (dI : Nat → Nat → Nat) (cD : ClassId) (ha hd : Nat) (x : st_B) (rg : Nat → UInt64) (sz : Nat) (hai : fc_ix x.2.1 8 = true) (hbi : fc_ix x.2.2.1 8 = true) (hc : fc_ix x.2.2.2.1 8 = true) (hrg : rg_ok rg) : Met l yX0_calculate wX0_calculate ({ frames := 2, cells := 0, slots := 0, locals := 44 }) (sf_PV (dC, dI) vwCl [(cD, .double)] ([wp_B ha x, wp_D hd cD 8 rg]) sz [.ref ha, .ref hd]) (sf_V (dC, dI) vwCl (some (.int (sf_b (fb_calcb x rg)))) ([wp_B ha x, wp_D hd cD 8 rg]) ([wp_B ha x, wp_D hd cD 8 (fb_calcr x rg)])) 0 0 (va_A ([wp_B ha x, wp_D hd cD 8 rg]) sz) := by
  refine Met.ofW (cc := cX0_calculate) (maxL := 6) (ret := (some .boolean)) (by decide) rfl ?_
  intro p e s m args below meth c s₁ B hml hv
  have hx := B.exec
  have hb := B.bytes
  have hr := B.returns
  have hts := atoms_spec (ws := wX0_calculate) B.pre
  have hg : ∀ w ∈ gw_all, w.before args s = true := fun w h => hts w (List.mem_cons_of_mem _ h)
  have hown : s.vm.findClass RX0 = some m.cls := findClass_of_methodNamed B.named
  have hlocks := B.notSynchronized
  obtain ⟨rfl, hsz, hP, hD0, hK, hZ⟩ := hv
  subst hsz
  have hl := lv_entry ([.ref ha, .ref hd]) (n := 6) (Nat.le_of_ble_eq_true rfl)
  rw [lg_entry_eq]
  generalize (lg_sl ([.ref ha, .ref hd]) ++ List.replicate (6 - (lg_sl ([.ref ha, .ref hd])).length) Slot.unset).toArray = ls at hl ⊢
  have hl : lv_has ls 6 [(0, .ref ha), (1, .ref hd)] := hl
  obtain ⟨A, hAe⟩ : ∃ A : Nat → Prop, A = va_A ([wp_B ha x, wp_D hd cD 8 rg]) s.heap.size := ⟨_, rfl⟩
  have hD := hD0.self (sz := s.heap.size)
  rw [← hAe] at hD
  have hA : ∀ q : Nat, s.heap.size ≤ q → A q := fun q h => by rw [hAe]; exact Or.inr h
  have hS : va_S A s.heap s.heap [] := va_S.rf
  have hP : va_P (dC, dI) vwCl [(ha, .inr (0, [.int x.1, .int x.2.1, .int x.2.2.1, .int x.2.2.2.1, .double x.2.2.2.2.1, .int (sf_b x.2.2.2.2.2.1), .int x.2.2.2.2.2.2.1, .int (sf_b x.2.2.2.2.2.2.2.1), .double x.2.2.2.2.2.2.2.2.1, .double x.2.2.2.2.2.2.2.2.2.1, .int x.2.2.2.2.2.2.2.2.2.2.1, .int x.2.2.2.2.2.2.2.2.2.2.2])), (hd, .inl (cD, 8, .inr (.inr (.inr (.inl rg)))))] s.heap := hP
  have hD : va_D A [(ha, .inr (0, [.int x.1, .int x.2.1, .int x.2.2.1, .int x.2.2.2.1, .double x.2.2.2.2.1, .int (sf_b x.2.2.2.2.2.1), .int x.2.2.2.2.2.2.1, .int (sf_b x.2.2.2.2.2.2.2.1), .double x.2.2.2.2.2.2.2.2.1, .double x.2.2.2.2.2.2.2.2.2.1, .int x.2.2.2.2.2.2.2.2.2.2.1, .int x.2.2.2.2.2.2.2.2.2.2.2])), (hd, .inl (cD, 8, .inr (.inr (.inr (.inl rg)))))] := hD
  have ha9 := ix_nat (n := 8) rfl (by decide) hai
  have hb9 := ix_nat (n := 8) rfl (by decide) hbi
  have kx := val_K (hrg _ ha9.2)
  have ky := val_K (hrg _ hb9.2)
  refine lv_aload_n hx hb dX0_calculate_0 rfl (lv_at hl 1 rfl) ?_
  refine lv_aload_n hx hb dX0_calculate_1 rfl (lv_at hl 0 rfl) ?_
  refine va_get (D := (dC, dI)) (ci := 0) (v := .int x.2.1) (C := RX0) (T := TX0) (N := 12) hx hb hg in_X0 hown hK hP 0 rfl rfl 1 (by decide) (hg _ mw_82) (fun _ h9 => h9) rfl dX0_calculate_2 ?_
  refine sf_dald hx hb hK hP 1 0 rfl rfl x.2.1.toNatClampNeg ha9.1 ha9.2 (by decide) dX0_calculate_5 ?_
  refine sf_topd (y := fb_x x rg) rfl ?_
  refine lv_dstore_n (lv' := [(2, .double (fb_x x rg)), (0, .ref ha), (1, .ref hd)]) hx hb dX0_calculate_6 rfl hl (by decide) rfl (fun ls hl => ?_)
  refine lv_aload_n hx hb dX0_calculate_7 rfl (lv_at hl 2 rfl) ?_
  refine lv_aload_n hx hb dX0_calculate_8 rfl (lv_at hl 1 rfl) ?_
  refine va_get (D := (dC, dI)) (ci := 0) (v := .int x.2.2.1) (C := RX0) (T := TX0) (N := 12) hx hb hg in_X0 hown hK hP 0 rfl rfl 2 (by decide) (hg _ mw_83) (fun _ h9 => h9) rfl dX0_calculate_9 ?_
  refine sf_dald hx hb hK hP 1 0 rfl rfl x.2.2.1.toNatClampNeg hb9.1 hb9.2 (by decide) dX0_calculate_12 ?_
  refine sf_topd (y := fb_y x rg) rfl ?_
  refine lv_dstore (lv' := [(4, .double (fb_y x rg)), (2, .double (fb_x x rg)), (0, .ref ha), (1, .ref hd)]) hx hb dX0_calculate_13 hl (by decide) rfl (fun ls hl => ?_)
  refine lv_aload_n hx hb dX0_calculate_15 rfl (lv_at hl 2 rfl) ?_
  refine va_get (D := (dC, dI)) (ci := 0) (v := .int x.1) (C := RX0) (T := TX0) (N := 12) hx hb hg in_X0 hown hK hP 0 rfl rfl 0 (by decide) (hg _ mw_81) (fun _ h9 => h9) rfl dX0_calculate_16 ?_
  by_cases c_1 : x.1 = 4
  · refine lv_tableIn (off := 29) (tgt := 48) hx hb dX0_calculate_19 (by rw [c_1]; decide) (by rw [c_1]; decide) (by rw [c_1]; decide) (by decide) ?_
    refine lv_aload_n hx hb dX0_calculate_48 rfl (lv_at hl 2 rfl) ?_
    refine lv_dload_n hx hb dX0_calculate_49 rfl (lv_at hl 1 rfl) ?_
    refine lv_dload hx hb dX0_calculate_50 (lv_at hl 0 rfl) ?_
    refine lv_dadd hx hb dX0_calculate_52 ((sd_add kx ky (by decide)).nn (by decide)) ?_
    refine lv_aload_n hx hb dX0_calculate_53 rfl (lv_at hl 3 rfl) ?_
    have hPc : va_P (dC, dI) vwCl ([(ha, .inr (0, [.int x.1, .int x.2.1, .int x.2.2.1, .int x.2.2.2.1, .double x.2.2.2.2.1, .int (sf_b x.2.2.2.2.2.1), .int x.2.2.2.2.2.2.1, .int (sf_b x.2.2.2.2.2.2.2.1), .double x.2.2.2.2.2.2.2.2.1, .double x.2.2.2.2.2.2.2.2.2.1, .int x.2.2.2.2.2.2.2.2.2.2.1, .int x.2.2.2.2.2.2.2.2.2.2.2])), (hd, .inl (cD, 8, .inr (.inr (.inr (.inl rg)))))] ++ []) s.heap := hP.sub [0, 1] rfl
    have hDc : va_D A ([(ha, .inr (0, [.int x.1, .int x.2.1, .int x.2.2.1, .int x.2.2.2.1, .double x.2.2.2.2.1, .int (sf_b x.2.2.2.2.2.1), .int x.2.2.2.2.2.2.1, .int (sf_b x.2.2.2.2.2.2.2.1), .double x.2.2.2.2.2.2.2.2.1, .double x.2.2.2.2.2.2.2.2.2.1, .int x.2.2.2.2.2.2.2.2.2.2.1, .int x.2.2.2.2.2.2.2.2.2.2.2])), (hd, .inl (cD, 8, .inr (.inr (.inr (.inl rg)))))] ++ []) := hD.sub [0, 1] (by decide) rfl
    refine sf_callVi (va_runV (As := [.double (FP.dadd (fb_x x rg) (fb_y x rg)), .ref hd]) (rest := []) ⟨hx, hb, hml, hown, hg⟩ (c_X0_keep l dC dI cD ha hd x rg (FP.dadd (fb_x x rg) (fb_y x rg)) _ hc) (cwV 2 hg (gw_V mw_421 mw_423 mw_9 mw_23 mw_424) rfl rfl rfl (by decide +kernel) ⟨Nat.le_of_ble_eq_true rfl, Nat.le_of_ble_eq_true rfl⟩) (sf_preVV (va_recv hK hP (ci := 0) (q0 := 0) rfl rfl) hK hZ hPc hDc) rfl rfl hl.1 rfl (lv_room (Nat.le_of_ble_eq_true rfl)) dX0_calculate_54 ⟨Nat.zero_le _, Nat.zero_le _⟩) hS hPc hDc hA (fun H locs hP hD hS => ?_)
    have hP : va_P (dC, dI) vwCl [(ha, .inr (0, [.int x.1, .int x.2.1, .int x.2.2.1, .int x.2.2.2.1, .double x.2.2.2.2.1, .int (sf_b x.2.2.2.2.2.1), .int x.2.2.2.2.2.2.1, .int (sf_b x.2.2.2.2.2.2.2.1), .double x.2.2.2.2.2.2.2.2.1, .double x.2.2.2.2.2.2.2.2.2.1, .int x.2.2.2.2.2.2.2.2.2.2.1, .int x.2.2.2.2.2.2.2.2.2.2.2])), (hd, .inl (cD, 8, .inr (.inr (.inr (.inl (fb_keepr x (FP.dadd (fb_x x rg) (fb_y x rg)) rg))))))] H := hP
    have hD : va_D A [(ha, .inr (0, [.int x.1, .int x.2.1, .int x.2.2.1, .int x.2.2.2.1, .double x.2.2.2.2.1, .int (sf_b x.2.2.2.2.2.1), .int x.2.2.2.2.2.2.1, .int (sf_b x.2.2.2.2.2.2.2.1), .double x.2.2.2.2.2.2.2.2.1, .double x.2.2.2.2.2.2.2.2.2.1, .int x.2.2.2.2.2.2.2.2.2.2.1, .int x.2.2.2.2.2.2.2.2.2.2.2])), (hd, .inl (cD, 8, .inr (.inr (.inr (.inl (fb_keepr x (FP.dadd (fb_x x rg) (fb_y x rg)) rg))))))] := hD
    refine sf_topi (y := sf_b (fb_calcb x rg)) (by first | rfl | (simp [fb_calcr, fb_calcb, c_1]; done)) ?_
    have hP9 : va_P (dC, dI) vwCl ([wp_B ha x, wp_D hd cD 8 (fb_calcr x rg)]) H := by
      rw [show fb_calcr x rg = fb_keepr x (FP.dadd (fb_x x rg) (fb_y x rg)) rg from by first | rfl | (simp [fb_calcr, fb_calcb, c_1]; done)]
      exact hP
    have hD9 : va_D A ([wp_B ha x, wp_D hd cD 8 (fb_calcr x rg)]) := by
      rw [show fb_calcr x rg = fb_keepr x (FP.dadd (fb_x x rg) (fb_y x rg)) rg from by first | rfl | (simp [fb_calcr, fb_calcb, c_1]; done)]
      exact hD
    exact W.zret hx hb hr (sf_b_nb _) (fun t ht _ => ⟨rfl, by rw [ht]; exact hP9, hAe ▸ hD9, hAe ▸ hS.F ht⟩) (fun q hq => by rw [← hAe]; exact hS.2.2 q hq) dX0_calculate_57
  · skip
    by_cases c_2 : x.1 = 5
    · refine lv_tableIn (off := 39) (tgt := 58) hx hb dX0_calculate_19 (by rw [c_2]; decide) (by rw [c_2]; decide) (by rw [c_2]; decide) (by decide) ?_
      refine lv_aload_n hx hb dX0_calculate_58 rfl (lv_at hl 2 rfl) ?_
      refine lv_dload_n hx hb dX0_calculate_59 rfl (lv_at hl 1 rfl) ?_
      refine lv_dload hx hb dX0_calculate_60 (lv_at hl 0 rfl) ?_
      refine lv_dsub hx hb dX0_calculate_62 ((sd_sub kx ky (by decide)).nn (by decide)) ?_
      refine lv_aload_n hx hb dX0_calculate_63 rfl (lv_at hl 3 rfl) ?_
      have hPc : va_P (dC, dI) vwCl ([(ha, .inr (0, [.int x.1, .int x.2.1, .int x.2.2.1, .int x.2.2.2.1, .double x.2.2.2.2.1, .int (sf_b x.2.2.2.2.2.1), .int x.2.2.2.2.2.2.1, .int (sf_b x.2.2.2.2.2.2.2.1), .double x.2.2.2.2.2.2.2.2.1, .double x.2.2.2.2.2.2.2.2.2.1, .int x.2.2.2.2.2.2.2.2.2.2.1, .int x.2.2.2.2.2.2.2.2.2.2.2])), (hd, .inl (cD, 8, .inr (.inr (.inr (.inl rg)))))] ++ []) s.heap := hP.sub [0, 1] rfl
      have hDc : va_D A ([(ha, .inr (0, [.int x.1, .int x.2.1, .int x.2.2.1, .int x.2.2.2.1, .double x.2.2.2.2.1, .int (sf_b x.2.2.2.2.2.1), .int x.2.2.2.2.2.2.1, .int (sf_b x.2.2.2.2.2.2.2.1), .double x.2.2.2.2.2.2.2.2.1, .double x.2.2.2.2.2.2.2.2.2.1, .int x.2.2.2.2.2.2.2.2.2.2.1, .int x.2.2.2.2.2.2.2.2.2.2.2])), (hd, .inl (cD, 8, .inr (.inr (.inr (.inl rg)))))] ++ []) := hD.sub [0, 1] (by decide) rfl
      refine sf_callVi (va_runV (As := [.double (FP.dsub (fb_x x rg) (fb_y x rg)), .ref hd]) (rest := []) ⟨hx, hb, hml, hown, hg⟩ (c_X0_keep l dC dI cD ha hd x rg (FP.dsub (fb_x x rg) (fb_y x rg)) _ hc) (cwV 2 hg (gw_V mw_421 mw_423 mw_9 mw_23 mw_424) rfl rfl rfl (by decide +kernel) ⟨Nat.le_of_ble_eq_true rfl, Nat.le_of_ble_eq_true rfl⟩) (sf_preVV (va_recv hK hP (ci := 0) (q0 := 0) rfl rfl) hK hZ hPc hDc) rfl rfl hl.1 rfl (lv_room (Nat.le_of_ble_eq_true rfl)) dX0_calculate_64 ⟨Nat.zero_le _, Nat.zero_le _⟩) hS hPc hDc hA (fun H locs hP hD hS => ?_)
      have hP : va_P (dC, dI) vwCl [(ha, .inr (0, [.int x.1, .int x.2.1, .int x.2.2.1, .int x.2.2.2.1, .double x.2.2.2.2.1, .int (sf_b x.2.2.2.2.2.1), .int x.2.2.2.2.2.2.1, .int (sf_b x.2.2.2.2.2.2.2.1), .double x.2.2.2.2.2.2.2.2.1, .double x.2.2.2.2.2.2.2.2.2.1, .int x.2.2.2.2.2.2.2.2.2.2.1, .int x.2.2.2.2.2.2.2.2.2.2.2])), (hd, .inl (cD, 8, .inr (.inr (.inr (.inl (fb_keepr x (FP.dsub (fb_x x rg) (fb_y x rg)) rg))))))] H := hP
      have hD : va_D A [(ha, .inr (0, [.int x.1, .int x.2.1, .int x.2.2.1, .int x.2.2.2.1, .double x.2.2.2.2.1, .int (sf_b x.2.2.2.2.2.1), .int x.2.2.2.2.2.2.1, .int (sf_b x.2.2.2.2.2.2.2.1), .double x.2.2.2.2.2.2.2.2.1, .double x.2.2.2.2.2.2.2.2.2.1, .int x.2.2.2.2.2.2.2.2.2.2.1, .int x.2.2.2.2.2.2.2.2.2.2.2])), (hd, .inl (cD, 8, .inr (.inr (.inr (.inl (fb_keepr x (FP.dsub (fb_x x rg) (fb_y x rg)) rg))))))] := hD
      refine sf_topi (y := sf_b (fb_calcb x rg)) (by first | rfl | (simp [fb_calcr, fb_calcb, c_1, c_2]; done)) ?_
      have hP9 : va_P (dC, dI) vwCl ([wp_B ha x, wp_D hd cD 8 (fb_calcr x rg)]) H := by
        rw [show fb_calcr x rg = fb_keepr x (FP.dsub (fb_x x rg) (fb_y x rg)) rg from by first | rfl | (simp [fb_calcr, fb_calcb, c_1, c_2]; done)]
        exact hP
      have hD9 : va_D A ([wp_B ha x, wp_D hd cD 8 (fb_calcr x rg)]) := by
        rw [show fb_calcr x rg = fb_keepr x (FP.dsub (fb_x x rg) (fb_y x rg)) rg from by first | rfl | (simp [fb_calcr, fb_calcb, c_1, c_2]; done)]
        exact hD
      exact W.zret hx hb hr (sf_b_nb _) (fun t ht _ => ⟨rfl, by rw [ht]; exact hP9, hAe ▸ hD9, hAe ▸ hS.F ht⟩) (fun q hq => by rw [← hAe]; exact hS.2.2 q hq) dX0_calculate_67
    · skip
      by_cases c_3 : x.1 = 6
      · refine lv_tableIn (off := 49) (tgt := 68) hx hb dX0_calculate_19 (by rw [c_3]; decide) (by rw [c_3]; decide) (by rw [c_3]; decide) (by decide) ?_
        refine lv_aload_n hx hb dX0_calculate_68 rfl (lv_at hl 2 rfl) ?_
        refine lv_dload_n hx hb dX0_calculate_69 rfl (lv_at hl 1 rfl) ?_
        refine lv_dload hx hb dX0_calculate_70 (lv_at hl 0 rfl) ?_
        refine lv_dmul hx hb dX0_calculate_72 ((sd_mul kx ky (by decide) (by decide)).nn (by decide)) ?_
        refine lv_aload_n hx hb dX0_calculate_73 rfl (lv_at hl 3 rfl) ?_
        have hPc : va_P (dC, dI) vwCl ([(ha, .inr (0, [.int x.1, .int x.2.1, .int x.2.2.1, .int x.2.2.2.1, .double x.2.2.2.2.1, .int (sf_b x.2.2.2.2.2.1), .int x.2.2.2.2.2.2.1, .int (sf_b x.2.2.2.2.2.2.2.1), .double x.2.2.2.2.2.2.2.2.1, .double x.2.2.2.2.2.2.2.2.2.1, .int x.2.2.2.2.2.2.2.2.2.2.1, .int x.2.2.2.2.2.2.2.2.2.2.2])), (hd, .inl (cD, 8, .inr (.inr (.inr (.inl rg)))))] ++ []) s.heap := hP.sub [0, 1] rfl
        have hDc : va_D A ([(ha, .inr (0, [.int x.1, .int x.2.1, .int x.2.2.1, .int x.2.2.2.1, .double x.2.2.2.2.1, .int (sf_b x.2.2.2.2.2.1), .int x.2.2.2.2.2.2.1, .int (sf_b x.2.2.2.2.2.2.2.1), .double x.2.2.2.2.2.2.2.2.1, .double x.2.2.2.2.2.2.2.2.2.1, .int x.2.2.2.2.2.2.2.2.2.2.1, .int x.2.2.2.2.2.2.2.2.2.2.2])), (hd, .inl (cD, 8, .inr (.inr (.inr (.inl rg)))))] ++ []) := hD.sub [0, 1] (by decide) rfl
        refine sf_callVi (va_runV (As := [.double (FP.dmul (fb_x x rg) (fb_y x rg)), .ref hd]) (rest := []) ⟨hx, hb, hml, hown, hg⟩ (c_X0_keep l dC dI cD ha hd x rg (FP.dmul (fb_x x rg) (fb_y x rg)) _ hc) (cwV 2 hg (gw_V mw_421 mw_423 mw_9 mw_23 mw_424) rfl rfl rfl (by decide +kernel) ⟨Nat.le_of_ble_eq_true rfl, Nat.le_of_ble_eq_true rfl⟩) (sf_preVV (va_recv hK hP (ci := 0) (q0 := 0) rfl rfl) hK hZ hPc hDc) rfl rfl hl.1 rfl (lv_room (Nat.le_of_ble_eq_true rfl)) dX0_calculate_74 ⟨Nat.zero_le _, Nat.zero_le _⟩) hS hPc hDc hA (fun H locs hP hD hS => ?_)
        have hP : va_P (dC, dI) vwCl [(ha, .inr (0, [.int x.1, .int x.2.1, .int x.2.2.1, .int x.2.2.2.1, .double x.2.2.2.2.1, .int (sf_b x.2.2.2.2.2.1), .int x.2.2.2.2.2.2.1, .int (sf_b x.2.2.2.2.2.2.2.1), .double x.2.2.2.2.2.2.2.2.1, .double x.2.2.2.2.2.2.2.2.2.1, .int x.2.2.2.2.2.2.2.2.2.2.1, .int x.2.2.2.2.2.2.2.2.2.2.2])), (hd, .inl (cD, 8, .inr (.inr (.inr (.inl (fb_keepr x (FP.dmul (fb_x x rg) (fb_y x rg)) rg))))))] H := hP
        have hD : va_D A [(ha, .inr (0, [.int x.1, .int x.2.1, .int x.2.2.1, .int x.2.2.2.1, .double x.2.2.2.2.1, .int (sf_b x.2.2.2.2.2.1), .int x.2.2.2.2.2.2.1, .int (sf_b x.2.2.2.2.2.2.2.1), .double x.2.2.2.2.2.2.2.2.1, .double x.2.2.2.2.2.2.2.2.2.1, .int x.2.2.2.2.2.2.2.2.2.2.1, .int x.2.2.2.2.2.2.2.2.2.2.2])), (hd, .inl (cD, 8, .inr (.inr (.inr (.inl (fb_keepr x (FP.dmul (fb_x x rg) (fb_y x rg)) rg))))))] := hD
        refine sf_topi (y := sf_b (fb_calcb x rg)) (by first | rfl | (simp [fb_calcr, fb_calcb, c_1, c_2, c_3]; done)) ?_
        have hP9 : va_P (dC, dI) vwCl ([wp_B ha x, wp_D hd cD 8 (fb_calcr x rg)]) H := by
          rw [show fb_calcr x rg = fb_keepr x (FP.dmul (fb_x x rg) (fb_y x rg)) rg from by first | rfl | (simp [fb_calcr, fb_calcb, c_1, c_2, c_3]; done)]
          exact hP
        have hD9 : va_D A ([wp_B ha x, wp_D hd cD 8 (fb_calcr x rg)]) := by
          rw [show fb_calcr x rg = fb_keepr x (FP.dmul (fb_x x rg) (fb_y x rg)) rg from by first | rfl | (simp [fb_calcr, fb_calcb, c_1, c_2, c_3]; done)]
          exact hD
        exact W.zret hx hb hr (sf_b_nb _) (fun t ht _ => ⟨rfl, by rw [ht]; exact hP9, hAe ▸ hD9, hAe ▸ hS.F ht⟩) (fun q hq => by rw [← hAe]; exact hS.2.2 q hq) dX0_calculate_77
      · skip
        by_cases c_4 : x.1 = 7
        · refine lv_tableIn (off := 59) (tgt := 78) hx hb dX0_calculate_19 (by rw [c_4]; decide) (by rw [c_4]; decide) (by rw [c_4]; decide) (by decide) ?_
          refine lv_dload hx hb dX0_calculate_78 (lv_at hl 0 rfl) ?_
          refine lv_dconst0 hx hb dX0_calculate_80 ?_
          refine lv_dcmp hx hb dX0_calculate_81 ?_
          refine lv_if_eq (tgt := 101) hx hb dX0_calculate_82 (by decide) (fun c_5 => ?_) (fun c_5 => ?_)
          · have c_5 := sd_l_eq.mp c_5
            refine lv_iconst (v := sf_b false) hx hb dX0_calculate_101 (by decide) ?_
            refine sf_topi (y := sf_b (fb_calcb x rg)) (by first | rfl | (simp [fb_calcr, fb_calcb, c_1, c_2, c_3, c_4, c_5]; done)) ?_
            have hP9 : va_P (dC, dI) vwCl ([wp_B ha x, wp_D hd cD 8 (fb_calcr x rg)]) s.heap := by
              rw [show fb_calcr x rg = rg from by first | rfl | (simp [fb_calcr, fb_calcb, c_1, c_2, c_3, c_4, c_5]; done)]
              exact hP
            have hD9 : va_D A ([wp_B ha x, wp_D hd cD 8 (fb_calcr x rg)]) := by
              rw [show fb_calcr x rg = rg from by first | rfl | (simp [fb_calcr, fb_calcb, c_1, c_2, c_3, c_4, c_5]; done)]
              exact hD
            exact W.zret hx hb hr (sf_b_nb _) (fun t ht _ => ⟨rfl, by rw [ht]; exact hP9, hAe ▸ hD9, hAe ▸ hS.F ht⟩) (fun q hq => by rw [← hAe]; exact hS.2.2 q hq) dX0_calculate_102
          · have c_5 := sd_nl_eq c_5
            refine lv_aload_n hx hb dX0_calculate_85 rfl (lv_at hl 2 rfl) ?_
            refine lv_dload_n hx hb dX0_calculate_86 rfl (lv_at hl 1 rfl) ?_
            refine lv_dload hx hb dX0_calculate_87 (lv_at hl 0 rfl) ?_
            refine lv_ddiv hx hb dX0_calculate_89 (sd_div (kx.fin (by decide)) (ky.fin (by decide)) c_5) ?_
            refine lv_aload_n hx hb dX0_calculate_90 rfl (lv_at hl 3 rfl) ?_
            have hPc : va_P (dC, dI) vwCl ([(ha, .inr (0, [.int x.1, .int x.2.1, .int x.2.2.1, .int x.2.2.2.1, .double x.2.2.2.2.1, .int (sf_b x.2.2.2.2.2.1), .int x.2.2.2.2.2.2.1, .int (sf_b x.2.2.2.2.2.2.2.1), .double x.2.2.2.2.2.2.2.2.1, .double x.2.2.2.2.2.2.2.2.2.1, .int x.2.2.2.2.2.2.2.2.2.2.1, .int x.2.2.2.2.2.2.2.2.2.2.2])), (hd, .inl (cD, 8, .inr (.inr (.inr (.inl rg)))))] ++ []) s.heap := hP.sub [0, 1] rfl
            have hDc : va_D A ([(ha, .inr (0, [.int x.1, .int x.2.1, .int x.2.2.1, .int x.2.2.2.1, .double x.2.2.2.2.1, .int (sf_b x.2.2.2.2.2.1), .int x.2.2.2.2.2.2.1, .int (sf_b x.2.2.2.2.2.2.2.1), .double x.2.2.2.2.2.2.2.2.1, .double x.2.2.2.2.2.2.2.2.2.1, .int x.2.2.2.2.2.2.2.2.2.2.1, .int x.2.2.2.2.2.2.2.2.2.2.2])), (hd, .inl (cD, 8, .inr (.inr (.inr (.inl rg)))))] ++ []) := hD.sub [0, 1] (by decide) rfl
            refine sf_callVi (va_runV (As := [.double (FP.ddiv (fb_x x rg) (fb_y x rg)), .ref hd]) (rest := []) ⟨hx, hb, hml, hown, hg⟩ (c_X0_keep l dC dI cD ha hd x rg (FP.ddiv (fb_x x rg) (fb_y x rg)) _ hc) (cwV 2 hg (gw_V mw_421 mw_423 mw_9 mw_23 mw_424) rfl rfl rfl (by decide +kernel) ⟨Nat.le_of_ble_eq_true rfl, Nat.le_of_ble_eq_true rfl⟩) (sf_preVV (va_recv hK hP (ci := 0) (q0 := 0) rfl rfl) hK hZ hPc hDc) rfl rfl hl.1 rfl (lv_room (Nat.le_of_ble_eq_true rfl)) dX0_calculate_91 ⟨Nat.zero_le _, Nat.zero_le _⟩) hS hPc hDc hA (fun H locs hP hD hS => ?_)
            have hP : va_P (dC, dI) vwCl [(ha, .inr (0, [.int x.1, .int x.2.1, .int x.2.2.1, .int x.2.2.2.1, .double x.2.2.2.2.1, .int (sf_b x.2.2.2.2.2.1), .int x.2.2.2.2.2.2.1, .int (sf_b x.2.2.2.2.2.2.2.1), .double x.2.2.2.2.2.2.2.2.1, .double x.2.2.2.2.2.2.2.2.2.1, .int x.2.2.2.2.2.2.2.2.2.2.1, .int x.2.2.2.2.2.2.2.2.2.2.2])), (hd, .inl (cD, 8, .inr (.inr (.inr (.inl (fb_keepr x (FP.ddiv (fb_x x rg) (fb_y x rg)) rg))))))] H := hP
            have hD : va_D A [(ha, .inr (0, [.int x.1, .int x.2.1, .int x.2.2.1, .int x.2.2.2.1, .double x.2.2.2.2.1, .int (sf_b x.2.2.2.2.2.1), .int x.2.2.2.2.2.2.1, .int (sf_b x.2.2.2.2.2.2.2.1), .double x.2.2.2.2.2.2.2.2.1, .double x.2.2.2.2.2.2.2.2.2.1, .int x.2.2.2.2.2.2.2.2.2.2.1, .int x.2.2.2.2.2.2.2.2.2.2.2])), (hd, .inl (cD, 8, .inr (.inr (.inr (.inl (fb_keepr x (FP.ddiv (fb_x x rg) (fb_y x rg)) rg))))))] := hD
            refine sf_ifeq (tgt := 101) hx hb dX0_calculate_94 (by decide) (fun c_6 => ?_) (fun c_6 => ?_)
            · refine lv_iconst (v := sf_b false) hx hb dX0_calculate_101 (by decide) ?_
              refine sf_topi (y := sf_b (fb_calcb x rg)) (by first | rfl | (simp [fb_calcr, fb_calcb, c_1, c_2, c_3, c_4, c_5, c_6]; done)) ?_
              have hP9 : va_P (dC, dI) vwCl ([wp_B ha x, wp_D hd cD 8 (fb_calcr x rg)]) H := by
                rw [show fb_calcr x rg = fb_keepr x (FP.ddiv (fb_x x rg) (fb_y x rg)) rg from by first | rfl | (simp [fb_calcr, fb_calcb, c_1, c_2, c_3, c_4, c_5, c_6]; done)]
                exact hP
              have hD9 : va_D A ([wp_B ha x, wp_D hd cD 8 (fb_calcr x rg)]) := by
                rw [show fb_calcr x rg = fb_keepr x (FP.ddiv (fb_x x rg) (fb_y x rg)) rg from by first | rfl | (simp [fb_calcr, fb_calcb, c_1, c_2, c_3, c_4, c_5, c_6]; done)]
                exact hD
              exact W.zret hx hb hr (sf_b_nb _) (fun t ht _ => ⟨rfl, by rw [ht]; exact hP9, hAe ▸ hD9, hAe ▸ hS.F ht⟩) (fun q hq => by rw [← hAe]; exact hS.2.2 q hq) dX0_calculate_102
            · refine lv_iconst (v := sf_b true) hx hb dX0_calculate_97 (by decide) ?_
              refine lv_goto (tgt := 102) hx hb dX0_calculate_98 (by decide) ?_
              refine sf_topi (y := sf_b (fb_calcb x rg)) (by first | rfl | (simp [fb_calcr, fb_calcb, c_1, c_2, c_3, c_4, c_5, c_6]; done)) ?_
              have hP9 : va_P (dC, dI) vwCl ([wp_B ha x, wp_D hd cD 8 (fb_calcr x rg)]) H := by
                rw [show fb_calcr x rg = fb_keepr x (FP.ddiv (fb_x x rg) (fb_y x rg)) rg from by first | rfl | (simp [fb_calcr, fb_calcb, c_1, c_2, c_3, c_4, c_5, c_6]; done)]
                exact hP
              have hD9 : va_D A ([wp_B ha x, wp_D hd cD 8 (fb_calcr x rg)]) := by
                rw [show fb_calcr x rg = fb_keepr x (FP.ddiv (fb_x x rg) (fb_y x rg)) rg from by first | rfl | (simp [fb_calcr, fb_calcb, c_1, c_2, c_3, c_4, c_5, c_6]; done)]
                exact hD
              exact W.zret hx hb hr (sf_b_nb _) (fun t ht _ => ⟨rfl, by rw [ht]; exact hP9, hAe ▸ hD9, hAe ▸ hS.F ht⟩) (fun q hq => by rw [← hAe]; exact hS.2.2 q hq) dX0_calculate_102
        · skip
          have h_7 : x.1.toInt < 4 ∨ 7 < x.1.toInt := by
            have q0 : ¬ x.1.toInt = 4 := lv_neT c_1 (by decide)
            have q1 : ¬ x.1.toInt = 5 := lv_neT c_2 (by decide)
            have q2 : ¬ x.1.toInt = 6 := lv_neT c_3 (by decide)
            have q3 : ¬ x.1.toInt = 7 := lv_neT c_4 (by decide)
            omega
          refine lv_tableOut (tgt := 103) hx hb dX0_calculate_19 h_7 (by decide) ?_
          refine lv_dload hx hb dX0_calculate_103 (lv_at hl 0 rfl) ?_
          refine lv_aload_n hx hb dX0_calculate_105 rfl (lv_at hl 2 rfl) ?_
          refine va_get (D := (dC, dI)) (ci := 0) (v := .double x.2.2.2.2.1) (C := RX0) (T := TX0) (N := 12) hx hb hg in_X0 hown hK hP 0 rfl rfl 4 (by decide) (hg _ mw_85) (fun _ h9 => h9) rfl dX0_calculate_106 ?_
          refine lv_dcmp hx hb dX0_calculate_109 ?_
          refine lv_if_gt (tgt := 135) hx hb dX0_calculate_110 (by decide) (fun c_8 => ?_) (fun c_8 => ?_)
          · have c_8 := sd_g_gt.mp c_8
            refine lv_iconst (v := sf_b false) hx hb dX0_calculate_135 (by decide) ?_
            refine sf_topi (y := sf_b (fb_calcb x rg)) (by first | rfl | (simp [fb_calcr, fb_calcb, c_1, c_2, c_3, c_4, c_8]; done)) ?_
            have hP9 : va_P (dC, dI) vwCl ([wp_B ha x, wp_D hd cD 8 (fb_calcr x rg)]) s.heap := by
              rw [show fb_calcr x rg = rg from by first | rfl | (simp [fb_calcr, fb_calcb, c_1, c_2, c_3, c_4, c_8]; done)]
              exact hP
            have hD9 : va_D A ([wp_B ha x, wp_D hd cD 8 (fb_calcr x rg)]) := by
              rw [show fb_calcr x rg = rg from by first | rfl | (simp [fb_calcr, fb_calcb, c_1, c_2, c_3, c_4, c_8]; done)]
              exact hD
            exact W.zret hx hb hr (sf_b_nb _) (fun t ht _ => ⟨rfl, by rw [ht]; exact hP9, hAe ▸ hD9, hAe ▸ hS.F ht⟩) (fun q hq => by rw [← hAe]; exact hS.2.2 q hq) dX0_calculate_136
          · have c_8 := sd_ng_gt c_8
            refine lv_aload_n hx hb dX0_calculate_113 rfl (lv_at hl 2 rfl) ?_
            refine lv_dload_n hx hb dX0_calculate_114 rfl (lv_at hl 1 rfl) ?_
            refine lv_dload hx hb dX0_calculate_115 (lv_at hl 0 rfl) ?_
            refine lv_aload_n hx hb dX0_calculate_117 rfl (lv_at hl 2 rfl) ?_
            refine va_get (D := (dC, dI)) (ci := 0) (v := .double x.2.2.2.2.1) (C := RX0) (T := TX0) (N := 12) hx hb hg in_X0 hown hK hP 0 rfl rfl 4 (by decide) (hg _ mw_85) (fun _ h9 => h9) rfl dX0_calculate_118 ?_
            refine sf_callRd (va_runS (As := [.double (fb_x x rg), .double (fb_y x rg), .double x.2.2.2.2.1]) (rest := [.ref ha]) ⟨hx, hb, hml, hown, hg⟩ (c_X0_limited l (fb_x x rg) (fb_y x rg) x.2.2.2.2.1) (cwS 3 hg (gw_S mw_417 mw_418 mw_23 mw_419) rfl rfl rfl (by decide +kernel) ⟨Nat.le_of_ble_eq_true rfl, Nat.le_of_ble_eq_true rfl⟩) sf_pre0 rfl rfl hl.1 rfl (lv_room (Nat.le_of_ble_eq_true rfl)) dX0_calculate_121 ⟨Nat.zero_le _, Nat.zero_le _⟩) ?_
            refine lv_aload_n hx hb dX0_calculate_124 rfl (lv_at hl 3 rfl) ?_
            have hPc : va_P (dC, dI) vwCl ([(ha, .inr (0, [.int x.1, .int x.2.1, .int x.2.2.1, .int x.2.2.2.1, .double x.2.2.2.2.1, .int (sf_b x.2.2.2.2.2.1), .int x.2.2.2.2.2.2.1, .int (sf_b x.2.2.2.2.2.2.2.1), .double x.2.2.2.2.2.2.2.2.1, .double x.2.2.2.2.2.2.2.2.2.1, .int x.2.2.2.2.2.2.2.2.2.2.1, .int x.2.2.2.2.2.2.2.2.2.2.2])), (hd, .inl (cD, 8, .inr (.inr (.inr (.inl rg)))))] ++ []) s.heap := hP.sub [0, 1] rfl
            have hDc : va_D A ([(ha, .inr (0, [.int x.1, .int x.2.1, .int x.2.2.1, .int x.2.2.2.1, .double x.2.2.2.2.1, .int (sf_b x.2.2.2.2.2.1), .int x.2.2.2.2.2.2.1, .int (sf_b x.2.2.2.2.2.2.2.1), .double x.2.2.2.2.2.2.2.2.1, .double x.2.2.2.2.2.2.2.2.2.1, .int x.2.2.2.2.2.2.2.2.2.2.1, .int x.2.2.2.2.2.2.2.2.2.2.2])), (hd, .inl (cD, 8, .inr (.inr (.inr (.inl rg)))))] ++ []) := hD.sub [0, 1] (by decide) rfl
            refine sf_callVi (va_runV (As := [.double (fc_lim (fb_x x rg) (fb_y x rg) x.2.2.2.2.1), .ref hd]) (rest := []) ⟨hx, hb, hml, hown, hg⟩ (c_X0_keep l dC dI cD ha hd x rg (fc_lim (fb_x x rg) (fb_y x rg) x.2.2.2.2.1) _ hc) (cwV 2 hg (gw_V mw_421 mw_423 mw_9 mw_23 mw_424) rfl rfl rfl (by decide +kernel) ⟨Nat.le_of_ble_eq_true rfl, Nat.le_of_ble_eq_true rfl⟩) (sf_preVV (va_recv hK hP (ci := 0) (q0 := 0) rfl rfl) hK hZ hPc hDc) rfl rfl hl.1 rfl (lv_room (Nat.le_of_ble_eq_true rfl)) dX0_calculate_125 ⟨Nat.zero_le _, Nat.zero_le _⟩) hS hPc hDc hA (fun H locs hP hD hS => ?_)
            have hP : va_P (dC, dI) vwCl [(ha, .inr (0, [.int x.1, .int x.2.1, .int x.2.2.1, .int x.2.2.2.1, .double x.2.2.2.2.1, .int (sf_b x.2.2.2.2.2.1), .int x.2.2.2.2.2.2.1, .int (sf_b x.2.2.2.2.2.2.2.1), .double x.2.2.2.2.2.2.2.2.1, .double x.2.2.2.2.2.2.2.2.2.1, .int x.2.2.2.2.2.2.2.2.2.2.1, .int x.2.2.2.2.2.2.2.2.2.2.2])), (hd, .inl (cD, 8, .inr (.inr (.inr (.inl (fb_keepr x (fc_lim (fb_x x rg) (fb_y x rg) x.2.2.2.2.1) rg))))))] H := hP
            have hD : va_D A [(ha, .inr (0, [.int x.1, .int x.2.1, .int x.2.2.1, .int x.2.2.2.1, .double x.2.2.2.2.1, .int (sf_b x.2.2.2.2.2.1), .int x.2.2.2.2.2.2.1, .int (sf_b x.2.2.2.2.2.2.2.1), .double x.2.2.2.2.2.2.2.2.1, .double x.2.2.2.2.2.2.2.2.2.1, .int x.2.2.2.2.2.2.2.2.2.2.1, .int x.2.2.2.2.2.2.2.2.2.2.2])), (hd, .inl (cD, 8, .inr (.inr (.inr (.inl (fb_keepr x (fc_lim (fb_x x rg) (fb_y x rg) x.2.2.2.2.1) rg))))))] := hD
            refine sf_ifeq (tgt := 135) hx hb dX0_calculate_128 (by decide) (fun c_9 => ?_) (fun c_9 => ?_)
            · refine lv_iconst (v := sf_b false) hx hb dX0_calculate_135 (by decide) ?_
              refine sf_topi (y := sf_b (fb_calcb x rg)) (by first | rfl | (simp [fb_calcr, fb_calcb, c_1, c_2, c_3, c_4, c_8, c_9]; done)) ?_
              have hP9 : va_P (dC, dI) vwCl ([wp_B ha x, wp_D hd cD 8 (fb_calcr x rg)]) H := by
                rw [show fb_calcr x rg = fb_keepr x (fc_lim (fb_x x rg) (fb_y x rg) x.2.2.2.2.1) rg from by first | rfl | (simp [fb_calcr, fb_calcb, c_1, c_2, c_3, c_4, c_8, c_9]; done)]
                exact hP
              have hD9 : va_D A ([wp_B ha x, wp_D hd cD 8 (fb_calcr x rg)]) := by
                rw [show fb_calcr x rg = fb_keepr x (fc_lim (fb_x x rg) (fb_y x rg) x.2.2.2.2.1) rg from by first | rfl | (simp [fb_calcr, fb_calcb, c_1, c_2, c_3, c_4, c_8, c_9]; done)]
                exact hD
              exact W.zret hx hb hr (sf_b_nb _) (fun t ht _ => ⟨rfl, by rw [ht]; exact hP9, hAe ▸ hD9, hAe ▸ hS.F ht⟩) (fun q hq => by rw [← hAe]; exact hS.2.2 q hq) dX0_calculate_136
            · refine lv_iconst (v := sf_b true) hx hb dX0_calculate_131 (by decide) ?_
              refine lv_goto (tgt := 136) hx hb dX0_calculate_132 (by decide) ?_
              refine sf_topi (y := sf_b (fb_calcb x rg)) (by first | rfl | (simp [fb_calcr, fb_calcb, c_1, c_2, c_3, c_4, c_8, c_9]; done)) ?_
              have hP9 : va_P (dC, dI) vwCl ([wp_B ha x, wp_D hd cD 8 (fb_calcr x rg)]) H := by
                rw [show fb_calcr x rg = fb_keepr x (fc_lim (fb_x x rg) (fb_y x rg) x.2.2.2.2.1) rg from by first | rfl | (simp [fb_calcr, fb_calcb, c_1, c_2, c_3, c_4, c_8, c_9]; done)]
                exact hP
              have hD9 : va_D A ([wp_B ha x, wp_D hd cD 8 (fb_calcr x rg)]) := by
                rw [show fb_calcr x rg = fb_keepr x (fc_lim (fb_x x rg) (fb_y x rg) x.2.2.2.2.1) rg from by first | rfl | (simp [fb_calcr, fb_calcb, c_1, c_2, c_3, c_4, c_8, c_9]; done)]
                exact hD
              exact W.zret hx hb hr (sf_b_nb _) (fun t ht _ => ⟨rfl, by rw [ht]; exact hP9, hAe ▸ hD9, hAe ▸ hS.F ht⟩) (fun q hq => by rw [← hAe]; exact hS.2.2 q hq) dX0_calculate_136
set_option maxHeartbeats 4000000 in
set_option maxRecDepth 100000 in
theorem c_X0_regulate (l : Launch) (dC : Nat → ClassId) (dI : Nat → Nat → Nat) (cD : ClassId) (ha hd : Nat) (x : st_B) (rg : Nat → UInt64) (pw : Bool) (sz : Nat) (hai : fc_ix x.2.1 8 = true) (hbi : fc_ix x.2.2.1 8 = true) (hc : fc_ix x.2.2.2.1 8 = true) (hrg : rg_ok rg) (hn : fc_setg x.2.2.2.2.1 = true) (hs : sd_K 1033 x.2.2.2.2.2.2.2.2.1) (he : sd_K 1065 x.2.2.2.2.2.2.2.2.2.1) : Met l yX0_regulate wX0_regulate ({ frames := 2, cells := 0, slots := 0, locals := 44 }) (sf_PV (dC, dI) vwCl [(cD, .double)] ([wp_B ha x, wp_D hd cD 8 rg]) sz [.ref ha, .int (sf_b pw), .ref hd]) (sf_V (dC, dI) vwCl (some (.int (sf_b (fb_regb x pw rg)))) ([wp_B ha x, wp_D hd cD 8 rg]) ([wp_B ha (fb_reg x pw rg), wp_D hd cD 8 (fb_regr x pw rg)])) 0 0 (va_A ([wp_B ha x, wp_D hd cD 8 rg]) sz) := by
  refine Met.ofW (cc := cX0_regulate) (maxL := 7) (ret := (some .boolean)) (by decide) rfl ?_
  intro p e s m args below meth c s₁ B hml hv
  have hx := B.exec
  have hb := B.bytes
  have hr := B.returns
  have hts := atoms_spec (ws := wX0_regulate) B.pre
  have hg : ∀ w ∈ gw_all, w.before args s = true := fun w h => hts w (List.mem_cons_of_mem _ h)
  have hown : s.vm.findClass RX0 = some m.cls := findClass_of_methodNamed B.named
  have hlocks := B.notSynchronized
  obtain ⟨rfl, hsz, hP, hD0, hK, hZ⟩ := hv
  subst hsz
  have hl := lv_entry ([.ref ha, .int (sf_b pw), .ref hd]) (n := 7) (Nat.le_of_ble_eq_true rfl)
  rw [lg_entry_eq]
  generalize (lg_sl ([.ref ha, .int (sf_b pw), .ref hd]) ++ List.replicate (7 - (lg_sl ([.ref ha, .int (sf_b pw), .ref hd])).length) Slot.unset).toArray = ls at hl ⊢
  have hl : lv_has ls 7 [(0, .ref ha), (1, .int (sf_b pw)), (2, .ref hd)] := hl
  obtain ⟨A, hAe⟩ : ∃ A : Nat → Prop, A = va_A ([wp_B ha x, wp_D hd cD 8 rg]) s.heap.size := ⟨_, rfl⟩
  have hD := hD0.self (sz := s.heap.size)
  rw [← hAe] at hD
  have hA : ∀ q : Nat, s.heap.size ≤ q → A q := fun q h => by rw [hAe]; exact Or.inr h
  have hS : va_S A s.heap s.heap [] := va_S.rf
  have hP : va_P (dC, dI) vwCl [(ha, .inr (0, [.int x.1, .int x.2.1, .int x.2.2.1, .int x.2.2.2.1, .double x.2.2.2.2.1, .int (sf_b x.2.2.2.2.2.1), .int x.2.2.2.2.2.2.1, .int (sf_b x.2.2.2.2.2.2.2.1), .double x.2.2.2.2.2.2.2.2.1, .double x.2.2.2.2.2.2.2.2.2.1, .int x.2.2.2.2.2.2.2.2.2.2.1, .int x.2.2.2.2.2.2.2.2.2.2.2])), (hd, .inl (cD, 8, .inr (.inr (.inr (.inl rg)))))] s.heap := hP
  have hD : va_D A [(ha, .inr (0, [.int x.1, .int x.2.1, .int x.2.2.1, .int x.2.2.2.1, .double x.2.2.2.2.1, .int (sf_b x.2.2.2.2.2.1), .int x.2.2.2.2.2.2.1, .int (sf_b x.2.2.2.2.2.2.2.1), .double x.2.2.2.2.2.2.2.2.1, .double x.2.2.2.2.2.2.2.2.2.1, .int x.2.2.2.2.2.2.2.2.2.2.1, .int x.2.2.2.2.2.2.2.2.2.2.2])), (hd, .inl (cD, 8, .inr (.inr (.inr (.inl rg)))))] := hD
  have ha9 := ix_nat (n := 8) rfl (by decide) hai
  have hb9 := ix_nat (n := 8) rfl (by decide) hbi
  have kx := val_K (hrg _ ha9.2)
  have ky := val_K (hrg _ hb9.2)
  have kn := setg_K hn
  have k1 : sd_K 1065 (fb_e x rg) := ke_e ky kx
  have k2 := ke_s hs k1
  have k3 : sd_K 1033 (fb_sum x rg) := lim_K (k2.fin (by decide)).ne_nan
  have k4 := ke_c k1 he
  have k5 := ke_a k1 k3
  have k6 := ke_h k4
  have k7 := ke_t k5 k6
  have k8 : sd_K 1081 (fb_v x rg) := ke_v kn k7
  refine lv_iload_n hx hb dX0_regulate_0 rfl (lv_at hl 1 rfl) ?_
  refine sf_ifne (tgt := 16) hx hb dX0_regulate_1 (by decide) (fun c_1 => ?_) (fun c_1 => ?_)
  · refine lv_aload_n hx hb dX0_regulate_16 rfl (lv_at hl 2 rfl) ?_
    refine lv_aload_n hx hb dX0_regulate_17 rfl (lv_at hl 0 rfl) ?_
    refine va_get (D := (dC, dI)) (ci := 0) (v := .int x.2.2.1) (C := RX0) (T := TX0) (N := 12) hx hb hg in_X0 hown hK hP 0 rfl rfl 2 (by decide) (hg _ mw_83) (fun _ h9 => h9) rfl dX0_regulate_18 ?_
    refine sf_dald hx hb hK hP 1 0 rfl rfl x.2.2.1.toNatClampNeg hb9.1 hb9.2 (by decide) dX0_regulate_21 ?_
    refine sf_topd (y := fb_y x rg) rfl ?_
    refine lv_aload_n hx hb dX0_regulate_22 rfl (lv_at hl 2 rfl) ?_
    refine lv_aload_n hx hb dX0_regulate_23 rfl (lv_at hl 0 rfl) ?_
    refine va_get (D := (dC, dI)) (ci := 0) (v := .int x.2.1) (C := RX0) (T := TX0) (N := 12) hx hb hg in_X0 hown hK hP 0 rfl rfl 1 (by decide) (hg _ mw_82) (fun _ h9 => h9) rfl dX0_regulate_24 ?_
    refine sf_dald hx hb hK hP 1 0 rfl rfl x.2.1.toNatClampNeg ha9.1 ha9.2 (by decide) dX0_regulate_27 ?_
    refine sf_topd (y := fb_x x rg) rfl ?_
    refine lv_dsub hx hb dX0_regulate_28 (k1.nn (by decide)) ?_
    refine sf_topd (y := fb_e x rg) rfl ?_
    refine lv_dstore_n (lv' := [(3, .double (fb_e x rg)), (0, .ref ha), (1, .int (sf_b pw)), (2, .ref hd)]) hx hb dX0_regulate_29 rfl hl (by decide) rfl (fun ls hl => ?_)
    refine lv_dload_n hx hb dX0_regulate_30 rfl (lv_at hl 0 rfl) ?_
    refine lv_aload_n hx hb dX0_regulate_31 rfl (lv_at hl 1 rfl) ?_
    refine va_get (D := (dC, dI)) (ci := 0) (v := .double x.2.2.2.2.2.2.2.2.2.1) (C := RX0) (T := TX0) (N := 12) hx hb hg in_X0 hown hK hP 0 rfl rfl 9 (by decide) (hg _ mw_91) (fun _ h9 => h9) rfl dX0_regulate_32 ?_
    refine lv_dsub hx hb dX0_regulate_35 (k4.nn (by decide)) ?_
    refine lv_dstore (lv' := [(5, .double (FP.dsub (fb_e x rg) x.2.2.2.2.2.2.2.2.2.1)), (3, .double (fb_e x rg)), (0, .ref ha), (1, .int (sf_b pw)), (2, .ref hd)]) hx hb dX0_regulate_36 hl (by decide) rfl (fun ls hl => ?_)
    refine lv_aload_n hx hb dX0_regulate_38 rfl (lv_at hl 2 rfl) ?_
    refine lv_aload_n hx hb dX0_regulate_39 rfl (lv_at hl 2 rfl) ?_
    refine va_get (D := (dC, dI)) (ci := 0) (v := .double x.2.2.2.2.2.2.2.2.1) (C := RX0) (T := TX0) (N := 12) hx hb hg in_X0 hown hK hP 0 rfl rfl 8 (by decide) (hg _ mw_90) (fun _ h9 => h9) rfl dX0_regulate_40 ?_
    refine lv_dload_n hx hb dX0_regulate_43 rfl (lv_at hl 1 rfl) ?_
    refine lv_ldc2d (v := 4593671619917905920) hx hb hown (hg _ mw_414) dX0_regulate_44 ?_
    refine lv_dmul hx hb dX0_regulate_47 ((ke_m k1).nn (by decide)) ?_
    refine lv_dadd hx hb dX0_regulate_48 (k2.nn (by decide)) ?_
    refine lv_ldc2d (v := 13875379345695965184) hx hb hown (hg _ mw_415) dX0_regulate_49 ?_
    refine lv_ldc2d (v := 4652007308841189376) hx hb hown (hg _ mw_416) dX0_regulate_52 ?_
    refine sf_callRd (va_runS (As := [.double (FP.dadd x.2.2.2.2.2.2.2.2.1 (FP.dmul (fb_e x rg) 4593671619917905920)), .double 13875379345695965184, .double 4652007308841189376]) (rest := [.ref ha]) ⟨hx, hb, hml, hown, hg⟩ (c_X0_limited l (FP.dadd x.2.2.2.2.2.2.2.2.1 (FP.dmul (fb_e x rg) 4593671619917905920)) 13875379345695965184 4652007308841189376) (cwS 3 hg (gw_S mw_417 mw_418 mw_23 mw_419) rfl rfl rfl (by decide +kernel) ⟨Nat.le_of_ble_eq_true rfl, Nat.le_of_ble_eq_true rfl⟩) sf_pre0 rfl rfl hl.1 rfl (lv_room (Nat.le_of_ble_eq_true rfl)) dX0_regulate_55 ⟨Nat.zero_le _, Nat.zero_le _⟩) ?_
    refine sf_topd (y := fb_sum x rg) rfl ?_
    refine va_put (D := (dC, dI)) (ci := 0) (v := .double (fb_sum x rg)) (ty := .double) (C := RX0) (T := TX0) (N := 12) hx hb hg in_X0 tyX0 tyX0_ok nmX0 hown hK hP hD hS 0 rfl rfl 8 (by decide) (hg _ mw_90) (fun _ h9 => h9) rfl (by decide +kernel) rfl rfl (Nat.le_of_ble_eq_true rfl) dX0_regulate_58 (fun H locs hP hD hS => ?_)
    have hP : va_P (dC, dI) vwCl [(ha, .inr (0, [.int x.1, .int x.2.1, .int x.2.2.1, .int x.2.2.2.1, .double x.2.2.2.2.1, .int (sf_b x.2.2.2.2.2.1), .int x.2.2.2.2.2.2.1, .int (sf_b x.2.2.2.2.2.2.2.1), .double (fb_sum x rg), .double x.2.2.2.2.2.2.2.2.2.1, .int x.2.2.2.2.2.2.2.2.2.2.1, .int x.2.2.2.2.2.2.2.2.2.2.2])), (hd, .inl (cD, 8, .inr (.inr (.inr (.inl rg)))))] H := hP
    have hD : va_D A [(ha, .inr (0, [.int x.1, .int x.2.1, .int x.2.2.1, .int x.2.2.2.1, .double x.2.2.2.2.1, .int (sf_b x.2.2.2.2.2.1), .int x.2.2.2.2.2.2.1, .int (sf_b x.2.2.2.2.2.2.2.1), .double (fb_sum x rg), .double x.2.2.2.2.2.2.2.2.2.1, .int x.2.2.2.2.2.2.2.2.2.2.1, .int x.2.2.2.2.2.2.2.2.2.2.2])), (hd, .inl (cD, 8, .inr (.inr (.inr (.inl rg)))))] := hD
    refine lv_aload_n hx hb dX0_regulate_61 rfl (lv_at hl 2 rfl) ?_
    refine lv_dload_n hx hb dX0_regulate_62 rfl (lv_at hl 1 rfl) ?_
    refine va_put (D := (dC, dI)) (ci := 0) (v := .double (fb_e x rg)) (ty := .double) (C := RX0) (T := TX0) (N := 12) hx hb hg in_X0 tyX0 tyX0_ok nmX0 hown hK hP hD hS 0 rfl rfl 9 (by decide) (hg _ mw_91) (fun _ h9 => h9) rfl (by decide +kernel) rfl rfl (Nat.le_of_ble_eq_true rfl) dX0_regulate_63 (fun H locs hP hD hS => ?_)
    have hP : va_P (dC, dI) vwCl [(ha, .inr (0, [.int x.1, .int x.2.1, .int x.2.2.1, .int x.2.2.2.1, .double x.2.2.2.2.1, .int (sf_b x.2.2.2.2.2.1), .int x.2.2.2.2.2.2.1, .int (sf_b x.2.2.2.2.2.2.2.1), .double (fb_sum x rg), .double (fb_e x rg), .int x.2.2.2.2.2.2.2.2.2.2.1, .int x.2.2.2.2.2.2.2.2.2.2.2])), (hd, .inl (cD, 8, .inr (.inr (.inr (.inl rg)))))] H := hP
    have hD : va_D A [(ha, .inr (0, [.int x.1, .int x.2.1, .int x.2.2.1, .int x.2.2.2.1, .double x.2.2.2.2.1, .int (sf_b x.2.2.2.2.2.1), .int x.2.2.2.2.2.2.1, .int (sf_b x.2.2.2.2.2.2.2.1), .double (fb_sum x rg), .double (fb_e x rg), .int x.2.2.2.2.2.2.2.2.2.2.1, .int x.2.2.2.2.2.2.2.2.2.2.2])), (hd, .inl (cD, 8, .inr (.inr (.inr (.inl rg)))))] := hD
    refine lv_aload_n hx hb dX0_regulate_66 rfl (lv_at hl 2 rfl) ?_
    refine lv_aload_n hx hb dX0_regulate_67 rfl (lv_at hl 2 rfl) ?_
    refine va_get (D := (dC, dI)) (ci := 0) (v := .double x.2.2.2.2.1) (C := RX0) (T := TX0) (N := 12) hx hb hg in_X0 hown hK hP 0 rfl rfl 4 (by decide) (hg _ mw_85) (fun _ h9 => h9) rfl dX0_regulate_68 ?_
    refine lv_dload_n hx hb dX0_regulate_71 rfl (lv_at hl 1 rfl) ?_
    refine lv_aload_n hx hb dX0_regulate_72 rfl (lv_at hl 2 rfl) ?_
    refine va_get (D := (dC, dI)) (ci := 0) (v := .double (fb_sum x rg)) (C := RX0) (T := TX0) (N := 12) hx hb hg in_X0 hown hK hP 0 rfl rfl 8 (by decide) (hg _ mw_90) (fun _ h9 => h9) rfl dX0_regulate_73 ?_
    refine lv_dadd hx hb dX0_regulate_76 (k5.nn (by decide)) ?_
    refine lv_dload hx hb dX0_regulate_77 (lv_at hl 0 rfl) ?_
    refine lv_ldc2d (v := 4602678819172646912) hx hb hown (hg _ mw_420) dX0_regulate_79 ?_
    refine lv_dmul hx hb dX0_regulate_82 (k6.nn (by decide)) ?_
    refine lv_dadd hx hb dX0_regulate_83 (k7.nn (by decide)) ?_
    refine lv_dmul hx hb dX0_regulate_84 (k8.nn (by decide)) ?_
    refine sf_topd (y := fb_v x rg) rfl ?_
    refine lv_aload_n hx hb dX0_regulate_85 rfl (lv_at hl 4 rfl) ?_
    have hPc : va_P (dC, dI) vwCl ([(ha, .inr (0, [.int x.1, .int x.2.1, .int x.2.2.1, .int x.2.2.2.1, .double x.2.2.2.2.1, .int (sf_b x.2.2.2.2.2.1), .int x.2.2.2.2.2.2.1, .int (sf_b x.2.2.2.2.2.2.2.1), .double (fb_sum x rg), .double (fb_e x rg), .int x.2.2.2.2.2.2.2.2.2.2.1, .int x.2.2.2.2.2.2.2.2.2.2.2])), (hd, .inl (cD, 8, .inr (.inr (.inr (.inl rg)))))] ++ []) H := hP.sub [0, 1] rfl
    have hDc : va_D A ([(ha, .inr (0, [.int x.1, .int x.2.1, .int x.2.2.1, .int x.2.2.2.1, .double x.2.2.2.2.1, .int (sf_b x.2.2.2.2.2.1), .int x.2.2.2.2.2.2.1, .int (sf_b x.2.2.2.2.2.2.2.1), .double (fb_sum x rg), .double (fb_e x rg), .int x.2.2.2.2.2.2.2.2.2.2.1, .int x.2.2.2.2.2.2.2.2.2.2.2])), (hd, .inl (cD, 8, .inr (.inr (.inr (.inl rg)))))] ++ []) := hD.sub [0, 1] (by decide) rfl
    refine sf_callVi (va_runV (As := [.double (fb_v x rg), .ref hd]) (rest := []) ⟨hx, hb, hml, hown, hg⟩ (c_X0_keep l dC dI cD ha hd (fb_sums x (fb_sum x rg) (fb_e x rg)) rg (fb_v x rg) _ hc) (cwV 2 hg (gw_V mw_421 mw_423 mw_9 mw_23 mw_424) rfl rfl rfl (by decide +kernel) ⟨Nat.le_of_ble_eq_true rfl, Nat.le_of_ble_eq_true rfl⟩) (sf_preVV (va_recv hK hP (ci := 0) (q0 := 0) rfl rfl) hK hZ hPc hDc) rfl rfl hl.1 rfl (lv_room (Nat.le_of_ble_eq_true rfl)) dX0_regulate_86 ⟨Nat.zero_le _, Nat.zero_le _⟩) hS hPc hDc hA (fun H locs hP hD hS => ?_)
    have hP : va_P (dC, dI) vwCl [(ha, .inr (0, [.int x.1, .int x.2.1, .int x.2.2.1, .int x.2.2.2.1, .double x.2.2.2.2.1, .int (sf_b x.2.2.2.2.2.1), .int x.2.2.2.2.2.2.1, .int (sf_b x.2.2.2.2.2.2.2.1), .double (fb_sum x rg), .double (fb_e x rg), .int x.2.2.2.2.2.2.2.2.2.2.1, .int x.2.2.2.2.2.2.2.2.2.2.2])), (hd, .inl (cD, 8, .inr (.inr (.inr (.inl (fb_keepr x (fb_v x rg) rg))))))] H := hP
    have hD : va_D A [(ha, .inr (0, [.int x.1, .int x.2.1, .int x.2.2.1, .int x.2.2.2.1, .double x.2.2.2.2.1, .int (sf_b x.2.2.2.2.2.1), .int x.2.2.2.2.2.2.1, .int (sf_b x.2.2.2.2.2.2.2.1), .double (fb_sum x rg), .double (fb_e x rg), .int x.2.2.2.2.2.2.2.2.2.2.1, .int x.2.2.2.2.2.2.2.2.2.2.2])), (hd, .inl (cD, 8, .inr (.inr (.inr (.inl (fb_keepr x (fb_v x rg) rg))))))] := hD
    refine sf_topi (y := sf_b (fb_regb x pw rg)) (by first | rfl | (simp [fb_reg, fb_regb, fb_regr, fb_sums, c_1]; done)) ?_
    have hP9 : va_P (dC, dI) vwCl ([wp_B ha (fb_reg x pw rg), wp_D hd cD 8 (fb_regr x pw rg)]) H := by
      rw [show fb_reg x pw rg = (x.1, x.2.1, x.2.2.1, x.2.2.2.1, x.2.2.2.2.1, x.2.2.2.2.2.1, x.2.2.2.2.2.2.1, x.2.2.2.2.2.2.2.1, fb_sum x rg, fb_e x rg, x.2.2.2.2.2.2.2.2.2.2.1, x.2.2.2.2.2.2.2.2.2.2.2) from by first | rfl | (simp [fb_reg, fb_regb, fb_regr, fb_sums, c_1]; done)]
      rw [show fb_regr x pw rg = fb_keepr x (fb_v x rg) rg from by first | rfl | (simp [fb_reg, fb_regb, fb_regr, fb_sums, c_1]; done)]
      exact hP
    have hD9 : va_D A ([wp_B ha (fb_reg x pw rg), wp_D hd cD 8 (fb_regr x pw rg)]) := by
      rw [show fb_reg x pw rg = (x.1, x.2.1, x.2.2.1, x.2.2.2.1, x.2.2.2.2.1, x.2.2.2.2.2.1, x.2.2.2.2.2.2.1, x.2.2.2.2.2.2.2.1, fb_sum x rg, fb_e x rg, x.2.2.2.2.2.2.2.2.2.2.1, x.2.2.2.2.2.2.2.2.2.2.2) from by first | rfl | (simp [fb_reg, fb_regb, fb_regr, fb_sums, c_1]; done)]
      rw [show fb_regr x pw rg = fb_keepr x (fb_v x rg) rg from by first | rfl | (simp [fb_reg, fb_regb, fb_regr, fb_sums, c_1]; done)]
      exact hD
    exact W.zret hx hb hr (sf_b_nb _) (fun t ht _ => ⟨rfl, by rw [ht]; exact hP9, hAe ▸ hD9, hAe ▸ hS.F ht⟩) (fun q hq => by rw [← hAe]; exact hS.2.2 q hq) dX0_regulate_89
  · refine lv_aload_n hx hb dX0_regulate_4 rfl (lv_at hl 0 rfl) ?_
    refine lv_dconst0 hx hb dX0_regulate_5 ?_
    refine va_put (D := (dC, dI)) (ci := 0) (v := .double FP.dconst0) (ty := .double) (C := RX0) (T := TX0) (N := 12) hx hb hg in_X0 tyX0 tyX0_ok nmX0 hown hK hP hD hS 0 rfl rfl 8 (by decide) (hg _ mw_90) (fun _ h9 => h9) rfl (by decide +kernel) rfl rfl (Nat.le_of_ble_eq_true rfl) dX0_regulate_6 (fun H locs hP hD hS => ?_)
    have hP : va_P (dC, dI) vwCl [(ha, .inr (0, [.int x.1, .int x.2.1, .int x.2.2.1, .int x.2.2.2.1, .double x.2.2.2.2.1, .int (sf_b x.2.2.2.2.2.1), .int x.2.2.2.2.2.2.1, .int (sf_b x.2.2.2.2.2.2.2.1), .double FP.dconst0, .double x.2.2.2.2.2.2.2.2.2.1, .int x.2.2.2.2.2.2.2.2.2.2.1, .int x.2.2.2.2.2.2.2.2.2.2.2])), (hd, .inl (cD, 8, .inr (.inr (.inr (.inl rg)))))] H := hP
    have hD : va_D A [(ha, .inr (0, [.int x.1, .int x.2.1, .int x.2.2.1, .int x.2.2.2.1, .double x.2.2.2.2.1, .int (sf_b x.2.2.2.2.2.1), .int x.2.2.2.2.2.2.1, .int (sf_b x.2.2.2.2.2.2.2.1), .double FP.dconst0, .double x.2.2.2.2.2.2.2.2.2.1, .int x.2.2.2.2.2.2.2.2.2.2.1, .int x.2.2.2.2.2.2.2.2.2.2.2])), (hd, .inl (cD, 8, .inr (.inr (.inr (.inl rg)))))] := hD
    refine lv_aload_n hx hb dX0_regulate_9 rfl (lv_at hl 0 rfl) ?_
    refine lv_dconst0 hx hb dX0_regulate_10 ?_
    refine va_put (D := (dC, dI)) (ci := 0) (v := .double FP.dconst0) (ty := .double) (C := RX0) (T := TX0) (N := 12) hx hb hg in_X0 tyX0 tyX0_ok nmX0 hown hK hP hD hS 0 rfl rfl 9 (by decide) (hg _ mw_91) (fun _ h9 => h9) rfl (by decide +kernel) rfl rfl (Nat.le_of_ble_eq_true rfl) dX0_regulate_11 (fun H locs hP hD hS => ?_)
    have hP : va_P (dC, dI) vwCl [(ha, .inr (0, [.int x.1, .int x.2.1, .int x.2.2.1, .int x.2.2.2.1, .double x.2.2.2.2.1, .int (sf_b x.2.2.2.2.2.1), .int x.2.2.2.2.2.2.1, .int (sf_b x.2.2.2.2.2.2.2.1), .double FP.dconst0, .double FP.dconst0, .int x.2.2.2.2.2.2.2.2.2.2.1, .int x.2.2.2.2.2.2.2.2.2.2.2])), (hd, .inl (cD, 8, .inr (.inr (.inr (.inl rg)))))] H := hP
    have hD : va_D A [(ha, .inr (0, [.int x.1, .int x.2.1, .int x.2.2.1, .int x.2.2.2.1, .double x.2.2.2.2.1, .int (sf_b x.2.2.2.2.2.1), .int x.2.2.2.2.2.2.1, .int (sf_b x.2.2.2.2.2.2.2.1), .double FP.dconst0, .double FP.dconst0, .int x.2.2.2.2.2.2.2.2.2.2.1, .int x.2.2.2.2.2.2.2.2.2.2.2])), (hd, .inl (cD, 8, .inr (.inr (.inr (.inl rg)))))] := hD
    refine lv_iconst (v := sf_b true) hx hb dX0_regulate_14 (by decide) ?_
    refine sf_topi (y := sf_b (fb_regb x pw rg)) (by first | rfl | (simp [fb_reg, fb_regb, fb_regr, fb_sums, c_1]; done)) ?_
    have hP9 : va_P (dC, dI) vwCl ([wp_B ha (fb_reg x pw rg), wp_D hd cD 8 (fb_regr x pw rg)]) H := by
      rw [show fb_reg x pw rg = (x.1, x.2.1, x.2.2.1, x.2.2.2.1, x.2.2.2.2.1, x.2.2.2.2.2.1, x.2.2.2.2.2.2.1, x.2.2.2.2.2.2.2.1, FP.dconst0, FP.dconst0, x.2.2.2.2.2.2.2.2.2.2.1, x.2.2.2.2.2.2.2.2.2.2.2) from by first | rfl | (simp [fb_reg, fb_regb, fb_regr, fb_sums, c_1]; done)]
      rw [show fb_regr x pw rg = rg from by first | rfl | (simp [fb_reg, fb_regb, fb_regr, fb_sums, c_1]; done)]
      exact hP
    have hD9 : va_D A ([wp_B ha (fb_reg x pw rg), wp_D hd cD 8 (fb_regr x pw rg)]) := by
      rw [show fb_reg x pw rg = (x.1, x.2.1, x.2.2.1, x.2.2.2.1, x.2.2.2.2.1, x.2.2.2.2.2.1, x.2.2.2.2.2.2.1, x.2.2.2.2.2.2.2.1, FP.dconst0, FP.dconst0, x.2.2.2.2.2.2.2.2.2.2.1, x.2.2.2.2.2.2.2.2.2.2.2) from by first | rfl | (simp [fb_reg, fb_regb, fb_regr, fb_sums, c_1]; done)]
      rw [show fb_regr x pw rg = rg from by first | rfl | (simp [fb_reg, fb_regb, fb_regr, fb_sums, c_1]; done)]
      exact hD
    exact W.zret hx hb hr (sf_b_nb _) (fun t ht _ => ⟨rfl, by rw [ht]; exact hP9, hAe ▸ hD9, hAe ▸ hS.F ht⟩) (fun q hq => by rw [← hAe]; exact hS.2.2 q hq) dX0_regulate_15
