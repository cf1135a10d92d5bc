set_option maxHeartbeats 4000000 in
set_option maxRecDepth 100000 in
theorem c_L_coil (l : Launch) (hlt : l.stackTraces = false) (sx : Nat → Nat) (dC : Nat → ClassId) (dI : Nat → Nat → Nat) (cI cZ cD cR cB : ClassId) (o : Nat → Nat) (ra : Nat → Nat → Nat) (ba : Nat → Nat) (sc : Int32) (y : st_Y) (cJ : ClassId) (qo : Nat) (ov : Nat → Int64) (g0 r0 k0 n0 : Int32) (sz : Nat)  : Met l yL_coil wL_coil ({ frames := 8, cells := 2, slots := 12, locals := 126 }) (sf_PL (dC, dI) vwCl [(cI, .int), (cZ, .boolean), (cD, .double), (cR, .object RX1), (cB, .object RX0), (cJ, .long)] sx ([(qo, .inl (cJ, 1, .inr (.inl ov)))] ++ wp_S cI cZ cD cR cB o ra ba sc y) sz [.ref (o 0), .int g0, .int r0, .int k0, .int n0, .ref qo]) (sf_V (dC, dI) vwCl (some (.int (kc2 (fc_isCoil k0 n0) (fc_row g0 r0)))) ([(qo, .inl (cJ, 1, .inr (.inl ov)))] ++ wp_S cI cZ cD cR cB o ra ba sc y) ([(qo, .inl (cJ, 1, .inr (.inl (yn2 (fc_isCoil k0 n0) (fc_row g0 r0) (va_up ov 0 (((y.2 g0.toNatClampNeg).2.2.2.2.2.1 r0.toNatClampNeg).toInt64)) ov))))] ++ wp_S cI cZ cD cR cB o ra ba sc (yn2 (fc_isCoil k0 n0) (fc_row g0 r0) (fp_coil y g0 r0 k0 n0) y))) 2 12 (va_A ([(qo, .inl (cJ, 1, .inr (.inl ov)))] ++ wp_S cI cZ cD cR cB o ra ba sc y) sz) := by
  refine va_MetW (hh := [(0, 14, 17, 13), (0, 14, 21, 15)]) (cc := cL_coil) (maxL := 7) (ret := (some .int)) (by decide) rfl ?_
  intro p e s m args below meth c s₁ B hml hv
  have hx := B.exec
  have hb := B.bytes
  have hr := B.returns
  have hts := atoms_spec (ws := wL_coil) B.pre
  have hg : ∀ w ∈ gw_all, w.before args s = true := fun w h => hts w (List.mem_cons_of_mem _ h)
  have hown : s.vm.findClass RL = some m.cls := findClass_of_methodNamed B.named
  have hlocks := B.notSynchronized
  obtain ⟨rfl, ⟨hsz, hP, hD0, hK, hZ, hE⟩, hN⟩ := hv
  subst hsz
  have htb := vx_table (x := yL_coil) B (hts _ List.mem_cons_self)
  have hl := lv_entry ([.ref (o 0), .int g0, .int r0, .int k0, .int n0, .ref qo]) (n := 7) (Nat.le_of_ble_eq_true rfl)
  rw [lg_entry_eq]
  generalize (lg_sl ([.ref (o 0), .int g0, .int r0, .int k0, .int n0, .ref qo]) ++ List.replicate (7 - (lg_sl ([.ref (o 0), .int g0, .int r0, .int k0, .int n0, .ref qo])).length) Slot.unset).toArray = ls at hl ⊢
  have hl : lv_has ls 7 [(0, .ref (o 0)), (1, .int g0), (2, .int r0), (3, .int k0), (4, .int n0), (5, .ref qo)] := hl
  obtain ⟨A, hAe⟩ : ∃ A : Nat → Prop, A = va_A ([(qo, .inl (cJ, 1, .inr (.inl ov)))] ++ wp_S cI cZ cD cR cB o ra ba sc y) s.heap.size := ⟨_, rfl⟩
  have hD := hD0.self (sz := s.heap.size)
  rw [← hAe] at hD hE
  have hA : ∀ q : Nat, s.heap.size ≤ q → A q := fun q h => by rw [hAe]; exact Or.inr h
  have hS : va_S A s.heap s.heap [] := va_S.rf
  have hP : va_P (dC, dI) vwCl ([(qo, .inl (cJ, 1, .inr (.inl ov)))] ++ wp_S cI cZ cD cR cB o ra ba sc y) s.heap := hP
  have hD : va_D A ([(qo, .inl (cJ, 1, .inr (.inl ov)))] ++ wp_S cI cZ cD cR cB o ra ba sc y) := hD
  refine lv_aload hx hb dL_coil_0 (lv_at hl 5 rfl) ?_
  refine lv_iconst (v := 0) hx hb dL_coil_2 (by decide) ?_
  refine lv_aload_n hx hb dL_coil_3 rfl (lv_at hl 0 rfl) ?_
  refine lv_iload_n hx hb dL_coil_4 rfl (lv_at hl 1 rfl) ?_
  refine lv_iload_n hx hb dL_coil_5 rfl (lv_at hl 2 rfl) ?_
  refine lv_iload_n hx hb dL_coil_6 rfl (lv_at hl 3 rfl) ?_
  refine lv_iload hx hb dL_coil_7 (lv_at hl 4 rfl) ?_
  have hPc : va_P (dC, dI) vwCl (wp_S cI cZ cD cR cB o ra ba sc y ++ [(qo, .inl (cJ, 1, .inr (.inl ov)))]) s.heap := sf_P_perm List.perm_append_comm hP
  have hDc : va_D A (wp_S cI cZ cD cR cB o ra ba sc y ++ [(qo, .inl (cJ, 1, .inr (.inl ov)))]) := sf_D_perm List.perm_append_comm hD
  refine sf_callXV (vx_runV (As := [.int g0, .int r0, .int k0, .int n0]) (rest := [.int 0, .ref qo]) ⟨hx, hb, hml, hown, hg⟩ (c_X2_coil l hlt sx dC dI cI cZ cD cR cB o ra ba sc y g0 r0 k0 n0 _ ) (cwV 4 hg (gw_V mw_279 mw_280 mw_281 mw_21 mw_282) rfl rfl rfl (by decide +kernel) ⟨Nat.le_of_ble_eq_true rfl, Nat.le_of_ble_eq_true rfl⟩) (sf_preX (va_recv hK hP (ci := 2) (q0 := 1) rfl rfl) (hK.sub [0, 1, 2, 3, 4] rfl) hZ hPc hDc hE hS hA) rfl rfl hl.1 rfl (lv_room (Nat.le_of_ble_eq_true rfl)) dL_coil_9 ⟨Nat.le_of_ble_eq_true rfl, Nat.le_of_ble_eq_true rfl⟩) hS hPc hDc hA (fun E hE9 ce q9 H locs hP hD hS hce hcv hcl => ?_) (fun hC H locs hP hD hS => ?_)
  · have hP := sf_P_perm List.perm_append_comm hP
    have hD := sf_D_perm List.perm_append_comm hD
    have hP : va_P (dC, dI) vwCl ([(qo, .inl (cJ, 1, .inr (.inl ov)))] ++ wp_S cI cZ cD cR cB o ra ba sc y) H := hP
    have hD : va_D A ([(qo, .inl (cJ, 1, .inr (.inl ov)))] ++ wp_S cI cZ cD cR cB o ra ba sc y) := hD
    rcases hE9 with ⟨h1, rfl⟩ | ⟨h1, h2, rfl⟩
    · refine vx_catch (name := ex_I) hown [] ⟨0, 14, 17, 13⟩ [⟨0, 14, 21, 15⟩] htb (fun z hz => nomatch hz) (by decide) (by decide) (hg _ mw_148) (ex_c hE.1 (List.mem_of_getElem? (i := 3) rfl)) hce hcv hcl ?_
      refine lv_astore (lv' := [(6, .ref q9), (0, .ref (o 0)), (1, .int g0), (2, .int r0), (3, .int k0), (4, .int n0), (5, .ref qo)]) hx hb dL_coil_17 hl (by decide) rfl (fun ls hl => ?_)
      refine lv_iconst (v := 1) hx hb dL_coil_19 (by decide) ?_
      have eK := k2_1 (C2 := fc_row g0 r0) h1
      refine sf_topi (y := kc2 (fc_isCoil k0 n0) (fc_row g0 r0)) eK.1.symm ?_
      have hP9 : va_P (dC, dI) vwCl ([(qo, .inl (cJ, 1, .inr (.inl (yn2 (fc_isCoil k0 n0) (fc_row g0 r0) (va_up ov 0 (((y.2 g0.toNatClampNeg).2.2.2.2.2.1 r0.toNatClampNeg).toInt64)) ov))))] ++ wp_S cI cZ cD cR cB o ra ba sc (yn2 (fc_isCoil k0 n0) (fc_row g0 r0) (fp_coil y g0 r0 k0 n0) y)) H := by
        rw [eK.2, eK.2]
        exact hP
      have hD9 : va_D A ([(qo, .inl (cJ, 1, .inr (.inl (yn2 (fc_isCoil k0 n0) (fc_row g0 r0) (va_up ov 0 (((y.2 g0.toNatClampNeg).2.2.2.2.2.1 r0.toNatClampNeg).toInt64)) ov))))] ++ wp_S cI cZ cD cR cB o ra ba sc (yn2 (fc_isCoil k0 n0) (fc_row g0 r0) (fp_coil y g0 r0 k0 n0) y)) := by
        rw [eK.2, eK.2]
        exact hD
      refine W.widen (k := 2) (n := 12) (Nat.le_of_ble_eq_true rfl) (Nat.le_of_ble_eq_true rfl) ?_
      exact W.iret hx hb hr (fun t ht _ => ⟨rfl, by rw [ht]; exact hP9, hAe ▸ hD9, hAe ▸ hS.F ht⟩) (fun q hq => by rw [← hAe]; exact hS.2.2 q hq) dL_coil_20
    · refine vx_catch (name := ex_O) hown [⟨0, 14, 17, 13⟩] ⟨0, 14, 21, 15⟩ [] htb (fun z hz => by rw [List.mem_singleton.mp hz]; exact Or.inr ⟨by decide, ex_I, hg _ mw_148, hN.1⟩) (by decide) (by decide) (hg _ mw_149) (ex_c hE.1 (List.mem_of_getElem? (i := 4) rfl)) hce hcv hcl ?_
      refine lv_astore (lv' := [(6, .ref q9), (0, .ref (o 0)), (1, .int g0), (2, .int r0), (3, .int k0), (4, .int n0), (5, .ref qo)]) hx hb dL_coil_21 hl (by decide) rfl (fun ls hl => ?_)
      refine lv_iconst (v := 2) hx hb dL_coil_23 (by decide) ?_
      have eK := k2_2 h1 h2
      refine sf_topi (y := kc2 (fc_isCoil k0 n0) (fc_row g0 r0)) eK.1.symm ?_
      have hP9 : va_P (dC, dI) vwCl ([(qo, .inl (cJ, 1, .inr (.inl (yn2 (fc_isCoil k0 n0) (fc_row g0 r0) (va_up ov 0 (((y.2 g0.toNatClampNeg).2.2.2.2.2.1 r0.toNatClampNeg).toInt64)) ov))))] ++ wp_S cI cZ cD cR cB o ra ba sc (yn2 (fc_isCoil k0 n0) (fc_row g0 r0) (fp_coil y g0 r0 k0 n0) y)) H := by
        rw [eK.2, eK.2]
        exact hP
      have hD9 : va_D A ([(qo, .inl (cJ, 1, .inr (.inl (yn2 (fc_isCoil k0 n0) (fc_row g0 r0) (va_up ov 0 (((y.2 g0.toNatClampNeg).2.2.2.2.2.1 r0.toNatClampNeg).toInt64)) ov))))] ++ wp_S cI cZ cD cR cB o ra ba sc (yn2 (fc_isCoil k0 n0) (fc_row g0 r0) (fp_coil y g0 r0 k0 n0) y)) := by
        rw [eK.2, eK.2]
        exact hD
      refine W.widen (k := 2) (n := 12) (Nat.le_of_ble_eq_true rfl) (Nat.le_of_ble_eq_true rfl) ?_
      exact W.iret hx hb hr (fun t ht _ => ⟨rfl, by rw [ht]; exact hP9, hAe ▸ hD9, hAe ▸ hS.F ht⟩) (fun q hq => by rw [← hAe]; exact hS.2.2 q hq) dL_coil_24
  have hP := sf_P_perm List.perm_append_comm hP
  have hD := sf_D_perm List.perm_append_comm hD
  have hP : va_P (dC, dI) vwCl ([(qo, .inl (cJ, 1, .inr (.inl ov)))] ++ wp_S cI cZ cD cR cB o ra ba sc (fp_coil y g0 r0 k0 n0)) H := hP
  have hD : va_D A ([(qo, .inl (cJ, 1, .inr (.inl ov)))] ++ wp_S cI cZ cD cR cB o ra ba sc (fp_coil y g0 r0 k0 n0)) := hD
  refine lv_i2l hx hb dL_coil_12 rfl ?_
  refine sf_last hx hb hK hP hD hS 0 5 rfl rfl 0 rfl (by decide) (by decide) dL_coil_13 (fun H locs hP hD hS => ?_)
  have hP : va_P (dC, dI) vwCl ([(qo, .inl (cJ, 1, .inr (.inl (va_up ov 0 (((y.2 g0.toNatClampNeg).2.2.2.2.2.1 r0.toNatClampNeg).toInt64)))))] ++ wp_S cI cZ cD cR cB o ra ba sc (fp_coil y g0 r0 k0 n0)) H := hP
  have hD : va_D A ([(qo, .inl (cJ, 1, .inr (.inl (va_up ov 0 (((y.2 g0.toNatClampNeg).2.2.2.2.2.1 r0.toNatClampNeg).toInt64)))))] ++ wp_S cI cZ cD cR cB o ra ba sc (fp_coil y g0 r0 k0 n0)) := hD
  refine lv_goto (tgt := 25) hx hb dL_coil_14 (by decide) ?_
  refine lv_iconst (v := 0) hx hb dL_coil_25 (by decide) ?_
  have eK := k2_ok hC
  refine sf_topi (y := kc2 (fc_isCoil k0 n0) (fc_row g0 r0)) eK.1.symm ?_
  have hP9 : va_P (dC, dI) vwCl ([(qo, .inl (cJ, 1, .inr (.inl (yn2 (fc_isCoil k0 n0) (fc_row g0 r0) (va_up ov 0 (((y.2 g0.toNatClampNeg).2.2.2.2.2.1 r0.toNatClampNeg).toInt64)) ov))))] ++ wp_S cI cZ cD cR cB o ra ba sc (yn2 (fc_isCoil k0 n0) (fc_row g0 r0) (fp_coil y g0 r0 k0 n0) y)) H := by
    rw [eK.2, eK.2]
    exact hP
  have hD9 : va_D A ([(qo, .inl (cJ, 1, .inr (.inl (yn2 (fc_isCoil k0 n0) (fc_row g0 r0) (va_up ov 0 (((y.2 g0.toNatClampNeg).2.2.2.2.2.1 r0.toNatClampNeg).toInt64)) ov))))] ++ wp_S cI cZ cD cR cB o ra ba sc (yn2 (fc_isCoil k0 n0) (fc_row g0 r0) (fp_coil y g0 r0 k0 n0) y)) := by
    rw [eK.2, eK.2]
    exact hD
  refine W.widen (k := 2) (n := 12) (Nat.le_of_ble_eq_true rfl) (Nat.le_of_ble_eq_true rfl) ?_
  exact W.iret hx hb hr (fun t ht _ => ⟨rfl, by rw [ht]; exact hP9, hAe ▸ hD9, hAe ▸ hS.F ht⟩) (fun q hq => by rw [← hAe]; exact hS.2.2 q hq) dL_coil_26
