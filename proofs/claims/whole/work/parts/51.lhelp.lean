set_option maxHeartbeats 4000000 in
set_option maxRecDepth 100000 in
theorem c_L_cell (l : Launch) (hlt : l.stackTraces = false) (sx : Nat → Nat) (dC : Nat → ClassId) (dI : Nat → Nat → Nat) (cI cZ cD cR cB : ClassId) (o : Nat → Nat) (ra : Nat → Nat → Nat) (ba : Nat → Nat) (sc : Int32) (y : st_Y) (cJ : ClassId) (qo : Nat) (ov : Nat → Int64) (g0 r0 c0 k0 b0 : Int32) (sz : Nat)  : Met l yL_cell wL_cell ({ frames := 8, cells := 2, slots := 12, locals := 127 }) (sf_PL (dC, dI) vwCl [(cI, .int), (cZ, .boolean), (cD, .double), (cR, .object RX1), (cB, .object RX0), (cJ, .long)] sx ([(qo, .inl (cJ, 1, .inr (.inl ov)))] ++ wp_S cI cZ cD cR cB o ra ba sc y) sz [.ref (o 0), .int g0, .int r0, .int c0, .int k0, .int b0, .ref qo]) (sf_V (dC, dI) vwCl (some (.int (kc2 (fc_isCell k0 b0) (fc_row g0 r0 && fc_ix c0 4)))) ([(qo, .inl (cJ, 1, .inr (.inl ov)))] ++ wp_S cI cZ cD cR cB o ra ba sc y) ([(qo, .inl (cJ, 1, .inr (.inl (yn2 (fc_isCell k0 b0) (fc_row g0 r0 && fc_ix c0 4) (va_up ov 0 (((y.2 g0.toNatClampNeg).1 (r0.toNatClampNeg * 4 + c0.toNatClampNeg)).toInt64)) ov))))] ++ wp_S cI cZ cD cR cB o ra ba sc (yn2 (fc_isCell k0 b0) (fc_row g0 r0 && fc_ix c0 4) (fp_cell y g0 r0 c0 k0 b0) y))) 2 12 (va_A ([(qo, .inl (cJ, 1, .inr (.inl ov)))] ++ wp_S cI cZ cD cR cB o ra ba sc y) sz) := by
  refine va_MetW (hh := [(0, 16, 19, 13), (0, 16, 23, 15)]) (cc := cL_cell) (maxL := 8) (ret := (some .int)) (by decide) rfl ?_
  intro p e s m args below meth c s₁ B hml hv
  have hx := B.exec
  have hb := B.bytes
  have hr := B.returns
  have hts := atoms_spec (ws := wL_cell) B.pre
  have hg : ∀ w ∈ gw_all, w.before args s = true := fun w h => hts w (List.mem_cons_of_mem _ h)
  have hown : s.vm.findClass RL = some m.cls := findClass_of_methodNamed B.named
  have hlocks := B.notSynchronized
  obtain ⟨rfl, ⟨hsz, hP, hD0, hK, hZ, hE⟩, hN⟩ := hv
  subst hsz
  have htb := vx_table (x := yL_cell) B (hts _ List.mem_cons_self)
  have hl := lv_entry ([.ref (o 0), .int g0, .int r0, .int c0, .int k0, .int b0, .ref qo]) (n := 8) (Nat.le_of_ble_eq_true rfl)
  rw [lg_entry_eq]
  generalize (lg_sl ([.ref (o 0), .int g0, .int r0, .int c0, .int k0, .int b0, .ref qo]) ++ List.replicate (8 - (lg_sl ([.ref (o 0), .int g0, .int r0, .int c0, .int k0, .int b0, .ref qo])).length) Slot.unset).toArray = ls at hl ⊢
  have hl : lv_has ls 8 [(0, .ref (o 0)), (1, .int g0), (2, .int r0), (3, .int c0), (4, .int k0), (5, .int b0), (6, .ref qo)] := hl
  obtain ⟨A, hAe⟩ : ∃ A : Nat → Prop, A = va_A ([(qo, .inl (cJ, 1, .inr (.inl ov)))] ++ wp_S cI cZ cD cR cB o ra ba sc y) s.heap.size := ⟨_, rfl⟩
  have hD := hD0.self (sz := s.heap.size)
  rw [← hAe] at hD hE
  have hA : ∀ q : Nat, s.heap.size ≤ q → A q := fun q h => by rw [hAe]; exact Or.inr h
  have hS : va_S A s.heap s.heap [] := va_S.rf
  have hP : va_P (dC, dI) vwCl ([(qo, .inl (cJ, 1, .inr (.inl ov)))] ++ wp_S cI cZ cD cR cB o ra ba sc y) s.heap := hP
  have hD : va_D A ([(qo, .inl (cJ, 1, .inr (.inl ov)))] ++ wp_S cI cZ cD cR cB o ra ba sc y) := hD
  refine lv_aload hx hb dL_cell_0 (lv_at hl 6 rfl) ?_
  refine lv_iconst (v := 0) hx hb dL_cell_2 (by decide) ?_
  refine lv_aload_n hx hb dL_cell_3 rfl (lv_at hl 0 rfl) ?_
  refine lv_iload_n hx hb dL_cell_4 rfl (lv_at hl 1 rfl) ?_
  refine lv_iload_n hx hb dL_cell_5 rfl (lv_at hl 2 rfl) ?_
  refine lv_iload_n hx hb dL_cell_6 rfl (lv_at hl 3 rfl) ?_
  refine lv_iload hx hb dL_cell_7 (lv_at hl 4 rfl) ?_
  refine lv_iload hx hb dL_cell_9 (lv_at hl 5 rfl) ?_
  have hPc : va_P (dC, dI) vwCl (wp_S cI cZ cD cR cB o ra ba sc y ++ [(qo, .inl (cJ, 1, .inr (.inl ov)))]) s.heap := sf_P_perm List.perm_append_comm hP
  have hDc : va_D A (wp_S cI cZ cD cR cB o ra ba sc y ++ [(qo, .inl (cJ, 1, .inr (.inl ov)))]) := sf_D_perm List.perm_append_comm hD
  refine sf_callXV (vx_runV (As := [.int g0, .int r0, .int c0, .int k0, .int b0]) (rest := [.int 0, .ref qo]) ⟨hx, hb, hml, hown, hg⟩ (c_X2_cell l hlt sx dC dI cI cZ cD cR cB o ra ba sc y g0 r0 c0 k0 b0 _ ) (cwV 5 hg (gw_V mw_150 mw_151 mw_152 mw_21 mw_153) rfl rfl rfl (by decide +kernel) ⟨Nat.le_of_ble_eq_true rfl, Nat.le_of_ble_eq_true rfl⟩) (sf_preX (va_recv hK hP (ci := 2) (q0 := 1) rfl rfl) (hK.sub [0, 1, 2, 3, 4] rfl) hZ hPc hDc hE hS hA) rfl rfl hl.1 rfl (lv_room (Nat.le_of_ble_eq_true rfl)) dL_cell_11 ⟨Nat.le_of_ble_eq_true rfl, Nat.le_of_ble_eq_true rfl⟩) hS hPc hDc hA (fun E hE9 ce q9 H locs hP hD hS hce hcv hcl => ?_) (fun hC H locs hP hD hS => ?_)
  · have hP := sf_P_perm List.perm_append_comm hP
    have hD := sf_D_perm List.perm_append_comm hD
    have hP : va_P (dC, dI) vwCl ([(qo, .inl (cJ, 1, .inr (.inl ov)))] ++ wp_S cI cZ cD cR cB o ra ba sc y) H := hP
    have hD : va_D A ([(qo, .inl (cJ, 1, .inr (.inl ov)))] ++ wp_S cI cZ cD cR cB o ra ba sc y) := hD
    rcases hE9 with ⟨h1, rfl⟩ | ⟨h1, h2, rfl⟩
    · refine vx_catch (name := ex_I) hown [] ⟨0, 16, 19, 13⟩ [⟨0, 16, 23, 15⟩] htb (fun z hz => nomatch hz) (by decide) (by decide) (hg _ mw_148) (ex_c hE.1 (List.mem_of_getElem? (i := 3) rfl)) hce hcv hcl ?_
      refine lv_astore (lv' := [(7, .ref q9), (0, .ref (o 0)), (1, .int g0), (2, .int r0), (3, .int c0), (4, .int k0), (5, .int b0), (6, .ref qo)]) hx hb dL_cell_19 hl (by decide) rfl (fun ls hl => ?_)
      refine lv_iconst (v := 1) hx hb dL_cell_21 (by decide) ?_
      have eK := k2_1 h1
      refine sf_topi (y := kc2 (fc_isCell k0 b0) (fc_row g0 r0 && fc_ix c0 4)) eK.1.symm ?_
      have hP9 : va_P (dC, dI) vwCl ([(qo, .inl (cJ, 1, .inr (.inl (yn2 (fc_isCell k0 b0) (fc_row g0 r0 && fc_ix c0 4) (va_up ov 0 (((y.2 g0.toNatClampNeg).1 (r0.toNatClampNeg * 4 + c0.toNatClampNeg)).toInt64)) ov))))] ++ wp_S cI cZ cD cR cB o ra ba sc (yn2 (fc_isCell k0 b0) (fc_row g0 r0 && fc_ix c0 4) (fp_cell y g0 r0 c0 k0 b0) y)) H := by
        rw [eK.2, eK.2]
        exact hP
      have hD9 : va_D A ([(qo, .inl (cJ, 1, .inr (.inl (yn2 (fc_isCell k0 b0) (fc_row g0 r0 && fc_ix c0 4) (va_up ov 0 (((y.2 g0.toNatClampNeg).1 (r0.toNatClampNeg * 4 + c0.toNatClampNeg)).toInt64)) ov))))] ++ wp_S cI cZ cD cR cB o ra ba sc (yn2 (fc_isCell k0 b0) (fc_row g0 r0 && fc_ix c0 4) (fp_cell y g0 r0 c0 k0 b0) y)) := by
        rw [eK.2, eK.2]
        exact hD
      refine W.widen (k := 2) (n := 12) (Nat.le_of_ble_eq_true rfl) (Nat.le_of_ble_eq_true rfl) ?_
      exact W.iret hx hb hr (fun t ht _ => ⟨rfl, by rw [ht]; exact hP9, hAe ▸ hD9, hAe ▸ hS.F ht⟩) (fun q hq => by rw [← hAe]; exact hS.2.2 q hq) dL_cell_22
    · refine vx_catch (name := ex_O) hown [⟨0, 16, 19, 13⟩] ⟨0, 16, 23, 15⟩ [] htb (fun z hz => by rw [List.mem_singleton.mp hz]; exact Or.inr ⟨by decide, ex_I, hg _ mw_148, hN.1⟩) (by decide) (by decide) (hg _ mw_149) (ex_c hE.1 (List.mem_of_getElem? (i := 4) rfl)) hce hcv hcl ?_
      refine lv_astore (lv' := [(7, .ref q9), (0, .ref (o 0)), (1, .int g0), (2, .int r0), (3, .int c0), (4, .int k0), (5, .int b0), (6, .ref qo)]) hx hb dL_cell_23 hl (by decide) rfl (fun ls hl => ?_)
      refine lv_iconst (v := 2) hx hb dL_cell_25 (by decide) ?_
      have eK := k2_2 h1 h2
      refine sf_topi (y := kc2 (fc_isCell k0 b0) (fc_row g0 r0 && fc_ix c0 4)) eK.1.symm ?_
      have hP9 : va_P (dC, dI) vwCl ([(qo, .inl (cJ, 1, .inr (.inl (yn2 (fc_isCell k0 b0) (fc_row g0 r0 && fc_ix c0 4) (va_up ov 0 (((y.2 g0.toNatClampNeg).1 (r0.toNatClampNeg * 4 + c0.toNatClampNeg)).toInt64)) ov))))] ++ wp_S cI cZ cD cR cB o ra ba sc (yn2 (fc_isCell k0 b0) (fc_row g0 r0 && fc_ix c0 4) (fp_cell y g0 r0 c0 k0 b0) y)) H := by
        rw [eK.2, eK.2]
        exact hP
      have hD9 : va_D A ([(qo, .inl (cJ, 1, .inr (.inl (yn2 (fc_isCell k0 b0) (fc_row g0 r0 && fc_ix c0 4) (va_up ov 0 (((y.2 g0.toNatClampNeg).1 (r0.toNatClampNeg * 4 + c0.toNatClampNeg)).toInt64)) ov))))] ++ wp_S cI cZ cD cR cB o ra ba sc (yn2 (fc_isCell k0 b0) (fc_row g0 r0 && fc_ix c0 4) (fp_cell y g0 r0 c0 k0 b0) y)) := by
        rw [eK.2, eK.2]
        exact hD
      refine W.widen (k := 2) (n := 12) (Nat.le_of_ble_eq_true rfl) (Nat.le_of_ble_eq_true rfl) ?_
      exact W.iret hx hb hr (fun t ht _ => ⟨rfl, by rw [ht]; exact hP9, hAe ▸ hD9, hAe ▸ hS.F ht⟩) (fun q hq => by rw [← hAe]; exact hS.2.2 q hq) dL_cell_26
  have hP := sf_P_perm List.perm_append_comm hP
  have hD := sf_D_perm List.perm_append_comm hD
  have hP : va_P (dC, dI) vwCl ([(qo, .inl (cJ, 1, .inr (.inl ov)))] ++ wp_S cI cZ cD cR cB o ra ba sc (fp_cell y g0 r0 c0 k0 b0)) H := hP
  have hD : va_D A ([(qo, .inl (cJ, 1, .inr (.inl ov)))] ++ wp_S cI cZ cD cR cB o ra ba sc (fp_cell y g0 r0 c0 k0 b0)) := hD
  refine lv_i2l hx hb dL_cell_14 rfl ?_
  refine sf_last hx hb hK hP hD hS 0 5 rfl rfl 0 rfl (by decide) (by decide) dL_cell_15 (fun H locs hP hD hS => ?_)
  have hP : va_P (dC, dI) vwCl ([(qo, .inl (cJ, 1, .inr (.inl (va_up ov 0 (((y.2 g0.toNatClampNeg).1 (r0.toNatClampNeg * 4 + c0.toNatClampNeg)).toInt64)))))] ++ wp_S cI cZ cD cR cB o ra ba sc (fp_cell y g0 r0 c0 k0 b0)) H := hP
  have hD : va_D A ([(qo, .inl (cJ, 1, .inr (.inl (va_up ov 0 (((y.2 g0.toNatClampNeg).1 (r0.toNatClampNeg * 4 + c0.toNatClampNeg)).toInt64)))))] ++ wp_S cI cZ cD cR cB o ra ba sc (fp_cell y g0 r0 c0 k0 b0)) := hD
  refine lv_goto (tgt := 27) hx hb dL_cell_16 (by decide) ?_
  refine lv_iconst (v := 0) hx hb dL_cell_27 (by decide) ?_
  have eK := k2_ok hC
  refine sf_topi (y := kc2 (fc_isCell k0 b0) (fc_row g0 r0 && fc_ix c0 4)) eK.1.symm ?_
  have hP9 : va_P (dC, dI) vwCl ([(qo, .inl (cJ, 1, .inr (.inl (yn2 (fc_isCell k0 b0) (fc_row g0 r0 && fc_ix c0 4) (va_up ov 0 (((y.2 g0.toNatClampNeg).1 (r0.toNatClampNeg * 4 + c0.toNatClampNeg)).toInt64)) ov))))] ++ wp_S cI cZ cD cR cB o ra ba sc (yn2 (fc_isCell k0 b0) (fc_row g0 r0 && fc_ix c0 4) (fp_cell y g0 r0 c0 k0 b0) y)) H := by
    rw [eK.2, eK.2]
    exact hP
  have hD9 : va_D A ([(qo, .inl (cJ, 1, .inr (.inl (yn2 (fc_isCell k0 b0) (fc_row g0 r0 && fc_ix c0 4) (va_up ov 0 (((y.2 g0.toNatClampNeg).1 (r0.toNatClampNeg * 4 + c0.toNatClampNeg)).toInt64)) ov))))] ++ wp_S cI cZ cD cR cB o ra ba sc (yn2 (fc_isCell k0 b0) (fc_row g0 r0 && fc_ix c0 4) (fp_cell y g0 r0 c0 k0 b0) y)) := by
    rw [eK.2, eK.2]
    exact hD
  refine W.widen (k := 2) (n := 12) (Nat.le_of_ble_eq_true rfl) (Nat.le_of_ble_eq_true rfl) ?_
  exact W.iret hx hb hr (fun t ht _ => ⟨rfl, by rw [ht]; exact hP9, hAe ▸ hD9, hAe ▸ hS.F ht⟩) (fun q hq => by rw [← hAe]; exact hS.2.2 q hq) dL_cell_28
set_option maxHeartbeats 4000000 in
set_option maxRecDepth 100000 in
theorem c_L_link (l : Launch) (hlt : l.stackTraces = false) (sx : Nat → Nat) (dC : Nat → ClassId) (dI : Nat → Nat → Nat) (cI cZ cD cR cB : ClassId) (o : Nat → Nat) (ra : Nat → Nat → Nat) (ba : Nat → Nat) (sc : Int32) (y : st_Y) (cJ : ClassId) (qo : Nat) (ov : Nat → Int64) (g0 r0 c0 : Int32) (x0 : Bool) (sz : Nat)  : Met l yL_link wL_link ({ frames := 8, cells := 1, slots := 6, locals := 126 }) (sf_PL (dC, dI) vwCl [(cI, .int), (cZ, .boolean), (cD, .double), (cR, .object RX1), (cB, .object RX0), (cJ, .long)] sx ([(qo, .inl (cJ, 1, .inr (.inl ov)))] ++ wp_S cI cZ cD cR cB o ra ba sc y) sz [.ref (o 0), .int g0, .int r0, .int c0, .int (sf_b x0), .ref qo]) (sf_V (dC, dI) vwCl (some (.int (kc1 (fc_ix g0 5 && (fc_ix r0 2 && fc_ix c0 4))))) ([(qo, .inl (cJ, 1, .inr (.inl ov)))] ++ wp_S cI cZ cD cR cB o ra ba sc y) ([(qo, .inl (cJ, 1, .inr (.inl (yn1 (fc_ix g0 5 && (fc_ix r0 2 && fc_ix c0 4)) (va_up ov 0 (bl ((y.2 g0.toNatClampNeg).2.2.2.1 (r0.toNatClampNeg * 4 + c0.toNatClampNeg)))) ov))))] ++ wp_S cI cZ cD cR cB o ra ba sc (yn1 (fc_ix g0 5 && (fc_ix r0 2 && fc_ix c0 4)) (fp_link y g0 r0 c0 x0) y))) 1 6 (va_A ([(qo, .inl (cJ, 1, .inr (.inl ov)))] ++ wp_S cI cZ cD cR cB o ra ba sc y) sz) := by
  refine va_MetW (hh := [(0, 21, 24, 15)]) (cc := cL_link) (maxL := 7) (ret := (some .int)) (by decide) rfl ?_
  intro p e s m args below meth c s₁ B hml hv
  have hx := B.exec
  have hb := B.bytes
  have hr := B.returns
  have hts := atoms_spec (ws := wL_link) B.pre
  have hg : ∀ w ∈ gw_all, w.before args s = true := fun w h => hts w (List.mem_cons_of_mem _ h)
  have hown : s.vm.findClass RL = some m.cls := findClass_of_methodNamed B.named
  have hlocks := B.notSynchronized
  obtain ⟨rfl, ⟨hsz, hP, hD0, hK, hZ, hE⟩, hN⟩ := hv
  subst hsz
  have htb := vx_table (x := yL_link) B (hts _ List.mem_cons_self)
  have hl := lv_entry ([.ref (o 0), .int g0, .int r0, .int c0, .int (sf_b x0), .ref qo]) (n := 7) (Nat.le_of_ble_eq_true rfl)
  rw [lg_entry_eq]
  generalize (lg_sl ([.ref (o 0), .int g0, .int r0, .int c0, .int (sf_b x0), .ref qo]) ++ List.replicate (7 - (lg_sl ([.ref (o 0), .int g0, .int r0, .int c0, .int (sf_b x0), .ref qo])).length) Slot.unset).toArray = ls at hl ⊢
  have hl : lv_has ls 7 [(0, .ref (o 0)), (1, .int g0), (2, .int r0), (3, .int c0), (4, .int (sf_b x0)), (5, .ref qo)] := hl
  obtain ⟨A, hAe⟩ : ∃ A : Nat → Prop, A = va_A ([(qo, .inl (cJ, 1, .inr (.inl ov)))] ++ wp_S cI cZ cD cR cB o ra ba sc y) s.heap.size := ⟨_, rfl⟩
  have hD := hD0.self (sz := s.heap.size)
  rw [← hAe] at hD hE
  have hA : ∀ q : Nat, s.heap.size ≤ q → A q := fun q h => by rw [hAe]; exact Or.inr h
  have hS : va_S A s.heap s.heap [] := va_S.rf
  have hP : va_P (dC, dI) vwCl ([(qo, .inl (cJ, 1, .inr (.inl ov)))] ++ wp_S cI cZ cD cR cB o ra ba sc y) s.heap := hP
  have hD : va_D A ([(qo, .inl (cJ, 1, .inr (.inl ov)))] ++ wp_S cI cZ cD cR cB o ra ba sc y) := hD
  refine lv_aload hx hb dL_link_0 (lv_at hl 5 rfl) ?_
  refine lv_iconst (v := 0) hx hb dL_link_2 (by decide) ?_
  refine lv_aload_n hx hb dL_link_3 rfl (lv_at hl 0 rfl) ?_
  refine lv_iload_n hx hb dL_link_4 rfl (lv_at hl 1 rfl) ?_
  refine lv_iload_n hx hb dL_link_5 rfl (lv_at hl 2 rfl) ?_
  refine lv_iload_n hx hb dL_link_6 rfl (lv_at hl 3 rfl) ?_
  refine lv_iload hx hb dL_link_7 (lv_at hl 4 rfl) ?_
  have hPc : va_P (dC, dI) vwCl (wp_S cI cZ cD cR cB o ra ba sc y ++ [(qo, .inl (cJ, 1, .inr (.inl ov)))]) s.heap := sf_P_perm List.perm_append_comm hP
  have hDc : va_D A (wp_S cI cZ cD cR cB o ra ba sc y ++ [(qo, .inl (cJ, 1, .inr (.inl ov)))]) := sf_D_perm List.perm_append_comm hD
  refine sf_callXV (vx_runV (As := [.int g0, .int r0, .int c0, .int (sf_b x0)]) (rest := [.int 0, .ref qo]) ⟨hx, hb, hml, hown, hg⟩ (c_X2_link l hlt sx dC dI cI cZ cD cR cB o ra ba sc y g0 r0 c0 x0 _ ) (cwV 4 hg (gw_V mw_268 mw_269 mw_270 mw_21 mw_271) rfl rfl rfl (by decide +kernel) ⟨Nat.le_of_ble_eq_true rfl, Nat.le_of_ble_eq_true rfl⟩) (sf_preX (va_recv hK hP (ci := 2) (q0 := 1) rfl rfl) (hK.sub [0, 1, 2, 3, 4] rfl) hZ hPc hDc hE hS hA) rfl rfl hl.1 rfl (lv_room (Nat.le_of_ble_eq_true rfl)) dL_link_9 ⟨Nat.le_of_ble_eq_true rfl, Nat.le_of_ble_eq_true rfl⟩) hS hPc hDc hA (fun E hE9 ce q9 H locs hP hD hS hce hcv hcl => ?_) (fun hC H locs hP hD hS => ?_)
  · have hP := sf_P_perm List.perm_append_comm hP
    have hD := sf_D_perm List.perm_append_comm hD
    have hP : va_P (dC, dI) vwCl ([(qo, .inl (cJ, 1, .inr (.inl ov)))] ++ wp_S cI cZ cD cR cB o ra ba sc y) H := hP
    have hD : va_D A ([(qo, .inl (cJ, 1, .inr (.inl ov)))] ++ wp_S cI cZ cD cR cB o ra ba sc y) := hD
    obtain ⟨h1, rfl⟩ := hE9
    refine vx_catch (name := ex_O) hown [] ⟨0, 21, 24, 15⟩ [] htb (fun z hz => nomatch hz) (by decide) (by decide) (hg _ mw_149) (ex_c hE.1 (List.mem_of_getElem? (i := 4) rfl)) hce hcv hcl ?_
    refine lv_astore (lv' := [(6, .ref q9), (0, .ref (o 0)), (1, .int g0), (2, .int r0), (3, .int c0), (4, .int (sf_b x0)), (5, .ref qo)]) hx hb dL_link_24 hl (by decide) rfl (fun ls hl => ?_)
    refine lv_iconst (v := 1) hx hb dL_link_26 (by decide) ?_
    have eK := k1_1 h1
    refine sf_topi (y := kc1 (fc_ix g0 5 && (fc_ix r0 2 && fc_ix c0 4))) eK.1.symm ?_
    have hP9 : va_P (dC, dI) vwCl ([(qo, .inl (cJ, 1, .inr (.inl (yn1 (fc_ix g0 5 && (fc_ix r0 2 && fc_ix c0 4)) (va_up ov 0 (bl ((y.2 g0.toNatClampNeg).2.2.2.1 (r0.toNatClampNeg * 4 + c0.toNatClampNeg)))) ov))))] ++ wp_S cI cZ cD cR cB o ra ba sc (yn1 (fc_ix g0 5 && (fc_ix r0 2 && fc_ix c0 4)) (fp_link y g0 r0 c0 x0) y)) H := by
      rw [eK.2, eK.2]
      exact hP
    have hD9 : va_D A ([(qo, .inl (cJ, 1, .inr (.inl (yn1 (fc_ix g0 5 && (fc_ix r0 2 && fc_ix c0 4)) (va_up ov 0 (bl ((y.2 g0.toNatClampNeg).2.2.2.1 (r0.toNatClampNeg * 4 + c0.toNatClampNeg)))) ov))))] ++ wp_S cI cZ cD cR cB o ra ba sc (yn1 (fc_ix g0 5 && (fc_ix r0 2 && fc_ix c0 4)) (fp_link y g0 r0 c0 x0) y)) := by
      rw [eK.2, eK.2]
      exact hD
    refine W.widen (k := 1) (n := 6) (Nat.le_of_ble_eq_true rfl) (Nat.le_of_ble_eq_true rfl) ?_
    exact W.iret hx hb hr (fun t ht _ => ⟨rfl, by rw [ht]; exact hP9, hAe ▸ hD9, hAe ▸ hS.F ht⟩) (fun q hq => by rw [← hAe]; exact hS.2.2 q hq) dL_link_27
  have hP := sf_P_perm List.perm_append_comm hP
  have hD := sf_D_perm List.perm_append_comm hD
  have hP : va_P (dC, dI) vwCl ([(qo, .inl (cJ, 1, .inr (.inl ov)))] ++ wp_S cI cZ cD cR cB o ra ba sc (fp_link y g0 r0 c0 x0)) H := hP
  have hD : va_D A ([(qo, .inl (cJ, 1, .inr (.inl ov)))] ++ wp_S cI cZ cD cR cB o ra ba sc (fp_link y g0 r0 c0 x0)) := hD
  refine sf_ifeq (tgt := 19) hx hb dL_link_12 (by decide) (fun c_1 => ?_) (fun c_1 => ?_)
  · refine lv_lconst (v := 0) hx hb dL_link_19 (by decide) ?_
    refine sf_topl (y := bl ((y.2 g0.toNatClampNeg).2.2.2.1 (r0.toNatClampNeg * 4 + c0.toNatClampNeg))) (by rw [c_1]; rfl) ?_
    refine sf_last hx hb hK hP hD hS 0 5 rfl rfl 0 rfl (by decide) (by decide) dL_link_20 (fun H locs hP hD hS => ?_)
    have hP : va_P (dC, dI) vwCl ([(qo, .inl (cJ, 1, .inr (.inl (va_up ov 0 (bl ((y.2 g0.toNatClampNeg).2.2.2.1 (r0.toNatClampNeg * 4 + c0.toNatClampNeg)))))))] ++ wp_S cI cZ cD cR cB o ra ba sc (fp_link y g0 r0 c0 x0)) H := hP
    have hD : va_D A ([(qo, .inl (cJ, 1, .inr (.inl (va_up ov 0 (bl ((y.2 g0.toNatClampNeg).2.2.2.1 (r0.toNatClampNeg * 4 + c0.toNatClampNeg)))))))] ++ wp_S cI cZ cD cR cB o ra ba sc (fp_link y g0 r0 c0 x0)) := hD
    refine lv_goto (tgt := 28) hx hb dL_link_21 (by decide) ?_
    refine lv_iconst (v := 0) hx hb dL_link_28 (by decide) ?_
    have eK := k1_ok hC
    refine sf_topi (y := kc1 (fc_ix g0 5 && (fc_ix r0 2 && fc_ix c0 4))) eK.1.symm ?_
    have hP9 : va_P (dC, dI) vwCl ([(qo, .inl (cJ, 1, .inr (.inl (yn1 (fc_ix g0 5 && (fc_ix r0 2 && fc_ix c0 4)) (va_up ov 0 (bl ((y.2 g0.toNatClampNeg).2.2.2.1 (r0.toNatClampNeg * 4 + c0.toNatClampNeg)))) ov))))] ++ wp_S cI cZ cD cR cB o ra ba sc (yn1 (fc_ix g0 5 && (fc_ix r0 2 && fc_ix c0 4)) (fp_link y g0 r0 c0 x0) y)) H := by
      rw [eK.2, eK.2]
      exact hP
    have hD9 : va_D A ([(qo, .inl (cJ, 1, .inr (.inl (yn1 (fc_ix g0 5 && (fc_ix r0 2 && fc_ix c0 4)) (va_up ov 0 (bl ((y.2 g0.toNatClampNeg).2.2.2.1 (r0.toNatClampNeg * 4 + c0.toNatClampNeg)))) ov))))] ++ wp_S cI cZ cD cR cB o ra ba sc (yn1 (fc_ix g0 5 && (fc_ix r0 2 && fc_ix c0 4)) (fp_link y g0 r0 c0 x0) y)) := by
      rw [eK.2, eK.2]
      exact hD
    refine W.widen (k := 1) (n := 6) (Nat.le_of_ble_eq_true rfl) (Nat.le_of_ble_eq_true rfl) ?_
    exact W.iret hx hb hr (fun t ht _ => ⟨rfl, by rw [ht]; exact hP9, hAe ▸ hD9, hAe ▸ hS.F ht⟩) (fun q hq => by rw [← hAe]; exact hS.2.2 q hq) dL_link_29
  · refine lv_lconst (v := 1) hx hb dL_link_15 (by decide) ?_
    refine lv_goto (tgt := 20) hx hb dL_link_16 (by decide) ?_
    refine sf_topl (y := bl ((y.2 g0.toNatClampNeg).2.2.2.1 (r0.toNatClampNeg * 4 + c0.toNatClampNeg))) (by rw [c_1]; rfl) ?_
    refine sf_last hx hb hK hP hD hS 0 5 rfl rfl 0 rfl (by decide) (by decide) dL_link_20 (fun H locs hP hD hS => ?_)
    have hP : va_P (dC, dI) vwCl ([(qo, .inl (cJ, 1, .inr (.inl (va_up ov 0 (bl ((y.2 g0.toNatClampNeg).2.2.2.1 (r0.toNatClampNeg * 4 + c0.toNatClampNeg)))))))] ++ wp_S cI cZ cD cR cB o ra ba sc (fp_link y g0 r0 c0 x0)) H := hP
    have hD : va_D A ([(qo, .inl (cJ, 1, .inr (.inl (va_up ov 0 (bl ((y.2 g0.toNatClampNeg).2.2.2.1 (r0.toNatClampNeg * 4 + c0.toNatClampNeg)))))))] ++ wp_S cI cZ cD cR cB o ra ba sc (fp_link y g0 r0 c0 x0)) := hD
    refine lv_goto (tgt := 28) hx hb dL_link_21 (by decide) ?_
    refine lv_iconst (v := 0) hx hb dL_link_28 (by decide) ?_
    have eK := k1_ok hC
    refine sf_topi (y := kc1 (fc_ix g0 5 && (fc_ix r0 2 && fc_ix c0 4))) eK.1.symm ?_
    have hP9 : va_P (dC, dI) vwCl ([(qo, .inl (cJ, 1, .inr (.inl (yn1 (fc_ix g0 5 && (fc_ix r0 2 && fc_ix c0 4)) (va_up ov 0 (bl ((y.2 g0.toNatClampNeg).2.2.2.1 (r0.toNatClampNeg * 4 + c0.toNatClampNeg)))) ov))))] ++ wp_S cI cZ cD cR cB o ra ba sc (yn1 (fc_ix g0 5 && (fc_ix r0 2 && fc_ix c0 4)) (fp_link y g0 r0 c0 x0) y)) H := by
      rw [eK.2, eK.2]
      exact hP
    have hD9 : va_D A ([(qo, .inl (cJ, 1, .inr (.inl (yn1 (fc_ix g0 5 && (fc_ix r0 2 && fc_ix c0 4)) (va_up ov 0 (bl ((y.2 g0.toNatClampNeg).2.2.2.1 (r0.toNatClampNeg * 4 + c0.toNatClampNeg)))) ov))))] ++ wp_S cI cZ cD cR cB o ra ba sc (yn1 (fc_ix g0 5 && (fc_ix r0 2 && fc_ix c0 4)) (fp_link y g0 r0 c0 x0) y)) := by
      rw [eK.2, eK.2]
      exact hD
    refine W.widen (k := 1) (n := 6) (Nat.le_of_ble_eq_true rfl) (Nat.le_of_ble_eq_true rfl) ?_
    exact W.iret hx hb hr (fun t ht _ => ⟨rfl, by rw [ht]; exact hP9, hAe ▸ hD9, hAe ▸ hS.F ht⟩) (fun q hq => by rw [← hAe]; exact hS.2.2 q hq) dL_link_29
set_option maxHeartbeats 4000000 in
set_option maxRecDepth 100000 in
theorem c_L_coil (l : Launch) (hlt : l.stackTraces = false) (sx : Nat → Nat) (dC : Nat → ClassId) (dI : Nat → Nat → Nat) (cI cZ cD cR cB : ClassId) (o : Nat → Nat) (ra : Nat → Nat → Nat) (ba : Nat → Nat) (sc : Int32) (y : st_Y) (cJ : ClassId) (qo : Nat) (ov : Nat → Int64) (g0 r0 k0 n0 : Int32) (sz : Nat)  : Met l yL_coil wL_coil ({ frames := 8, cells := 2, slots := 12, locals := 126 }) (sf_PL (dC, dI) vwCl [(cI, .int), (cZ, .boolean), (cD, .double), (cR, .object RX1), (cB, .object RX0), (cJ, .long)] sx ([(qo, .inl (cJ, 1, .inr (.inl ov)))] ++ wp_S cI cZ cD cR cB o ra ba sc y) sz [.ref (o 0), .int g0, .int r0, .int k0, .int n0, .ref qo]) (sf_V (dC, dI) vwCl (some (.int (kc2 (fc_isCoil k0 n0) (fc_row g0 r0)))) ([(qo, .inl (cJ, 1, .inr (.inl ov)))] ++ wp_S cI cZ cD cR cB o ra ba sc y) ([(qo, .inl (cJ, 1, .inr (.inl (yn2 (fc_isCoil k0 n0) (fc_row g0 r0) (va_up ov 0 (((y.2 g0.toNatClampNeg).2.2.2.2.2.1 r0.toNatClampNeg).toInt64)) ov))))] ++ wp_S cI cZ cD cR cB o ra ba sc (yn2 (fc_isCoil k0 n0) (fc_row g0 r0) (fp_coil y g0 r0 k0 n0) y))) 2 12 (va_A ([(qo, .inl (cJ, 1, .inr (.inl ov)))] ++ wp_S cI cZ cD cR cB o ra ba sc y) sz) := by
  refine va_MetW (hh := [(0, 14, 17, 13), (0, 14, 21, 15)]) (cc := cL_coil) (maxL := 7) (ret := (some .int)) (by decide) rfl ?_
  intro p e s m args below meth c s₁ B hml hv
  have hx := B.exec
  have hb := B.bytes
  have hr := B.returns
  have hts := atoms_spec (ws := wL_coil) B.pre
  have hg : ∀ w ∈ gw_all, w.before args s = true := fun w h => hts w (List.mem_cons_of_mem _ h)
  have hown : s.vm.findClass RL = some m.cls := findClass_of_methodNamed B.named
  have hlocks := B.notSynchronized
  obtain ⟨rfl, ⟨hsz, hP, hD0, hK, hZ, hE⟩, hN⟩ := hv
  subst hsz
  have htb := vx_table (x := yL_coil) B (hts _ List.mem_cons_self)
  have hl := lv_entry ([.ref (o 0), .int g0, .int r0, .int k0, .int n0, .ref qo]) (n := 7) (Nat.le_of_ble_eq_true rfl)
  rw [lg_entry_eq]
  generalize (lg_sl ([.ref (o 0), .int g0, .int r0, .int k0, .int n0, .ref qo]) ++ List.replicate (7 - (lg_sl ([.ref (o 0), .int g0, .int r0, .int k0, .int n0, .ref qo])).length) Slot.unset).toArray = ls at hl ⊢
  have hl : lv_has ls 7 [(0, .ref (o 0)), (1, .int g0), (2, .int r0), (3, .int k0), (4, .int n0), (5, .ref qo)] := hl
  obtain ⟨A, hAe⟩ : ∃ A : Nat → Prop, A = va_A ([(qo, .inl (cJ, 1, .inr (.inl ov)))] ++ wp_S cI cZ cD cR cB o ra ba sc y) s.heap.size := ⟨_, rfl⟩
  have hD := hD0.self (sz := s.heap.size)
  rw [← hAe] at hD hE
  have hA : ∀ q : Nat, s.heap.size ≤ q → A q := fun q h => by rw [hAe]; exact Or.inr h
  have hS : va_S A s.heap s.heap [] := va_S.rf
  have hP : va_P (dC, dI) vwCl ([(qo, .inl (cJ, 1, .inr (.inl ov)))] ++ wp_S cI cZ cD cR cB o ra ba sc y) s.heap := hP
  have hD : va_D A ([(qo, .inl (cJ, 1, .inr (.inl ov)))] ++ wp_S cI cZ cD cR cB o ra ba sc y) := hD
  refine lv_aload hx hb dL_coil_0 (lv_at hl 5 rfl) ?_
  refine lv_iconst (v := 0) hx hb dL_coil_2 (by decide) ?_
  refine lv_aload_n hx hb dL_coil_3 rfl (lv_at hl 0 rfl) ?_
  refine lv_iload_n hx hb dL_coil_4 rfl (lv_at hl 1 rfl) ?_
  refine lv_iload_n hx hb dL_coil_5 rfl (lv_at hl 2 rfl) ?_
  refine lv_iload_n hx hb dL_coil_6 rfl (lv_at hl 3 rfl) ?_
  refine lv_iload hx hb dL_coil_7 (lv_at hl 4 rfl) ?_
  have hPc : va_P (dC, dI) vwCl (wp_S cI cZ cD cR cB o ra ba sc y ++ [(qo, .inl (cJ, 1, .inr (.inl ov)))]) s.heap := sf_P_perm List.perm_append_comm hP
  have hDc : va_D A (wp_S cI cZ cD cR cB o ra ba sc y ++ [(qo, .inl (cJ, 1, .inr (.inl ov)))]) := sf_D_perm List.perm_append_comm hD
  refine sf_callXV (vx_runV (As := [.int g0, .int r0, .int k0, .int n0]) (rest := [.int 0, .ref qo]) ⟨hx, hb, hml, hown, hg⟩ (c_X2_coil l hlt sx dC dI cI cZ cD cR cB o ra ba sc y g0 r0 k0 n0 _ ) (cwV 4 hg (gw_V mw_279 mw_280 mw_281 mw_21 mw_282) rfl rfl rfl (by decide +kernel) ⟨Nat.le_of_ble_eq_true rfl, Nat.le_of_ble_eq_true rfl⟩) (sf_preX (va_recv hK hP (ci := 2) (q0 := 1) rfl rfl) (hK.sub [0, 1, 2, 3, 4] rfl) hZ hPc hDc hE hS hA) rfl rfl hl.1 rfl (lv_room (Nat.le_of_ble_eq_true rfl)) dL_coil_9 ⟨Nat.le_of_ble_eq_true rfl, Nat.le_of_ble_eq_true rfl⟩) hS hPc hDc hA (fun E hE9 ce q9 H locs hP hD hS hce hcv hcl => ?_) (fun hC H locs hP hD hS => ?_)
  · have hP := sf_P_perm List.perm_append_comm hP
    have hD := sf_D_perm List.perm_append_comm hD
    have hP : va_P (dC, dI) vwCl ([(qo, .inl (cJ, 1, .inr (.inl ov)))] ++ wp_S cI cZ cD cR cB o ra ba sc y) H := hP
    have hD : va_D A ([(qo, .inl (cJ, 1, .inr (.inl ov)))] ++ wp_S cI cZ cD cR cB o ra ba sc y) := hD
    rcases hE9 with ⟨h1, rfl⟩ | ⟨h1, h2, rfl⟩
    · refine vx_catch (name := ex_I) hown [] ⟨0, 14, 17, 13⟩ [⟨0, 14, 21, 15⟩] htb (fun z hz => nomatch hz) (by decide) (by decide) (hg _ mw_148) (ex_c hE.1 (List.mem_of_getElem? (i := 3) rfl)) hce hcv hcl ?_
      refine lv_astore (lv' := [(6, .ref q9), (0, .ref (o 0)), (1, .int g0), (2, .int r0), (3, .int k0), (4, .int n0), (5, .ref qo)]) hx hb dL_coil_17 hl (by decide) rfl (fun ls hl => ?_)
      refine lv_iconst (v := 1) hx hb dL_coil_19 (by decide) ?_
      have eK := k2_1 h1
      refine sf_topi (y := kc2 (fc_isCoil k0 n0) (fc_row g0 r0)) eK.1.symm ?_
      have hP9 : va_P (dC, dI) vwCl ([(qo, .inl (cJ, 1, .inr (.inl (yn2 (fc_isCoil k0 n0) (fc_row g0 r0) (va_up ov 0 (((y.2 g0.toNatClampNeg).2.2.2.2.2.1 r0.toNatClampNeg).toInt64)) ov))))] ++ wp_S cI cZ cD cR cB o ra ba sc (yn2 (fc_isCoil k0 n0) (fc_row g0 r0) (fp_coil y g0 r0 k0 n0) y)) H := by
        rw [eK.2, eK.2]
        exact hP
      have hD9 : va_D A ([(qo, .inl (cJ, 1, .inr (.inl (yn2 (fc_isCoil k0 n0) (fc_row g0 r0) (va_up ov 0 (((y.2 g0.toNatClampNeg).2.2.2.2.2.1 r0.toNatClampNeg).toInt64)) ov))))] ++ wp_S cI cZ cD cR cB o ra ba sc (yn2 (fc_isCoil k0 n0) (fc_row g0 r0) (fp_coil y g0 r0 k0 n0) y)) := by
        rw [eK.2, eK.2]
        exact hD
      refine W.widen (k := 2) (n := 12) (Nat.le_of_ble_eq_true rfl) (Nat.le_of_ble_eq_true rfl) ?_
      exact W.iret hx hb hr (fun t ht _ => ⟨rfl, by rw [ht]; exact hP9, hAe ▸ hD9, hAe ▸ hS.F ht⟩) (fun q hq => by rw [← hAe]; exact hS.2.2 q hq) dL_coil_20
    · refine vx_catch (name := ex_O) hown [⟨0, 14, 17, 13⟩] ⟨0, 14, 21, 15⟩ [] htb (fun z hz => by rw [List.mem_singleton.mp hz]; exact Or.inr ⟨by decide, ex_I, hg _ mw_148, hN.1⟩) (by decide) (by decide) (hg _ mw_149) (ex_c hE.1 (List.mem_of_getElem? (i := 4) rfl)) hce hcv hcl ?_
      refine lv_astore (lv' := [(6, .ref q9), (0, .ref (o 0)), (1, .int g0), (2, .int r0), (3, .int k0), (4, .int n0), (5, .ref qo)]) hx hb dL_coil_21 hl (by decide) rfl (fun ls hl => ?_)
      refine lv_iconst (v := 2) hx hb dL_coil_23 (by decide) ?_
      have eK := k2_2 h1 h2
      refine sf_topi (y := kc2 (fc_isCoil k0 n0) (fc_row g0 r0)) eK.1.symm ?_
      have hP9 : va_P (dC, dI) vwCl ([(qo, .inl (cJ, 1, .inr (.inl (yn2 (fc_isCoil k0 n0) (fc_row g0 r0) (va_up ov 0 (((y.2 g0.toNatClampNeg).2.2.2.2.2.1 r0.toNatClampNeg).toInt64)) ov))))] ++ wp_S cI cZ cD cR cB o ra ba sc (yn2 (fc_isCoil k0 n0) (fc_row g0 r0) (fp_coil y g0 r0 k0 n0) y)) H := by
        rw [eK.2, eK.2]
        exact hP
      have hD9 : va_D A ([(qo, .inl (cJ, 1, .inr (.inl (yn2 (fc_isCoil k0 n0) (fc_row g0 r0) (va_up ov 0 (((y.2 g0.toNatClampNeg).2.2.2.2.2.1 r0.toNatClampNeg).toInt64)) ov))))] ++ wp_S cI cZ cD cR cB o ra ba sc (yn2 (fc_isCoil k0 n0) (fc_row g0 r0) (fp_coil y g0 r0 k0 n0) y)) := by
        rw [eK.2, eK.2]
        exact hD
      refine W.widen (k := 2) (n := 12) (Nat.le_of_ble_eq_true rfl) (Nat.le_of_ble_eq_true rfl) ?_
      exact W.iret hx hb hr (fun t ht _ => ⟨rfl, by rw [ht]; exact hP9, hAe ▸ hD9, hAe ▸ hS.F ht⟩) (fun q hq => by rw [← hAe]; exact hS.2.2 q hq) dL_coil_24
  have hP := sf_P_perm List.perm_append_comm hP
  have hD := sf_D_perm List.perm_append_comm hD
  have hP : va_P (dC, dI) vwCl ([(qo, .inl (cJ, 1, .inr (.inl ov)))] ++ wp_S cI cZ cD cR cB o ra ba sc (fp_coil y g0 r0 k0 n0)) H := hP
  have hD : va_D A ([(qo, .inl (cJ, 1, .inr (.inl ov)))] ++ wp_S cI cZ cD cR cB o ra ba sc (fp_coil y g0 r0 k0 n0)) := hD
  refine lv_i2l hx hb dL_coil_12 rfl ?_
  refine sf_last hx hb hK hP hD hS 0 5 rfl rfl 0 rfl (by decide) (by decide) dL_coil_13 (fun H locs hP hD hS => ?_)
  have hP : va_P (dC, dI) vwCl ([(qo, .inl (cJ, 1, .inr (.inl (va_up ov 0 (((y.2 g0.toNatClampNeg).2.2.2.2.2.1 r0.toNatClampNeg).toInt64)))))] ++ wp_S cI cZ cD cR cB o ra ba sc (fp_coil y g0 r0 k0 n0)) H := hP
  have hD : va_D A ([(qo, .inl (cJ, 1, .inr (.inl (va_up ov 0 (((y.2 g0.toNatClampNeg).2.2.2.2.2.1 r0.toNatClampNeg).toInt64)))))] ++ wp_S cI cZ cD cR cB o ra ba sc (fp_coil y g0 r0 k0 n0)) := hD
  refine lv_goto (tgt := 25) hx hb dL_coil_14 (by decide) ?_
  refine lv_iconst (v := 0) hx hb dL_coil_25 (by decide) ?_
  have eK := k2_ok hC
  refine sf_topi (y := kc2 (fc_isCoil k0 n0) (fc_row g0 r0)) eK.1.symm ?_
  have hP9 : va_P (dC, dI) vwCl ([(qo, .inl (cJ, 1, .inr (.inl (yn2 (fc_isCoil k0 n0) (fc_row g0 r0) (va_up ov 0 (((y.2 g0.toNatClampNeg).2.2.2.2.2.1 r0.toNatClampNeg).toInt64)) ov))))] ++ wp_S cI cZ cD cR cB o ra ba sc (yn2 (fc_isCoil k0 n0) (fc_row g0 r0) (fp_coil y g0 r0 k0 n0) y)) H := by
    rw [eK.2, eK.2]
    exact hP
  have hD9 : va_D A ([(qo, .inl (cJ, 1, .inr (.inl (yn2 (fc_isCoil k0 n0) (fc_row g0 r0) (va_up ov 0 (((y.2 g0.toNatClampNeg).2.2.2.2.2.1 r0.toNatClampNeg).toInt64)) ov))))] ++ wp_S cI cZ cD cR cB o ra ba sc (yn2 (fc_isCoil k0 n0) (fc_row g0 r0) (fp_coil y g0 r0 k0 n0) y)) := by
    rw [eK.2, eK.2]
    exact hD
  refine W.widen (k := 2) (n := 12) (Nat.le_of_ble_eq_true rfl) (Nat.le_of_ble_eq_true rfl) ?_
  exact W.iret hx hb hr (fun t ht _ => ⟨rfl, by rw [ht]; exact hP9, hAe ▸ hD9, hAe ▸ hS.F ht⟩) (fun q hq => by rw [← hAe]; exact hS.2.2 q hq) dL_coil_26
set_option maxHeartbeats 4000000 in
set_option maxRecDepth 100000 in
theorem c_L_block (l : Launch) (hlt : l.stackTraces = false) (sx : Nat → Nat) (dC : Nat → ClassId) (dI : Nat → Nat → Nat) (cI cZ cD cR cB : ClassId) (o : Nat → Nat) (ra : Nat → Nat → Nat) (ba : Nat → Nat) (sc : Int32) (y : st_Y) (cJ : ClassId) (qo : Nat) (ov : Nat → Int64) (k0 d0 a0 b0 c0 : Int32) (n0 : UInt64) (sz : Nat)  : Met l yL_block wL_block ({ frames := 8, cells := 2, slots := 12, locals := 129 }) (sf_PL (dC, dI) vwCl [(cI, .int), (cZ, .boolean), (cD, .double), (cR, .object RX1), (cB, .object RX0), (cJ, .long)] sx ([(qo, .inl (cJ, 1, .inr (.inl ov)))] ++ wp_S cI cZ cD cR cB o ra ba sc y) sz [.ref (o 0), .int k0, .int d0, .int a0, .int b0, .int c0, .double n0, .ref qo]) (sf_V (dC, dI) vwCl (some (.int (kc2 (fc_isBlock d0 a0 b0 c0 n0) (fc_ix k0 8)))) ([(qo, .inl (cJ, 1, .inr (.inl ov)))] ++ wp_S cI cZ cD cR cB o ra ba sc y) ([(qo, .inl (cJ, 1, .inr (.inl (yn2 (fc_isBlock d0 a0 b0 c0 n0) (fc_ix k0 8) (va_up ov 0 (((y.1.2.2.1 k0.toNatClampNeg).1).toInt64)) ov))))] ++ wp_S cI cZ cD cR cB o ra ba sc (yn2 (fc_isBlock d0 a0 b0 c0 n0) (fc_ix k0 8) (fp_block y k0 d0 a0 b0 c0 n0) y))) 2 12 (va_A ([(qo, .inl (cJ, 1, .inr (.inl ov)))] ++ wp_S cI cZ cD cR cB o ra ba sc y) sz) := by
  refine va_MetW (hh := [(0, 18, 21, 13), (0, 18, 25, 15)]) (cc := cL_block) (maxL := 10) (ret := (some .int)) (by decide) rfl ?_
  intro p e s m args below meth c s₁ B hml hv
  have hx := B.exec
  have hb := B.bytes
  have hr := B.returns
  have hts := atoms_spec (ws := wL_block) B.pre
  have hg : ∀ w ∈ gw_all, w.before args s = true := fun w h => hts w (List.mem_cons_of_mem _ h)
  have hown : s.vm.findClass RL = some m.cls := findClass_of_methodNamed B.named
  have hlocks := B.notSynchronized
  obtain ⟨rfl, ⟨hsz, hP, hD0, hK, hZ, hE⟩, hN⟩ := hv
  subst hsz
  have htb := vx_table (x := yL_block) B (hts _ List.mem_cons_self)
  have hl := lv_entry ([.ref (o 0), .int k0, .int d0, .int a0, .int b0, .int c0, .double n0, .ref qo]) (n := 10) (Nat.le_of_ble_eq_true rfl)
  rw [lg_entry_eq]
  generalize (lg_sl ([.ref (o 0), .int k0, .int d0, .int a0, .int b0, .int c0, .double n0, .ref qo]) ++ List.replicate (10 - (lg_sl ([.ref (o 0), .int k0, .int d0, .int a0, .int b0, .int c0, .double n0, .ref qo])).length) Slot.unset).toArray = ls at hl ⊢
  have hl : lv_has ls 10 [(0, .ref (o 0)), (1, .int k0), (2, .int d0), (3, .int a0), (4, .int b0), (5, .int c0), (6, .double n0), (8, .ref qo)] := hl
  obtain ⟨A, hAe⟩ : ∃ A : Nat → Prop, A = va_A ([(qo, .inl (cJ, 1, .inr (.inl ov)))] ++ wp_S cI cZ cD cR cB o ra ba sc y) s.heap.size := ⟨_, rfl⟩
  have hD := hD0.self (sz := s.heap.size)
  rw [← hAe] at hD hE
  have hA : ∀ q : Nat, s.heap.size ≤ q → A q := fun q h => by rw [hAe]; exact Or.inr h
  have hS : va_S A s.heap s.heap [] := va_S.rf
  have hP : va_P (dC, dI) vwCl ([(qo, .inl (cJ, 1, .inr (.inl ov)))] ++ wp_S cI cZ cD cR cB o ra ba sc y) s.heap := hP
  have hD : va_D A ([(qo, .inl (cJ, 1, .inr (.inl ov)))] ++ wp_S cI cZ cD cR cB o ra ba sc y) := hD
  refine lv_aload hx hb dL_block_0 (lv_at hl 7 rfl) ?_
  refine lv_iconst (v := 0) hx hb dL_block_2 (by decide) ?_
  refine lv_aload_n hx hb dL_block_3 rfl (lv_at hl 0 rfl) ?_
  refine lv_iload_n hx hb dL_block_4 rfl (lv_at hl 1 rfl) ?_
  refine lv_iload_n hx hb dL_block_5 rfl (lv_at hl 2 rfl) ?_
  refine lv_iload_n hx hb dL_block_6 rfl (lv_at hl 3 rfl) ?_
  refine lv_iload hx hb dL_block_7 (lv_at hl 4 rfl) ?_
  refine lv_iload hx hb dL_block_9 (lv_at hl 5 rfl) ?_
  refine lv_dload hx hb dL_block_11 (lv_at hl 6 rfl) ?_
  have hPc : va_P (dC, dI) vwCl (wp_S cI cZ cD cR cB o ra ba sc y ++ [(qo, .inl (cJ, 1, .inr (.inl ov)))]) s.heap := sf_P_perm List.perm_append_comm hP
  have hDc : va_D A (wp_S cI cZ cD cR cB o ra ba sc y ++ [(qo, .inl (cJ, 1, .inr (.inl ov)))]) := sf_D_perm List.perm_append_comm hD
  refine sf_callXV (vx_runV (As := [.int k0, .int d0, .int a0, .int b0, .int c0, .double n0]) (rest := [.int 0, .ref qo]) ⟨hx, hb, hml, hown, hg⟩ (c_X2_block l hlt sx dC dI cI cZ cD cR cB o ra ba sc y k0 d0 a0 b0 c0 n0 _ ) (cwV 6 hg (gw_V mw_293 mw_294 mw_295 mw_21 mw_296) rfl rfl rfl (by decide +kernel) ⟨Nat.le_of_ble_eq_true rfl, Nat.le_of_ble_eq_true rfl⟩) (sf_preX (va_recv hK hP (ci := 2) (q0 := 1) rfl rfl) (hK.sub [0, 1, 2, 3, 4] rfl) hZ hPc hDc hE hS hA) rfl rfl hl.1 rfl (lv_room (Nat.le_of_ble_eq_true rfl)) dL_block_13 ⟨Nat.le_of_ble_eq_true rfl, Nat.le_of_ble_eq_true rfl⟩) hS hPc hDc hA (fun E hE9 ce q9 H locs hP hD hS hce hcv hcl => ?_) (fun hC H locs hP hD hS => ?_)
  · have hP := sf_P_perm List.perm_append_comm hP
    have hD := sf_D_perm List.perm_append_comm hD
    have hP : va_P (dC, dI) vwCl ([(qo, .inl (cJ, 1, .inr (.inl ov)))] ++ wp_S cI cZ cD cR cB o ra ba sc y) H := hP
    have hD : va_D A ([(qo, .inl (cJ, 1, .inr (.inl ov)))] ++ wp_S cI cZ cD cR cB o ra ba sc y) := hD
    rcases hE9 with ⟨h1, rfl⟩ | ⟨h1, h2, rfl⟩
    · refine vx_catch (name := ex_I) hown [] ⟨0, 18, 21, 13⟩ [⟨0, 18, 25, 15⟩] htb (fun z hz => nomatch hz) (by decide) (by decide) (hg _ mw_148) (ex_c hE.1 (List.mem_of_getElem? (i := 3) rfl)) hce hcv hcl ?_
      refine lv_astore (lv' := [(9, .ref q9), (0, .ref (o 0)), (1, .int k0), (2, .int d0), (3, .int a0), (4, .int b0), (5, .int c0), (6, .double n0), (8, .ref qo)]) hx hb dL_block_21 hl (by decide) rfl (fun ls hl => ?_)
      refine lv_iconst (v := 1) hx hb dL_block_23 (by decide) ?_
      have eK := k2_1 h1
      refine sf_topi (y := kc2 (fc_isBlock d0 a0 b0 c0 n0) (fc_ix k0 8)) eK.1.symm ?_
      have hP9 : va_P (dC, dI) vwCl ([(qo, .inl (cJ, 1, .inr (.inl (yn2 (fc_isBlock d0 a0 b0 c0 n0) (fc_ix k0 8) (va_up ov 0 (((y.1.2.2.1 k0.toNatClampNeg).1).toInt64)) ov))))] ++ wp_S cI cZ cD cR cB o ra ba sc (yn2 (fc_isBlock d0 a0 b0 c0 n0) (fc_ix k0 8) (fp_block y k0 d0 a0 b0 c0 n0) y)) H := by
        rw [eK.2, eK.2]
        exact hP
      have hD9 : va_D A ([(qo, .inl (cJ, 1, .inr (.inl (yn2 (fc_isBlock d0 a0 b0 c0 n0) (fc_ix k0 8) (va_up ov 0 (((y.1.2.2.1 k0.toNatClampNeg).1).toInt64)) ov))))] ++ wp_S cI cZ cD cR cB o ra ba sc (yn2 (fc_isBlock d0 a0 b0 c0 n0) (fc_ix k0 8) (fp_block y k0 d0 a0 b0 c0 n0) y)) := by
        rw [eK.2, eK.2]
        exact hD
      refine W.widen (k := 2) (n := 12) (Nat.le_of_ble_eq_true rfl) (Nat.le_of_ble_eq_true rfl) ?_
      exact W.iret hx hb hr (fun t ht _ => ⟨rfl, by rw [ht]; exact hP9, hAe ▸ hD9, hAe ▸ hS.F ht⟩) (fun q hq => by rw [← hAe]; exact hS.2.2 q hq) dL_block_24
    · refine vx_catch (name := ex_O) hown [⟨0, 18, 21, 13⟩] ⟨0, 18, 25, 15⟩ [] htb (fun z hz => by rw [List.mem_singleton.mp hz]; exact Or.inr ⟨by decide, ex_I, hg _ mw_148, hN.1⟩) (by decide) (by decide) (hg _ mw_149) (ex_c hE.1 (List.mem_of_getElem? (i := 4) rfl)) hce hcv hcl ?_
      refine lv_astore (lv' := [(9, .ref q9), (0, .ref (o 0)), (1, .int k0), (2, .int d0), (3, .int a0), (4, .int b0), (5, .int c0), (6, .double n0), (8, .ref qo)]) hx hb dL_block_25 hl (by decide) rfl (fun ls hl => ?_)
      refine lv_iconst (v := 2) hx hb dL_block_27 (by decide) ?_
      have eK := k2_2 h1 h2
      refine sf_topi (y := kc2 (fc_isBlock d0 a0 b0 c0 n0) (fc_ix k0 8)) eK.1.symm ?_
      have hP9 : va_P (dC, dI) vwCl ([(qo, .inl (cJ, 1, .inr (.inl (yn2 (fc_isBlock d0 a0 b0 c0 n0) (fc_ix k0 8) (va_up ov 0 (((y.1.2.2.1 k0.toNatClampNeg).1).toInt64)) ov))))] ++ wp_S cI cZ cD cR cB o ra ba sc (yn2 (fc_isBlock d0 a0 b0 c0 n0) (fc_ix k0 8) (fp_block y k0 d0 a0 b0 c0 n0) y)) H := by
        rw [eK.2, eK.2]
        exact hP
      have hD9 : va_D A ([(qo, .inl (cJ, 1, .inr (.inl (yn2 (fc_isBlock d0 a0 b0 c0 n0) (fc_ix k0 8) (va_up ov 0 (((y.1.2.2.1 k0.toNatClampNeg).1).toInt64)) ov))))] ++ wp_S cI cZ cD cR cB o ra ba sc (yn2 (fc_isBlock d0 a0 b0 c0 n0) (fc_ix k0 8) (fp_block y k0 d0 a0 b0 c0 n0) y)) := by
        rw [eK.2, eK.2]
        exact hD
      refine W.widen (k := 2) (n := 12) (Nat.le_of_ble_eq_true rfl) (Nat.le_of_ble_eq_true rfl) ?_
      exact W.iret hx hb hr (fun t ht _ => ⟨rfl, by rw [ht]; exact hP9, hAe ▸ hD9, hAe ▸ hS.F ht⟩) (fun q hq => by rw [← hAe]; exact hS.2.2 q hq) dL_block_28
  have hP := sf_P_perm List.perm_append_comm hP
  have hD := sf_D_perm List.perm_append_comm hD
  have hP : va_P (dC, dI) vwCl ([(qo, .inl (cJ, 1, .inr (.inl ov)))] ++ wp_S cI cZ cD cR cB o ra ba sc (fp_block y k0 d0 a0 b0 c0 n0)) H := hP
  have hD : va_D A ([(qo, .inl (cJ, 1, .inr (.inl ov)))] ++ wp_S cI cZ cD cR cB o ra ba sc (fp_block y k0 d0 a0 b0 c0 n0)) := hD
  refine lv_i2l hx hb dL_block_16 rfl ?_
  refine sf_last hx hb hK hP hD hS 0 5 rfl rfl 0 rfl (by decide) (by decide) dL_block_17 (fun H locs hP hD hS => ?_)
  have hP : va_P (dC, dI) vwCl ([(qo, .inl (cJ, 1, .inr (.inl (va_up ov 0 (((y.1.2.2.1 k0.toNatClampNeg).1).toInt64)))))] ++ wp_S cI cZ cD cR cB o ra ba sc (fp_block y k0 d0 a0 b0 c0 n0)) H := hP
  have hD : va_D A ([(qo, .inl (cJ, 1, .inr (.inl (va_up ov 0 (((y.1.2.2.1 k0.toNatClampNeg).1).toInt64)))))] ++ wp_S cI cZ cD cR cB o ra ba sc (fp_block y k0 d0 a0 b0 c0 n0)) := hD
  refine lv_goto (tgt := 29) hx hb dL_block_18 (by decide) ?_
  refine lv_iconst (v := 0) hx hb dL_block_29 (by decide) ?_
  have eK := k2_ok hC
  refine sf_topi (y := kc2 (fc_isBlock d0 a0 b0 c0 n0) (fc_ix k0 8)) eK.1.symm ?_
  have hP9 : va_P (dC, dI) vwCl ([(qo, .inl (cJ, 1, .inr (.inl (yn2 (fc_isBlock d0 a0 b0 c0 n0) (fc_ix k0 8) (va_up ov 0 (((y.1.2.2.1 k0.toNatClampNeg).1).toInt64)) ov))))] ++ wp_S cI cZ cD cR cB o ra ba sc (yn2 (fc_isBlock d0 a0 b0 c0 n0) (fc_ix k0 8) (fp_block y k0 d0 a0 b0 c0 n0) y)) H := by
    rw [eK.2, eK.2]
    exact hP
  have hD9 : va_D A ([(qo, .inl (cJ, 1, .inr (.inl (yn2 (fc_isBlock d0 a0 b0 c0 n0) (fc_ix k0 8) (va_up ov 0 (((y.1.2.2.1 k0.toNatClampNeg).1).toInt64)) ov))))] ++ wp_S cI cZ cD cR cB o ra ba sc (yn2 (fc_isBlock d0 a0 b0 c0 n0) (fc_ix k0 8) (fp_block y k0 d0 a0 b0 c0 n0) y)) := by
    rw [eK.2, eK.2]
    exact hD
  refine W.widen (k := 2) (n := 12) (Nat.le_of_ble_eq_true rfl) (Nat.le_of_ble_eq_true rfl) ?_
  exact W.iret hx hb hr (fun t ht _ => ⟨rfl, by rw [ht]; exact hP9, hAe ▸ hD9, hAe ▸ hS.F ht⟩) (fun q hq => by rw [← hAe]; exact hS.2.2 q hq) dL_block_30
set_option maxHeartbeats 4000000 in
set_option maxRecDepth 100000 in
theorem c_L_guard (l : Launch) (hlt : l.stackTraces = false) (sx : Nat → Nat) (dC : Nat → ClassId) (dI : Nat → Nat → Nat) (cI cZ cD cR cB : ClassId) (o : Nat → Nat) (ra : Nat → Nat → Nat) (ba : Nat → Nat) (sc : Int32) (y : st_Y) (cJ : ClassId) (qo : Nat) (ov : Nat → Int64) (k0 : Int32) (x0 : Bool) (sz : Nat)  : Met l yL_guard wL_guard ({ frames := 8, cells := 1, slots := 6, locals := 125 }) (sf_PL (dC, dI) vwCl [(cI, .int), (cZ, .boolean), (cD, .double), (cR, .object RX1), (cB, .object RX0), (cJ, .long)] sx ([(qo, .inl (cJ, 1, .inr (.inl ov)))] ++ wp_S cI cZ cD cR cB o ra ba sc y) sz [.ref (o 0), .int k0, .int (sf_b x0), .ref qo]) (sf_V (dC, dI) vwCl (some (.int (kc1 (fc_ix k0 8)))) ([(qo, .inl (cJ, 1, .inr (.inl ov)))] ++ wp_S cI cZ cD cR cB o ra ba sc y) ([(qo, .inl (cJ, 1, .inr (.inl (yn1 (fc_ix k0 8) (va_up ov 0 (bl ((y.1.2.2.1 k0.toNatClampNeg).2.2.2.2.2.1))) ov))))] ++ wp_S cI cZ cD cR cB o ra ba sc (yn1 (fc_ix k0 8) (fp_guard y k0 x0) y))) 1 6 (va_A ([(qo, .inl (cJ, 1, .inr (.inl ov)))] ++ wp_S cI cZ cD cR cB o ra ba sc y) sz) := by
  refine va_MetW (hh := [(0, 17, 20, 15)]) (cc := cL_guard) (maxL := 5) (ret := (some .int)) (by decide) rfl ?_
  intro p e s m args below meth c s₁ B hml hv
  have hx := B.exec
  have hb := B.bytes
  have hr := B.returns
  have hts := atoms_spec (ws := wL_guard) B.pre
  have hg : ∀ w ∈ gw_all, w.before args s = true := fun w h => hts w (List.mem_cons_of_mem _ h)
  have hown : s.vm.findClass RL = some m.cls := findClass_of_methodNamed B.named
  have hlocks := B.notSynchronized
  obtain ⟨rfl, ⟨hsz, hP, hD0, hK, hZ, hE⟩, hN⟩ := hv
  subst hsz
  have htb := vx_table (x := yL_guard) B (hts _ List.mem_cons_self)
  have hl := lv_entry ([.ref (o 0), .int k0, .int (sf_b x0), .ref qo]) (n := 5) (Nat.le_of_ble_eq_true rfl)
  rw [lg_entry_eq]
  generalize (lg_sl ([.ref (o 0), .int k0, .int (sf_b x0), .ref qo]) ++ List.replicate (5 - (lg_sl ([.ref (o 0), .int k0, .int (sf_b x0), .ref qo])).length) Slot.unset).toArray = ls at hl ⊢
  have hl : lv_has ls 5 [(0, .ref (o 0)), (1, .int k0), (2, .int (sf_b x0)), (3, .ref qo)] := hl
  obtain ⟨A, hAe⟩ : ∃ A : Nat → Prop, A = va_A ([(qo, .inl (cJ, 1, .inr (.inl ov)))] ++ wp_S cI cZ cD cR cB o ra ba sc y) s.heap.size := ⟨_, rfl⟩
  have hD := hD0.self (sz := s.heap.size)
  rw [← hAe] at hD hE
  have hA : ∀ q : Nat, s.heap.size ≤ q → A q := fun q h => by rw [hAe]; exact Or.inr h
  have hS : va_S A s.heap s.heap [] := va_S.rf
  have hP : va_P (dC, dI) vwCl ([(qo, .inl (cJ, 1, .inr (.inl ov)))] ++ wp_S cI cZ cD cR cB o ra ba sc y) s.heap := hP
  have hD : va_D A ([(qo, .inl (cJ, 1, .inr (.inl ov)))] ++ wp_S cI cZ cD cR cB o ra ba sc y) := hD
  refine lv_aload_n hx hb dL_guard_0 rfl (lv_at hl 3 rfl) ?_
  refine lv_iconst (v := 0) hx hb dL_guard_1 (by decide) ?_
  refine lv_aload_n hx hb dL_guard_2 rfl (lv_at hl 0 rfl) ?_
  refine lv_iload_n hx hb dL_guard_3 rfl (lv_at hl 1 rfl) ?_
  refine lv_iload_n hx hb dL_guard_4 rfl (lv_at hl 2 rfl) ?_
  have hPc : va_P (dC, dI) vwCl (wp_S cI cZ cD cR cB o ra ba sc y ++ [(qo, .inl (cJ, 1, .inr (.inl ov)))]) s.heap := sf_P_perm List.perm_append_comm hP
  have hDc : va_D A (wp_S cI cZ cD cR cB o ra ba sc y ++ [(qo, .inl (cJ, 1, .inr (.inl ov)))]) := sf_D_perm List.perm_append_comm hD
  refine sf_callXV (vx_runV (As := [.int k0, .int (sf_b x0)]) (rest := [.int 0, .ref qo]) ⟨hx, hb, hml, hown, hg⟩ (c_X2_guard l hlt sx dC dI cI cZ cD cR cB o ra ba sc y k0 x0 _ ) (cwV 2 hg (gw_V mw_321 mw_322 mw_323 mw_21 mw_324) rfl rfl rfl (by decide +kernel) ⟨Nat.le_of_ble_eq_true rfl, Nat.le_of_ble_eq_true rfl⟩) (sf_preX (va_recv hK hP (ci := 2) (q0 := 1) rfl rfl) (hK.sub [0, 1, 2, 3, 4] rfl) hZ hPc hDc hE hS hA) rfl rfl hl.1 rfl (lv_room (Nat.le_of_ble_eq_true rfl)) dL_guard_5 ⟨Nat.le_of_ble_eq_true rfl, Nat.le_of_ble_eq_true rfl⟩) hS hPc hDc hA (fun E hE9 ce q9 H locs hP hD hS hce hcv hcl => ?_) (fun hC H locs hP hD hS => ?_)
  · have hP := sf_P_perm List.perm_append_comm hP
    have hD := sf_D_perm List.perm_append_comm hD
    have hP : va_P (dC, dI) vwCl ([(qo, .inl (cJ, 1, .inr (.inl ov)))] ++ wp_S cI cZ cD cR cB o ra ba sc y) H := hP
    have hD : va_D A ([(qo, .inl (cJ, 1, .inr (.inl ov)))] ++ wp_S cI cZ cD cR cB o ra ba sc y) := hD
    obtain ⟨h1, rfl⟩ := hE9
    refine vx_catch (name := ex_O) hown [] ⟨0, 17, 20, 15⟩ [] htb (fun z hz => nomatch hz) (by decide) (by decide) (hg _ mw_149) (ex_c hE.1 (List.mem_of_getElem? (i := 4) rfl)) hce hcv hcl ?_
    refine lv_astore (lv' := [(4, .ref q9), (0, .ref (o 0)), (1, .int k0), (2, .int (sf_b x0)), (3, .ref qo)]) hx hb dL_guard_20 hl (by decide) rfl (fun ls hl => ?_)
    refine lv_iconst (v := 1) hx hb dL_guard_22 (by decide) ?_
    have eK := k1_1 h1
    refine sf_topi (y := kc1 (fc_ix k0 8)) eK.1.symm ?_
    have hP9 : va_P (dC, dI) vwCl ([(qo, .inl (cJ, 1, .inr (.inl (yn1 (fc_ix k0 8) (va_up ov 0 (bl ((y.1.2.2.1 k0.toNatClampNeg).2.2.2.2.2.1))) ov))))] ++ wp_S cI cZ cD cR cB o ra ba sc (yn1 (fc_ix k0 8) (fp_guard y k0 x0) y)) H := by
      rw [eK.2, eK.2]
      exact hP
    have hD9 : va_D A ([(qo, .inl (cJ, 1, .inr (.inl (yn1 (fc_ix k0 8) (va_up ov 0 (bl ((y.1.2.2.1 k0.toNatClampNeg).2.2.2.2.2.1))) ov))))] ++ wp_S cI cZ cD cR cB o ra ba sc (yn1 (fc_ix k0 8) (fp_guard y k0 x0) y)) := by
      rw [eK.2, eK.2]
      exact hD
    refine W.widen (k := 1) (n := 6) (Nat.le_of_ble_eq_true rfl) (Nat.le_of_ble_eq_true rfl) ?_
    exact W.iret hx hb hr (fun t ht _ => ⟨rfl, by rw [ht]; exact hP9, hAe ▸ hD9, hAe ▸ hS.F ht⟩) (fun q hq => by rw [← hAe]; exact hS.2.2 q hq) dL_guard_23
  have hP := sf_P_perm List.perm_append_comm hP
  have hD := sf_D_perm List.perm_append_comm hD
  have hP : va_P (dC, dI) vwCl ([(qo, .inl (cJ, 1, .inr (.inl ov)))] ++ wp_S cI cZ cD cR cB o ra ba sc (fp_guard y k0 x0)) H := hP
  have hD : va_D A ([(qo, .inl (cJ, 1, .inr (.inl ov)))] ++ wp_S cI cZ cD cR cB o ra ba sc (fp_guard y k0 x0)) := hD
  refine sf_ifeq (tgt := 15) hx hb dL_guard_8 (by decide) (fun c_1 => ?_) (fun c_1 => ?_)
  · refine lv_lconst (v := 0) hx hb dL_guard_15 (by decide) ?_
    refine sf_topl (y := bl ((y.1.2.2.1 k0.toNatClampNeg).2.2.2.2.2.1)) (by rw [c_1]; rfl) ?_
    refine sf_last hx hb hK hP hD hS 0 5 rfl rfl 0 rfl (by decide) (by decide) dL_guard_16 (fun H locs hP hD hS => ?_)
    have hP : va_P (dC, dI) vwCl ([(qo, .inl (cJ, 1, .inr (.inl (va_up ov 0 (bl ((y.1.2.2.1 k0.toNatClampNeg).2.2.2.2.2.1))))))] ++ wp_S cI cZ cD cR cB o ra ba sc (fp_guard y k0 x0)) H := hP
    have hD : va_D A ([(qo, .inl (cJ, 1, .inr (.inl (va_up ov 0 (bl ((y.1.2.2.1 k0.toNatClampNeg).2.2.2.2.2.1))))))] ++ wp_S cI cZ cD cR cB o ra ba sc (fp_guard y k0 x0)) := hD
    refine lv_goto (tgt := 24) hx hb dL_guard_17 (by decide) ?_
    refine lv_iconst (v := 0) hx hb dL_guard_24 (by decide) ?_
    have eK := k1_ok hC
    refine sf_topi (y := kc1 (fc_ix k0 8)) eK.1.symm ?_
    have hP9 : va_P (dC, dI) vwCl ([(qo, .inl (cJ, 1, .inr (.inl (yn1 (fc_ix k0 8) (va_up ov 0 (bl ((y.1.2.2.1 k0.toNatClampNeg).2.2.2.2.2.1))) ov))))] ++ wp_S cI cZ cD cR cB o ra ba sc (yn1 (fc_ix k0 8) (fp_guard y k0 x0) y)) H := by
      rw [eK.2, eK.2]
      exact hP
    have hD9 : va_D A ([(qo, .inl (cJ, 1, .inr (.inl (yn1 (fc_ix k0 8) (va_up ov 0 (bl ((y.1.2.2.1 k0.toNatClampNeg).2.2.2.2.2.1))) ov))))] ++ wp_S cI cZ cD cR cB o ra ba sc (yn1 (fc_ix k0 8) (fp_guard y k0 x0) y)) := by
      rw [eK.2, eK.2]
      exact hD
    refine W.widen (k := 1) (n := 6) (Nat.le_of_ble_eq_true rfl) (Nat.le_of_ble_eq_true rfl) ?_
    exact W.iret hx hb hr (fun t ht _ => ⟨rfl, by rw [ht]; exact hP9, hAe ▸ hD9, hAe ▸ hS.F ht⟩) (fun q hq => by rw [← hAe]; exact hS.2.2 q hq) dL_guard_25
  · refine lv_lconst (v := 1) hx hb dL_guard_11 (by decide) ?_
    refine lv_goto (tgt := 16) hx hb dL_guard_12 (by decide) ?_
    refine sf_topl (y := bl ((y.1.2.2.1 k0.toNatClampNeg).2.2.2.2.2.1)) (by rw [c_1]; rfl) ?_
    refine sf_last hx hb hK hP hD hS 0 5 rfl rfl 0 rfl (by decide) (by decide) dL_guard_16 (fun H locs hP hD hS => ?_)
    have hP : va_P (dC, dI) vwCl ([(qo, .inl (cJ, 1, .inr (.inl (va_up ov 0 (bl ((y.1.2.2.1 k0.toNatClampNeg).2.2.2.2.2.1))))))] ++ wp_S cI cZ cD cR cB o ra ba sc (fp_guard y k0 x0)) H := hP
    have hD : va_D A ([(qo, .inl (cJ, 1, .inr (.inl (va_up ov 0 (bl ((y.1.2.2.1 k0.toNatClampNeg).2.2.2.2.2.1))))))] ++ wp_S cI cZ cD cR cB o ra ba sc (fp_guard y k0 x0)) := hD
    refine lv_goto (tgt := 24) hx hb dL_guard_17 (by decide) ?_
    refine lv_iconst (v := 0) hx hb dL_guard_24 (by decide) ?_
    have eK := k1_ok hC
    refine sf_topi (y := kc1 (fc_ix k0 8)) eK.1.symm ?_
    have hP9 : va_P (dC, dI) vwCl ([(qo, .inl (cJ, 1, .inr (.inl (yn1 (fc_ix k0 8) (va_up ov 0 (bl ((y.1.2.2.1 k0.toNatClampNeg).2.2.2.2.2.1))) ov))))] ++ wp_S cI cZ cD cR cB o ra ba sc (yn1 (fc_ix k0 8) (fp_guard y k0 x0) y)) H := by
      rw [eK.2, eK.2]
      exact hP
    have hD9 : va_D A ([(qo, .inl (cJ, 1, .inr (.inl (yn1 (fc_ix k0 8) (va_up ov 0 (bl ((y.1.2.2.1 k0.toNatClampNeg).2.2.2.2.2.1))) ov))))] ++ wp_S cI cZ cD cR cB o ra ba sc (yn1 (fc_ix k0 8) (fp_guard y k0 x0) y)) := by
      rw [eK.2, eK.2]
      exact hD
    refine W.widen (k := 1) (n := 6) (Nat.le_of_ble_eq_true rfl) (Nat.le_of_ble_eq_true rfl) ?_
    exact W.iret hx hb hr (fun t ht _ => ⟨rfl, by rw [ht]; exact hP9, hAe ▸ hD9, hAe ▸ hS.F ht⟩) (fun q hq => by rw [← hAe]; exact hS.2.2 q hq) dL_guard_25
set_option maxHeartbeats 4000000 in
set_option maxRecDepth 100000 in
theorem c_L_input (l : Launch) (hlt : l.stackTraces = false) (sx : Nat → Nat) (dC : Nat → ClassId) (dI : Nat → Nat → Nat) (cI cZ cD cR cB : ClassId) (o : Nat → Nat) (ra : Nat → Nat → Nat) (ba : Nat → Nat) (sc : Int32) (y : st_Y) (cJ : ClassId) (qo : Nat) (ov : Nat → Int64) (i0 : Int32) (x0 : Bool) (sz : Nat)  : Met l yL_input wL_input ({ frames := 8, cells := 1, slots := 6, locals := 125 }) (sf_PL (dC, dI) vwCl [(cI, .int), (cZ, .boolean), (cD, .double), (cR, .object RX1), (cB, .object RX0), (cJ, .long)] sx ([(qo, .inl (cJ, 1, .inr (.inl ov)))] ++ wp_S cI cZ cD cR cB o ra ba sc y) sz [.ref (o 0), .int i0, .int (sf_b x0), .ref qo]) (sf_V (dC, dI) vwCl (some (.int (kc1 (fc_ix i0 8)))) ([(qo, .inl (cJ, 1, .inr (.inl ov)))] ++ wp_S cI cZ cD cR cB o ra ba sc y) ([(qo, .inl (cJ, 1, .inr (.inl (yn1 (fc_ix i0 8) (va_up ov 0 (bl (y.1.1 i0.toNatClampNeg))) ov))))] ++ wp_S cI cZ cD cR cB o ra ba sc (yn1 (fc_ix i0 8) (fp_input y i0 x0) y))) 1 6 (va_A ([(qo, .inl (cJ, 1, .inr (.inl ov)))] ++ wp_S cI cZ cD cR cB o ra ba sc y) sz) := by
  refine va_MetW (hh := [(0, 17, 20, 15)]) (cc := cL_input) (maxL := 5) (ret := (some .int)) (by decide) rfl ?_
  intro p e s m args below meth c s₁ B hml hv
  have hx := B.exec
  have hb := B.bytes
  have hr := B.returns
  have hts := atoms_spec (ws := wL_input) B.pre
  have hg : ∀ w ∈ gw_all, w.before args s = true := fun w h => hts w (List.mem_cons_of_mem _ h)
  have hown : s.vm.findClass RL = some m.cls := findClass_of_methodNamed B.named
  have hlocks := B.notSynchronized
  obtain ⟨rfl, ⟨hsz, hP, hD0, hK, hZ, hE⟩, hN⟩ := hv
  subst hsz
  have htb := vx_table (x := yL_input) B (hts _ List.mem_cons_self)
  have hl := lv_entry ([.ref (o 0), .int i0, .int (sf_b x0), .ref qo]) (n := 5) (Nat.le_of_ble_eq_true rfl)
  rw [lg_entry_eq]
  generalize (lg_sl ([.ref (o 0), .int i0, .int (sf_b x0), .ref qo]) ++ List.replicate (5 - (lg_sl ([.ref (o 0), .int i0, .int (sf_b x0), .ref qo])).length) Slot.unset).toArray = ls at hl ⊢
  have hl : lv_has ls 5 [(0, .ref (o 0)), (1, .int i0), (2, .int (sf_b x0)), (3, .ref qo)] := hl
  obtain ⟨A, hAe⟩ : ∃ A : Nat → Prop, A = va_A ([(qo, .inl (cJ, 1, .inr (.inl ov)))] ++ wp_S cI cZ cD cR cB o ra ba sc y) s.heap.size := ⟨_, rfl⟩
  have hD := hD0.self (sz := s.heap.size)
  rw [← hAe] at hD hE
  have hA : ∀ q : Nat, s.heap.size ≤ q → A q := fun q h => by rw [hAe]; exact Or.inr h
  have hS : va_S A s.heap s.heap [] := va_S.rf
  have hP : va_P (dC, dI) vwCl ([(qo, .inl (cJ, 1, .inr (.inl ov)))] ++ wp_S cI cZ cD cR cB o ra ba sc y) s.heap := hP
  have hD : va_D A ([(qo, .inl (cJ, 1, .inr (.inl ov)))] ++ wp_S cI cZ cD cR cB o ra ba sc y) := hD
  refine lv_aload_n hx hb dL_input_0 rfl (lv_at hl 3 rfl) ?_
  refine lv_iconst (v := 0) hx hb dL_input_1 (by decide) ?_
  refine lv_aload_n hx hb dL_input_2 rfl (lv_at hl 0 rfl) ?_
  refine lv_iload_n hx hb dL_input_3 rfl (lv_at hl 1 rfl) ?_
  refine lv_iload_n hx hb dL_input_4 rfl (lv_at hl 2 rfl) ?_
  have hPc : va_P (dC, dI) vwCl (wp_S cI cZ cD cR cB o ra ba sc y ++ [(qo, .inl (cJ, 1, .inr (.inl ov)))]) s.heap := sf_P_perm List.perm_append_comm hP
  have hDc : va_D A (wp_S cI cZ cD cR cB o ra ba sc y ++ [(qo, .inl (cJ, 1, .inr (.inl ov)))]) := sf_D_perm List.perm_append_comm hD
  refine sf_callXV (vx_runV (As := [.int i0, .int (sf_b x0)]) (rest := [.int 0, .ref qo]) ⟨hx, hb, hml, hown, hg⟩ (c_X2_input l hlt sx dC dI cI cZ cD cR cB o ra ba sc y i0 x0 _ ) (cwV 2 hg (gw_V mw_328 mw_329 mw_330 mw_21 mw_331) rfl rfl rfl (by decide +kernel) ⟨Nat.le_of_ble_eq_true rfl, Nat.le_of_ble_eq_true rfl⟩) (sf_preX (va_recv hK hP (ci := 2) (q0 := 1) rfl rfl) (hK.sub [0, 1, 2, 3, 4] rfl) hZ hPc hDc hE hS hA) rfl rfl hl.1 rfl (lv_room (Nat.le_of_ble_eq_true rfl)) dL_input_5 ⟨Nat.le_of_ble_eq_true rfl, Nat.le_of_ble_eq_true rfl⟩) hS hPc hDc hA (fun E hE9 ce q9 H locs hP hD hS hce hcv hcl => ?_) (fun hC H locs hP hD hS => ?_)
  · have hP := sf_P_perm List.perm_append_comm hP
    have hD := sf_D_perm List.perm_append_comm hD
    have hP : va_P (dC, dI) vwCl ([(qo, .inl (cJ, 1, .inr (.inl ov)))] ++ wp_S cI cZ cD cR cB o ra ba sc y) H := hP
    have hD : va_D A ([(qo, .inl (cJ, 1, .inr (.inl ov)))] ++ wp_S cI cZ cD cR cB o ra ba sc y) := hD
    obtain ⟨h1, rfl⟩ := hE9
    refine vx_catch (name := ex_O) hown [] ⟨0, 17, 20, 15⟩ [] htb (fun z hz => nomatch hz) (by decide) (by decide) (hg _ mw_149) (ex_c hE.1 (List.mem_of_getElem? (i := 4) rfl)) hce hcv hcl ?_
    refine lv_astore (lv' := [(4, .ref q9), (0, .ref (o 0)), (1, .int i0), (2, .int (sf_b x0)), (3, .ref qo)]) hx hb dL_input_20 hl (by decide) rfl (fun ls hl => ?_)
    refine lv_iconst (v := 1) hx hb dL_input_22 (by decide) ?_
    have eK := k1_1 h1
    refine sf_topi (y := kc1 (fc_ix i0 8)) eK.1.symm ?_
    have hP9 : va_P (dC, dI) vwCl ([(qo, .inl (cJ, 1, .inr (.inl (yn1 (fc_ix i0 8) (va_up ov 0 (bl (y.1.1 i0.toNatClampNeg))) ov))))] ++ wp_S cI cZ cD cR cB o ra ba sc (yn1 (fc_ix i0 8) (fp_input y i0 x0) y)) H := by
      rw [eK.2, eK.2]
      exact hP
    have hD9 : va_D A ([(qo, .inl (cJ, 1, .inr (.inl (yn1 (fc_ix i0 8) (va_up ov 0 (bl (y.1.1 i0.toNatClampNeg))) ov))))] ++ wp_S cI cZ cD cR cB o ra ba sc (yn1 (fc_ix i0 8) (fp_input y i0 x0) y)) := by
      rw [eK.2, eK.2]
      exact hD
    refine W.widen (k := 1) (n := 6) (Nat.le_of_ble_eq_true rfl) (Nat.le_of_ble_eq_true rfl) ?_
    exact W.iret hx hb hr (fun t ht _ => ⟨rfl, by rw [ht]; exact hP9, hAe ▸ hD9, hAe ▸ hS.F ht⟩) (fun q hq => by rw [← hAe]; exact hS.2.2 q hq) dL_input_23
  have hP := sf_P_perm List.perm_append_comm hP
  have hD := sf_D_perm List.perm_append_comm hD
  have hP : va_P (dC, dI) vwCl ([(qo, .inl (cJ, 1, .inr (.inl ov)))] ++ wp_S cI cZ cD cR cB o ra ba sc (fp_input y i0 x0)) H := hP
  have hD : va_D A ([(qo, .inl (cJ, 1, .inr (.inl ov)))] ++ wp_S cI cZ cD cR cB o ra ba sc (fp_input y i0 x0)) := hD
  refine sf_ifeq (tgt := 15) hx hb dL_input_8 (by decide) (fun c_1 => ?_) (fun c_1 => ?_)
  · refine lv_lconst (v := 0) hx hb dL_input_15 (by decide) ?_
    refine sf_topl (y := bl (y.1.1 i0.toNatClampNeg)) (by rw [c_1]; rfl) ?_
    refine sf_last hx hb hK hP hD hS 0 5 rfl rfl 0 rfl (by decide) (by decide) dL_input_16 (fun H locs hP hD hS => ?_)
    have hP : va_P (dC, dI) vwCl ([(qo, .inl (cJ, 1, .inr (.inl (va_up ov 0 (bl (y.1.1 i0.toNatClampNeg))))))] ++ wp_S cI cZ cD cR cB o ra ba sc (fp_input y i0 x0)) H := hP
    have hD : va_D A ([(qo, .inl (cJ, 1, .inr (.inl (va_up ov 0 (bl (y.1.1 i0.toNatClampNeg))))))] ++ wp_S cI cZ cD cR cB o ra ba sc (fp_input y i0 x0)) := hD
    refine lv_goto (tgt := 24) hx hb dL_input_17 (by decide) ?_
    refine lv_iconst (v := 0) hx hb dL_input_24 (by decide) ?_
    have eK := k1_ok hC
    refine sf_topi (y := kc1 (fc_ix i0 8)) eK.1.symm ?_
    have hP9 : va_P (dC, dI) vwCl ([(qo, .inl (cJ, 1, .inr (.inl (yn1 (fc_ix i0 8) (va_up ov 0 (bl (y.1.1 i0.toNatClampNeg))) ov))))] ++ wp_S cI cZ cD cR cB o ra ba sc (yn1 (fc_ix i0 8) (fp_input y i0 x0) y)) H := by
      rw [eK.2, eK.2]
      exact hP
    have hD9 : va_D A ([(qo, .inl (cJ, 1, .inr (.inl (yn1 (fc_ix i0 8) (va_up ov 0 (bl (y.1.1 i0.toNatClampNeg))) ov))))] ++ wp_S cI cZ cD cR cB o ra ba sc (yn1 (fc_ix i0 8) (fp_input y i0 x0) y)) := by
      rw [eK.2, eK.2]
      exact hD
    refine W.widen (k := 1) (n := 6) (Nat.le_of_ble_eq_true rfl) (Nat.le_of_ble_eq_true rfl) ?_
    exact W.iret hx hb hr (fun t ht _ => ⟨rfl, by rw [ht]; exact hP9, hAe ▸ hD9, hAe ▸ hS.F ht⟩) (fun q hq => by rw [← hAe]; exact hS.2.2 q hq) dL_input_25
  · refine lv_lconst (v := 1) hx hb dL_input_11 (by decide) ?_
    refine lv_goto (tgt := 16) hx hb dL_input_12 (by decide) ?_
    refine sf_topl (y := bl (y.1.1 i0.toNatClampNeg)) (by rw [c_1]; rfl) ?_
    refine sf_last hx hb hK hP hD hS 0 5 rfl rfl 0 rfl (by decide) (by decide) dL_input_16 (fun H locs hP hD hS => ?_)
    have hP : va_P (dC, dI) vwCl ([(qo, .inl (cJ, 1, .inr (.inl (va_up ov 0 (bl (y.1.1 i0.toNatClampNeg))))))] ++ wp_S cI cZ cD cR cB o ra ba sc (fp_input y i0 x0)) H := hP
    have hD : va_D A ([(qo, .inl (cJ, 1, .inr (.inl (va_up ov 0 (bl (y.1.1 i0.toNatClampNeg))))))] ++ wp_S cI cZ cD cR cB o ra ba sc (fp_input y i0 x0)) := hD
    refine lv_goto (tgt := 24) hx hb dL_input_17 (by decide) ?_
    refine lv_iconst (v := 0) hx hb dL_input_24 (by decide) ?_
    have eK := k1_ok hC
    refine sf_topi (y := kc1 (fc_ix i0 8)) eK.1.symm ?_
    have hP9 : va_P (dC, dI) vwCl ([(qo, .inl (cJ, 1, .inr (.inl (yn1 (fc_ix i0 8) (va_up ov 0 (bl (y.1.1 i0.toNatClampNeg))) ov))))] ++ wp_S cI cZ cD cR cB o ra ba sc (yn1 (fc_ix i0 8) (fp_input y i0 x0) y)) H := by
      rw [eK.2, eK.2]
      exact hP
    have hD9 : va_D A ([(qo, .inl (cJ, 1, .inr (.inl (yn1 (fc_ix i0 8) (va_up ov 0 (bl (y.1.1 i0.toNatClampNeg))) ov))))] ++ wp_S cI cZ cD cR cB o ra ba sc (yn1 (fc_ix i0 8) (fp_input y i0 x0) y)) := by
      rw [eK.2, eK.2]
      exact hD
    refine W.widen (k := 1) (n := 6) (Nat.le_of_ble_eq_true rfl) (Nat.le_of_ble_eq_true rfl) ?_
    exact W.iret hx hb hr (fun t ht _ => ⟨rfl, by rw [ht]; exact hP9, hAe ▸ hD9, hAe ▸ hS.F ht⟩) (fun q hq => by rw [← hAe]; exact hS.2.2 q hq) dL_input_25
set_option maxHeartbeats 4000000 in
set_option maxRecDepth 100000 in
theorem c_L_set (l : Launch) (hlt : l.stackTraces = false) (sx : Nat → Nat) (dC : Nat → ClassId) (dI : Nat → Nat → Nat) (cI cZ cD cR cB : ClassId) (o : Nat → Nat) (ra : Nat → Nat → Nat) (ba : Nat → Nat) (sc : Int32) (y : st_Y) (qo : Nat) (ov : Nat → UInt64) (i0 : Int32) (v0 : UInt64) (sz : Nat)  : Met l yL_set wL_set ({ frames := 8, cells := 2, slots := 12, locals := 127 }) (sf_PL (dC, dI) vwCl [(cI, .int), (cZ, .boolean), (cD, .double), (cR, .object RX1), (cB, .object RX0)] sx ([(qo, .inl (cD, 1, .inr (.inr (.inr (.inl ov)))))] ++ wp_S cI cZ cD cR cB o ra ba sc y) sz [.ref (o 0), .int i0, .double v0, .ref qo]) (sf_V (dC, dI) vwCl (some (.int (kc2 (fc_val v0) (fc_ix i0 8)))) ([(qo, .inl (cD, 1, .inr (.inr (.inr (.inl ov)))))] ++ wp_S cI cZ cD cR cB o ra ba sc y) ([(qo, .inl (cD, 1, .inr (.inr (.inr (.inl (yn2 (fc_val v0) (fc_ix i0 8) (va_up ov 0 (y.1.2.1 i0.toNatClampNeg)) ov))))))] ++ wp_S cI cZ cD cR cB o ra ba sc (yn2 (fc_val v0) (fc_ix i0 8) (fp_set y i0 v0) y))) 2 12 (va_A ([(qo, .inl (cD, 1, .inr (.inr (.inr (.inl ov)))))] ++ wp_S cI cZ cD cR cB o ra ba sc y) sz) := by
  refine va_MetW (hh := [(0, 10, 13, 13), (0, 10, 17, 15)]) (cc := cL_set) (maxL := 6) (ret := (some .int)) (by decide) rfl ?_
  intro p e s m args below meth c s₁ B hml hv
  have hx := B.exec
  have hb := B.bytes
  have hr := B.returns
  have hts := atoms_spec (ws := wL_set) B.pre
  have hg : ∀ w ∈ gw_all, w.before args s = true := fun w h => hts w (List.mem_cons_of_mem _ h)
  have hown : s.vm.findClass RL = some m.cls := findClass_of_methodNamed B.named
  have hlocks := B.notSynchronized
  obtain ⟨rfl, ⟨hsz, hP, hD0, hK, hZ, hE⟩, hN⟩ := hv
  subst hsz
  have htb := vx_table (x := yL_set) B (hts _ List.mem_cons_self)
  have hl := lv_entry ([.ref (o 0), .int i0, .double v0, .ref qo]) (n := 6) (Nat.le_of_ble_eq_true rfl)
  rw [lg_entry_eq]
  generalize (lg_sl ([.ref (o 0), .int i0, .double v0, .ref qo]) ++ List.replicate (6 - (lg_sl ([.ref (o 0), .int i0, .double v0, .ref qo])).length) Slot.unset).toArray = ls at hl ⊢
  have hl : lv_has ls 6 [(0, .ref (o 0)), (1, .int i0), (2, .double v0), (4, .ref qo)] := hl
  obtain ⟨A, hAe⟩ : ∃ A : Nat → Prop, A = va_A ([(qo, .inl (cD, 1, .inr (.inr (.inr (.inl ov)))))] ++ wp_S cI cZ cD cR cB o ra ba sc y) s.heap.size := ⟨_, rfl⟩
  have hD := hD0.self (sz := s.heap.size)
  rw [← hAe] at hD hE
  have hA : ∀ q : Nat, s.heap.size ≤ q → A q := fun q h => by rw [hAe]; exact Or.inr h
  have hS : va_S A s.heap s.heap [] := va_S.rf
  have hP : va_P (dC, dI) vwCl ([(qo, .inl (cD, 1, .inr (.inr (.inr (.inl ov)))))] ++ wp_S cI cZ cD cR cB o ra ba sc y) s.heap := hP
  have hD : va_D A ([(qo, .inl (cD, 1, .inr (.inr (.inr (.inl ov)))))] ++ wp_S cI cZ cD cR cB o ra ba sc y) := hD
  refine lv_aload hx hb dL_set_0 (lv_at hl 3 rfl) ?_
  refine lv_iconst (v := 0) hx hb dL_set_2 (by decide) ?_
  refine lv_aload_n hx hb dL_set_3 rfl (lv_at hl 0 rfl) ?_
  refine lv_iload_n hx hb dL_set_4 rfl (lv_at hl 1 rfl) ?_
  refine lv_dload_n hx hb dL_set_5 rfl (lv_at hl 2 rfl) ?_
  have hPc : va_P (dC, dI) vwCl (wp_S cI cZ cD cR cB o ra ba sc y ++ [(qo, .inl (cD, 1, .inr (.inr (.inr (.inl ov)))))]) s.heap := sf_P_perm List.perm_append_comm hP
  have hDc : va_D A (wp_S cI cZ cD cR cB o ra ba sc y ++ [(qo, .inl (cD, 1, .inr (.inr (.inr (.inl ov)))))]) := sf_D_perm List.perm_append_comm hD
  refine sf_callXV (vx_runV (As := [.int i0, .double v0]) (rest := [.int 0, .ref qo]) ⟨hx, hb, hml, hown, hg⟩ (c_X2_set l hlt sx dC dI cI cZ cD cR cB o ra ba sc y i0 v0 _ ) (cwV 2 hg (gw_V mw_335 mw_336 mw_337 mw_21 mw_338) rfl rfl rfl (by decide +kernel) ⟨Nat.le_of_ble_eq_true rfl, Nat.le_of_ble_eq_true rfl⟩) (sf_preX (va_recv hK hP (ci := 2) (q0 := 1) rfl rfl) (hK.sub [0, 1, 2, 3, 4] rfl) hZ hPc hDc hE hS hA) rfl rfl hl.1 rfl (lv_room (Nat.le_of_ble_eq_true rfl)) dL_set_6 ⟨Nat.le_of_ble_eq_true rfl, Nat.le_of_ble_eq_true rfl⟩) hS hPc hDc hA (fun E hE9 ce q9 H locs hP hD hS hce hcv hcl => ?_) (fun hC H locs hP hD hS => ?_)
  · have hP := sf_P_perm List.perm_append_comm hP
    have hD := sf_D_perm List.perm_append_comm hD
    have hP : va_P (dC, dI) vwCl ([(qo, .inl (cD, 1, .inr (.inr (.inr (.inl ov)))))] ++ wp_S cI cZ cD cR cB o ra ba sc y) H := hP
    have hD : va_D A ([(qo, .inl (cD, 1, .inr (.inr (.inr (.inl ov)))))] ++ wp_S cI cZ cD cR cB o ra ba sc y) := hD
    rcases hE9 with ⟨h1, rfl⟩ | ⟨h1, h2, rfl⟩
    · refine vx_catch (name := ex_I) hown [] ⟨0, 10, 13, 13⟩ [⟨0, 10, 17, 15⟩] htb (fun z hz => nomatch hz) (by decide) (by decide) (hg _ mw_148) (ex_c hE.1 (List.mem_of_getElem? (i := 3) rfl)) hce hcv hcl ?_
      refine lv_astore (lv' := [(5, .ref q9), (0, .ref (o 0)), (1, .int i0), (2, .double v0), (4, .ref qo)]) hx hb dL_set_13 hl (by decide) rfl (fun ls hl => ?_)
      refine lv_iconst (v := 1) hx hb dL_set_15 (by decide) ?_
      have eK := k2_1 h1
      refine sf_topi (y := kc2 (fc_val v0) (fc_ix i0 8)) eK.1.symm ?_
      have hP9 : va_P (dC, dI) vwCl ([(qo, .inl (cD, 1, .inr (.inr (.inr (.inl (yn2 (fc_val v0) (fc_ix i0 8) (va_up ov 0 (y.1.2.1 i0.toNatClampNeg)) ov))))))] ++ wp_S cI cZ cD cR cB o ra ba sc (yn2 (fc_val v0) (fc_ix i0 8) (fp_set y i0 v0) y)) H := by
        rw [eK.2, eK.2]
        exact hP
      have hD9 : va_D A ([(qo, .inl (cD, 1, .inr (.inr (.inr (.inl (yn2 (fc_val v0) (fc_ix i0 8) (va_up ov 0 (y.1.2.1 i0.toNatClampNeg)) ov))))))] ++ wp_S cI cZ cD cR cB o ra ba sc (yn2 (fc_val v0) (fc_ix i0 8) (fp_set y i0 v0) y)) := by
        rw [eK.2, eK.2]
        exact hD
      refine W.widen (k := 2) (n := 12) (Nat.le_of_ble_eq_true rfl) (Nat.le_of_ble_eq_true rfl) ?_
      exact W.iret hx hb hr (fun t ht _ => ⟨rfl, by rw [ht]; exact hP9, hAe ▸ hD9, hAe ▸ hS.F ht⟩) (fun q hq => by rw [← hAe]; exact hS.2.2 q hq) dL_set_16
    · refine vx_catch (name := ex_O) hown [⟨0, 10, 13, 13⟩] ⟨0, 10, 17, 15⟩ [] htb (fun z hz => by rw [List.mem_singleton.mp hz]; exact Or.inr ⟨by decide, ex_I, hg _ mw_148, hN.1⟩) (by decide) (by decide) (hg _ mw_149) (ex_c hE.1 (List.mem_of_getElem? (i := 4) rfl)) hce hcv hcl ?_
      refine lv_astore (lv' := [(5, .ref q9), (0, .ref (o 0)), (1, .int i0), (2, .double v0), (4, .ref qo)]) hx hb dL_set_17 hl (by decide) rfl (fun ls hl => ?_)
      refine lv_iconst (v := 2) hx hb dL_set_19 (by decide) ?_
      have eK := k2_2 h1 h2
      refine sf_topi (y := kc2 (fc_val v0) (fc_ix i0 8)) eK.1.symm ?_
      have hP9 : va_P (dC, dI) vwCl ([(qo, .inl (cD, 1, .inr (.inr (.inr (.inl (yn2 (fc_val v0) (fc_ix i0 8) (va_up ov 0 (y.1.2.1 i0.toNatClampNeg)) ov))))))] ++ wp_S cI cZ cD cR cB o ra ba sc (yn2 (fc_val v0) (fc_ix i0 8) (fp_set y i0 v0) y)) H := by
        rw [eK.2, eK.2]
        exact hP
      have hD9 : va_D A ([(qo, .inl (cD, 1, .inr (.inr (.inr (.inl (yn2 (fc_val v0) (fc_ix i0 8) (va_up ov 0 (y.1.2.1 i0.toNatClampNeg)) ov))))))] ++ wp_S cI cZ cD cR cB o ra ba sc (yn2 (fc_val v0) (fc_ix i0 8) (fp_set y i0 v0) y)) := by
        rw [eK.2, eK.2]
        exact hD
      refine W.widen (k := 2) (n := 12) (Nat.le_of_ble_eq_true rfl) (Nat.le_of_ble_eq_true rfl) ?_
      exact W.iret hx hb hr (fun t ht _ => ⟨rfl, by rw [ht]; exact hP9, hAe ▸ hD9, hAe ▸ hS.F ht⟩) (fun q hq => by rw [← hAe]; exact hS.2.2 q hq) dL_set_20
  have hP := sf_P_perm List.perm_append_comm hP
  have hD := sf_D_perm List.perm_append_comm hD
  have hP : va_P (dC, dI) vwCl ([(qo, .inl (cD, 1, .inr (.inr (.inr (.inl ov)))))] ++ wp_S cI cZ cD cR cB o ra ba sc (fp_set y i0 v0)) H := hP
  have hD : va_D A ([(qo, .inl (cD, 1, .inr (.inr (.inr (.inl ov)))))] ++ wp_S cI cZ cD cR cB o ra ba sc (fp_set y i0 v0)) := hD
  refine sf_dast hx hb hK hP hD hS 0 2 rfl rfl 0 rfl (by decide) (by decide) dL_set_9 (fun H locs hP hD hS => ?_)
  have hP : va_P (dC, dI) vwCl ([(qo, .inl (cD, 1, .inr (.inr (.inr (.inl (va_up ov 0 (y.1.2.1 i0.toNatClampNeg)))))))] ++ wp_S cI cZ cD cR cB o ra ba sc (fp_set y i0 v0)) H := hP
  have hD : va_D A ([(qo, .inl (cD, 1, .inr (.inr (.inr (.inl (va_up ov 0 (y.1.2.1 i0.toNatClampNeg)))))))] ++ wp_S cI cZ cD cR cB o ra ba sc (fp_set y i0 v0)) := hD
  refine lv_goto (tgt := 21) hx hb dL_set_10 (by decide) ?_
  refine lv_iconst (v := 0) hx hb dL_set_21 (by decide) ?_
  have eK := k2_ok hC
  refine sf_topi (y := kc2 (fc_val v0) (fc_ix i0 8)) eK.1.symm ?_
  have hP9 : va_P (dC, dI) vwCl ([(qo, .inl (cD, 1, .inr (.inr (.inr (.inl (yn2 (fc_val v0) (fc_ix i0 8) (va_up ov 0 (y.1.2.1 i0.toNatClampNeg)) ov))))))] ++ wp_S cI cZ cD cR cB o ra ba sc (yn2 (fc_val v0) (fc_ix i0 8) (fp_set y i0 v0) y)) H := by
    rw [eK.2, eK.2]
    exact hP
  have hD9 : va_D A ([(qo, .inl (cD, 1, .inr (.inr (.inr (.inl (yn2 (fc_val v0) (fc_ix i0 8) (va_up ov 0 (y.1.2.1 i0.toNatClampNeg)) ov))))))] ++ wp_S cI cZ cD cR cB o ra ba sc (yn2 (fc_val v0) (fc_ix i0 8) (fp_set y i0 v0) y)) := by
    rw [eK.2, eK.2]
    exact hD
  refine W.widen (k := 2) (n := 12) (Nat.le_of_ble_eq_true rfl) (Nat.le_of_ble_eq_true rfl) ?_
  exact W.iret hx hb hr (fun t ht _ => ⟨rfl, by rw [ht]; exact hP9, hAe ▸ hD9, hAe ▸ hS.F ht⟩) (fun q hq => by rw [← hAe]; exact hS.2.2 q hq) dL_set_22
set_option maxHeartbeats 4000000 in
set_option maxRecDepth 100000 in
theorem c_L_bit (l : Launch) (hlt : l.stackTraces = false) (sx : Nat → Nat) (dC : Nat → ClassId) (dI : Nat → Nat → Nat) (cI cZ cD cR cB : ClassId) (o : Nat → Nat) (ra : Nat → Nat → Nat) (ba : Nat → Nat) (sc : Int32) (y : st_Y) (cJ : ClassId) (qo : Nat) (ov : Nat → Int64) (i0 : Int32) (sz : Nat)  : Met l yL_bit wL_bit ({ frames := 8, cells := 1, slots := 6, locals := 123 }) (sf_PL (dC, dI) vwCl [(cI, .int), (cZ, .boolean), (cD, .double), (cR, .object RX1), (cB, .object RX0), (cJ, .long)] sx ([(qo, .inl (cJ, 1, .inr (.inl ov)))] ++ wp_S cI cZ cD cR cB o ra ba sc y) sz [.ref (o 0), .int i0, .ref qo]) (sf_V (dC, dI) vwCl (some (.int (kc1 (fc_ix i0 24)))) ([(qo, .inl (cJ, 1, .inr (.inl ov)))] ++ wp_S cI cZ cD cR cB o ra ba sc y) ([(qo, .inl (cJ, 1, .inr (.inl (yn1 (fc_ix i0 24) (va_up ov 0 (bl (y.1.1 i0.toNatClampNeg))) ov))))] ++ wp_S cI cZ cD cR cB o ra ba sc y)) 1 6 (va_A ([(qo, .inl (cJ, 1, .inr (.inl ov)))] ++ wp_S cI cZ cD cR cB o ra ba sc y) sz) := by
  refine va_MetW (hh := [(0, 16, 19, 15)]) (cc := cL_bit) (maxL := 4) (ret := (some .int)) (by decide) rfl ?_
  intro p e s m args below meth c s₁ B hml hv
  have hx := B.exec
  have hb := B.bytes
  have hr := B.returns
  have hts := atoms_spec (ws := wL_bit) B.pre
  have hg : ∀ w ∈ gw_all, w.before args s = true := fun w h => hts w (List.mem_cons_of_mem _ h)
  have hown : s.vm.findClass RL = some m.cls := findClass_of_methodNamed B.named
  have hlocks := B.notSynchronized
  obtain ⟨rfl, ⟨hsz, hP, hD0, hK, hZ, hE⟩, hN⟩ := hv
  subst hsz
  have htb := vx_table (x := yL_bit) B (hts _ List.mem_cons_self)
  have hl := lv_entry ([.ref (o 0), .int i0, .ref qo]) (n := 4) (Nat.le_of_ble_eq_true rfl)
  rw [lg_entry_eq]
  generalize (lg_sl ([.ref (o 0), .int i0, .ref qo]) ++ List.replicate (4 - (lg_sl ([.ref (o 0), .int i0, .ref qo])).length) Slot.unset).toArray = ls at hl ⊢
  have hl : lv_has ls 4 [(0, .ref (o 0)), (1, .int i0), (2, .ref qo)] := hl
  obtain ⟨A, hAe⟩ : ∃ A : Nat → Prop, A = va_A ([(qo, .inl (cJ, 1, .inr (.inl ov)))] ++ wp_S cI cZ cD cR cB o ra ba sc y) s.heap.size := ⟨_, rfl⟩
  have hD := hD0.self (sz := s.heap.size)
  rw [← hAe] at hD hE
  have hA : ∀ q : Nat, s.heap.size ≤ q → A q := fun q h => by rw [hAe]; exact Or.inr h
  have hS : va_S A s.heap s.heap [] := va_S.rf
  have hP : va_P (dC, dI) vwCl ([(qo, .inl (cJ, 1, .inr (.inl ov)))] ++ wp_S cI cZ cD cR cB o ra ba sc y) s.heap := hP
  have hD : va_D A ([(qo, .inl (cJ, 1, .inr (.inl ov)))] ++ wp_S cI cZ cD cR cB o ra ba sc y) := hD
  refine lv_aload_n hx hb dL_bit_0 rfl (lv_at hl 2 rfl) ?_
  refine lv_iconst (v := 0) hx hb dL_bit_1 (by decide) ?_
  refine lv_aload_n hx hb dL_bit_2 rfl (lv_at hl 0 rfl) ?_
  refine lv_iload_n hx hb dL_bit_3 rfl (lv_at hl 1 rfl) ?_
  have hPc : va_P (dC, dI) vwCl (wp_S cI cZ cD cR cB o ra ba sc y ++ [(qo, .inl (cJ, 1, .inr (.inl ov)))]) s.heap := sf_P_perm List.perm_append_comm hP
  have hDc : va_D A (wp_S cI cZ cD cR cB o ra ba sc y ++ [(qo, .inl (cJ, 1, .inr (.inl ov)))]) := sf_D_perm List.perm_append_comm hD
  refine sf_callXV (vx_runV (As := [.int i0]) (rest := [.int 0, .ref qo]) ⟨hx, hb, hml, hown, hg⟩ (c_X2_bit l hlt sx dC dI cI cZ cD cR cB o ra ba sc y i0 _ ) (cwV 1 hg (gw_V mw_453 mw_454 mw_455 mw_21 mw_456) rfl rfl rfl (by decide +kernel) ⟨Nat.le_of_ble_eq_true rfl, Nat.le_of_ble_eq_true rfl⟩) (sf_preX (va_recv hK hP (ci := 2) (q0 := 1) rfl rfl) (hK.sub [0, 1, 2, 3, 4] rfl) hZ hPc hDc hE hS hA) rfl rfl hl.1 rfl (lv_room (Nat.le_of_ble_eq_true rfl)) dL_bit_4 ⟨Nat.le_of_ble_eq_true rfl, Nat.le_of_ble_eq_true rfl⟩) hS hPc hDc hA (fun E hE9 ce q9 H locs hP hD hS hce hcv hcl => ?_) (fun hC H locs hP hD hS => ?_)
  · have hP := sf_P_perm List.perm_append_comm hP
    have hD := sf_D_perm List.perm_append_comm hD
    have hP : va_P (dC, dI) vwCl ([(qo, .inl (cJ, 1, .inr (.inl ov)))] ++ wp_S cI cZ cD cR cB o ra ba sc y) H := hP
    have hD : va_D A ([(qo, .inl (cJ, 1, .inr (.inl ov)))] ++ wp_S cI cZ cD cR cB o ra ba sc y) := hD
    obtain ⟨h1, rfl⟩ := hE9
    refine vx_catch (name := ex_O) hown [] ⟨0, 16, 19, 15⟩ [] htb (fun z hz => nomatch hz) (by decide) (by decide) (hg _ mw_149) (ex_c hE.1 (List.mem_of_getElem? (i := 4) rfl)) hce hcv hcl ?_
    refine lv_astore_n (lv' := [(3, .ref q9), (0, .ref (o 0)), (1, .int i0), (2, .ref qo)]) hx hb dL_bit_19 rfl hl (by decide) rfl (fun ls hl => ?_)
    refine lv_iconst (v := 1) hx hb dL_bit_20 (by decide) ?_
    have eK := k1_1 h1
    refine sf_topi (y := kc1 (fc_ix i0 24)) eK.1.symm ?_
    have hP9 : va_P (dC, dI) vwCl ([(qo, .inl (cJ, 1, .inr (.inl (yn1 (fc_ix i0 24) (va_up ov 0 (bl (y.1.1 i0.toNatClampNeg))) ov))))] ++ wp_S cI cZ cD cR cB o ra ba sc y) H := by
      rw [eK.2]
      exact hP
    have hD9 : va_D A ([(qo, .inl (cJ, 1, .inr (.inl (yn1 (fc_ix i0 24) (va_up ov 0 (bl (y.1.1 i0.toNatClampNeg))) ov))))] ++ wp_S cI cZ cD cR cB o ra ba sc y) := by
      rw [eK.2]
      exact hD
    refine W.widen (k := 1) (n := 6) (Nat.le_of_ble_eq_true rfl) (Nat.le_of_ble_eq_true rfl) ?_
    exact W.iret hx hb hr (fun t ht _ => ⟨rfl, by rw [ht]; exact hP9, hAe ▸ hD9, hAe ▸ hS.F ht⟩) (fun q hq => by rw [← hAe]; exact hS.2.2 q hq) dL_bit_21
  have hP := sf_P_perm List.perm_append_comm hP
  have hD := sf_D_perm List.perm_append_comm hD
  have hP : va_P (dC, dI) vwCl ([(qo, .inl (cJ, 1, .inr (.inl ov)))] ++ wp_S cI cZ cD cR cB o ra ba sc y) H := hP
  have hD : va_D A ([(qo, .inl (cJ, 1, .inr (.inl ov)))] ++ wp_S cI cZ cD cR cB o ra ba sc y) := hD
  refine sf_ifeq (tgt := 14) hx hb dL_bit_7 (by decide) (fun c_1 => ?_) (fun c_1 => ?_)
  · refine lv_lconst (v := 0) hx hb dL_bit_14 (by decide) ?_
    refine sf_topl (y := bl (y.1.1 i0.toNatClampNeg)) (by rw [c_1]; rfl) ?_
    refine sf_last hx hb hK hP hD hS 0 5 rfl rfl 0 rfl (by decide) (by decide) dL_bit_15 (fun H locs hP hD hS => ?_)
    have hP : va_P (dC, dI) vwCl ([(qo, .inl (cJ, 1, .inr (.inl (va_up ov 0 (bl (y.1.1 i0.toNatClampNeg))))))] ++ wp_S cI cZ cD cR cB o ra ba sc y) H := hP
    have hD : va_D A ([(qo, .inl (cJ, 1, .inr (.inl (va_up ov 0 (bl (y.1.1 i0.toNatClampNeg))))))] ++ wp_S cI cZ cD cR cB o ra ba sc y) := hD
    refine lv_goto (tgt := 22) hx hb dL_bit_16 (by decide) ?_
    refine lv_iconst (v := 0) hx hb dL_bit_22 (by decide) ?_
    have eK := k1_ok hC
    refine sf_topi (y := kc1 (fc_ix i0 24)) eK.1.symm ?_
    have hP9 : va_P (dC, dI) vwCl ([(qo, .inl (cJ, 1, .inr (.inl (yn1 (fc_ix i0 24) (va_up ov 0 (bl (y.1.1 i0.toNatClampNeg))) ov))))] ++ wp_S cI cZ cD cR cB o ra ba sc y) H := by
      rw [eK.2]
      exact hP
    have hD9 : va_D A ([(qo, .inl (cJ, 1, .inr (.inl (yn1 (fc_ix i0 24) (va_up ov 0 (bl (y.1.1 i0.toNatClampNeg))) ov))))] ++ wp_S cI cZ cD cR cB o ra ba sc y) := by
      rw [eK.2]
      exact hD
    refine W.widen (k := 1) (n := 6) (Nat.le_of_ble_eq_true rfl) (Nat.le_of_ble_eq_true rfl) ?_
    exact W.iret hx hb hr (fun t ht _ => ⟨rfl, by rw [ht]; exact hP9, hAe ▸ hD9, hAe ▸ hS.F ht⟩) (fun q hq => by rw [← hAe]; exact hS.2.2 q hq) dL_bit_23
  · refine lv_lconst (v := 1) hx hb dL_bit_10 (by decide) ?_
    refine lv_goto (tgt := 15) hx hb dL_bit_11 (by decide) ?_
    refine sf_topl (y := bl (y.1.1 i0.toNatClampNeg)) (by rw [c_1]; rfl) ?_
    refine sf_last hx hb hK hP hD hS 0 5 rfl rfl 0 rfl (by decide) (by decide) dL_bit_15 (fun H locs hP hD hS => ?_)
    have hP : va_P (dC, dI) vwCl ([(qo, .inl (cJ, 1, .inr (.inl (va_up ov 0 (bl (y.1.1 i0.toNatClampNeg))))))] ++ wp_S cI cZ cD cR cB o ra ba sc y) H := hP
    have hD : va_D A ([(qo, .inl (cJ, 1, .inr (.inl (va_up ov 0 (bl (y.1.1 i0.toNatClampNeg))))))] ++ wp_S cI cZ cD cR cB o ra ba sc y) := hD
    refine lv_goto (tgt := 22) hx hb dL_bit_16 (by decide) ?_
    refine lv_iconst (v := 0) hx hb dL_bit_22 (by decide) ?_
    have eK := k1_ok hC
    refine sf_topi (y := kc1 (fc_ix i0 24)) eK.1.symm ?_
    have hP9 : va_P (dC, dI) vwCl ([(qo, .inl (cJ, 1, .inr (.inl (yn1 (fc_ix i0 24) (va_up ov 0 (bl (y.1.1 i0.toNatClampNeg))) ov))))] ++ wp_S cI cZ cD cR cB o ra ba sc y) H := by
      rw [eK.2]
      exact hP
    have hD9 : va_D A ([(qo, .inl (cJ, 1, .inr (.inl (yn1 (fc_ix i0 24) (va_up ov 0 (bl (y.1.1 i0.toNatClampNeg))) ov))))] ++ wp_S cI cZ cD cR cB o ra ba sc y) := by
      rw [eK.2]
      exact hD
    refine W.widen (k := 1) (n := 6) (Nat.le_of_ble_eq_true rfl) (Nat.le_of_ble_eq_true rfl) ?_
    exact W.iret hx hb hr (fun t ht _ => ⟨rfl, by rw [ht]; exact hP9, hAe ▸ hD9, hAe ▸ hS.F ht⟩) (fun q hq => by rw [← hAe]; exact hS.2.2 q hq) dL_bit_23
set_option maxHeartbeats 4000000 in
set_option maxRecDepth 100000 in
theorem c_L_register (l : Launch) (hlt : l.stackTraces = false) (sx : Nat → Nat) (dC : Nat → ClassId) (dI : Nat → Nat → Nat) (cI cZ cD cR cB : ClassId) (o : Nat → Nat) (ra : Nat → Nat → Nat) (ba : Nat → Nat) (sc : Int32) (y : st_Y) (qo : Nat) (ov : Nat → UInt64) (i0 : Int32) (sz : Nat)  : Met l yL_register wL_register ({ frames := 8, cells := 1, slots := 6, locals := 123 }) (sf_PL (dC, dI) vwCl [(cI, .int), (cZ, .boolean), (cD, .double), (cR, .object RX1), (cB, .object RX0)] sx ([(qo, .inl (cD, 1, .inr (.inr (.inr (.inl ov)))))] ++ wp_S cI cZ cD cR cB o ra ba sc y) sz [.ref (o 0), .int i0, .ref qo]) (sf_V (dC, dI) vwCl (some (.int (kc1 (fc_ix i0 8)))) ([(qo, .inl (cD, 1, .inr (.inr (.inr (.inl ov)))))] ++ wp_S cI cZ cD cR cB o ra ba sc y) ([(qo, .inl (cD, 1, .inr (.inr (.inr (.inl (yn1 (fc_ix i0 8) (va_up ov 0 (y.1.2.1 i0.toNatClampNeg)) ov))))))] ++ wp_S cI cZ cD cR cB o ra ba sc y)) 1 6 (va_A ([(qo, .inl (cD, 1, .inr (.inr (.inr (.inl ov)))))] ++ wp_S cI cZ cD cR cB o ra ba sc y) sz) := by
  refine va_MetW (hh := [(0, 8, 11, 15)]) (cc := cL_register) (maxL := 4) (ret := (some .int)) (by decide) rfl ?_
  intro p e s m args below meth c s₁ B hml hv
  have hx := B.exec
  have hb := B.bytes
  have hr := B.returns
  have hts := atoms_spec (ws := wL_register) B.pre
  have hg : ∀ w ∈ gw_all, w.before args s = true := fun w h => hts w (List.mem_cons_of_mem _ h)
  have hown : s.vm.findClass RL = some m.cls := findClass_of_methodNamed B.named
  have hlocks := B.notSynchronized
  obtain ⟨rfl, ⟨hsz, hP, hD0, hK, hZ, hE⟩, hN⟩ := hv
  subst hsz
  have htb := vx_table (x := yL_register) B (hts _ List.mem_cons_self)
  have hl := lv_entry ([.ref (o 0), .int i0, .ref qo]) (n := 4) (Nat.le_of_ble_eq_true rfl)
  rw [lg_entry_eq]
  generalize (lg_sl ([.ref (o 0), .int i0, .ref qo]) ++ List.replicate (4 - (lg_sl ([.ref (o 0), .int i0, .ref qo])).length) Slot.unset).toArray = ls at hl ⊢
  have hl : lv_has ls 4 [(0, .ref (o 0)), (1, .int i0), (2, .ref qo)] := hl
  obtain ⟨A, hAe⟩ : ∃ A : Nat → Prop, A = va_A ([(qo, .inl (cD, 1, .inr (.inr (.inr (.inl ov)))))] ++ wp_S cI cZ cD cR cB o ra ba sc y) s.heap.size := ⟨_, rfl⟩
  have hD := hD0.self (sz := s.heap.size)
  rw [← hAe] at hD hE
  have hA : ∀ q : Nat, s.heap.size ≤ q → A q := fun q h => by rw [hAe]; exact Or.inr h
  have hS : va_S A s.heap s.heap [] := va_S.rf
  have hP : va_P (dC, dI) vwCl ([(qo, .inl (cD, 1, .inr (.inr (.inr (.inl ov)))))] ++ wp_S cI cZ cD cR cB o ra ba sc y) s.heap := hP
  have hD : va_D A ([(qo, .inl (cD, 1, .inr (.inr (.inr (.inl ov)))))] ++ wp_S cI cZ cD cR cB o ra ba sc y) := hD
  refine lv_aload_n hx hb dL_register_0 rfl (lv_at hl 2 rfl) ?_
  refine lv_iconst (v := 0) hx hb dL_register_1 (by decide) ?_
  refine lv_aload_n hx hb dL_register_2 rfl (lv_at hl 0 rfl) ?_
  refine lv_iload_n hx hb dL_register_3 rfl (lv_at hl 1 rfl) ?_
  have hPc : va_P (dC, dI) vwCl (wp_S cI cZ cD cR cB o ra ba sc y ++ [(qo, .inl (cD, 1, .inr (.inr (.inr (.inl ov)))))]) s.heap := sf_P_perm List.perm_append_comm hP
  have hDc : va_D A (wp_S cI cZ cD cR cB o ra ba sc y ++ [(qo, .inl (cD, 1, .inr (.inr (.inr (.inl ov)))))]) := sf_D_perm List.perm_append_comm hD
  refine sf_callXV (vx_runV (As := [.int i0]) (rest := [.int 0, .ref qo]) ⟨hx, hb, hml, hown, hg⟩ (c_X2_register l hlt sx dC dI cI cZ cD cR cB o ra ba sc y i0 _ ) (cwV 1 hg (gw_V mw_460 mw_461 mw_462 mw_21 mw_463) rfl rfl rfl (by decide +kernel) ⟨Nat.le_of_ble_eq_true rfl, Nat.le_of_ble_eq_true rfl⟩) (sf_preX (va_recv hK hP (ci := 2) (q0 := 1) rfl rfl) (hK.sub [0, 1, 2, 3, 4] rfl) hZ hPc hDc hE hS hA) rfl rfl hl.1 rfl (lv_room (Nat.le_of_ble_eq_true rfl)) dL_register_4 ⟨Nat.le_of_ble_eq_true rfl, Nat.le_of_ble_eq_true rfl⟩) hS hPc hDc hA (fun E hE9 ce q9 H locs hP hD hS hce hcv hcl => ?_) (fun hC H locs hP hD hS => ?_)
  · have hP := sf_P_perm List.perm_append_comm hP
    have hD := sf_D_perm List.perm_append_comm hD
    have hP : va_P (dC, dI) vwCl ([(qo, .inl (cD, 1, .inr (.inr (.inr (.inl ov)))))] ++ wp_S cI cZ cD cR cB o ra ba sc y) H := hP
    have hD : va_D A ([(qo, .inl (cD, 1, .inr (.inr (.inr (.inl ov)))))] ++ wp_S cI cZ cD cR cB o ra ba sc y) := hD
    obtain ⟨h1, rfl⟩ := hE9
    refine vx_catch (name := ex_O) hown [] ⟨0, 8, 11, 15⟩ [] htb (fun z hz => nomatch hz) (by decide) (by decide) (hg _ mw_149) (ex_c hE.1 (List.mem_of_getElem? (i := 4) rfl)) hce hcv hcl ?_
    refine lv_astore_n (lv' := [(3, .ref q9), (0, .ref (o 0)), (1, .int i0), (2, .ref qo)]) hx hb dL_register_11 rfl hl (by decide) rfl (fun ls hl => ?_)
    refine lv_iconst (v := 1) hx hb dL_register_12 (by decide) ?_
    have eK := k1_1 h1
    refine sf_topi (y := kc1 (fc_ix i0 8)) eK.1.symm ?_
    have hP9 : va_P (dC, dI) vwCl ([(qo, .inl (cD, 1, .inr (.inr (.inr (.inl (yn1 (fc_ix i0 8) (va_up ov 0 (y.1.2.1 i0.toNatClampNeg)) ov))))))] ++ wp_S cI cZ cD cR cB o ra ba sc y) H := by
      rw [eK.2]
      exact hP
    have hD9 : va_D A ([(qo, .inl (cD, 1, .inr (.inr (.inr (.inl (yn1 (fc_ix i0 8) (va_up ov 0 (y.1.2.1 i0.toNatClampNeg)) ov))))))] ++ wp_S cI cZ cD cR cB o ra ba sc y) := by
      rw [eK.2]
      exact hD
    refine W.widen (k := 1) (n := 6) (Nat.le_of_ble_eq_true rfl) (Nat.le_of_ble_eq_true rfl) ?_
    exact W.iret hx hb hr (fun t ht _ => ⟨rfl, by rw [ht]; exact hP9, hAe ▸ hD9, hAe ▸ hS.F ht⟩) (fun q hq => by rw [← hAe]; exact hS.2.2 q hq) dL_register_13
  have hP := sf_P_perm List.perm_append_comm hP
  have hD := sf_D_perm List.perm_append_comm hD
  have hP : va_P (dC, dI) vwCl ([(qo, .inl (cD, 1, .inr (.inr (.inr (.inl ov)))))] ++ wp_S cI cZ cD cR cB o ra ba sc y) H := hP
  have hD : va_D A ([(qo, .inl (cD, 1, .inr (.inr (.inr (.inl ov)))))] ++ wp_S cI cZ cD cR cB o ra ba sc y) := hD
  refine sf_dast hx hb hK hP hD hS 0 2 rfl rfl 0 rfl (by decide) (by decide) dL_register_7 (fun H locs hP hD hS => ?_)
  have hP : va_P (dC, dI) vwCl ([(qo, .inl (cD, 1, .inr (.inr (.inr (.inl (va_up ov 0 (y.1.2.1 i0.toNatClampNeg)))))))] ++ wp_S cI cZ cD cR cB o ra ba sc y) H := hP
  have hD : va_D A ([(qo, .inl (cD, 1, .inr (.inr (.inr (.inl (va_up ov 0 (y.1.2.1 i0.toNatClampNeg)))))))] ++ wp_S cI cZ cD cR cB o ra ba sc y) := hD
  refine lv_goto (tgt := 14) hx hb dL_register_8 (by decide) ?_
  refine lv_iconst (v := 0) hx hb dL_register_14 (by decide) ?_
  have eK := k1_ok hC
  refine sf_topi (y := kc1 (fc_ix i0 8)) eK.1.symm ?_
  have hP9 : va_P (dC, dI) vwCl ([(qo, .inl (cD, 1, .inr (.inr (.inr (.inl (yn1 (fc_ix i0 8) (va_up ov 0 (y.1.2.1 i0.toNatClampNeg)) ov))))))] ++ wp_S cI cZ cD cR cB o ra ba sc y) H := by
    rw [eK.2]
    exact hP
  have hD9 : va_D A ([(qo, .inl (cD, 1, .inr (.inr (.inr (.inl (yn1 (fc_ix i0 8) (va_up ov 0 (y.1.2.1 i0.toNatClampNeg)) ov))))))] ++ wp_S cI cZ cD cR cB o ra ba sc y) := by
    rw [eK.2]
    exact hD
  refine W.widen (k := 1) (n := 6) (Nat.le_of_ble_eq_true rfl) (Nat.le_of_ble_eq_true rfl) ?_
  exact W.iret hx hb hr (fun t ht _ => ⟨rfl, by rw [ht]; exact hP9, hAe ▸ hD9, hAe ▸ hS.F ht⟩) (fun q hq => by rw [← hAe]; exact hS.2.2 q hq) dL_register_15
set_option maxHeartbeats 4000000 in
set_option maxRecDepth 100000 in
theorem c_L_power (l : Launch) (hlt : l.stackTraces = false) (sx : Nat → Nat) (dC : Nat → ClassId) (dI : Nat → Nat → Nat) (cI cZ cD cR cB : ClassId) (o : Nat → Nat) (ra : Nat → Nat → Nat) (ba : Nat → Nat) (sc : Int32) (y : st_Y) (cJ : ClassId) (qo : Nat) (ov : Nat → Int64) (g0 r0 c0 : Int32) (sz : Nat)  : Met l yL_power wL_power ({ frames := 8, cells := 1, slots := 6, locals := 125 }) (sf_PL (dC, dI) vwCl [(cI, .int), (cZ, .boolean), (cD, .double), (cR, .object RX1), (cB, .object RX0), (cJ, .long)] sx ([(qo, .inl (cJ, 1, .inr (.inl ov)))] ++ wp_S cI cZ cD cR cB o ra ba sc y) sz [.ref (o 0), .int g0, .int r0, .int c0, .ref qo]) (sf_V (dC, dI) vwCl (some (.int (kc1 (fc_row g0 r0 && fc_btw c0 (-1) 3)))) ([(qo, .inl (cJ, 1, .inr (.inl ov)))] ++ wp_S cI cZ cD cR cB o ra ba sc y) ([(qo, .inl (cJ, 1, .inr (.inl (yn1 (fc_row g0 r0 && fc_btw c0 (-1) 3) (va_up ov 0 (bl ((y.2 g0.toNatClampNeg).2.2.2.2.1 (r0.toNatClampNeg * 5 + fp_col c0)))) ov))))] ++ wp_S cI cZ cD cR cB o ra ba sc y)) 1 6 (va_A ([(qo, .inl (cJ, 1, .inr (.inl ov)))] ++ wp_S cI cZ cD cR cB o ra ba sc y) sz) := by
  refine va_MetW (hh := [(0, 19, 22, 15)]) (cc := cL_power) (maxL := 6) (ret := (some .int)) (by decide) rfl ?_
  intro p e s m args below meth c s₁ B hml hv
  have hx := B.exec
  have hb := B.bytes
  have hr := B.returns
  have hts := atoms_spec (ws := wL_power) B.pre
  have hg : ∀ w ∈ gw_all, w.before args s = true := fun w h => hts w (List.mem_cons_of_mem _ h)
  have hown : s.vm.findClass RL = some m.cls := findClass_of_methodNamed B.named
  have hlocks := B.notSynchronized
  obtain ⟨rfl, ⟨hsz, hP, hD0, hK, hZ, hE⟩, hN⟩ := hv
  subst hsz
  have htb := vx_table (x := yL_power) B (hts _ List.mem_cons_self)
  have hl := lv_entry ([.ref (o 0), .int g0, .int r0, .int c0, .ref qo]) (n := 6) (Nat.le_of_ble_eq_true rfl)
  rw [lg_entry_eq]
  generalize (lg_sl ([.ref (o 0), .int g0, .int r0, .int c0, .ref qo]) ++ List.replicate (6 - (lg_sl ([.ref (o 0), .int g0, .int r0, .int c0, .ref qo])).length) Slot.unset).toArray = ls at hl ⊢
  have hl : lv_has ls 6 [(0, .ref (o 0)), (1, .int g0), (2, .int r0), (3, .int c0), (4, .ref qo)] := hl
  obtain ⟨A, hAe⟩ : ∃ A : Nat → Prop, A = va_A ([(qo, .inl (cJ, 1, .inr (.inl ov)))] ++ wp_S cI cZ cD cR cB o ra ba sc y) s.heap.size := ⟨_, rfl⟩
  have hD := hD0.self (sz := s.heap.size)
  rw [← hAe] at hD hE
  have hA : ∀ q : Nat, s.heap.size ≤ q → A q := fun q h => by rw [hAe]; exact Or.inr h
  have hS : va_S A s.heap s.heap [] := va_S.rf
  have hP : va_P (dC, dI) vwCl ([(qo, .inl (cJ, 1, .inr (.inl ov)))] ++ wp_S cI cZ cD cR cB o ra ba sc y) s.heap := hP
  have hD : va_D A ([(qo, .inl (cJ, 1, .inr (.inl ov)))] ++ wp_S cI cZ cD cR cB o ra ba sc y) := hD
  refine lv_aload hx hb dL_power_0 (lv_at hl 4 rfl) ?_
  refine lv_iconst (v := 0) hx hb dL_power_2 (by decide) ?_
  refine lv_aload_n hx hb dL_power_3 rfl (lv_at hl 0 rfl) ?_
  refine lv_iload_n hx hb dL_power_4 rfl (lv_at hl 1 rfl) ?_
  refine lv_iload_n hx hb dL_power_5 rfl (lv_at hl 2 rfl) ?_
  refine lv_iload_n hx hb dL_power_6 rfl (lv_at hl 3 rfl) ?_
  have hPc : va_P (dC, dI) vwCl (wp_S cI cZ cD cR cB o ra ba sc y ++ [(qo, .inl (cJ, 1, .inr (.inl ov)))]) s.heap := sf_P_perm List.perm_append_comm hP
  have hDc : va_D A (wp_S cI cZ cD cR cB o ra ba sc y ++ [(qo, .inl (cJ, 1, .inr (.inl ov)))]) := sf_D_perm List.perm_append_comm hD
  refine sf_callXV (vx_runV (As := [.int g0, .int r0, .int c0]) (rest := [.int 0, .ref qo]) ⟨hx, hb, hml, hown, hg⟩ (c_X2_power l hlt sx dC dI cI cZ cD cR cB o ra ba sc y g0 r0 c0 _ ) (cwV 3 hg (gw_V mw_467 mw_468 mw_469 mw_21 mw_470) rfl rfl rfl (by decide +kernel) ⟨Nat.le_of_ble_eq_true rfl, Nat.le_of_ble_eq_true rfl⟩) (sf_preX (va_recv hK hP (ci := 2) (q0 := 1) rfl rfl) (hK.sub [0, 1, 2, 3, 4] rfl) hZ hPc hDc hE hS hA) rfl rfl hl.1 rfl (lv_room (Nat.le_of_ble_eq_true rfl)) dL_power_7 ⟨Nat.le_of_ble_eq_true rfl, Nat.le_of_ble_eq_true rfl⟩) hS hPc hDc hA (fun E hE9 ce q9 H locs hP hD hS hce hcv hcl => ?_) (fun hC H locs hP hD hS => ?_)
  · have hP := sf_P_perm List.perm_append_comm hP
    have hD := sf_D_perm List.perm_append_comm hD
    have hP : va_P (dC, dI) vwCl ([(qo, .inl (cJ, 1, .inr (.inl ov)))] ++ wp_S cI cZ cD cR cB o ra ba sc y) H := hP
    have hD : va_D A ([(qo, .inl (cJ, 1, .inr (.inl ov)))] ++ wp_S cI cZ cD cR cB o ra ba sc y) := hD
    obtain ⟨h1, rfl⟩ := hE9
    refine vx_catch (name := ex_O) hown [] ⟨0, 19, 22, 15⟩ [] htb (fun z hz => nomatch hz) (by decide) (by decide) (hg _ mw_149) (ex_c hE.1 (List.mem_of_getElem? (i := 4) rfl)) hce hcv hcl ?_
    refine lv_astore (lv' := [(5, .ref q9), (0, .ref (o 0)), (1, .int g0), (2, .int r0), (3, .int c0), (4, .ref qo)]) hx hb dL_power_22 hl (by decide) rfl (fun ls hl => ?_)
    refine lv_iconst (v := 1) hx hb dL_power_24 (by decide) ?_
    have eK := k1_1 h1
    refine sf_topi (y := kc1 (fc_row g0 r0 && fc_btw c0 (-1) 3)) eK.1.symm ?_
    have hP9 : va_P (dC, dI) vwCl ([(qo, .inl (cJ, 1, .inr (.inl (yn1 (fc_row g0 r0 && fc_btw c0 (-1) 3) (va_up ov 0 (bl ((y.2 g0.toNatClampNeg).2.2.2.2.1 (r0.toNatClampNeg * 5 + fp_col c0)))) ov))))] ++ wp_S cI cZ cD cR cB o ra ba sc y) H := by
      rw [eK.2]
      exact hP
    have hD9 : va_D A ([(qo, .inl (cJ, 1, .inr (.inl (yn1 (fc_row g0 r0 && fc_btw c0 (-1) 3) (va_up ov 0 (bl ((y.2 g0.toNatClampNeg).2.2.2.2.1 (r0.toNatClampNeg * 5 + fp_col c0)))) ov))))] ++ wp_S cI cZ cD cR cB o ra ba sc y) := by
      rw [eK.2]
      exact hD
    refine W.widen (k := 1) (n := 6) (Nat.le_of_ble_eq_true rfl) (Nat.le_of_ble_eq_true rfl) ?_
    exact W.iret hx hb hr (fun t ht _ => ⟨rfl, by rw [ht]; exact hP9, hAe ▸ hD9, hAe ▸ hS.F ht⟩) (fun q hq => by rw [← hAe]; exact hS.2.2 q hq) dL_power_25
  have hP := sf_P_perm List.perm_append_comm hP
  have hD := sf_D_perm List.perm_append_comm hD
  have hP : va_P (dC, dI) vwCl ([(qo, .inl (cJ, 1, .inr (.inl ov)))] ++ wp_S cI cZ cD cR cB o ra ba sc y) H := hP
  have hD : va_D A ([(qo, .inl (cJ, 1, .inr (.inl ov)))] ++ wp_S cI cZ cD cR cB o ra ba sc y) := hD
  refine sf_ifeq (tgt := 17) hx hb dL_power_10 (by decide) (fun c_1 => ?_) (fun c_1 => ?_)
  · refine lv_lconst (v := 0) hx hb dL_power_17 (by decide) ?_
    refine sf_topl (y := bl ((y.2 g0.toNatClampNeg).2.2.2.2.1 (r0.toNatClampNeg * 5 + fp_col c0))) (by rw [c_1]; rfl) ?_
    refine sf_last hx hb hK hP hD hS 0 5 rfl rfl 0 rfl (by decide) (by decide) dL_power_18 (fun H locs hP hD hS => ?_)
    have hP : va_P (dC, dI) vwCl ([(qo, .inl (cJ, 1, .inr (.inl (va_up ov 0 (bl ((y.2 g0.toNatClampNeg).2.2.2.2.1 (r0.toNatClampNeg * 5 + fp_col c0)))))))] ++ wp_S cI cZ cD cR cB o ra ba sc y) H := hP
    have hD : va_D A ([(qo, .inl (cJ, 1, .inr (.inl (va_up ov 0 (bl ((y.2 g0.toNatClampNeg).2.2.2.2.1 (r0.toNatClampNeg * 5 + fp_col c0)))))))] ++ wp_S cI cZ cD cR cB o ra ba sc y) := hD
    refine lv_goto (tgt := 26) hx hb dL_power_19 (by decide) ?_
    refine lv_iconst (v := 0) hx hb dL_power_26 (by decide) ?_
    have eK := k1_ok hC
    refine sf_topi (y := kc1 (fc_row g0 r0 && fc_btw c0 (-1) 3)) eK.1.symm ?_
    have hP9 : va_P (dC, dI) vwCl ([(qo, .inl (cJ, 1, .inr (.inl (yn1 (fc_row g0 r0 && fc_btw c0 (-1) 3) (va_up ov 0 (bl ((y.2 g0.toNatClampNeg).2.2.2.2.1 (r0.toNatClampNeg * 5 + fp_col c0)))) ov))))] ++ wp_S cI cZ cD cR cB o ra ba sc y) H := by
      rw [eK.2]
      exact hP
    have hD9 : va_D A ([(qo, .inl (cJ, 1, .inr (.inl (yn1 (fc_row g0 r0 && fc_btw c0 (-1) 3) (va_up ov 0 (bl ((y.2 g0.toNatClampNeg).2.2.2.2.1 (r0.toNatClampNeg * 5 + fp_col c0)))) ov))))] ++ wp_S cI cZ cD cR cB o ra ba sc y) := by
      rw [eK.2]
      exact hD
    refine W.widen (k := 1) (n := 6) (Nat.le_of_ble_eq_true rfl) (Nat.le_of_ble_eq_true rfl) ?_
    exact W.iret hx hb hr (fun t ht _ => ⟨rfl, by rw [ht]; exact hP9, hAe ▸ hD9, hAe ▸ hS.F ht⟩) (fun q hq => by rw [← hAe]; exact hS.2.2 q hq) dL_power_27
  · refine lv_lconst (v := 1) hx hb dL_power_13 (by decide) ?_
    refine lv_goto (tgt := 18) hx hb dL_power_14 (by decide) ?_
    refine sf_topl (y := bl ((y.2 g0.toNatClampNeg).2.2.2.2.1 (r0.toNatClampNeg * 5 + fp_col c0))) (by rw [c_1]; rfl) ?_
    refine sf_last hx hb hK hP hD hS 0 5 rfl rfl 0 rfl (by decide) (by decide) dL_power_18 (fun H locs hP hD hS => ?_)
    have hP : va_P (dC, dI) vwCl ([(qo, .inl (cJ, 1, .inr (.inl (va_up ov 0 (bl ((y.2 g0.toNatClampNeg).2.2.2.2.1 (r0.toNatClampNeg * 5 + fp_col c0)))))))] ++ wp_S cI cZ cD cR cB o ra ba sc y) H := hP
    have hD : va_D A ([(qo, .inl (cJ, 1, .inr (.inl (va_up ov 0 (bl ((y.2 g0.toNatClampNeg).2.2.2.2.1 (r0.toNatClampNeg * 5 + fp_col c0)))))))] ++ wp_S cI cZ cD cR cB o ra ba sc y) := hD
    refine lv_goto (tgt := 26) hx hb dL_power_19 (by decide) ?_
    refine lv_iconst (v := 0) hx hb dL_power_26 (by decide) ?_
    have eK := k1_ok hC
    refine sf_topi (y := kc1 (fc_row g0 r0 && fc_btw c0 (-1) 3)) eK.1.symm ?_
    have hP9 : va_P (dC, dI) vwCl ([(qo, .inl (cJ, 1, .inr (.inl (yn1 (fc_row g0 r0 && fc_btw c0 (-1) 3) (va_up ov 0 (bl ((y.2 g0.toNatClampNeg).2.2.2.2.1 (r0.toNatClampNeg * 5 + fp_col c0)))) ov))))] ++ wp_S cI cZ cD cR cB o ra ba sc y) H := by
      rw [eK.2]
      exact hP
    have hD9 : va_D A ([(qo, .inl (cJ, 1, .inr (.inl (yn1 (fc_row g0 r0 && fc_btw c0 (-1) 3) (va_up ov 0 (bl ((y.2 g0.toNatClampNeg).2.2.2.2.1 (r0.toNatClampNeg * 5 + fp_col c0)))) ov))))] ++ wp_S cI cZ cD cR cB o ra ba sc y) := by
      rw [eK.2]
      exact hD
    refine W.widen (k := 1) (n := 6) (Nat.le_of_ble_eq_true rfl) (Nat.le_of_ble_eq_true rfl) ?_
    exact W.iret hx hb hr (fun t ht _ => ⟨rfl, by rw [ht]; exact hP9, hAe ▸ hD9, hAe ▸ hS.F ht⟩) (fun q hq => by rw [← hAe]; exact hS.2.2 q hq) dL_power_27
set_option maxHeartbeats 4000000 in
set_option maxRecDepth 100000 in
theorem c_L_told (l : Launch) (hlt : l.stackTraces = false) (sx : Nat → Nat) (dC : Nat → ClassId) (dI : Nat → Nat → Nat) (cI cZ cD cR cB : ClassId) (o : Nat → Nat) (ra : Nat → Nat → Nat) (ba : Nat → Nat) (sc : Int32) (y : st_Y) (cJ : ClassId) (qo : Nat) (ov : Nat → Int64) (k0 w0 : Int32) (sz : Nat)  : Met l yL_told wL_told ({ frames := 8, cells := 2, slots := 12, locals := 124 }) (sf_PL (dC, dI) vwCl [(cI, .int), (cZ, .boolean), (cD, .double), (cR, .object RX1), (cB, .object RX0), (cJ, .long)] sx ([(qo, .inl (cJ, 1, .inr (.inl ov)))] ++ wp_S cI cZ cD cR cB o ra ba sc y) sz [.ref (o 0), .int k0, .int w0, .ref qo]) (sf_V (dC, dI) vwCl (some (.int (kc2 (fc_btw w0 0 4) (fc_ix k0 8)))) ([(qo, .inl (cJ, 1, .inr (.inl ov)))] ++ wp_S cI cZ cD cR cB o ra ba sc y) ([(qo, .inl (cJ, 1, .inr (.inl (yn2 (fc_btw w0 0 4) (fc_ix k0 8) (va_up ov 0 ((fb_tell (y.1.2.2.1 k0.toNatClampNeg) w0).toInt64)) ov))))] ++ wp_S cI cZ cD cR cB o ra ba sc y)) 2 12 (va_A ([(qo, .inl (cJ, 1, .inr (.inl ov)))] ++ wp_S cI cZ cD cR cB o ra ba sc y) sz) := by
  refine va_MetW (hh := [(0, 10, 13, 13), (0, 10, 17, 15)]) (cc := cL_told) (maxL := 5) (ret := (some .int)) (by decide) rfl ?_
  intro p e s m args below meth c s₁ B hml hv
  have hx := B.exec
  have hb := B.bytes
  have hr := B.returns
  have hts := atoms_spec (ws := wL_told) B.pre
  have hg : ∀ w ∈ gw_all, w.before args s = true := fun w h => hts w (List.mem_cons_of_mem _ h)
  have hown : s.vm.findClass RL = some m.cls := findClass_of_methodNamed B.named
  have hlocks := B.notSynchronized
  obtain ⟨rfl, ⟨hsz, hP, hD0, hK, hZ, hE⟩, hN⟩ := hv
  subst hsz
  have htb := vx_table (x := yL_told) B (hts _ List.mem_cons_self)
  have hl := lv_entry ([.ref (o 0), .int k0, .int w0, .ref qo]) (n := 5) (Nat.le_of_ble_eq_true rfl)
  rw [lg_entry_eq]
  generalize (lg_sl ([.ref (o 0), .int k0, .int w0, .ref qo]) ++ List.replicate (5 - (lg_sl ([.ref (o 0), .int k0, .int w0, .ref qo])).length) Slot.unset).toArray = ls at hl ⊢
  have hl : lv_has ls 5 [(0, .ref (o 0)), (1, .int k0), (2, .int w0), (3, .ref qo)] := hl
  obtain ⟨A, hAe⟩ : ∃ A : Nat → Prop, A = va_A ([(qo, .inl (cJ, 1, .inr (.inl ov)))] ++ wp_S cI cZ cD cR cB o ra ba sc y) s.heap.size := ⟨_, rfl⟩
  have hD := hD0.self (sz := s.heap.size)
  rw [← hAe] at hD hE
  have hA : ∀ q : Nat, s.heap.size ≤ q → A q := fun q h => by rw [hAe]; exact Or.inr h
  have hS : va_S A s.heap s.heap [] := va_S.rf
  have hP : va_P (dC, dI) vwCl ([(qo, .inl (cJ, 1, .inr (.inl ov)))] ++ wp_S cI cZ cD cR cB o ra ba sc y) s.heap := hP
  have hD : va_D A ([(qo, .inl (cJ, 1, .inr (.inl ov)))] ++ wp_S cI cZ cD cR cB o ra ba sc y) := hD
  refine lv_aload_n hx hb dL_told_0 rfl (lv_at hl 3 rfl) ?_
  refine lv_iconst (v := 0) hx hb dL_told_1 (by decide) ?_
  refine lv_aload_n hx hb dL_told_2 rfl (lv_at hl 0 rfl) ?_
  refine lv_iload_n hx hb dL_told_3 rfl (lv_at hl 1 rfl) ?_
  refine lv_iload_n hx hb dL_told_4 rfl (lv_at hl 2 rfl) ?_
  have hPc : va_P (dC, dI) vwCl (wp_S cI cZ cD cR cB o ra ba sc y ++ [(qo, .inl (cJ, 1, .inr (.inl ov)))]) s.heap := sf_P_perm List.perm_append_comm hP
  have hDc : va_D A (wp_S cI cZ cD cR cB o ra ba sc y ++ [(qo, .inl (cJ, 1, .inr (.inl ov)))]) := sf_D_perm List.perm_append_comm hD
  refine sf_callXV (vx_runV (As := [.int k0, .int w0]) (rest := [.int 0, .ref qo]) ⟨hx, hb, hml, hown, hg⟩ (c_X2_told l hlt sx dC dI cI cZ cD cR cB o ra ba sc y k0 w0 _ ) (cwV 2 hg (gw_V mw_474 mw_475 mw_476 mw_21 mw_477) rfl rfl rfl (by decide +kernel) ⟨Nat.le_of_ble_eq_true rfl, Nat.le_of_ble_eq_true rfl⟩) (sf_preX (va_recv hK hP (ci := 2) (q0 := 1) rfl rfl) (hK.sub [0, 1, 2, 3, 4] rfl) hZ hPc hDc hE hS hA) rfl rfl hl.1 rfl (lv_room (Nat.le_of_ble_eq_true rfl)) dL_told_5 ⟨Nat.le_of_ble_eq_true rfl, Nat.le_of_ble_eq_true rfl⟩) hS hPc hDc hA (fun E hE9 ce q9 H locs hP hD hS hce hcv hcl => ?_) (fun hC H locs hP hD hS => ?_)
  · have hP := sf_P_perm List.perm_append_comm hP
    have hD := sf_D_perm List.perm_append_comm hD
    have hP : va_P (dC, dI) vwCl ([(qo, .inl (cJ, 1, .inr (.inl ov)))] ++ wp_S cI cZ cD cR cB o ra ba sc y) H := hP
    have hD : va_D A ([(qo, .inl (cJ, 1, .inr (.inl ov)))] ++ wp_S cI cZ cD cR cB o ra ba sc y) := hD
    rcases hE9 with ⟨h1, rfl⟩ | ⟨h1, h2, rfl⟩
    · refine vx_catch (name := ex_I) hown [] ⟨0, 10, 13, 13⟩ [⟨0, 10, 17, 15⟩] htb (fun z hz => nomatch hz) (by decide) (by decide) (hg _ mw_148) (ex_c hE.1 (List.mem_of_getElem? (i := 3) rfl)) hce hcv hcl ?_
      refine lv_astore (lv' := [(4, .ref q9), (0, .ref (o 0)), (1, .int k0), (2, .int w0), (3, .ref qo)]) hx hb dL_told_13 hl (by decide) rfl (fun ls hl => ?_)
      refine lv_iconst (v := 1) hx hb dL_told_15 (by decide) ?_
      have eK := k2_1 h1
      refine sf_topi (y := kc2 (fc_btw w0 0 4) (fc_ix k0 8)) eK.1.symm ?_
      have hP9 : va_P (dC, dI) vwCl ([(qo, .inl (cJ, 1, .inr (.inl (yn2 (fc_btw w0 0 4) (fc_ix k0 8) (va_up ov 0 ((fb_tell (y.1.2.2.1 k0.toNatClampNeg) w0).toInt64)) ov))))] ++ wp_S cI cZ cD cR cB o ra ba sc y) H := by
        rw [eK.2]
        exact hP
      have hD9 : va_D A ([(qo, .inl (cJ, 1, .inr (.inl (yn2 (fc_btw w0 0 4) (fc_ix k0 8) (va_up ov 0 ((fb_tell (y.1.2.2.1 k0.toNatClampNeg) w0).toInt64)) ov))))] ++ wp_S cI cZ cD cR cB o ra ba sc y) := by
        rw [eK.2]
        exact hD
      refine W.widen (k := 2) (n := 12) (Nat.le_of_ble_eq_true rfl) (Nat.le_of_ble_eq_true rfl) ?_
      exact W.iret hx hb hr (fun t ht _ => ⟨rfl, by rw [ht]; exact hP9, hAe ▸ hD9, hAe ▸ hS.F ht⟩) (fun q hq => by rw [← hAe]; exact hS.2.2 q hq) dL_told_16
    · refine vx_catch (name := ex_O) hown [⟨0, 10, 13, 13⟩] ⟨0, 10, 17, 15⟩ [] htb (fun z hz => by rw [List.mem_singleton.mp hz]; exact Or.inr ⟨by decide, ex_I, hg _ mw_148, hN.1⟩) (by decide) (by decide) (hg _ mw_149) (ex_c hE.1 (List.mem_of_getElem? (i := 4) rfl)) hce hcv hcl ?_
      refine lv_astore (lv' := [(4, .ref q9), (0, .ref (o 0)), (1, .int k0), (2, .int w0), (3, .ref qo)]) hx hb dL_told_17 hl (by decide) rfl (fun ls hl => ?_)
      refine lv_iconst (v := 2) hx hb dL_told_19 (by decide) ?_
      have eK := k2_2 h1 h2
      refine sf_topi (y := kc2 (fc_btw w0 0 4) (fc_ix k0 8)) eK.1.symm ?_
      have hP9 : va_P (dC, dI) vwCl ([(qo, .inl (cJ, 1, .inr (.inl (yn2 (fc_btw w0 0 4) (fc_ix k0 8) (va_up ov 0 ((fb_tell (y.1.2.2.1 k0.toNatClampNeg) w0).toInt64)) ov))))] ++ wp_S cI cZ cD cR cB o ra ba sc y) H := by
        rw [eK.2]
        exact hP
      have hD9 : va_D A ([(qo, .inl (cJ, 1, .inr (.inl (yn2 (fc_btw w0 0 4) (fc_ix k0 8) (va_up ov 0 ((fb_tell (y.1.2.2.1 k0.toNatClampNeg) w0).toInt64)) ov))))] ++ wp_S cI cZ cD cR cB o ra ba sc y) := by
        rw [eK.2]
        exact hD
      refine W.widen (k := 2) (n := 12) (Nat.le_of_ble_eq_true rfl) (Nat.le_of_ble_eq_true rfl) ?_
      exact W.iret hx hb hr (fun t ht _ => ⟨rfl, by rw [ht]; exact hP9, hAe ▸ hD9, hAe ▸ hS.F ht⟩) (fun q hq => by rw [← hAe]; exact hS.2.2 q hq) dL_told_20
  have hP := sf_P_perm List.perm_append_comm hP
  have hD := sf_D_perm List.perm_append_comm hD
  have hP : va_P (dC, dI) vwCl ([(qo, .inl (cJ, 1, .inr (.inl ov)))] ++ wp_S cI cZ cD cR cB o ra ba sc y) H := hP
  have hD : va_D A ([(qo, .inl (cJ, 1, .inr (.inl ov)))] ++ wp_S cI cZ cD cR cB o ra ba sc y) := hD
  refine lv_i2l hx hb dL_told_8 rfl ?_
  refine sf_last hx hb hK hP hD hS 0 5 rfl rfl 0 rfl (by decide) (by decide) dL_told_9 (fun H locs hP hD hS => ?_)
  have hP : va_P (dC, dI) vwCl ([(qo, .inl (cJ, 1, .inr (.inl (va_up ov 0 ((fb_tell (y.1.2.2.1 k0.toNatClampNeg) w0).toInt64)))))] ++ wp_S cI cZ cD cR cB o ra ba sc y) H := hP
  have hD : va_D A ([(qo, .inl (cJ, 1, .inr (.inl (va_up ov 0 ((fb_tell (y.1.2.2.1 k0.toNatClampNeg) w0).toInt64)))))] ++ wp_S cI cZ cD cR cB o ra ba sc y) := hD
  refine lv_goto (tgt := 21) hx hb dL_told_10 (by decide) ?_
  refine lv_iconst (v := 0) hx hb dL_told_21 (by decide) ?_
  have eK := k2_ok hC
  refine sf_topi (y := kc2 (fc_btw w0 0 4) (fc_ix k0 8)) eK.1.symm ?_
  have hP9 : va_P (dC, dI) vwCl ([(qo, .inl (cJ, 1, .inr (.inl (yn2 (fc_btw w0 0 4) (fc_ix k0 8) (va_up ov 0 ((fb_tell (y.1.2.2.1 k0.toNatClampNeg) w0).toInt64)) ov))))] ++ wp_S cI cZ cD cR cB o ra ba sc y) H := by
    rw [eK.2]
    exact hP
  have hD9 : va_D A ([(qo, .inl (cJ, 1, .inr (.inl (yn2 (fc_btw w0 0 4) (fc_ix k0 8) (va_up ov 0 ((fb_tell (y.1.2.2.1 k0.toNatClampNeg) w0).toInt64)) ov))))] ++ wp_S cI cZ cD cR cB o ra ba sc y) := by
    rw [eK.2]
    exact hD
  refine W.widen (k := 2) (n := 12) (Nat.le_of_ble_eq_true rfl) (Nat.le_of_ble_eq_true rfl) ?_
  exact W.iret hx hb hr (fun t ht _ => ⟨rfl, by rw [ht]; exact hP9, hAe ▸ hD9, hAe ▸ hS.F ht⟩) (fun q hq => by rw [← hAe]; exact hS.2.2 q hq) dL_told_22
set_option maxHeartbeats 4000000 in
set_option maxRecDepth 100000 in
theorem c_L_count (l : Launch) (hlt : l.stackTraces = false) (sx : Nat → Nat) (dC : Nat → ClassId) (dI : Nat → Nat → Nat) (cI cZ cD cR cB : ClassId) (o : Nat → Nat) (ra : Nat → Nat → Nat) (ba : Nat → Nat) (sc : Int32) (y : st_Y) (cJ : ClassId) (qo : Nat) (ov : Nat → Int64) (w0 : Int32) (sz : Nat)  : Met l yL_count wL_count ({ frames := 8, cells := 1, slots := 6, locals := 123 }) (sf_PL (dC, dI) vwCl [(cI, .int), (cZ, .boolean), (cD, .double), (cR, .object RX1), (cB, .object RX0), (cJ, .long)] sx ([(qo, .inl (cJ, 1, .inr (.inl ov)))] ++ wp_S cI cZ cD cR cB o ra ba sc y) sz [.ref (o 0), .int w0, .ref qo]) (sf_V (dC, dI) vwCl (some (.int (kc1 (fc_btw w0 0 3)))) ([(qo, .inl (cJ, 1, .inr (.inl ov)))] ++ wp_S cI cZ cD cR cB o ra ba sc y) ([(qo, .inl (cJ, 1, .inr (.inl (yn1 (fc_btw w0 0 3) (va_up ov 0 ((fp_count y sc w0).toInt64)) ov))))] ++ wp_S cI cZ cD cR cB o ra ba sc y)) 1 6 (va_A ([(qo, .inl (cJ, 1, .inr (.inl ov)))] ++ wp_S cI cZ cD cR cB o ra ba sc y) sz) := by
  refine va_MetW (hh := [(0, 9, 12, 13)]) (cc := cL_count) (maxL := 4) (ret := (some .int)) (by decide) rfl ?_
  intro p e s m args below meth c s₁ B hml hv
  have hx := B.exec
  have hb := B.bytes
  have hr := B.returns
  have hts := atoms_spec (ws := wL_count) B.pre
  have hg : ∀ w ∈ gw_all, w.before args s = true := fun w h => hts w (List.mem_cons_of_mem _ h)
  have hown : s.vm.findClass RL = some m.cls := findClass_of_methodNamed B.named
  have hlocks := B.notSynchronized
  obtain ⟨rfl, ⟨hsz, hP, hD0, hK, hZ, hE⟩, hN⟩ := hv
  subst hsz
  have htb := vx_table (x := yL_count) B (hts _ List.mem_cons_self)
  have hl := lv_entry ([.ref (o 0), .int w0, .ref qo]) (n := 4) (Nat.le_of_ble_eq_true rfl)
  rw [lg_entry_eq]
  generalize (lg_sl ([.ref (o 0), .int w0, .ref qo]) ++ List.replicate (4 - (lg_sl ([.ref (o 0), .int w0, .ref qo])).length) Slot.unset).toArray = ls at hl ⊢
  have hl : lv_has ls 4 [(0, .ref (o 0)), (1, .int w0), (2, .ref qo)] := hl
  obtain ⟨A, hAe⟩ : ∃ A : Nat → Prop, A = va_A ([(qo, .inl (cJ, 1, .inr (.inl ov)))] ++ wp_S cI cZ cD cR cB o ra ba sc y) s.heap.size := ⟨_, rfl⟩
  have hD := hD0.self (sz := s.heap.size)
  rw [← hAe] at hD hE
  have hA : ∀ q : Nat, s.heap.size ≤ q → A q := fun q h => by rw [hAe]; exact Or.inr h
  have hS : va_S A s.heap s.heap [] := va_S.rf
  have hP : va_P (dC, dI) vwCl ([(qo, .inl (cJ, 1, .inr (.inl ov)))] ++ wp_S cI cZ cD cR cB o ra ba sc y) s.heap := hP
  have hD : va_D A ([(qo, .inl (cJ, 1, .inr (.inl ov)))] ++ wp_S cI cZ cD cR cB o ra ba sc y) := hD
  refine lv_aload_n hx hb dL_count_0 rfl (lv_at hl 2 rfl) ?_
  refine lv_iconst (v := 0) hx hb dL_count_1 (by decide) ?_
  refine lv_aload_n hx hb dL_count_2 rfl (lv_at hl 0 rfl) ?_
  refine lv_iload_n hx hb dL_count_3 rfl (lv_at hl 1 rfl) ?_
  have hPc : va_P (dC, dI) vwCl (wp_S cI cZ cD cR cB o ra ba sc y ++ [(qo, .inl (cJ, 1, .inr (.inl ov)))]) s.heap := sf_P_perm List.perm_append_comm hP
  have hDc : va_D A (wp_S cI cZ cD cR cB o ra ba sc y ++ [(qo, .inl (cJ, 1, .inr (.inl ov)))]) := sf_D_perm List.perm_append_comm hD
  refine sf_callXV (vx_runV (As := [.int w0]) (rest := [.int 0, .ref qo]) ⟨hx, hb, hml, hown, hg⟩ (c_X2_count l hlt sx dC dI cI cZ cD cR cB o ra ba sc y w0 _ ) (cwV 1 hg (gw_V mw_485 mw_486 mw_487 mw_21 mw_488) rfl rfl rfl (by decide +kernel) ⟨Nat.le_of_ble_eq_true rfl, Nat.le_of_ble_eq_true rfl⟩) (sf_preX (va_recv hK hP (ci := 2) (q0 := 1) rfl rfl) (hK.sub [0, 1, 2, 3, 4] rfl) hZ hPc hDc hE hS hA) rfl rfl hl.1 rfl (lv_room (Nat.le_of_ble_eq_true rfl)) dL_count_4 ⟨Nat.le_of_ble_eq_true rfl, Nat.le_of_ble_eq_true rfl⟩) hS hPc hDc hA (fun E hE9 ce q9 H locs hP hD hS hce hcv hcl => ?_) (fun hC H locs hP hD hS => ?_)
  · have hP := sf_P_perm List.perm_append_comm hP
    have hD := sf_D_perm List.perm_append_comm hD
    have hP : va_P (dC, dI) vwCl ([(qo, .inl (cJ, 1, .inr (.inl ov)))] ++ wp_S cI cZ cD cR cB o ra ba sc y) H := hP
    have hD : va_D A ([(qo, .inl (cJ, 1, .inr (.inl ov)))] ++ wp_S cI cZ cD cR cB o ra ba sc y) := hD
    obtain ⟨h1, rfl⟩ := hE9
    refine vx_catch (name := ex_I) hown [] ⟨0, 9, 12, 13⟩ [] htb (fun z hz => nomatch hz) (by decide) (by decide) (hg _ mw_148) (ex_c hE.1 (List.mem_of_getElem? (i := 3) rfl)) hce hcv hcl ?_
    refine lv_astore_n (lv' := [(3, .ref q9), (0, .ref (o 0)), (1, .int w0), (2, .ref qo)]) hx hb dL_count_12 rfl hl (by decide) rfl (fun ls hl => ?_)
    refine lv_iconst (v := 1) hx hb dL_count_13 (by decide) ?_
    have eK := k1_1 h1
    refine sf_topi (y := kc1 (fc_btw w0 0 3)) eK.1.symm ?_
    have hP9 : va_P (dC, dI) vwCl ([(qo, .inl (cJ, 1, .inr (.inl (yn1 (fc_btw w0 0 3) (va_up ov 0 ((fp_count y sc w0).toInt64)) ov))))] ++ wp_S cI cZ cD cR cB o ra ba sc y) H := by
      rw [eK.2]
      exact hP
    have hD9 : va_D A ([(qo, .inl (cJ, 1, .inr (.inl (yn1 (fc_btw w0 0 3) (va_up ov 0 ((fp_count y sc w0).toInt64)) ov))))] ++ wp_S cI cZ cD cR cB o ra ba sc y) := by
      rw [eK.2]
      exact hD
    refine W.widen (k := 1) (n := 6) (Nat.le_of_ble_eq_true rfl) (Nat.le_of_ble_eq_true rfl) ?_
    exact W.iret hx hb hr (fun t ht _ => ⟨rfl, by rw [ht]; exact hP9, hAe ▸ hD9, hAe ▸ hS.F ht⟩) (fun q hq => by rw [← hAe]; exact hS.2.2 q hq) dL_count_14
  have hP := sf_P_perm List.perm_append_comm hP
  have hD := sf_D_perm List.perm_append_comm hD
  have hP : va_P (dC, dI) vwCl ([(qo, .inl (cJ, 1, .inr (.inl ov)))] ++ wp_S cI cZ cD cR cB o ra ba sc y) H := hP
  have hD : va_D A ([(qo, .inl (cJ, 1, .inr (.inl ov)))] ++ wp_S cI cZ cD cR cB o ra ba sc y) := hD
  refine lv_i2l hx hb dL_count_7 rfl ?_
  refine sf_last hx hb hK hP hD hS 0 5 rfl rfl 0 rfl (by decide) (by decide) dL_count_8 (fun H locs hP hD hS => ?_)
  have hP : va_P (dC, dI) vwCl ([(qo, .inl (cJ, 1, .inr (.inl (va_up ov 0 ((fp_count y sc w0).toInt64)))))] ++ wp_S cI cZ cD cR cB o ra ba sc y) H := hP
  have hD : va_D A ([(qo, .inl (cJ, 1, .inr (.inl (va_up ov 0 ((fp_count y sc w0).toInt64)))))] ++ wp_S cI cZ cD cR cB o ra ba sc y) := hD
  refine lv_goto (tgt := 15) hx hb dL_count_9 (by decide) ?_
  refine lv_iconst (v := 0) hx hb dL_count_15 (by decide) ?_
  have eK := k1_ok hC
  refine sf_topi (y := kc1 (fc_btw w0 0 3)) eK.1.symm ?_
  have hP9 : va_P (dC, dI) vwCl ([(qo, .inl (cJ, 1, .inr (.inl (yn1 (fc_btw w0 0 3) (va_up ov 0 ((fp_count y sc w0).toInt64)) ov))))] ++ wp_S cI cZ cD cR cB o ra ba sc y) H := by
    rw [eK.2]
    exact hP
  have hD9 : va_D A ([(qo, .inl (cJ, 1, .inr (.inl (yn1 (fc_btw w0 0 3) (va_up ov 0 ((fp_count y sc w0).toInt64)) ov))))] ++ wp_S cI cZ cD cR cB o ra ba sc y) := by
    rw [eK.2]
    exact hD
  refine W.widen (k := 1) (n := 6) (Nat.le_of_ble_eq_true rfl) (Nat.le_of_ble_eq_true rfl) ?_
  exact W.iret hx hb hr (fun t ht _ => ⟨rfl, by rw [ht]; exact hP9, hAe ▸ hD9, hAe ▸ hS.F ht⟩) (fun q hq => by rw [← hAe]; exact hS.2.2 q hq) dL_count_16
set_option maxHeartbeats 4000000 in
set_option maxRecDepth 100000 in
theorem c_L_scan (l : Launch) (hlt : l.stackTraces = false) (sx : Nat → Nat) (dC : Nat → ClassId) (dI : Nat → Nat → Nat) (cI cZ cD cR cB : ClassId) (o : Nat → Nat) (ra : Nat → Nat → Nat) (ba : Nat → Nat) (sc : Int32) (y : st_Y) (cJ : ClassId) (qo : Nat) (ov : Nat → Int64) (n0 : Int32) (sz : Nat) (hy9 : ok_Y y) : Met l yL_scan wL_scan ({ frames := 8, cells := 2, slots := 12, locals := 161 }) (sf_PL (dC, dI) vwCl [(cI, .int), (cZ, .boolean), (cD, .double), (cR, .object RX1), (cB, .object RX0), (cJ, .long)] sx ([(qo, .inl (cJ, 1, .inr (.inl ov)))] ++ wp_S cI cZ cD cR cB o ra ba sc y) sz [.ref (o 0), .int n0, .ref qo]) (sf_V (dC, dI) vwCl (some (.int (kcs n0 (sc, y)))) ([(qo, .inl (cJ, 1, .inr (.inl ov)))] ++ wp_S cI cZ cD cR cB o ra ba sc y) ([(qo, .inl (cJ, 1, .inr (.inl (yns (kcs n0 (sc, y)) (va_up ov 0 (((fp_scanY n0 (sc, y)).1).toInt64)) ov))))] ++ wp_S cI cZ cD cR cB o ra ba ((fp_scanY n0 (sc, y)).1) ((fp_scanY n0 (sc, y)).2))) 2 12 (va_A ([(qo, .inl (cJ, 1, .inr (.inl ov)))] ++ wp_S cI cZ cD cR cB o ra ba sc y) sz) := by
  refine va_MetW (hh := [(0, 9, 12, 13), (0, 9, 15, 44), (0, 9, 18, 46)]) (cc := cL_scan) (maxL := 4) (ret := (some .int)) (by decide) rfl ?_
  intro p e s m args below meth c s₁ B hml hv
  have hx := B.exec
  have hb := B.bytes
  have hr := B.returns
  have hts := atoms_spec (ws := wL_scan) B.pre
  have hg : ∀ w ∈ gw_all, w.before args s = true := fun w h => hts w (List.mem_cons_of_mem _ h)
  have hown : s.vm.findClass RL = some m.cls := findClass_of_methodNamed B.named
  have hlocks := B.notSynchronized
  obtain ⟨rfl, ⟨hsz, hP, hD0, hK, hZ, hE⟩, hN⟩ := hv
  subst hsz
  have htb := vx_table (x := yL_scan) B (hts _ List.mem_cons_self)
  have hl := lv_entry ([.ref (o 0), .int n0, .ref qo]) (n := 4) (Nat.le_of_ble_eq_true rfl)
  rw [lg_entry_eq]
  generalize (lg_sl ([.ref (o 0), .int n0, .ref qo]) ++ List.replicate (4 - (lg_sl ([.ref (o 0), .int n0, .ref qo])).length) Slot.unset).toArray = ls at hl ⊢
  have hl : lv_has ls 4 [(0, .ref (o 0)), (1, .int n0), (2, .ref qo)] := hl
  obtain ⟨A, hAe⟩ : ∃ A : Nat → Prop, A = va_A ([(qo, .inl (cJ, 1, .inr (.inl ov)))] ++ wp_S cI cZ cD cR cB o ra ba sc y) s.heap.size := ⟨_, rfl⟩
  have hD := hD0.self (sz := s.heap.size)
  rw [← hAe] at hD hE
  have hA : ∀ q : Nat, s.heap.size ≤ q → A q := fun q h => by rw [hAe]; exact Or.inr h
  have hS : va_S A s.heap s.heap [] := va_S.rf
  have hP : va_P (dC, dI) vwCl ([(qo, .inl (cJ, 1, .inr (.inl ov)))] ++ wp_S cI cZ cD cR cB o ra ba sc y) s.heap := hP
  have hD : va_D A ([(qo, .inl (cJ, 1, .inr (.inl ov)))] ++ wp_S cI cZ cD cR cB o ra ba sc y) := hD
  refine lv_aload_n hx hb dL_scan_0 rfl (lv_at hl 2 rfl) ?_
  refine lv_iconst (v := 0) hx hb dL_scan_1 (by decide) ?_
  refine lv_aload_n hx hb dL_scan_2 rfl (lv_at hl 0 rfl) ?_
  refine lv_iload_n hx hb dL_scan_3 rfl (lv_at hl 1 rfl) ?_
  have hPc : va_P (dC, dI) vwCl (wp_S cI cZ cD cR cB o ra ba sc y ++ [(qo, .inl (cJ, 1, .inr (.inl ov)))]) s.heap := sf_P_perm List.perm_append_comm hP
  have hDc : va_D A (wp_S cI cZ cD cR cB o ra ba sc y ++ [(qo, .inl (cJ, 1, .inr (.inl ov)))]) := sf_D_perm List.perm_append_comm hD
  refine sf_callXV (vx_runV (As := [.int n0]) (rest := [.int 0, .ref qo]) ⟨hx, hb, hml, hown, hg⟩ (c_X2_scan l hlt sx dC dI cI cZ cD cR cB o ra ba sc y n0 _ hy9) (cwV 1 hg (gw_V mw_349 mw_350 mw_351 mw_21 mw_352) rfl rfl rfl (by decide +kernel) ⟨Nat.le_of_ble_eq_true rfl, Nat.le_of_ble_eq_true rfl⟩) (sf_preX (va_recv hK hP (ci := 2) (q0 := 1) rfl rfl) (hK.sub [0, 1, 2, 3, 4] rfl) hZ hPc hDc hE hS hA) rfl rfl hl.1 rfl (lv_room (Nat.le_of_ble_eq_true rfl)) dL_scan_4 ⟨Nat.le_of_ble_eq_true rfl, Nat.le_of_ble_eq_true rfl⟩) hS hPc hDc hA (fun E hE9 ce q9 H locs hP hD hS hce hcv hcl => ?_) (fun hC H locs hP hD hS => ?_)
  · have hP := sf_P_perm List.perm_append_comm hP
    have hD := sf_D_perm List.perm_append_comm hD
    have hP : va_P (dC, dI) vwCl ([(qo, .inl (cJ, 1, .inr (.inl ov)))] ++ wp_S cI cZ cD cR cB o ra ba ((fp_scanY n0 (sc, y)).1) ((fp_scanY n0 (sc, y)).2)) H := hP
    have hD : va_D A ([(qo, .inl (cJ, 1, .inr (.inl ov)))] ++ wp_S cI cZ cD cR cB o ra ba ((fp_scanY n0 (sc, y)).1) ((fp_scanY n0 (sc, y)).2)) := hD
    rcases hE9 with ⟨h1, rfl⟩ | ⟨h1, h2, rfl⟩ | ⟨h1, h2, h3, rfl⟩
    · refine vx_catch (name := ex_I) hown [] ⟨0, 9, 12, 13⟩ [⟨0, 9, 15, 44⟩, ⟨0, 9, 18, 46⟩] htb (fun z hz => nomatch hz) (by decide) (by decide) (hg _ mw_148) (ex_c hE.1 (List.mem_of_getElem? (i := 3) rfl)) hce hcv hcl ?_
      refine lv_astore_n (lv' := [(3, .ref q9), (0, .ref (o 0)), (1, .int n0), (2, .ref qo)]) hx hb dL_scan_12 rfl hl (by decide) rfl (fun ls hl => ?_)
      refine lv_iconst (v := 1) hx hb dL_scan_13 (by decide) ?_
      have eK := ks_1 h1
      refine sf_topi (y := kcs n0 (sc, y)) eK.1.symm ?_
      have hP9 : va_P (dC, dI) vwCl ([(qo, .inl (cJ, 1, .inr (.inl (yns (kcs n0 (sc, y)) (va_up ov 0 (((fp_scanY n0 (sc, y)).1).toInt64)) ov))))] ++ wp_S cI cZ cD cR cB o ra ba ((fp_scanY n0 (sc, y)).1) ((fp_scanY n0 (sc, y)).2)) H := by
        rw [eK.2]
        exact hP
      have hD9 : va_D A ([(qo, .inl (cJ, 1, .inr (.inl (yns (kcs n0 (sc, y)) (va_up ov 0 (((fp_scanY n0 (sc, y)).1).toInt64)) ov))))] ++ wp_S cI cZ cD cR cB o ra ba ((fp_scanY n0 (sc, y)).1) ((fp_scanY n0 (sc, y)).2)) := by
        rw [eK.2]
        exact hD
      refine W.widen (k := 2) (n := 12) (Nat.le_of_ble_eq_true rfl) (Nat.le_of_ble_eq_true rfl) ?_
      exact W.iret hx hb hr (fun t ht _ => ⟨rfl, by rw [ht]; exact hP9, hAe ▸ hD9, hAe ▸ hS.F ht⟩) (fun q hq => by rw [← hAe]; exact hS.2.2 q hq) dL_scan_14
    · refine vx_catch (name := ex_S) hown [⟨0, 9, 12, 13⟩] ⟨0, 9, 15, 44⟩ [⟨0, 9, 18, 46⟩] htb (fun z hz => by rw [List.mem_singleton.mp hz]; exact Or.inr ⟨by decide, ex_I, hg _ mw_148, hN.2.1⟩) (by decide) (by decide) (hg _ mw_347) (ex_c hE.1 (List.mem_of_getElem? (i := 5) rfl)) hce hcv hcl ?_
      refine lv_astore_n (lv' := [(3, .ref q9), (0, .ref (o 0)), (1, .int n0), (2, .ref qo)]) hx hb dL_scan_15 rfl hl (by decide) rfl (fun ls hl => ?_)
      refine lv_iconst (v := 2) hx hb dL_scan_16 (by decide) ?_
      have eK := ks_2 h1 h2
      refine sf_topi (y := kcs n0 (sc, y)) eK.1.symm ?_
      have hP9 : va_P (dC, dI) vwCl ([(qo, .inl (cJ, 1, .inr (.inl (yns (kcs n0 (sc, y)) (va_up ov 0 (((fp_scanY n0 (sc, y)).1).toInt64)) ov))))] ++ wp_S cI cZ cD cR cB o ra ba ((fp_scanY n0 (sc, y)).1) ((fp_scanY n0 (sc, y)).2)) H := by
        rw [eK.2]
        exact hP
      have hD9 : va_D A ([(qo, .inl (cJ, 1, .inr (.inl (yns (kcs n0 (sc, y)) (va_up ov 0 (((fp_scanY n0 (sc, y)).1).toInt64)) ov))))] ++ wp_S cI cZ cD cR cB o ra ba ((fp_scanY n0 (sc, y)).1) ((fp_scanY n0 (sc, y)).2)) := by
        rw [eK.2]
        exact hD
      refine W.widen (k := 2) (n := 12) (Nat.le_of_ble_eq_true rfl) (Nat.le_of_ble_eq_true rfl) ?_
      exact W.iret hx hb hr (fun t ht _ => ⟨rfl, by rw [ht]; exact hP9, hAe ▸ hD9, hAe ▸ hS.F ht⟩) (fun q hq => by rw [← hAe]; exact hS.2.2 q hq) dL_scan_17
    · refine vx_catch (name := ex_A) hown [⟨0, 9, 12, 13⟩, ⟨0, 9, 15, 44⟩] ⟨0, 9, 18, 46⟩ [] htb (fun z hz => by rcases List.mem_cons.mp hz with hz | hz; exact hz ▸ Or.inr ⟨by decide, ex_I, hg _ mw_148, hN.2.2.1⟩; rw [List.mem_singleton.mp hz]; exact Or.inr ⟨by decide, ex_S, hg _ mw_347, hN.2.2.2⟩) (by decide) (by decide) (hg _ mw_348) (ex_c hE.1 (List.mem_of_getElem? (i := 6) rfl)) hce hcv hcl ?_
      refine lv_astore_n (lv' := [(3, .ref q9), (0, .ref (o 0)), (1, .int n0), (2, .ref qo)]) hx hb dL_scan_18 rfl hl (by decide) rfl (fun ls hl => ?_)
      refine lv_iconst (v := 3) hx hb dL_scan_19 (by decide) ?_
      have eK := ks_3 h1 h2 h3
      refine sf_topi (y := kcs n0 (sc, y)) eK.1.symm ?_
      have hP9 : va_P (dC, dI) vwCl ([(qo, .inl (cJ, 1, .inr (.inl (yns (kcs n0 (sc, y)) (va_up ov 0 (((fp_scanY n0 (sc, y)).1).toInt64)) ov))))] ++ wp_S cI cZ cD cR cB o ra ba ((fp_scanY n0 (sc, y)).1) ((fp_scanY n0 (sc, y)).2)) H := by
        rw [eK.2]
        exact hP
      have hD9 : va_D A ([(qo, .inl (cJ, 1, .inr (.inl (yns (kcs n0 (sc, y)) (va_up ov 0 (((fp_scanY n0 (sc, y)).1).toInt64)) ov))))] ++ wp_S cI cZ cD cR cB o ra ba ((fp_scanY n0 (sc, y)).1) ((fp_scanY n0 (sc, y)).2)) := by
        rw [eK.2]
        exact hD
      refine W.widen (k := 2) (n := 12) (Nat.le_of_ble_eq_true rfl) (Nat.le_of_ble_eq_true rfl) ?_
      exact W.iret hx hb hr (fun t ht _ => ⟨rfl, by rw [ht]; exact hP9, hAe ▸ hD9, hAe ▸ hS.F ht⟩) (fun q hq => by rw [← hAe]; exact hS.2.2 q hq) dL_scan_20
  have hP := sf_P_perm List.perm_append_comm hP
  have hD := sf_D_perm List.perm_append_comm hD
  have hP : va_P (dC, dI) vwCl ([(qo, .inl (cJ, 1, .inr (.inl ov)))] ++ wp_S cI cZ cD cR cB o ra ba ((fp_scanY n0 (sc, y)).1) ((fp_scanY n0 (sc, y)).2)) H := hP
  have hD : va_D A ([(qo, .inl (cJ, 1, .inr (.inl ov)))] ++ wp_S cI cZ cD cR cB o ra ba ((fp_scanY n0 (sc, y)).1) ((fp_scanY n0 (sc, y)).2)) := hD
  refine lv_i2l hx hb dL_scan_7 rfl ?_
  refine sf_last hx hb hK hP hD hS 0 5 rfl rfl 0 rfl (by decide) (by decide) dL_scan_8 (fun H locs hP hD hS => ?_)
  have hP : va_P (dC, dI) vwCl ([(qo, .inl (cJ, 1, .inr (.inl (va_up ov 0 (((fp_scanY n0 (sc, y)).1).toInt64)))))] ++ wp_S cI cZ cD cR cB o ra ba ((fp_scanY n0 (sc, y)).1) ((fp_scanY n0 (sc, y)).2)) H := hP
  have hD : va_D A ([(qo, .inl (cJ, 1, .inr (.inl (va_up ov 0 (((fp_scanY n0 (sc, y)).1).toInt64)))))] ++ wp_S cI cZ cD cR cB o ra ba ((fp_scanY n0 (sc, y)).1) ((fp_scanY n0 (sc, y)).2)) := hD
  refine lv_goto (tgt := 21) hx hb dL_scan_9 (by decide) ?_
  refine lv_iconst (v := 0) hx hb dL_scan_21 (by decide) ?_
  have eK := ks_ok hC
  refine sf_topi (y := kcs n0 (sc, y)) eK.1.symm ?_
  have hP9 : va_P (dC, dI) vwCl ([(qo, .inl (cJ, 1, .inr (.inl (yns (kcs n0 (sc, y)) (va_up ov 0 (((fp_scanY n0 (sc, y)).1).toInt64)) ov))))] ++ wp_S cI cZ cD cR cB o ra ba ((fp_scanY n0 (sc, y)).1) ((fp_scanY n0 (sc, y)).2)) H := by
    rw [eK.2]
    exact hP
  have hD9 : va_D A ([(qo, .inl (cJ, 1, .inr (.inl (yns (kcs n0 (sc, y)) (va_up ov 0 (((fp_scanY n0 (sc, y)).1).toInt64)) ov))))] ++ wp_S cI cZ cD cR cB o ra ba ((fp_scanY n0 (sc, y)).1) ((fp_scanY n0 (sc, y)).2)) := by
    rw [eK.2]
    exact hD
  refine W.widen (k := 2) (n := 12) (Nat.le_of_ble_eq_true rfl) (Nat.le_of_ble_eq_true rfl) ?_
  exact W.iret hx hb hr (fun t ht _ => ⟨rfl, by rw [ht]; exact hP9, hAe ▸ hD9, hAe ▸ hS.F ht⟩) (fun q hq => by rw [← hAe]; exact hS.2.2 q hq) dL_scan_22
