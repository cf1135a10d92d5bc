set_option maxHeartbeats 4000000 in
set_option maxRecDepth 100000 in
theorem c_L_scan (l : Launch) (hlt : l.stackTraces = false) (sx : Nat → Nat) (dC : Nat → ClassId) (dI : Nat → Nat → Nat) (cI cZ cD cR cB : ClassId) (o : Nat → Nat) (ra : Nat → Nat → Nat) (ba : Nat → Nat) (sc : Int32) (y : st_Y) (cJ : ClassId) (qo : Nat) (ov : Nat → Int64) (n0 : Int32) (sz : Nat) (hy9 : ok_Y y) : Met l yL_scan wL_scan ({ frames := 8, cells := 2, slots := 12, locals := 161 }) (sf_PL (dC, dI) vwCl [(cI, .int), (cZ, .boolean), (cD, .double), (cR, .object RX1), (cB, .object RX0), (cJ, .long)] sx ([(qo, .inl (cJ, 1, .inr (.inl ov)))] ++ wp_S cI cZ cD cR cB o ra ba sc y) sz [.ref (o 0), .int n0, .ref qo]) (sf_V (dC, dI) vwCl (some (.int (kcs n0 (sc, y)))) ([(qo, .inl (cJ, 1, .inr (.inl ov)))] ++ wp_S cI cZ cD cR cB o ra ba sc y) ([(qo, .inl (cJ, 1, .inr (.inl (yns (kcs n0 (sc, y)) (va_up ov 0 (((fp_scanY n0 (sc, y)).1).toInt64)) ov))))] ++ wp_S cI cZ cD cR cB o ra ba ((fp_scanY n0 (sc, y)).1) ((fp_scanY n0 (sc, y)).2))) 2 12 (va_A ([(qo, .inl (cJ, 1, .inr (.inl ov)))] ++ wp_S cI cZ cD cR cB o ra ba sc y) sz) := by
  refine va_MetW (hh := [(0, 9, 12, 13), (0, 9, 15, 44), (0, 9, 18, 46)]) (cc := cL_scan) (maxL := 4) (ret := (some .int)) (by decide) rfl ?_
  intro p e s m args below meth c s₁ B hml hv
  have hx := B.exec
  have hb := B.bytes
  have hr := B.returns
  have hts := atoms_spec (ws := wL_scan) B.pre
  have hg : ∀ w ∈ gw_all, w.before args s = true := fun w h => hts w (List.mem_cons_of_mem _ h)
  have hown : s.vm.findClass RL = some m.cls := findClass_of_methodNamed B.named
  have hlocks := B.notSynchronized
  obtain ⟨rfl, ⟨hsz, hP, hD0, hK, hZ, hE⟩, hN⟩ := hv
  subst hsz
  have htb := vx_table (x := yL_scan) B (hts _ List.mem_cons_self)
  have hl := lv_entry ([.ref (o 0), .int n0, .ref qo]) (n := 4) (Nat.le_of_ble_eq_true rfl)
  rw [lg_entry_eq]
  generalize (lg_sl ([.ref (o 0), .int n0, .ref qo]) ++ List.replicate (4 - (lg_sl ([.ref (o 0), .int n0, .ref qo])).length) Slot.unset).toArray = ls at hl ⊢
  have hl : lv_has ls 4 [(0, .ref (o 0)), (1, .int n0), (2, .ref qo)] := hl
  obtain ⟨A, hAe⟩ : ∃ A : Nat → Prop, A = va_A ([(qo, .inl (cJ, 1, .inr (.inl ov)))] ++ wp_S cI cZ cD cR cB o ra ba sc y) s.heap.size := ⟨_, rfl⟩
  have hD := hD0.self (sz := s.heap.size)
  rw [← hAe] at hD hE
  have hA : ∀ q : Nat, s.heap.size ≤ q → A q := fun q h => by rw [hAe]; exact Or.inr h
  have hS : va_S A s.heap s.heap [] := va_S.rf
  have hP : va_P (dC, dI) vwCl ([(qo, .inl (cJ, 1, .inr (.inl ov)))] ++ wp_S cI cZ cD cR cB o ra ba sc y) s.heap := hP
  have hD : va_D A ([(qo, .inl (cJ, 1, .inr (.inl ov)))] ++ wp_S cI cZ cD cR cB o ra ba sc y) := hD
  refine lv_aload_n hx hb dL_scan_0 rfl (lv_at hl 2 rfl) ?_
  refine lv_iconst (v := 0) hx hb dL_scan_1 (by decide) ?_
  refine lv_aload_n hx hb dL_scan_2 rfl (lv_at hl 0 rfl) ?_
  refine lv_iload_n hx hb dL_scan_3 rfl (lv_at hl 1 rfl) ?_
  have hPc : va_P (dC, dI) vwCl (wp_S cI cZ cD cR cB o ra ba sc y ++ [(qo, .inl (cJ, 1, .inr (.inl ov)))]) s.heap := sf_P_perm List.perm_append_comm hP
  have hDc : va_D A (wp_S cI cZ cD cR cB o ra ba sc y ++ [(qo, .inl (cJ, 1, .inr (.inl ov)))]) := sf_D_perm List.perm_append_comm hD
  refine sf_callXV (vx_runV (As := [.int n0]) (rest := [.int 0, .ref qo]) ⟨hx, hb, hml, hown, hg⟩ (c_X2_scan l hlt sx dC dI cI cZ cD cR cB o ra ba sc y n0 _ hy9) (cwV 1 hg (gw_V mw_349 mw_350 mw_351 mw_21 mw_352) rfl rfl rfl (by decide +kernel) ⟨Nat.le_of_ble_eq_true rfl, Nat.le_of_ble_eq_true rfl⟩) (sf_preX (va_recv hK hP (ci := 2) (q0 := 1) rfl rfl) (hK.sub [0, 1, 2, 3, 4] rfl) hZ hPc hDc hE hS hA) rfl rfl hl.1 rfl (lv_room (Nat.le_of_ble_eq_true rfl)) dL_scan_4 ⟨Nat.le_of_ble_eq_true rfl, Nat.le_of_ble_eq_true rfl⟩) hS hPc hDc hA (fun E hE9 ce q9 H locs hP hD hS hce hcv hcl => ?_) (fun hC H locs hP hD hS => ?_)
  · have hP := sf_P_perm List.perm_append_comm hP
    have hD := sf_D_perm List.perm_append_comm hD
    have hP : va_P (dC, dI) vwCl ([(qo, .inl (cJ, 1, .inr (.inl ov)))] ++ wp_S cI cZ cD cR cB o ra ba ((fp_scanY n0 (sc, y)).1) ((fp_scanY n0 (sc, y)).2)) H := hP
    have hD : va_D A ([(qo, .inl (cJ, 1, .inr (.inl ov)))] ++ wp_S cI cZ cD cR cB o ra ba ((fp_scanY n0 (sc, y)).1) ((fp_scanY n0 (sc, y)).2)) := hD
    rcases hE9 with ⟨h1, rfl⟩ | ⟨h1, h2, rfl⟩ | ⟨h1, h2, h3, rfl⟩
    · refine vx_catch (name := ex_I) hown [] ⟨0, 9, 12, 13⟩ [⟨0, 9, 15, 44⟩, ⟨0, 9, 18, 46⟩] htb (fun z hz => nomatch hz) (by decide) (by decide) (hg _ mw_148) (ex_c hE.1 (List.mem_of_getElem? (i := 3) rfl)) hce hcv hcl ?_
      refine lv_astore_n (lv' := [(3, .ref q9), (0, .ref (o 0)), (1, .int n0), (2, .ref qo)]) hx hb dL_scan_12 rfl hl (by decide) rfl (fun ls hl => ?_)
      refine lv_iconst (v := 1) hx hb dL_scan_13 (by decide) ?_
      have eK := ks_1 (q := (sc, y)) h1
      refine sf_topi (y := kcs n0 (sc, y)) eK.1.symm ?_
      have hP9 : va_P (dC, dI) vwCl ([(qo, .inl (cJ, 1, .inr (.inl (yns (kcs n0 (sc, y)) (va_up ov 0 (((fp_scanY n0 (sc, y)).1).toInt64)) ov))))] ++ wp_S cI cZ cD cR cB o ra ba ((fp_scanY n0 (sc, y)).1) ((fp_scanY n0 (sc, y)).2)) H := by
        rw [eK.2]
        exact hP
      have hD9 : va_D A ([(qo, .inl (cJ, 1, .inr (.inl (yns (kcs n0 (sc, y)) (va_up ov 0 (((fp_scanY n0 (sc, y)).1).toInt64)) ov))))] ++ wp_S cI cZ cD cR cB o ra ba ((fp_scanY n0 (sc, y)).1) ((fp_scanY n0 (sc, y)).2)) := by
        rw [eK.2]
        exact hD
      refine W.widen (k := 2) (n := 12) (Nat.le_of_ble_eq_true rfl) (Nat.le_of_ble_eq_true rfl) ?_
      exact W.iret hx hb hr (fun t ht _ => ⟨rfl, by rw [ht]; exact hP9, hAe ▸ hD9, hAe ▸ hS.F ht⟩) (fun q hq => by rw [← hAe]; exact hS.2.2 q hq) dL_scan_14
    · refine vx_catch (name := ex_S) hown [⟨0, 9, 12, 13⟩] ⟨0, 9, 15, 44⟩ [⟨0, 9, 18, 46⟩] htb (fun z hz => by rw [List.mem_singleton.mp hz]; exact Or.inr ⟨by decide, ex_I, hg _ mw_148, hN.2.1⟩) (by decide) (by decide) (hg _ mw_347) (ex_c hE.1 (List.mem_of_getElem? (i := 5) rfl)) hce hcv hcl ?_
      refine lv_astore_n (lv' := [(3, .ref q9), (0, .ref (o 0)), (1, .int n0), (2, .ref qo)]) hx hb dL_scan_15 rfl hl (by decide) rfl (fun ls hl => ?_)
      refine lv_iconst (v := 2) hx hb dL_scan_16 (by decide) ?_
      have eK := ks_2 (q := (sc, y)) h1 h2
      refine sf_topi (y := kcs n0 (sc, y)) eK.1.symm ?_
      have hP9 : va_P (dC, dI) vwCl ([(qo, .inl (cJ, 1, .inr (.inl (yns (kcs n0 (sc, y)) (va_up ov 0 (((fp_scanY n0 (sc, y)).1).toInt64)) ov))))] ++ wp_S cI cZ cD cR cB o ra ba ((fp_scanY n0 (sc, y)).1) ((fp_scanY n0 (sc, y)).2)) H := by
        rw [eK.2]
        exact hP
      have hD9 : va_D A ([(qo, .inl (cJ, 1, .inr (.inl (yns (kcs n0 (sc, y)) (va_up ov 0 (((fp_scanY n0 (sc, y)).1).toInt64)) ov))))] ++ wp_S cI cZ cD cR cB o ra ba ((fp_scanY n0 (sc, y)).1) ((fp_scanY n0 (sc, y)).2)) := by
        rw [eK.2]
        exact hD
      refine W.widen (k := 2) (n := 12) (Nat.le_of_ble_eq_true rfl) (Nat.le_of_ble_eq_true rfl) ?_
      exact W.iret hx hb hr (fun t ht _ => ⟨rfl, by rw [ht]; exact hP9, hAe ▸ hD9, hAe ▸ hS.F ht⟩) (fun q hq => by rw [← hAe]; exact hS.2.2 q hq) dL_scan_17
    · refine vx_catch (name := ex_A) hown [⟨0, 9, 12, 13⟩, ⟨0, 9, 15, 44⟩] ⟨0, 9, 18, 46⟩ [] htb (fun z hz => by rcases List.mem_cons.mp hz with hz | hz; exact hz ▸ Or.inr ⟨by decide, ex_I, hg _ mw_148, hN.2.2.1⟩; rw [List.mem_singleton.mp hz]; exact Or.inr ⟨by decide, ex_S, hg _ mw_347, hN.2.2.2⟩) (by decide) (by decide) (hg _ mw_348) (ex_c hE.1 (List.mem_of_getElem? (i := 6) rfl)) hce hcv hcl ?_
      refine lv_astore_n (lv' := [(3, .ref q9), (0, .ref (o 0)), (1, .int n0), (2, .ref qo)]) hx hb dL_scan_18 rfl hl (by decide) rfl (fun ls hl => ?_)
      refine lv_iconst (v := 3) hx hb dL_scan_19 (by decide) ?_
      have eK := ks_3 (q := (sc, y)) h1 h2 h3
      refine sf_topi (y := kcs n0 (sc, y)) eK.1.symm ?_
      have hP9 : va_P (dC, dI) vwCl ([(qo, .inl (cJ, 1, .inr (.inl (yns (kcs n0 (sc, y)) (va_up ov 0 (((fp_scanY n0 (sc, y)).1).toInt64)) ov))))] ++ wp_S cI cZ cD cR cB o ra ba ((fp_scanY n0 (sc, y)).1) ((fp_scanY n0 (sc, y)).2)) H := by
        rw [eK.2]
        exact hP
      have hD9 : va_D A ([(qo, .inl (cJ, 1, .inr (.inl (yns (kcs n0 (sc, y)) (va_up ov 0 (((fp_scanY n0 (sc, y)).1).toInt64)) ov))))] ++ wp_S cI cZ cD cR cB o ra ba ((fp_scanY n0 (sc, y)).1) ((fp_scanY n0 (sc, y)).2)) := by
        rw [eK.2]
        exact hD
      refine W.widen (k := 2) (n := 12) (Nat.le_of_ble_eq_true rfl) (Nat.le_of_ble_eq_true rfl) ?_
      exact W.iret hx hb hr (fun t ht _ => ⟨rfl, by rw [ht]; exact hP9, hAe ▸ hD9, hAe ▸ hS.F ht⟩) (fun q hq => by rw [← hAe]; exact hS.2.2 q hq) dL_scan_20
  have hP := sf_P_perm List.perm_append_comm hP
  have hD := sf_D_perm List.perm_append_comm hD
  have hP : va_P (dC, dI) vwCl ([(qo, .inl (cJ, 1, .inr (.inl ov)))] ++ wp_S cI cZ cD cR cB o ra ba ((fp_scanY n0 (sc, y)).1) ((fp_scanY n0 (sc, y)).2)) H := hP
  have hD : va_D A ([(qo, .inl (cJ, 1, .inr (.inl ov)))] ++ wp_S cI cZ cD cR cB o ra ba ((fp_scanY n0 (sc, y)).1) ((fp_scanY n0 (sc, y)).2)) := hD
  refine lv_i2l hx hb dL_scan_7 rfl ?_
  refine sf_last hx hb hK hP hD hS 0 5 rfl rfl 0 rfl (by decide) (by decide) dL_scan_8 (fun H locs hP hD hS => ?_)
  have hP : va_P (dC, dI) vwCl ([(qo, .inl (cJ, 1, .inr (.inl (va_up ov 0 (((fp_scanY n0 (sc, y)).1).toInt64)))))] ++ wp_S cI cZ cD cR cB o ra ba ((fp_scanY n0 (sc, y)).1) ((fp_scanY n0 (sc, y)).2)) H := hP
  have hD : va_D A ([(qo, .inl (cJ, 1, .inr (.inl (va_up ov 0 (((fp_scanY n0 (sc, y)).1).toInt64)))))] ++ wp_S cI cZ cD cR cB o ra ba ((fp_scanY n0 (sc, y)).1) ((fp_scanY n0 (sc, y)).2)) := hD
  refine lv_goto (tgt := 21) hx hb dL_scan_9 (by decide) ?_
  refine lv_iconst (v := 0) hx hb dL_scan_21 (by decide) ?_
  have eK := ks_ok (q := (sc, y)) hC
  refine sf_topi (y := kcs n0 (sc, y)) eK.1.symm ?_
  have hP9 : va_P (dC, dI) vwCl ([(qo, .inl (cJ, 1, .inr (.inl (yns (kcs n0 (sc, y)) (va_up ov 0 (((fp_scanY n0 (sc, y)).1).toInt64)) ov))))] ++ wp_S cI cZ cD cR cB o ra ba ((fp_scanY n0 (sc, y)).1) ((fp_scanY n0 (sc, y)).2)) H := by
    rw [eK.2]
    exact hP
  have hD9 : va_D A ([(qo, .inl (cJ, 1, .inr (.inl (yns (kcs n0 (sc, y)) (va_up ov 0 (((fp_scanY n0 (sc, y)).1).toInt64)) ov))))] ++ wp_S cI cZ cD cR cB o ra ba ((fp_scanY n0 (sc, y)).1) ((fp_scanY n0 (sc, y)).2)) := by
    rw [eK.2]
    exact hD
  refine W.widen (k := 2) (n := 12) (Nat.le_of_ble_eq_true rfl) (Nat.le_of_ble_eq_true rfl) ?_
  exact W.iret hx hb hr (fun t ht _ => ⟨rfl, by rw [ht]; exact hP9, hAe ▸ hD9, hAe ▸ hS.F ht⟩) (fun q hq => by rw [← hAe]; exact hS.2.2 q hq) dL_scan_22
