set_option maxHeartbeats 4000000 in
set_option maxRecDepth 100000 in
theorem c_X2_block (l : Launch) (hlt : l.stackTraces = false) (sx : Nat → Nat) (dC : Nat → ClassId) (dI : Nat → Nat → Nat) (cI cZ cD cR cB : ClassId) (o : Nat → Nat) (ra : Nat → Nat → Nat) (ba : Nat → Nat) (sc : Int32) (y : st_Y) (k0 d0 a0 b0 c0 : Int32) (n0 : UInt64) (sz : Nat)  : vx_Met l yX2_block wX2_block ({ frames := 7, cells := 2, slots := 12, locals := 102 }) (sf_PX (dC, dI) vwCl [(cI, .int), (cZ, .boolean), (cD, .double), (cR, .object RX1), (cB, .object RX0)] sx (wp_S cI cZ cD cR cB o ra ba sc y) sz [.ref (o 0), .int k0, .int d0, .int a0, .int b0, .int c0, .double n0]) (sf_XV (dC, dI) vwCl (fc_isBlock d0 a0 b0 c0 n0 = true ∧ fc_ix k0 8 = true) (some (.int ((y.1.2.2.1 k0.toNatClampNeg).1))) (wp_S cI cZ cD cR cB o ra ba sc y) (wp_S cI cZ cD cR cB o ra ba sc (fp_block y k0 d0 a0 b0 c0 n0))) (sf_XE (dC, dI) vwCl (fun E => (fc_isBlock d0 a0 b0 c0 n0 = false ∧ E = ex_I) ∨ (fc_isBlock d0 a0 b0 c0 n0 = true ∧ fc_ix k0 8 = false ∧ E = ex_O)) (wp_S cI cZ cD cR cB o ra ba sc y) (wp_S cI cZ cD cR cB o ra ba sc y)) 2 12 (va_A (wp_S cI cZ cD cR cB o ra ba sc y) sz) := by
  refine vx_ofW (cc := cX2_block) (maxL := 8) (ret := (some .int)) (by decide) rfl ?_
  intro p e s m args below meth c s₁ B hml hEx hv
  have hx := B.exec
  have hb := B.bytes
  have hr := B.returns
  have hts := atoms_spec (ws := wX2_block) B.pre
  have hg : ∀ w ∈ gw_all, w.before args s = true := fun w h => hts w (List.mem_cons_of_mem _ h)
  have hown : s.vm.findClass RX2 = some m.cls := findClass_of_methodNamed B.named
  have hlocks := B.notSynchronized
  obtain ⟨rfl, hsz, hP, hD0, hK, hZ, hE⟩ := hv
  subst hsz
  have hl := lv_entry ([.ref (o 0), .int k0, .int d0, .int a0, .int b0, .int c0, .double n0]) (n := 8) (Nat.le_of_ble_eq_true rfl)
  rw [lg_entry_eq]
  generalize (lg_sl ([.ref (o 0), .int k0, .int d0, .int a0, .int b0, .int c0, .double n0]) ++ List.replicate (8 - (lg_sl ([.ref (o 0), .int k0, .int d0, .int a0, .int b0, .int c0, .double n0])).length) Slot.unset).toArray = ls at hl ⊢
  have hl : lv_has ls 8 [(0, .ref (o 0)), (1, .int k0), (2, .int d0), (3, .int a0), (4, .int b0), (5, .int c0), (6, .double n0)] := hl
  obtain ⟨A, hAe⟩ : ∃ A : Nat → Prop, A = va_A (wp_S cI cZ cD cR cB o ra ba sc y) s.heap.size := ⟨_, rfl⟩
  have hD := hD0.self (sz := s.heap.size)
  rw [← hAe] at hD hE
  have hA : ∀ q : Nat, s.heap.size ≤ q → A q := fun q h => by rw [hAe]; exact Or.inr h
  have hS : va_S A s.heap s.heap [] := va_S.rf
  have hP : va_P (dC, dI) vwCl ([(o 0, .inr (2, [.ref (o 1), .ref (o 2), .ref (o 3), .ref (o 4), .int sc, .int y.1.2.2.2.1, .int y.1.2.2.2.2])), (o 1, .inl (cZ, 24, .inl (fun i9 => sf_b (y.1.1 i9)))), (o 2, .inl (cD, 8, .inr (.inr (.inr (.inl y.1.2.1))))), (o 3, .inl (cR, 5, .inr (.inr (.inr (.inr (fun g => some (ra g 0))))))), (o 4, .inl (cB, 8, .inr (.inr (.inr (.inr (fun k => some (ba k)))))))] ++ (wp_rs cI cZ ra y.2 ++ (wp_bs ba y.1.2.2.1 ++ []))) s.heap := hP
  have hD : va_D A ([(o 0, .inr (2, [.ref (o 1), .ref (o 2), .ref (o 3), .ref (o 4), .int sc, .int y.1.2.2.2.1, .int y.1.2.2.2.2])), (o 1, .inl (cZ, 24, .inl (fun i9 => sf_b (y.1.1 i9)))), (o 2, .inl (cD, 8, .inr (.inr (.inr (.inl y.1.2.1))))), (o 3, .inl (cR, 5, .inr (.inr (.inr (.inr (fun g => some (ra g 0))))))), (o 4, .inl (cB, 8, .inr (.inr (.inr (.inr (fun k => some (ba k)))))))] ++ (wp_rs cI cZ ra y.2 ++ (wp_bs ba y.1.2.2.1 ++ []))) := hD
  refine lv_iload_n hx hb dX2_block_0 rfl (lv_at hl 2 rfl) ?_
  refine lv_iload_n hx hb dX2_block_1 rfl (lv_at hl 3 rfl) ?_
  refine lv_iload hx hb dX2_block_2 (lv_at hl 4 rfl) ?_
  refine lv_iload hx hb dX2_block_4 (lv_at hl 5 rfl) ?_
  refine lv_dload hx hb dX2_block_6 (lv_at hl 6 rfl) ?_
  refine sf_callRi (va_runS (As := [.int d0, .int a0, .int b0, .int c0, .double n0]) (rest := []) ⟨hx, hb, hml, hown, hg⟩ (c_X2_isBlock l d0 a0 b0 c0 n0) (cwS 5 hg (gw_S mw_297 mw_298 mw_21 mw_299) rfl rfl rfl (by decide +kernel) ⟨Nat.le_of_ble_eq_true rfl, Nat.le_of_ble_eq_true rfl⟩) sf_pre0 rfl rfl hl.1 rfl (lv_room (Nat.le_of_ble_eq_true rfl)) dX2_block_8 ⟨Nat.le_of_ble_eq_true rfl, Nat.le_of_ble_eq_true rfl⟩) ?_
  refine sf_callD (vx_runS (As := [.int (sf_b (fc_isBlock d0 a0 b0 c0 n0))]) (rest := []) ⟨hx, hb, hml, hown, hg⟩ (c_X2_demandNumbers l hlt sx (fc_isBlock d0 a0 b0 c0 n0)) (cwS 1 hg (gw_S mw_166 mw_167 mw_21 mw_168) rfl rfl rfl (by decide +kernel) ⟨Nat.le_of_ble_eq_true rfl, Nat.le_of_ble_eq_true rfl⟩) (sf_preD hE hS) rfl rfl hl.1 rfl (lv_room (Nat.le_of_ble_eq_true rfl)) dX2_block_11 ⟨Nat.le_of_ble_eq_true rfl, Nat.le_of_ble_eq_true rfl⟩) (fun cF ce q9 H hz hk hce hcv hcl => ?_) (fun ct_1 => ?_)
  · have hP := hP.kept (fun k q hq => hk q.1 (hP k q hq).lt)
    have hS := sf_S_grow hS hz hk
    exact vx_out (fun x hx => (hEx x hx).elim) hlocks hce hcv hcl (fun t ht _ => ⟨Or.inl ⟨cF, rfl⟩, by rw [ht]; exact hP, hAe ▸ hD, hAe ▸ hS.F ht⟩) (fun q hq => by rw [← hAe]; exact hS.2.2 q hq) (Nat.le_of_ble_eq_true rfl) (Nat.le_of_ble_eq_true rfl)
  refine lv_iload_n hx hb dX2_block_14 rfl (lv_at hl 1 rfl) ?_
  refine lv_bipush (v := 8) hx hb dX2_block_15 (by decide) ?_
  refine sf_callRi (va_runS (As := [.int k0, .int 8]) (rest := []) ⟨hx, hb, hml, hown, hg⟩ (c_X2_isIndex l k0 8) (cwS 2 hg (gw_S mw_163 mw_164 mw_21 mw_165) rfl rfl rfl (by decide +kernel) ⟨Nat.le_of_ble_eq_true rfl, Nat.le_of_ble_eq_true rfl⟩) sf_pre0 rfl rfl hl.1 rfl (lv_room (Nat.le_of_ble_eq_true rfl)) dX2_block_17 ⟨Nat.le_of_ble_eq_true rfl, Nat.le_of_ble_eq_true rfl⟩) ?_
  refine sf_callD (vx_runS (As := [.int (sf_b (fc_ix k0 8))]) (rest := []) ⟨hx, hb, hml, hown, hg⟩ (c_X2_demandPlace l hlt sx (fc_ix k0 8)) (cwS 1 hg (gw_S mw_241 mw_242 mw_21 mw_243) rfl rfl rfl (by decide +kernel) ⟨Nat.le_of_ble_eq_true rfl, Nat.le_of_ble_eq_true rfl⟩) (sf_preD hE hS) rfl rfl hl.1 rfl (lv_room (Nat.le_of_ble_eq_true rfl)) dX2_block_20 ⟨Nat.le_of_ble_eq_true rfl, Nat.le_of_ble_eq_true rfl⟩) (fun cF ce q9 H hz hk hce hcv hcl => ?_) (fun ct_2 => ?_)
  · have hP := hP.kept (fun k q hq => hk q.1 (hP k q hq).lt)
    have hS := sf_S_grow hS hz hk
    exact vx_out (fun x hx => (hEx x hx).elim) hlocks hce hcv hcl (fun t ht _ => ⟨Or.inr ⟨ct_1, cF, rfl⟩, by rw [ht]; exact hP, hAe ▸ hD, hAe ▸ hS.F ht⟩) (fun q hq => by rw [← hAe]; exact hS.2.2 q hq) (Nat.le_of_ble_eq_true rfl) (Nat.le_of_ble_eq_true rfl)
  have hq1 := ix_nat (n := 8) rfl (by decide) ct_2
  have hP := sf_P_perm (sf_pickB (ba := ba) (bs := y.1.2.2.1) (k := k0.toNatClampNeg) hq1.2 _ _) hP
  have hD := sf_D_perm (sf_pickB (ba := ba) (bs := y.1.2.2.1) (k := k0.toNatClampNeg) hq1.2 _ _) hD
  have hP : va_P (dC, dI) vwCl ([(ba k0.toNatClampNeg, .inr (0, [.int ((y.1.2.2.1 k0.toNatClampNeg).1), .int ((y.1.2.2.1 k0.toNatClampNeg).2.1), .int ((y.1.2.2.1 k0.toNatClampNeg).2.2.1), .int ((y.1.2.2.1 k0.toNatClampNeg).2.2.2.1), .double ((y.1.2.2.1 k0.toNatClampNeg).2.2.2.2.1), .int (sf_b ((y.1.2.2.1 k0.toNatClampNeg).2.2.2.2.2.1)), .int ((y.1.2.2.1 k0.toNatClampNeg).2.2.2.2.2.2.1), .int (sf_b ((y.1.2.2.1 k0.toNatClampNeg).2.2.2.2.2.2.2.1)), .double ((y.1.2.2.1 k0.toNatClampNeg).2.2.2.2.2.2.2.2.1), .double ((y.1.2.2.1 k0.toNatClampNeg).2.2.2.2.2.2.2.2.2.1), .int ((y.1.2.2.1 k0.toNatClampNeg).2.2.2.2.2.2.2.2.2.2.1), .int ((y.1.2.2.1 k0.toNatClampNeg).2.2.2.2.2.2.2.2.2.2.2)])), (o 0, .inr (2, [.ref (o 1), .ref (o 2), .ref (o 3), .ref (o 4), .int sc, .int y.1.2.2.2.1, .int y.1.2.2.2.2])), (o 1, .inl (cZ, 24, .inl (fun i9 => sf_b (y.1.1 i9)))), (o 2, .inl (cD, 8, .inr (.inr (.inr (.inl y.1.2.1))))), (o 3, .inl (cR, 5, .inr (.inr (.inr (.inr (fun g => some (ra g 0))))))), (o 4, .inl (cB, 8, .inr (.inr (.inr (.inr (fun k => some (ba k)))))))] ++ (wp_rs cI cZ ra y.2 ++ (wp_bx ba y.1.2.2.1 k0.toNatClampNeg ++ []))) s.heap := hP
  have hD : va_D A ([(ba k0.toNatClampNeg, .inr (0, [.int ((y.1.2.2.1 k0.toNatClampNeg).1), .int ((y.1.2.2.1 k0.toNatClampNeg).2.1), .int ((y.1.2.2.1 k0.toNatClampNeg).2.2.1), .int ((y.1.2.2.1 k0.toNatClampNeg).2.2.2.1), .double ((y.1.2.2.1 k0.toNatClampNeg).2.2.2.2.1), .int (sf_b ((y.1.2.2.1 k0.toNatClampNeg).2.2.2.2.2.1)), .int ((y.1.2.2.1 k0.toNatClampNeg).2.2.2.2.2.2.1), .int (sf_b ((y.1.2.2.1 k0.toNatClampNeg).2.2.2.2.2.2.2.1)), .double ((y.1.2.2.1 k0.toNatClampNeg).2.2.2.2.2.2.2.2.1), .double ((y.1.2.2.1 k0.toNatClampNeg).2.2.2.2.2.2.2.2.2.1), .int ((y.1.2.2.1 k0.toNatClampNeg).2.2.2.2.2.2.2.2.2.2.1), .int ((y.1.2.2.1 k0.toNatClampNeg).2.2.2.2.2.2.2.2.2.2.2)])), (o 0, .inr (2, [.ref (o 1), .ref (o 2), .ref (o 3), .ref (o 4), .int sc, .int y.1.2.2.2.1, .int y.1.2.2.2.2])), (o 1, .inl (cZ, 24, .inl (fun i9 => sf_b (y.1.1 i9)))), (o 2, .inl (cD, 8, .inr (.inr (.inr (.inl y.1.2.1))))), (o 3, .inl (cR, 5, .inr (.inr (.inr (.inr (fun g => some (ra g 0))))))), (o 4, .inl (cB, 8, .inr (.inr (.inr (.inr (fun k => some (ba k)))))))] ++ (wp_rs cI cZ ra y.2 ++ (wp_bx ba y.1.2.2.1 k0.toNatClampNeg ++ []))) := hD
  refine lv_aload_n hx hb dX2_block_23 rfl (lv_at hl 0 rfl) ?_
  refine va_get (D := (dC, dI)) (ci := 2) (v := .ref (o 4)) (C := RX2) (T := TX2) (N := 7) hx hb hg in_X2 hown hK hP 1 rfl rfl 3 (by decide) (hg _ mw_122) (fun _ h9 => h9) rfl dX2_block_24 ?_
  refine lv_iload_n hx hb dX2_block_27 rfl (lv_at hl 1 rfl) ?_
  refine sf_aald hx hb hK hP 5 4 rfl rfl k0.toNatClampNeg hq1.1 hq1.2 (by decide) rfl dX2_block_28 ?_
  refine lv_iload_n hx hb dX2_block_29 rfl (lv_at hl 2 rfl) ?_
  refine lv_iload_n hx hb dX2_block_30 rfl (lv_at hl 3 rfl) ?_
  refine lv_iload hx hb dX2_block_31 (lv_at hl 4 rfl) ?_
  refine lv_iload hx hb dX2_block_33 (lv_at hl 5 rfl) ?_
  refine lv_dload hx hb dX2_block_35 (lv_at hl 6 rfl) ?_
  have hPc : va_P (dC, dI) vwCl ([wp_B (ba k0.toNatClampNeg) (y.1.2.2.1 k0.toNatClampNeg)] ++ ([(o 0, .inr (2, [.ref (o 1), .ref (o 2), .ref (o 3), .ref (o 4), .int sc, .int y.1.2.2.2.1, .int y.1.2.2.2.2])), (o 1, .inl (cZ, 24, .inl (fun i9 => sf_b (y.1.1 i9)))), (o 2, .inl (cD, 8, .inr (.inr (.inr (.inl y.1.2.1))))), (o 3, .inl (cR, 5, .inr (.inr (.inr (.inr (fun g => some (ra g 0))))))), (o 4, .inl (cB, 8, .inr (.inr (.inr (.inr (fun k => some (ba k)))))))] ++ (wp_rs cI cZ ra y.2 ++ (wp_bx ba y.1.2.2.1 k0.toNatClampNeg ++ [])))) s.heap := sf_P_subT (E' := [wp_B (ba k0.toNatClampNeg) (y.1.2.2.1 k0.toNatClampNeg)] ++ [(o 0, .inr (2, [.ref (o 1), .ref (o 2), .ref (o 3), .ref (o 4), .int sc, .int y.1.2.2.2.1, .int y.1.2.2.2.2])), (o 1, .inl (cZ, 24, .inl (fun i9 => sf_b (y.1.1 i9)))), (o 2, .inl (cD, 8, .inr (.inr (.inr (.inl y.1.2.1))))), (o 3, .inl (cR, 5, .inr (.inr (.inr (.inr (fun g => some (ra g 0))))))), (o 4, .inl (cB, 8, .inr (.inr (.inr (.inr (fun k => some (ba k)))))))]) hP [0, 1, 2, 3, 4, 5] rfl
  have hDc : va_D A ([wp_B (ba k0.toNatClampNeg) (y.1.2.2.1 k0.toNatClampNeg)] ++ ([(o 0, .inr (2, [.ref (o 1), .ref (o 2), .ref (o 3), .ref (o 4), .int sc, .int y.1.2.2.2.1, .int y.1.2.2.2.2])), (o 1, .inl (cZ, 24, .inl (fun i9 => sf_b (y.1.1 i9)))), (o 2, .inl (cD, 8, .inr (.inr (.inr (.inl y.1.2.1))))), (o 3, .inl (cR, 5, .inr (.inr (.inr (.inr (fun g => some (ra g 0))))))), (o 4, .inl (cB, 8, .inr (.inr (.inr (.inr (fun k => some (ba k)))))))] ++ (wp_rs cI cZ ra y.2 ++ (wp_bx ba y.1.2.2.1 k0.toNatClampNeg ++ [])))) := sf_D_subT (E' := [wp_B (ba k0.toNatClampNeg) (y.1.2.2.1 k0.toNatClampNeg)] ++ [(o 0, .inr (2, [.ref (o 1), .ref (o 2), .ref (o 3), .ref (o 4), .int sc, .int y.1.2.2.2.1, .int y.1.2.2.2.2])), (o 1, .inl (cZ, 24, .inl (fun i9 => sf_b (y.1.1 i9)))), (o 2, .inl (cD, 8, .inr (.inr (.inr (.inl y.1.2.1))))), (o 3, .inl (cR, 5, .inr (.inr (.inr (.inr (fun g => some (ra g 0))))))), (o 4, .inl (cB, 8, .inr (.inr (.inr (.inr (fun k => some (ba k)))))))]) hD [0, 1, 2, 3, 4, 5] (by decide) rfl
  refine sf_callVi (va_runV (As := [.int d0, .int a0, .int b0, .int c0, .double n0]) (rest := []) ⟨hx, hb, hml, hown, hg⟩ (c_X0_become l dC dI (ba k0.toNatClampNeg) (y.1.2.2.1 k0.toNatClampNeg) d0 a0 b0 c0 n0 _) (cwV 5 hg (gw_V mw_314 mw_315 mw_316 mw_23 mw_317) rfl rfl rfl (by decide +kernel) ⟨Nat.le_of_ble_eq_true rfl, Nat.le_of_ble_eq_true rfl⟩) (sf_preVV (va_recv hK hP (ci := 0) (q0 := 0) rfl rfl) (hK.sub [] rfl) hZ hPc hDc) rfl rfl hl.1 rfl (lv_room (Nat.le_of_ble_eq_true rfl)) dX2_block_37 ⟨Nat.le_of_ble_eq_true rfl, Nat.le_of_ble_eq_true rfl⟩) hS hPc hDc hA (fun H locs hP hD hS => ?_)
  have hP : va_P (dC, dI) vwCl ([(ba k0.toNatClampNeg, .inr (0, [.int ((fb_become (y.1.2.2.1 k0.toNatClampNeg) d0 a0 b0 c0 n0).1), .int ((fb_become (y.1.2.2.1 k0.toNatClampNeg) d0 a0 b0 c0 n0).2.1), .int ((fb_become (y.1.2.2.1 k0.toNatClampNeg) d0 a0 b0 c0 n0).2.2.1), .int ((fb_become (y.1.2.2.1 k0.toNatClampNeg) d0 a0 b0 c0 n0).2.2.2.1), .double ((fb_become (y.1.2.2.1 k0.toNatClampNeg) d0 a0 b0 c0 n0).2.2.2.2.1), .int (sf_b ((fb_become (y.1.2.2.1 k0.toNatClampNeg) d0 a0 b0 c0 n0).2.2.2.2.2.1)), .int ((fb_become (y.1.2.2.1 k0.toNatClampNeg) d0 a0 b0 c0 n0).2.2.2.2.2.2.1), .int (sf_b ((fb_become (y.1.2.2.1 k0.toNatClampNeg) d0 a0 b0 c0 n0).2.2.2.2.2.2.2.1)), .double ((fb_become (y.1.2.2.1 k0.toNatClampNeg) d0 a0 b0 c0 n0).2.2.2.2.2.2.2.2.1), .double ((fb_become (y.1.2.2.1 k0.toNatClampNeg) d0 a0 b0 c0 n0).2.2.2.2.2.2.2.2.2.1), .int ((fb_become (y.1.2.2.1 k0.toNatClampNeg) d0 a0 b0 c0 n0).2.2.2.2.2.2.2.2.2.2.1), .int ((fb_become (y.1.2.2.1 k0.toNatClampNeg) d0 a0 b0 c0 n0).2.2.2.2.2.2.2.2.2.2.2)])), (o 0, .inr (2, [.ref (o 1), .ref (o 2), .ref (o 3), .ref (o 4), .int sc, .int y.1.2.2.2.1, .int y.1.2.2.2.2])), (o 1, .inl (cZ, 24, .inl (fun i9 => sf_b (y.1.1 i9)))), (o 2, .inl (cD, 8, .inr (.inr (.inr (.inl y.1.2.1))))), (o 3, .inl (cR, 5, .inr (.inr (.inr (.inr (fun g => some (ra g 0))))))), (o 4, .inl (cB, 8, .inr (.inr (.inr (.inr (fun k => some (ba k)))))))] ++ (wp_rs cI cZ ra y.2 ++ (wp_bx ba y.1.2.2.1 k0.toNatClampNeg ++ []))) H := hP
  have hD : va_D A ([(ba k0.toNatClampNeg, .inr (0, [.int ((fb_become (y.1.2.2.1 k0.toNatClampNeg) d0 a0 b0 c0 n0).1), .int ((fb_become (y.1.2.2.1 k0.toNatClampNeg) d0 a0 b0 c0 n0).2.1), .int ((fb_become (y.1.2.2.1 k0.toNatClampNeg) d0 a0 b0 c0 n0).2.2.1), .int ((fb_become (y.1.2.2.1 k0.toNatClampNeg) d0 a0 b0 c0 n0).2.2.2.1), .double ((fb_become (y.1.2.2.1 k0.toNatClampNeg) d0 a0 b0 c0 n0).2.2.2.2.1), .int (sf_b ((fb_become (y.1.2.2.1 k0.toNatClampNeg) d0 a0 b0 c0 n0).2.2.2.2.2.1)), .int ((fb_become (y.1.2.2.1 k0.toNatClampNeg) d0 a0 b0 c0 n0).2.2.2.2.2.2.1), .int (sf_b ((fb_become (y.1.2.2.1 k0.toNatClampNeg) d0 a0 b0 c0 n0).2.2.2.2.2.2.2.1)), .double ((fb_become (y.1.2.2.1 k0.toNatClampNeg) d0 a0 b0 c0 n0).2.2.2.2.2.2.2.2.1), .double ((fb_become (y.1.2.2.1 k0.toNatClampNeg) d0 a0 b0 c0 n0).2.2.2.2.2.2.2.2.2.1), .int ((fb_become (y.1.2.2.1 k0.toNatClampNeg) d0 a0 b0 c0 n0).2.2.2.2.2.2.2.2.2.2.1), .int ((fb_become (y.1.2.2.1 k0.toNatClampNeg) d0 a0 b0 c0 n0).2.2.2.2.2.2.2.2.2.2.2)])), (o 0, .inr (2, [.ref (o 1), .ref (o 2), .ref (o 3), .ref (o 4), .int sc, .int y.1.2.2.2.1, .int y.1.2.2.2.2])), (o 1, .inl (cZ, 24, .inl (fun i9 => sf_b (y.1.1 i9)))), (o 2, .inl (cD, 8, .inr (.inr (.inr (.inl y.1.2.1))))), (o 3, .inl (cR, 5, .inr (.inr (.inr (.inr (fun g => some (ra g 0))))))), (o 4, .inl (cB, 8, .inr (.inr (.inr (.inr (fun k => some (ba k)))))))] ++ (wp_rs cI cZ ra y.2 ++ (wp_bx ba y.1.2.2.1 k0.toNatClampNeg ++ []))) := hD
  have hP := sf_P_perm (sf_pickB' (ba := ba) (bs := y.1.2.2.1) (k := k0.toNatClampNeg) (b := fb_become (y.1.2.2.1 k0.toNatClampNeg) d0 a0 b0 c0 n0) hq1.2 [(o 0, .inr (2, [.ref (o 1), .ref (o 2), .ref (o 3), .ref (o 4), .int sc, .int y.1.2.2.2.1, .int y.1.2.2.2.2])), (o 1, .inl (cZ, 24, .inl (fun i9 => sf_b (y.1.1 i9)))), (o 2, .inl (cD, 8, .inr (.inr (.inr (.inl y.1.2.1))))), (o 3, .inl (cR, 5, .inr (.inr (.inr (.inr (fun g => some (ra g 0))))))), (o 4, .inl (cB, 8, .inr (.inr (.inr (.inr (fun k => some (ba k)))))))] _) hP
  have hD := sf_D_perm (sf_pickB' (ba := ba) (bs := y.1.2.2.1) (k := k0.toNatClampNeg) (b := fb_become (y.1.2.2.1 k0.toNatClampNeg) d0 a0 b0 c0 n0) hq1.2 [(o 0, .inr (2, [.ref (o 1), .ref (o 2), .ref (o 3), .ref (o 4), .int sc, .int y.1.2.2.2.1, .int y.1.2.2.2.2])), (o 1, .inl (cZ, 24, .inl (fun i9 => sf_b (y.1.1 i9)))), (o 2, .inl (cD, 8, .inr (.inr (.inr (.inl y.1.2.1))))), (o 3, .inl (cR, 5, .inr (.inr (.inr (.inr (fun g => some (ra g 0))))))), (o 4, .inl (cB, 8, .inr (.inr (.inr (.inr (fun k => some (ba k)))))))] _) hD
  have hP9 : va_P (dC, dI) vwCl (wp_S cI cZ cD cR cB o ra ba sc (fp_block y k0 d0 a0 b0 c0 n0)) H := hP
  have hD9 : va_D A (wp_S cI cZ cD cR cB o ra ba sc (fp_block y k0 d0 a0 b0 c0 n0)) := hD
  refine W.widen (k := 2) (n := 12) (Nat.le_of_ble_eq_true rfl) (Nat.le_of_ble_eq_true rfl) ?_
  refine vx_ret ?_
  exact W.iret hx hb hr (fun t ht _ => ⟨⟨ct_1, ct_2⟩, rfl, by rw [ht]; exact hP9, hAe ▸ hD9, hAe ▸ hS.F ht⟩) (fun q hq => by rw [← hAe]; exact hS.2.2 q hq) dX2_block_40
set_option maxHeartbeats 4000000 in
set_option maxRecDepth 100000 in
theorem c_X2_told (l : Launch) (hlt : l.stackTraces = false) (sx : Nat → Nat) (dC : Nat → ClassId) (dI : Nat → Nat → Nat) (cI cZ cD cR cB : ClassId) (o : Nat → Nat) (ra : Nat → Nat → Nat) (ba : Nat → Nat) (sc : Int32) (y : st_Y) (k0 w0 : Int32) (sz : Nat)  : vx_Met l yX2_told wX2_told ({ frames := 7, cells := 2, slots := 12, locals := 102 }) (sf_PX (dC, dI) vwCl [(cI, .int), (cZ, .boolean), (cD, .double), (cR, .object RX1), (cB, .object RX0)] sx (wp_S cI cZ cD cR cB o ra ba sc y) sz [.ref (o 0), .int k0, .int w0]) (sf_XV (dC, dI) vwCl (fc_btw w0 0 4 = true ∧ fc_ix k0 8 = true) (some (.int (fb_tell (y.1.2.2.1 k0.toNatClampNeg) w0))) (wp_S cI cZ cD cR cB o ra ba sc y) (wp_S cI cZ cD cR cB o ra ba sc y)) (sf_XE (dC, dI) vwCl (fun E => (fc_btw w0 0 4 = false ∧ E = ex_I) ∨ (fc_btw w0 0 4 = true ∧ fc_ix k0 8 = false ∧ E = ex_O)) (wp_S cI cZ cD cR cB o ra ba sc y) (wp_S cI cZ cD cR cB o ra ba sc y)) 2 12 (va_A (wp_S cI cZ cD cR cB o ra ba sc y) sz) := by
  refine vx_ofW (cc := cX2_told) (maxL := 3) (ret := (some .int)) (by decide) rfl ?_
  intro p e s m args below meth c s₁ B hml hEx hv
  have hx := B.exec
  have hb := B.bytes
  have hr := B.returns
  have hts := atoms_spec (ws := wX2_told) B.pre
  have hg : ∀ w ∈ gw_all, w.before args s = true := fun w h => hts w (List.mem_cons_of_mem _ h)
  have hown : s.vm.findClass RX2 = some m.cls := findClass_of_methodNamed B.named
  have hlocks := B.notSynchronized
  obtain ⟨rfl, hsz, hP, hD0, hK, hZ, hE⟩ := hv
  subst hsz
  have hl := lv_entry ([.ref (o 0), .int k0, .int w0]) (n := 3) (Nat.le_of_ble_eq_true rfl)
  rw [lg_entry_eq]
  generalize (lg_sl ([.ref (o 0), .int k0, .int w0]) ++ List.replicate (3 - (lg_sl ([.ref (o 0), .int k0, .int w0])).length) Slot.unset).toArray = ls at hl ⊢
  have hl : lv_has ls 3 [(0, .ref (o 0)), (1, .int k0), (2, .int w0)] := hl
  obtain ⟨A, hAe⟩ : ∃ A : Nat → Prop, A = va_A (wp_S cI cZ cD cR cB o ra ba sc y) s.heap.size := ⟨_, rfl⟩
  have hD := hD0.self (sz := s.heap.size)
  rw [← hAe] at hD hE
  have hA : ∀ q : Nat, s.heap.size ≤ q → A q := fun q h => by rw [hAe]; exact Or.inr h
  have hS : va_S A s.heap s.heap [] := va_S.rf
  have hP : va_P (dC, dI) vwCl ([(o 0, .inr (2, [.ref (o 1), .ref (o 2), .ref (o 3), .ref (o 4), .int sc, .int y.1.2.2.2.1, .int y.1.2.2.2.2])), (o 1, .inl (cZ, 24, .inl (fun i9 => sf_b (y.1.1 i9)))), (o 2, .inl (cD, 8, .inr (.inr (.inr (.inl y.1.2.1))))), (o 3, .inl (cR, 5, .inr (.inr (.inr (.inr (fun g => some (ra g 0))))))), (o 4, .inl (cB, 8, .inr (.inr (.inr (.inr (fun k => some (ba k)))))))] ++ (wp_rs cI cZ ra y.2 ++ (wp_bs ba y.1.2.2.1 ++ []))) s.heap := hP
  have hD : va_D A ([(o 0, .inr (2, [.ref (o 1), .ref (o 2), .ref (o 3), .ref (o 4), .int sc, .int y.1.2.2.2.1, .int y.1.2.2.2.2])), (o 1, .inl (cZ, 24, .inl (fun i9 => sf_b (y.1.1 i9)))), (o 2, .inl (cD, 8, .inr (.inr (.inr (.inl y.1.2.1))))), (o 3, .inl (cR, 5, .inr (.inr (.inr (.inr (fun g => some (ra g 0))))))), (o 4, .inl (cB, 8, .inr (.inr (.inr (.inr (fun k => some (ba k)))))))] ++ (wp_rs cI cZ ra y.2 ++ (wp_bs ba y.1.2.2.1 ++ []))) := hD
  refine lv_iload_n hx hb dX2_told_0 rfl (lv_at hl 2 rfl) ?_
  refine lv_iconst (v := 0) hx hb dX2_told_1 (by decide) ?_
  refine lv_iconst (v := 4) hx hb dX2_told_2 (by decide) ?_
  refine sf_callRi (va_runS (As := [.int w0, .int 0, .int 4]) (rest := []) ⟨hx, hb, hml, hown, hg⟩ (c_X2_isBetween l w0 0 4) (cwS 3 hg (gw_S mw_157 mw_158 mw_21 mw_159) rfl rfl rfl (by decide +kernel) ⟨Nat.le_of_ble_eq_true rfl, Nat.le_of_ble_eq_true rfl⟩) sf_pre0 rfl rfl hl.1 rfl (lv_room (Nat.le_of_ble_eq_true rfl)) dX2_told_3 ⟨Nat.le_of_ble_eq_true rfl, Nat.le_of_ble_eq_true rfl⟩) ?_
  refine sf_callD (vx_runS (As := [.int (sf_b (fc_btw w0 0 4))]) (rest := []) ⟨hx, hb, hml, hown, hg⟩ (c_X2_demandNumbers l hlt sx (fc_btw w0 0 4)) (cwS 1 hg (gw_S mw_166 mw_167 mw_21 mw_168) rfl rfl rfl (by decide +kernel) ⟨Nat.le_of_ble_eq_true rfl, Nat.le_of_ble_eq_true rfl⟩) (sf_preD hE hS) rfl rfl hl.1 rfl (lv_room (Nat.le_of_ble_eq_true rfl)) dX2_told_6 ⟨Nat.le_of_ble_eq_true rfl, Nat.le_of_ble_eq_true rfl⟩) (fun cF ce q9 H hz hk hce hcv hcl => ?_) (fun ct_1 => ?_)
  · have hP := hP.kept (fun k q hq => hk q.1 (hP k q hq).lt)
    have hS := sf_S_grow hS hz hk
    exact vx_out (fun x hx => (hEx x hx).elim) hlocks hce hcv hcl (fun t ht _ => ⟨Or.inl ⟨cF, rfl⟩, by rw [ht]; exact hP, hAe ▸ hD, hAe ▸ hS.F ht⟩) (fun q hq => by rw [← hAe]; exact hS.2.2 q hq) (Nat.le_of_ble_eq_true rfl) (Nat.le_of_ble_eq_true rfl)
  refine lv_iload_n hx hb dX2_told_9 rfl (lv_at hl 1 rfl) ?_
  refine lv_bipush (v := 8) hx hb dX2_told_10 (by decide) ?_
  refine sf_callRi (va_runS (As := [.int k0, .int 8]) (rest := []) ⟨hx, hb, hml, hown, hg⟩ (c_X2_isIndex l k0 8) (cwS 2 hg (gw_S mw_163 mw_164 mw_21 mw_165) rfl rfl rfl (by decide +kernel) ⟨Nat.le_of_ble_eq_true rfl, Nat.le_of_ble_eq_true rfl⟩) sf_pre0 rfl rfl hl.1 rfl (lv_room (Nat.le_of_ble_eq_true rfl)) dX2_told_12 ⟨Nat.le_of_ble_eq_true rfl, Nat.le_of_ble_eq_true rfl⟩) ?_
  refine sf_callD (vx_runS (As := [.int (sf_b (fc_ix k0 8))]) (rest := []) ⟨hx, hb, hml, hown, hg⟩ (c_X2_demandPlace l hlt sx (fc_ix k0 8)) (cwS 1 hg (gw_S mw_241 mw_242 mw_21 mw_243) rfl rfl rfl (by decide +kernel) ⟨Nat.le_of_ble_eq_true rfl, Nat.le_of_ble_eq_true rfl⟩) (sf_preD hE hS) rfl rfl hl.1 rfl (lv_room (Nat.le_of_ble_eq_true rfl)) dX2_told_15 ⟨Nat.le_of_ble_eq_true rfl, Nat.le_of_ble_eq_true rfl⟩) (fun cF ce q9 H hz hk hce hcv hcl => ?_) (fun ct_2 => ?_)
  · have hP := hP.kept (fun k q hq => hk q.1 (hP k q hq).lt)
    have hS := sf_S_grow hS hz hk
    exact vx_out (fun x hx => (hEx x hx).elim) hlocks hce hcv hcl (fun t ht _ => ⟨Or.inr ⟨ct_1, cF, rfl⟩, by rw [ht]; exact hP, hAe ▸ hD, hAe ▸ hS.F ht⟩) (fun q hq => by rw [← hAe]; exact hS.2.2 q hq) (Nat.le_of_ble_eq_true rfl) (Nat.le_of_ble_eq_true rfl)
  have hq1 := ix_nat (n := 8) rfl (by decide) ct_2
  have hP := sf_P_perm (sf_pickB (ba := ba) (bs := y.1.2.2.1) (k := k0.toNatClampNeg) hq1.2 _ _) hP
  have hD := sf_D_perm (sf_pickB (ba := ba) (bs := y.1.2.2.1) (k := k0.toNatClampNeg) hq1.2 _ _) hD
  have hP : va_P (dC, dI) vwCl ([(ba k0.toNatClampNeg, .inr (0, [.int ((y.1.2.2.1 k0.toNatClampNeg).1), .int ((y.1.2.2.1 k0.toNatClampNeg).2.1), .int ((y.1.2.2.1 k0.toNatClampNeg).2.2.1), .int ((y.1.2.2.1 k0.toNatClampNeg).2.2.2.1), .double ((y.1.2.2.1 k0.toNatClampNeg).2.2.2.2.1), .int (sf_b ((y.1.2.2.1 k0.toNatClampNeg).2.2.2.2.2.1)), .int ((y.1.2.2.1 k0.toNatClampNeg).2.2.2.2.2.2.1), .int (sf_b ((y.1.2.2.1 k0.toNatClampNeg).2.2.2.2.2.2.2.1)), .double ((y.1.2.2.1 k0.toNatClampNeg).2.2.2.2.2.2.2.2.1), .double ((y.1.2.2.1 k0.toNatClampNeg).2.2.2.2.2.2.2.2.2.1), .int ((y.1.2.2.1 k0.toNatClampNeg).2.2.2.2.2.2.2.2.2.2.1), .int ((y.1.2.2.1 k0.toNatClampNeg).2.2.2.2.2.2.2.2.2.2.2)])), (o 0, .inr (2, [.ref (o 1), .ref (o 2), .ref (o 3), .ref (o 4), .int sc, .int y.1.2.2.2.1, .int y.1.2.2.2.2])), (o 1, .inl (cZ, 24, .inl (fun i9 => sf_b (y.1.1 i9)))), (o 2, .inl (cD, 8, .inr (.inr (.inr (.inl y.1.2.1))))), (o 3, .inl (cR, 5, .inr (.inr (.inr (.inr (fun g => some (ra g 0))))))), (o 4, .inl (cB, 8, .inr (.inr (.inr (.inr (fun k => some (ba k)))))))] ++ (wp_rs cI cZ ra y.2 ++ (wp_bx ba y.1.2.2.1 k0.toNatClampNeg ++ []))) s.heap := hP
  have hD : va_D A ([(ba k0.toNatClampNeg, .inr (0, [.int ((y.1.2.2.1 k0.toNatClampNeg).1), .int ((y.1.2.2.1 k0.toNatClampNeg).2.1), .int ((y.1.2.2.1 k0.toNatClampNeg).2.2.1), .int ((y.1.2.2.1 k0.toNatClampNeg).2.2.2.1), .double ((y.1.2.2.1 k0.toNatClampNeg).2.2.2.2.1), .int (sf_b ((y.1.2.2.1 k0.toNatClampNeg).2.2.2.2.2.1)), .int ((y.1.2.2.1 k0.toNatClampNeg).2.2.2.2.2.2.1), .int (sf_b ((y.1.2.2.1 k0.toNatClampNeg).2.2.2.2.2.2.2.1)), .double ((y.1.2.2.1 k0.toNatClampNeg).2.2.2.2.2.2.2.2.1), .double ((y.1.2.2.1 k0.toNatClampNeg).2.2.2.2.2.2.2.2.2.1), .int ((y.1.2.2.1 k0.toNatClampNeg).2.2.2.2.2.2.2.2.2.2.1), .int ((y.1.2.2.1 k0.toNatClampNeg).2.2.2.2.2.2.2.2.2.2.2)])), (o 0, .inr (2, [.ref (o 1), .ref (o 2), .ref (o 3), .ref (o 4), .int sc, .int y.1.2.2.2.1, .int y.1.2.2.2.2])), (o 1, .inl (cZ, 24, .inl (fun i9 => sf_b (y.1.1 i9)))), (o 2, .inl (cD, 8, .inr (.inr (.inr (.inl y.1.2.1))))), (o 3, .inl (cR, 5, .inr (.inr (.inr (.inr (fun g => some (ra g 0))))))), (o 4, .inl (cB, 8, .inr (.inr (.inr (.inr (fun k => some (ba k)))))))] ++ (wp_rs cI cZ ra y.2 ++ (wp_bx ba y.1.2.2.1 k0.toNatClampNeg ++ []))) := hD
  refine lv_aload_n hx hb dX2_told_18 rfl (lv_at hl 0 rfl) ?_
  refine va_get (D := (dC, dI)) (ci := 2) (v := .ref (o 4)) (C := RX2) (T := TX2) (N := 7) hx hb hg in_X2 hown hK hP 1 rfl rfl 3 (by decide) (hg _ mw_122) (fun _ h9 => h9) rfl dX2_told_19 ?_
  refine lv_iload_n hx hb dX2_told_22 rfl (lv_at hl 1 rfl) ?_
  refine sf_aald hx hb hK hP 5 4 rfl rfl k0.toNatClampNeg hq1.1 hq1.2 (by decide) rfl dX2_told_23 ?_
  refine lv_iload_n hx hb dX2_told_24 rfl (lv_at hl 2 rfl) ?_
  have hPr : va_P (dC, dI) vwCl [wp_B (ba k0.toNatClampNeg) (y.1.2.2.1 k0.toNatClampNeg)] s.heap := hP.sub [0] rfl
  refine sf_callRi (va_runV (As := [.int w0]) (rest := []) ⟨hx, hb, hml, hown, hg⟩ (c_X0_tell l dC dI (ba k0.toNatClampNeg) (y.1.2.2.1 k0.toNatClampNeg) w0) (cwV 1 hg (gw_V mw_478 mw_479 mw_480 mw_23 mw_481) rfl rfl rfl (by decide +kernel) ⟨Nat.le_of_ble_eq_true rfl, Nat.le_of_ble_eq_true rfl⟩) (sf_preVR (va_recv hK hP (ci := 0) (q0 := 0) rfl rfl) (hK.sub [] rfl) hZ hPr) rfl rfl hl.1 rfl (lv_room (Nat.le_of_ble_eq_true rfl)) dX2_told_25 ⟨Nat.le_of_ble_eq_true rfl, Nat.le_of_ble_eq_true rfl⟩) ?_
  have hP := sf_P_perm (sf_pickB (ba := ba) (bs := y.1.2.2.1) (k := k0.toNatClampNeg) hq1.2 [(o 0, .inr (2, [.ref (o 1), .ref (o 2), .ref (o 3), .ref (o 4), .int sc, .int y.1.2.2.2.1, .int y.1.2.2.2.2])), (o 1, .inl (cZ, 24, .inl (fun i9 => sf_b (y.1.1 i9)))), (o 2, .inl (cD, 8, .inr (.inr (.inr (.inl y.1.2.1))))), (o 3, .inl (cR, 5, .inr (.inr (.inr (.inr (fun g => some (ra g 0))))))), (o 4, .inl (cB, 8, .inr (.inr (.inr (.inr (fun k => some (ba k)))))))] _).symm hP
  have hD := sf_D_perm (sf_pickB (ba := ba) (bs := y.1.2.2.1) (k := k0.toNatClampNeg) hq1.2 [(o 0, .inr (2, [.ref (o 1), .ref (o 2), .ref (o 3), .ref (o 4), .int sc, .int y.1.2.2.2.1, .int y.1.2.2.2.2])), (o 1, .inl (cZ, 24, .inl (fun i9 => sf_b (y.1.1 i9)))), (o 2, .inl (cD, 8, .inr (.inr (.inr (.inl y.1.2.1))))), (o 3, .inl (cR, 5, .inr (.inr (.inr (.inr (fun g => some (ra g 0))))))), (o 4, .inl (cB, 8, .inr (.inr (.inr (.inr (fun k => some (ba k)))))))] _).symm hD
  have hP9 : va_P (dC, dI) vwCl (wp_S cI cZ cD cR cB o ra ba sc y) s.heap := hP
  have hD9 : va_D A (wp_S cI cZ cD cR cB o ra ba sc y) := hD
  refine W.widen (k := 2) (n := 12) (Nat.le_of_ble_eq_true rfl) (Nat.le_of_ble_eq_true rfl) ?_
  refine vx_ret ?_
  exact W.iret hx hb hr (fun t ht _ => ⟨⟨ct_1, ct_2⟩, rfl, by rw [ht]; exact hP9, hAe ▸ hD9, hAe ▸ hS.F ht⟩) (fun q hq => by rw [← hAe]; exact hS.2.2 q hq) dX2_told_28
set_option maxHeartbeats 4000000 in
set_option maxRecDepth 100000 in
theorem c_X2_guard (l : Launch) (hlt : l.stackTraces = false) (sx : Nat → Nat) (dC : Nat → ClassId) (dI : Nat → Nat → Nat) (cI cZ cD cR cB : ClassId) (o : Nat → Nat) (ra : Nat → Nat → Nat) (ba : Nat → Nat) (sc : Int32) (y : st_Y) (k0 : Int32) (x0 : Bool) (sz : Nat)  : vx_Met l yX2_guard wX2_guard ({ frames := 7, cells := 1, slots := 6, locals := 102 }) (sf_PX (dC, dI) vwCl [(cI, .int), (cZ, .boolean), (cD, .double), (cR, .object RX1), (cB, .object RX0)] sx (wp_S cI cZ cD cR cB o ra ba sc y) sz [.ref (o 0), .int k0, .int (sf_b x0)]) (sf_XV (dC, dI) vwCl (fc_ix k0 8 = true) (some (.int (sf_b ((y.1.2.2.1 k0.toNatClampNeg).2.2.2.2.2.1)))) (wp_S cI cZ cD cR cB o ra ba sc y) (wp_S cI cZ cD cR cB o ra ba sc (fp_guard y k0 x0))) (sf_XE (dC, dI) vwCl (fun E => fc_ix k0 8 = false ∧ E = ex_O) (wp_S cI cZ cD cR cB o ra ba sc y) (wp_S cI cZ cD cR cB o ra ba sc y)) 1 6 (va_A (wp_S cI cZ cD cR cB o ra ba sc y) sz) := by
  refine vx_ofW (cc := cX2_guard) (maxL := 4) (ret := (some .boolean)) (by decide) rfl ?_
  intro p e s m args below meth c s₁ B hml hEx hv
  have hx := B.exec
  have hb := B.bytes
  have hr := B.returns
  have hts := atoms_spec (ws := wX2_guard) B.pre
  have hg : ∀ w ∈ gw_all, w.before args s = true := fun w h => hts w (List.mem_cons_of_mem _ h)
  have hown : s.vm.findClass RX2 = some m.cls := findClass_of_methodNamed B.named
  have hlocks := B.notSynchronized
  obtain ⟨rfl, hsz, hP, hD0, hK, hZ, hE⟩ := hv
  subst hsz
  have hl := lv_entry ([.ref (o 0), .int k0, .int (sf_b x0)]) (n := 4) (Nat.le_of_ble_eq_true rfl)
  rw [lg_entry_eq]
  generalize (lg_sl ([.ref (o 0), .int k0, .int (sf_b x0)]) ++ List.replicate (4 - (lg_sl ([.ref (o 0), .int k0, .int (sf_b x0)])).length) Slot.unset).toArray = ls at hl ⊢
  have hl : lv_has ls 4 [(0, .ref (o 0)), (1, .int k0), (2, .int (sf_b x0))] := hl
  obtain ⟨A, hAe⟩ : ∃ A : Nat → Prop, A = va_A (wp_S cI cZ cD cR cB o ra ba sc y) s.heap.size := ⟨_, rfl⟩
  have hD := hD0.self (sz := s.heap.size)
  rw [← hAe] at hD hE
  have hA : ∀ q : Nat, s.heap.size ≤ q → A q := fun q h => by rw [hAe]; exact Or.inr h
  have hS : va_S A s.heap s.heap [] := va_S.rf
  have hP : va_P (dC, dI) vwCl ([(o 0, .inr (2, [.ref (o 1), .ref (o 2), .ref (o 3), .ref (o 4), .int sc, .int y.1.2.2.2.1, .int y.1.2.2.2.2])), (o 1, .inl (cZ, 24, .inl (fun i9 => sf_b (y.1.1 i9)))), (o 2, .inl (cD, 8, .inr (.inr (.inr (.inl y.1.2.1))))), (o 3, .inl (cR, 5, .inr (.inr (.inr (.inr (fun g => some (ra g 0))))))), (o 4, .inl (cB, 8, .inr (.inr (.inr (.inr (fun k => some (ba k)))))))] ++ (wp_rs cI cZ ra y.2 ++ (wp_bs ba y.1.2.2.1 ++ []))) s.heap := hP
  have hD : va_D A ([(o 0, .inr (2, [.ref (o 1), .ref (o 2), .ref (o 3), .ref (o 4), .int sc, .int y.1.2.2.2.1, .int y.1.2.2.2.2])), (o 1, .inl (cZ, 24, .inl (fun i9 => sf_b (y.1.1 i9)))), (o 2, .inl (cD, 8, .inr (.inr (.inr (.inl y.1.2.1))))), (o 3, .inl (cR, 5, .inr (.inr (.inr (.inr (fun g => some (ra g 0))))))), (o 4, .inl (cB, 8, .inr (.inr (.inr (.inr (fun k => some (ba k)))))))] ++ (wp_rs cI cZ ra y.2 ++ (wp_bs ba y.1.2.2.1 ++ []))) := hD
  refine lv_iload_n hx hb dX2_guard_0 rfl (lv_at hl 1 rfl) ?_
  refine lv_bipush (v := 8) hx hb dX2_guard_1 (by decide) ?_
  refine sf_callRi (va_runS (As := [.int k0, .int 8]) (rest := []) ⟨hx, hb, hml, hown, hg⟩ (c_X2_isIndex l k0 8) (cwS 2 hg (gw_S mw_163 mw_164 mw_21 mw_165) rfl rfl rfl (by decide +kernel) ⟨Nat.le_of_ble_eq_true rfl, Nat.le_of_ble_eq_true rfl⟩) sf_pre0 rfl rfl hl.1 rfl (lv_room (Nat.le_of_ble_eq_true rfl)) dX2_guard_3 ⟨Nat.le_of_ble_eq_true rfl, Nat.le_of_ble_eq_true rfl⟩) ?_
  refine sf_callD (vx_runS (As := [.int (sf_b (fc_ix k0 8))]) (rest := []) ⟨hx, hb, hml, hown, hg⟩ (c_X2_demandPlace l hlt sx (fc_ix k0 8)) (cwS 1 hg (gw_S mw_241 mw_242 mw_21 mw_243) rfl rfl rfl (by decide +kernel) ⟨Nat.le_of_ble_eq_true rfl, Nat.le_of_ble_eq_true rfl⟩) (sf_preD hE hS) rfl rfl hl.1 rfl (lv_room (Nat.le_of_ble_eq_true rfl)) dX2_guard_6 ⟨Nat.le_of_ble_eq_true rfl, Nat.le_of_ble_eq_true rfl⟩) (fun cF ce q9 H hz hk hce hcv hcl => ?_) (fun ct_1 => ?_)
  · have hP := hP.kept (fun k q hq => hk q.1 (hP k q hq).lt)
    have hS := sf_S_grow hS hz hk
    exact vx_out (fun x hx => (hEx x hx).elim) hlocks hce hcv hcl (fun t ht _ => ⟨⟨cF, rfl⟩, by rw [ht]; exact hP, hAe ▸ hD, hAe ▸ hS.F ht⟩) (fun q hq => by rw [← hAe]; exact hS.2.2 q hq) (Nat.le_of_ble_eq_true rfl) (Nat.le_of_ble_eq_true rfl)
  have hq1 := ix_nat (n := 8) rfl (by decide) ct_1
  have hP := sf_P_perm (sf_pickB (ba := ba) (bs := y.1.2.2.1) (k := k0.toNatClampNeg) hq1.2 _ _) hP
  have hD := sf_D_perm (sf_pickB (ba := ba) (bs := y.1.2.2.1) (k := k0.toNatClampNeg) hq1.2 _ _) hD
  have hP : va_P (dC, dI) vwCl ([(ba k0.toNatClampNeg, .inr (0, [.int ((y.1.2.2.1 k0.toNatClampNeg).1), .int ((y.1.2.2.1 k0.toNatClampNeg).2.1), .int ((y.1.2.2.1 k0.toNatClampNeg).2.2.1), .int ((y.1.2.2.1 k0.toNatClampNeg).2.2.2.1), .double ((y.1.2.2.1 k0.toNatClampNeg).2.2.2.2.1), .int (sf_b ((y.1.2.2.1 k0.toNatClampNeg).2.2.2.2.2.1)), .int ((y.1.2.2.1 k0.toNatClampNeg).2.2.2.2.2.2.1), .int (sf_b ((y.1.2.2.1 k0.toNatClampNeg).2.2.2.2.2.2.2.1)), .double ((y.1.2.2.1 k0.toNatClampNeg).2.2.2.2.2.2.2.2.1), .double ((y.1.2.2.1 k0.toNatClampNeg).2.2.2.2.2.2.2.2.2.1), .int ((y.1.2.2.1 k0.toNatClampNeg).2.2.2.2.2.2.2.2.2.2.1), .int ((y.1.2.2.1 k0.toNatClampNeg).2.2.2.2.2.2.2.2.2.2.2)])), (o 0, .inr (2, [.ref (o 1), .ref (o 2), .ref (o 3), .ref (o 4), .int sc, .int y.1.2.2.2.1, .int y.1.2.2.2.2])), (o 1, .inl (cZ, 24, .inl (fun i9 => sf_b (y.1.1 i9)))), (o 2, .inl (cD, 8, .inr (.inr (.inr (.inl y.1.2.1))))), (o 3, .inl (cR, 5, .inr (.inr (.inr (.inr (fun g => some (ra g 0))))))), (o 4, .inl (cB, 8, .inr (.inr (.inr (.inr (fun k => some (ba k)))))))] ++ (wp_rs cI cZ ra y.2 ++ (wp_bx ba y.1.2.2.1 k0.toNatClampNeg ++ []))) s.heap := hP
  have hD : va_D A ([(ba k0.toNatClampNeg, .inr (0, [.int ((y.1.2.2.1 k0.toNatClampNeg).1), .int ((y.1.2.2.1 k0.toNatClampNeg).2.1), .int ((y.1.2.2.1 k0.toNatClampNeg).2.2.1), .int ((y.1.2.2.1 k0.toNatClampNeg).2.2.2.1), .double ((y.1.2.2.1 k0.toNatClampNeg).2.2.2.2.1), .int (sf_b ((y.1.2.2.1 k0.toNatClampNeg).2.2.2.2.2.1)), .int ((y.1.2.2.1 k0.toNatClampNeg).2.2.2.2.2.2.1), .int (sf_b ((y.1.2.2.1 k0.toNatClampNeg).2.2.2.2.2.2.2.1)), .double ((y.1.2.2.1 k0.toNatClampNeg).2.2.2.2.2.2.2.2.1), .double ((y.1.2.2.1 k0.toNatClampNeg).2.2.2.2.2.2.2.2.2.1), .int ((y.1.2.2.1 k0.toNatClampNeg).2.2.2.2.2.2.2.2.2.2.1), .int ((y.1.2.2.1 k0.toNatClampNeg).2.2.2.2.2.2.2.2.2.2.2)])), (o 0, .inr (2, [.ref (o 1), .ref (o 2), .ref (o 3), .ref (o 4), .int sc, .int y.1.2.2.2.1, .int y.1.2.2.2.2])), (o 1, .inl (cZ, 24, .inl (fun i9 => sf_b (y.1.1 i9)))), (o 2, .inl (cD, 8, .inr (.inr (.inr (.inl y.1.2.1))))), (o 3, .inl (cR, 5, .inr (.inr (.inr (.inr (fun g => some (ra g 0))))))), (o 4, .inl (cB, 8, .inr (.inr (.inr (.inr (fun k => some (ba k)))))))] ++ (wp_rs cI cZ ra y.2 ++ (wp_bx ba y.1.2.2.1 k0.toNatClampNeg ++ []))) := hD
  refine lv_aload_n hx hb dX2_guard_9 rfl (lv_at hl 0 rfl) ?_
  refine va_get (D := (dC, dI)) (ci := 2) (v := .ref (o 4)) (C := RX2) (T := TX2) (N := 7) hx hb hg in_X2 hown hK hP 1 rfl rfl 3 (by decide) (hg _ mw_122) (fun _ h9 => h9) rfl dX2_guard_10 ?_
  refine lv_iload_n hx hb dX2_guard_13 rfl (lv_at hl 1 rfl) ?_
  refine sf_aald hx hb hK hP 5 4 rfl rfl k0.toNatClampNeg hq1.1 hq1.2 (by decide) rfl dX2_guard_14 ?_
  refine va_getN (D := (dC, dI)) (ci := 0) (v := .int (sf_b ((y.1.2.2.1 k0.toNatClampNeg).2.2.2.2.2.1))) (C := RX0) (T := TX0) (N := 12) hx hb hg in_X0 hown hK hP 0 rfl rfl 5 (by decide) (va_Nw.use rfl (hZ (.fieldLinkNest RX2 75 RX0 "guarded" "Z" RX2) (by decide +kernel))) (fun _ h9 => h9) rfl dX2_guard_15 ?_
  refine lv_istore_n (lv' := [(3, .int (sf_b ((y.1.2.2.1 k0.toNatClampNeg).2.2.2.2.2.1))), (0, .ref (o 0)), (1, .int k0), (2, .int (sf_b x0))]) hx hb dX2_guard_18 rfl hl (by decide) rfl (fun ls hl => ?_)
  refine lv_aload_n hx hb dX2_guard_19 rfl (lv_at hl 1 rfl) ?_
  refine va_get (D := (dC, dI)) (ci := 2) (v := .ref (o 4)) (C := RX2) (T := TX2) (N := 7) hx hb hg in_X2 hown hK hP 1 rfl rfl 3 (by decide) (hg _ mw_122) (fun _ h9 => h9) rfl dX2_guard_20 ?_
  refine lv_iload_n hx hb dX2_guard_23 rfl (lv_at hl 2 rfl) ?_
  refine sf_aald hx hb hK hP 5 4 rfl rfl k0.toNatClampNeg hq1.1 hq1.2 (by decide) rfl dX2_guard_24 ?_
  refine lv_iload_n hx hb dX2_guard_25 rfl (lv_at hl 3 rfl) ?_
  refine va_putN (D := (dC, dI)) (ci := 0) (v := .int (sf_b x0)) (ty := .boolean) (C := RX0) (T := TX0) (N := 12) hx hb hg in_X0 tyX0 tyX0_ok nmX0 hown hK hP hD hS 0 rfl rfl 5 (by decide) (va_Nw.use rfl (hZ (.fieldLinkNest RX2 75 RX0 "guarded" "Z" RX2) (by decide +kernel))) (fun _ h9 => h9) rfl (by decide +kernel) (sf_b_nb _) (sf_b_fit _) (Nat.le_of_ble_eq_true rfl) dX2_guard_26 (fun H locs hP hD hS => ?_)
  have hP : va_P (dC, dI) vwCl ([(ba k0.toNatClampNeg, .inr (0, [.int ((y.1.2.2.1 k0.toNatClampNeg).1), .int ((y.1.2.2.1 k0.toNatClampNeg).2.1), .int ((y.1.2.2.1 k0.toNatClampNeg).2.2.1), .int ((y.1.2.2.1 k0.toNatClampNeg).2.2.2.1), .double ((y.1.2.2.1 k0.toNatClampNeg).2.2.2.2.1), .int (sf_b x0), .int ((y.1.2.2.1 k0.toNatClampNeg).2.2.2.2.2.2.1), .int (sf_b ((y.1.2.2.1 k0.toNatClampNeg).2.2.2.2.2.2.2.1)), .double ((y.1.2.2.1 k0.toNatClampNeg).2.2.2.2.2.2.2.2.1), .double ((y.1.2.2.1 k0.toNatClampNeg).2.2.2.2.2.2.2.2.2.1), .int ((y.1.2.2.1 k0.toNatClampNeg).2.2.2.2.2.2.2.2.2.2.1), .int ((y.1.2.2.1 k0.toNatClampNeg).2.2.2.2.2.2.2.2.2.2.2)])), (o 0, .inr (2, [.ref (o 1), .ref (o 2), .ref (o 3), .ref (o 4), .int sc, .int y.1.2.2.2.1, .int y.1.2.2.2.2])), (o 1, .inl (cZ, 24, .inl (fun i9 => sf_b (y.1.1 i9)))), (o 2, .inl (cD, 8, .inr (.inr (.inr (.inl y.1.2.1))))), (o 3, .inl (cR, 5, .inr (.inr (.inr (.inr (fun g => some (ra g 0))))))), (o 4, .inl (cB, 8, .inr (.inr (.inr (.inr (fun k => some (ba k)))))))] ++ (wp_rs cI cZ ra y.2 ++ (wp_bx ba y.1.2.2.1 k0.toNatClampNeg ++ []))) H := hP
  have hD : va_D A ([(ba k0.toNatClampNeg, .inr (0, [.int ((y.1.2.2.1 k0.toNatClampNeg).1), .int ((y.1.2.2.1 k0.toNatClampNeg).2.1), .int ((y.1.2.2.1 k0.toNatClampNeg).2.2.1), .int ((y.1.2.2.1 k0.toNatClampNeg).2.2.2.1), .double ((y.1.2.2.1 k0.toNatClampNeg).2.2.2.2.1), .int (sf_b x0), .int ((y.1.2.2.1 k0.toNatClampNeg).2.2.2.2.2.2.1), .int (sf_b ((y.1.2.2.1 k0.toNatClampNeg).2.2.2.2.2.2.2.1)), .double ((y.1.2.2.1 k0.toNatClampNeg).2.2.2.2.2.2.2.2.1), .double ((y.1.2.2.1 k0.toNatClampNeg).2.2.2.2.2.2.2.2.2.1), .int ((y.1.2.2.1 k0.toNatClampNeg).2.2.2.2.2.2.2.2.2.2.1), .int ((y.1.2.2.1 k0.toNatClampNeg).2.2.2.2.2.2.2.2.2.2.2)])), (o 0, .inr (2, [.ref (o 1), .ref (o 2), .ref (o 3), .ref (o 4), .int sc, .int y.1.2.2.2.1, .int y.1.2.2.2.2])), (o 1, .inl (cZ, 24, .inl (fun i9 => sf_b (y.1.1 i9)))), (o 2, .inl (cD, 8, .inr (.inr (.inr (.inl y.1.2.1))))), (o 3, .inl (cR, 5, .inr (.inr (.inr (.inr (fun g => some (ra g 0))))))), (o 4, .inl (cB, 8, .inr (.inr (.inr (.inr (fun k => some (ba k)))))))] ++ (wp_rs cI cZ ra y.2 ++ (wp_bx ba y.1.2.2.1 k0.toNatClampNeg ++ []))) := hD
  refine lv_iload_n hx hb dX2_guard_29 rfl (lv_at hl 0 rfl) ?_
  have hP := sf_P_perm (sf_pickB' (ba := ba) (bs := y.1.2.2.1) (k := k0.toNatClampNeg) (b := fb_grd (y.1.2.2.1 k0.toNatClampNeg) x0) hq1.2 [(o 0, .inr (2, [.ref (o 1), .ref (o 2), .ref (o 3), .ref (o 4), .int sc, .int y.1.2.2.2.1, .int y.1.2.2.2.2])), (o 1, .inl (cZ, 24, .inl (fun i9 => sf_b (y.1.1 i9)))), (o 2, .inl (cD, 8, .inr (.inr (.inr (.inl y.1.2.1))))), (o 3, .inl (cR, 5, .inr (.inr (.inr (.inr (fun g => some (ra g 0))))))), (o 4, .inl (cB, 8, .inr (.inr (.inr (.inr (fun k => some (ba k)))))))] _) hP
  have hD := sf_D_perm (sf_pickB' (ba := ba) (bs := y.1.2.2.1) (k := k0.toNatClampNeg) (b := fb_grd (y.1.2.2.1 k0.toNatClampNeg) x0) hq1.2 [(o 0, .inr (2, [.ref (o 1), .ref (o 2), .ref (o 3), .ref (o 4), .int sc, .int y.1.2.2.2.1, .int y.1.2.2.2.2])), (o 1, .inl (cZ, 24, .inl (fun i9 => sf_b (y.1.1 i9)))), (o 2, .inl (cD, 8, .inr (.inr (.inr (.inl y.1.2.1))))), (o 3, .inl (cR, 5, .inr (.inr (.inr (.inr (fun g => some (ra g 0))))))), (o 4, .inl (cB, 8, .inr (.inr (.inr (.inr (fun k => some (ba k)))))))] _) hD
  have hP9 : va_P (dC, dI) vwCl (wp_S cI cZ cD cR cB o ra ba sc (fp_guard y k0 x0)) H := hP
  have hD9 : va_D A (wp_S cI cZ cD cR cB o ra ba sc (fp_guard y k0 x0)) := hD
  refine W.widen (k := 1) (n := 6) (Nat.le_of_ble_eq_true rfl) (Nat.le_of_ble_eq_true rfl) ?_
  refine vx_ret ?_
  exact W.zret hx hb hr (sf_b_nb _) (fun t ht _ => ⟨ct_1, rfl, by rw [ht]; exact hP9, hAe ▸ hD9, hAe ▸ hS.F ht⟩) (fun q hq => by rw [← hAe]; exact hS.2.2 q hq) dX2_guard_30
set_option maxHeartbeats 4000000 in
set_option maxRecDepth 100000 in
theorem c_X2_input (l : Launch) (hlt : l.stackTraces = false) (sx : Nat → Nat) (dC : Nat → ClassId) (dI : Nat → Nat → Nat) (cI cZ cD cR cB : ClassId) (o : Nat → Nat) (ra : Nat → Nat → Nat) (ba : Nat → Nat) (sc : Int32) (y : st_Y) (i0 : Int32) (x0 : Bool) (sz : Nat)  : vx_Met l yX2_input wX2_input ({ frames := 7, cells := 1, slots := 6, locals := 102 }) (sf_PX (dC, dI) vwCl [(cI, .int), (cZ, .boolean), (cD, .double), (cR, .object RX1), (cB, .object RX0)] sx (wp_S cI cZ cD cR cB o ra ba sc y) sz [.ref (o 0), .int i0, .int (sf_b x0)]) (sf_XV (dC, dI) vwCl (fc_ix i0 8 = true) (some (.int (sf_b (y.1.1 i0.toNatClampNeg)))) (wp_S cI cZ cD cR cB o ra ba sc y) (wp_S cI cZ cD cR cB o ra ba sc (fp_input y i0 x0))) (sf_XE (dC, dI) vwCl (fun E => fc_ix i0 8 = false ∧ E = ex_O) (wp_S cI cZ cD cR cB o ra ba sc y) (wp_S cI cZ cD cR cB o ra ba sc y)) 1 6 (va_A (wp_S cI cZ cD cR cB o ra ba sc y) sz) := by
  refine vx_ofW (cc := cX2_input) (maxL := 4) (ret := (some .boolean)) (by decide) rfl ?_
  intro p e s m args below meth c s₁ B hml hEx hv
  have hx := B.exec
  have hb := B.bytes
  have hr := B.returns
  have hts := atoms_spec (ws := wX2_input) B.pre
  have hg : ∀ w ∈ gw_all, w.before args s = true := fun w h => hts w (List.mem_cons_of_mem _ h)
  have hown : s.vm.findClass RX2 = some m.cls := findClass_of_methodNamed B.named
  have hlocks := B.notSynchronized
  obtain ⟨rfl, hsz, hP, hD0, hK, hZ, hE⟩ := hv
  subst hsz
  have hl := lv_entry ([.ref (o 0), .int i0, .int (sf_b x0)]) (n := 4) (Nat.le_of_ble_eq_true rfl)
  rw [lg_entry_eq]
  generalize (lg_sl ([.ref (o 0), .int i0, .int (sf_b x0)]) ++ List.replicate (4 - (lg_sl ([.ref (o 0), .int i0, .int (sf_b x0)])).length) Slot.unset).toArray = ls at hl ⊢
  have hl : lv_has ls 4 [(0, .ref (o 0)), (1, .int i0), (2, .int (sf_b x0))] := hl
  obtain ⟨A, hAe⟩ : ∃ A : Nat → Prop, A = va_A (wp_S cI cZ cD cR cB o ra ba sc y) s.heap.size := ⟨_, rfl⟩
  have hD := hD0.self (sz := s.heap.size)
  rw [← hAe] at hD hE
  have hA : ∀ q : Nat, s.heap.size ≤ q → A q := fun q h => by rw [hAe]; exact Or.inr h
  have hS : va_S A s.heap s.heap [] := va_S.rf
  have hP : va_P (dC, dI) vwCl ([(o 0, .inr (2, [.ref (o 1), .ref (o 2), .ref (o 3), .ref (o 4), .int sc, .int y.1.2.2.2.1, .int y.1.2.2.2.2])), (o 1, .inl (cZ, 24, .inl (fun i9 => sf_b (y.1.1 i9)))), (o 2, .inl (cD, 8, .inr (.inr (.inr (.inl y.1.2.1))))), (o 3, .inl (cR, 5, .inr (.inr (.inr (.inr (fun g => some (ra g 0))))))), (o 4, .inl (cB, 8, .inr (.inr (.inr (.inr (fun k => some (ba k)))))))] ++ (wp_rs cI cZ ra y.2 ++ (wp_bs ba y.1.2.2.1 ++ []))) s.heap := hP
  have hD : va_D A ([(o 0, .inr (2, [.ref (o 1), .ref (o 2), .ref (o 3), .ref (o 4), .int sc, .int y.1.2.2.2.1, .int y.1.2.2.2.2])), (o 1, .inl (cZ, 24, .inl (fun i9 => sf_b (y.1.1 i9)))), (o 2, .inl (cD, 8, .inr (.inr (.inr (.inl y.1.2.1))))), (o 3, .inl (cR, 5, .inr (.inr (.inr (.inr (fun g => some (ra g 0))))))), (o 4, .inl (cB, 8, .inr (.inr (.inr (.inr (fun k => some (ba k)))))))] ++ (wp_rs cI cZ ra y.2 ++ (wp_bs ba y.1.2.2.1 ++ []))) := hD
  refine lv_iload_n hx hb dX2_input_0 rfl (lv_at hl 1 rfl) ?_
  refine lv_bipush (v := 8) hx hb dX2_input_1 (by decide) ?_
  refine sf_callRi (va_runS (As := [.int i0, .int 8]) (rest := []) ⟨hx, hb, hml, hown, hg⟩ (c_X2_isIndex l i0 8) (cwS 2 hg (gw_S mw_163 mw_164 mw_21 mw_165) rfl rfl rfl (by decide +kernel) ⟨Nat.le_of_ble_eq_true rfl, Nat.le_of_ble_eq_true rfl⟩) sf_pre0 rfl rfl hl.1 rfl (lv_room (Nat.le_of_ble_eq_true rfl)) dX2_input_3 ⟨Nat.le_of_ble_eq_true rfl, Nat.le_of_ble_eq_true rfl⟩) ?_
  refine sf_callD (vx_runS (As := [.int (sf_b (fc_ix i0 8))]) (rest := []) ⟨hx, hb, hml, hown, hg⟩ (c_X2_demandPlace l hlt sx (fc_ix i0 8)) (cwS 1 hg (gw_S mw_241 mw_242 mw_21 mw_243) rfl rfl rfl (by decide +kernel) ⟨Nat.le_of_ble_eq_true rfl, Nat.le_of_ble_eq_true rfl⟩) (sf_preD hE hS) rfl rfl hl.1 rfl (lv_room (Nat.le_of_ble_eq_true rfl)) dX2_input_6 ⟨Nat.le_of_ble_eq_true rfl, Nat.le_of_ble_eq_true rfl⟩) (fun cF ce q9 H hz hk hce hcv hcl => ?_) (fun ct_1 => ?_)
  · have hP := hP.kept (fun k q hq => hk q.1 (hP k q hq).lt)
    have hS := sf_S_grow hS hz hk
    exact vx_out (fun x hx => (hEx x hx).elim) hlocks hce hcv hcl (fun t ht _ => ⟨⟨cF, rfl⟩, by rw [ht]; exact hP, hAe ▸ hD, hAe ▸ hS.F ht⟩) (fun q hq => by rw [← hAe]; exact hS.2.2 q hq) (Nat.le_of_ble_eq_true rfl) (Nat.le_of_ble_eq_true rfl)
  have hq1 := ix_nat (n := 8) rfl (by decide) ct_1
  refine lv_aload_n hx hb dX2_input_9 rfl (lv_at hl 0 rfl) ?_
  refine va_get (D := (dC, dI)) (ci := 2) (v := .ref (o 1)) (C := RX2) (T := TX2) (N := 7) hx hb hg in_X2 hown hK hP 0 rfl rfl 0 (by decide) (hg _ mw_119) (fun _ h9 => h9) rfl dX2_input_10 ?_
  refine lv_iload_n hx hb dX2_input_13 rfl (lv_at hl 1 rfl) ?_
  refine sf_zald hx hb hK hP 1 1 rfl rfl i0.toNatClampNeg hq1.1 (Nat.lt_of_lt_of_le hq1.2 (by decide)) (by decide) dX2_input_14 ?_
  refine lv_istore_n (lv' := [(3, .int (sf_b (y.1.1 i0.toNatClampNeg))), (0, .ref (o 0)), (1, .int i0), (2, .int (sf_b x0))]) hx hb dX2_input_15 rfl hl (by decide) rfl (fun ls hl => ?_)
  refine lv_aload_n hx hb dX2_input_16 rfl (lv_at hl 1 rfl) ?_
  refine va_get (D := (dC, dI)) (ci := 2) (v := .ref (o 1)) (C := RX2) (T := TX2) (N := 7) hx hb hg in_X2 hown hK hP 0 rfl rfl 0 (by decide) (hg _ mw_119) (fun _ h9 => h9) rfl dX2_input_17 ?_
  refine lv_iload_n hx hb dX2_input_20 rfl (lv_at hl 2 rfl) ?_
  refine lv_iload_n hx hb dX2_input_21 rfl (lv_at hl 3 rfl) ?_
  refine sf_zast hx hb hK hP hD hS 1 1 rfl rfl i0.toNatClampNeg hq1.1 (Nat.lt_of_lt_of_le hq1.2 (by decide)) (by decide) dX2_input_22 (fun H locs hP hD hS => ?_)
  have hP : va_P (dC, dI) vwCl ([(o 0, .inr (2, [.ref (o 1), .ref (o 2), .ref (o 3), .ref (o 4), .int sc, .int y.1.2.2.2.1, .int y.1.2.2.2.2])), (o 1, .inl (cZ, 24, .inl (fun i9 => sf_b ((va_up y.1.1 i0.toNatClampNeg x0) i9)))), (o 2, .inl (cD, 8, .inr (.inr (.inr (.inl y.1.2.1))))), (o 3, .inl (cR, 5, .inr (.inr (.inr (.inr (fun g => some (ra g 0))))))), (o 4, .inl (cB, 8, .inr (.inr (.inr (.inr (fun k => some (ba k)))))))] ++ (wp_rs cI cZ ra y.2 ++ (wp_bs ba y.1.2.2.1 ++ []))) H := hP
  have hD : va_D A ([(o 0, .inr (2, [.ref (o 1), .ref (o 2), .ref (o 3), .ref (o 4), .int sc, .int y.1.2.2.2.1, .int y.1.2.2.2.2])), (o 1, .inl (cZ, 24, .inl (fun i9 => sf_b ((va_up y.1.1 i0.toNatClampNeg x0) i9)))), (o 2, .inl (cD, 8, .inr (.inr (.inr (.inl y.1.2.1))))), (o 3, .inl (cR, 5, .inr (.inr (.inr (.inr (fun g => some (ra g 0))))))), (o 4, .inl (cB, 8, .inr (.inr (.inr (.inr (fun k => some (ba k)))))))] ++ (wp_rs cI cZ ra y.2 ++ (wp_bs ba y.1.2.2.1 ++ []))) := hD
  refine lv_iload_n hx hb dX2_input_23 rfl (lv_at hl 0 rfl) ?_
  have hP9 : va_P (dC, dI) vwCl (wp_S cI cZ cD cR cB o ra ba sc (fp_input y i0 x0)) H := hP
  have hD9 : va_D A (wp_S cI cZ cD cR cB o ra ba sc (fp_input y i0 x0)) := hD
  refine W.widen (k := 1) (n := 6) (Nat.le_of_ble_eq_true rfl) (Nat.le_of_ble_eq_true rfl) ?_
  refine vx_ret ?_
  exact W.zret hx hb hr (sf_b_nb _) (fun t ht _ => ⟨ct_1, rfl, by rw [ht]; exact hP9, hAe ▸ hD9, hAe ▸ hS.F ht⟩) (fun q hq => by rw [← hAe]; exact hS.2.2 q hq) dX2_input_24
set_option maxHeartbeats 4000000 in
set_option maxRecDepth 100000 in
theorem c_X2_set (l : Launch) (hlt : l.stackTraces = false) (sx : Nat → Nat) (dC : Nat → ClassId) (dI : Nat → Nat → Nat) (cI cZ cD cR cB : ClassId) (o : Nat → Nat) (ra : Nat → Nat → Nat) (ba : Nat → Nat) (sc : Int32) (y : st_Y) (i0 : Int32) (v0 : UInt64) (sz : Nat)  : vx_Met l yX2_set wX2_set ({ frames := 7, cells := 2, slots := 12, locals := 102 }) (sf_PX (dC, dI) vwCl [(cI, .int), (cZ, .boolean), (cD, .double), (cR, .object RX1), (cB, .object RX0)] sx (wp_S cI cZ cD cR cB o ra ba sc y) sz [.ref (o 0), .int i0, .double v0]) (sf_XV (dC, dI) vwCl (fc_val v0 = true ∧ fc_ix i0 8 = true) (some (.double (y.1.2.1 i0.toNatClampNeg))) (wp_S cI cZ cD cR cB o ra ba sc y) (wp_S cI cZ cD cR cB o ra ba sc (fp_set y i0 v0))) (sf_XE (dC, dI) vwCl (fun E => (fc_val v0 = false ∧ E = ex_I) ∨ (fc_val v0 = true ∧ fc_ix i0 8 = false ∧ E = ex_O)) (wp_S cI cZ cD cR cB o ra ba sc y) (wp_S cI cZ cD cR cB o ra ba sc y)) 2 12 (va_A (wp_S cI cZ cD cR cB o ra ba sc y) sz) := by
  refine vx_ofW (cc := cX2_set) (maxL := 6) (ret := (some .double)) (by decide) rfl ?_
  intro p e s m args below meth c s₁ B hml hEx hv
  have hx := B.exec
  have hb := B.bytes
  have hr := B.returns
  have hts := atoms_spec (ws := wX2_set) B.pre
  have hg : ∀ w ∈ gw_all, w.before args s = true := fun w h => hts w (List.mem_cons_of_mem _ h)
  have hown : s.vm.findClass RX2 = some m.cls := findClass_of_methodNamed B.named
  have hlocks := B.notSynchronized
  obtain ⟨rfl, hsz, hP, hD0, hK, hZ, hE⟩ := hv
  subst hsz
  have hl := lv_entry ([.ref (o 0), .int i0, .double v0]) (n := 6) (Nat.le_of_ble_eq_true rfl)
  rw [lg_entry_eq]
  generalize (lg_sl ([.ref (o 0), .int i0, .double v0]) ++ List.replicate (6 - (lg_sl ([.ref (o 0), .int i0, .double v0])).length) Slot.unset).toArray = ls at hl ⊢
  have hl : lv_has ls 6 [(0, .ref (o 0)), (1, .int i0), (2, .double v0)] := hl
  obtain ⟨A, hAe⟩ : ∃ A : Nat → Prop, A = va_A (wp_S cI cZ cD cR cB o ra ba sc y) s.heap.size := ⟨_, rfl⟩
  have hD := hD0.self (sz := s.heap.size)
  rw [← hAe] at hD hE
  have hA : ∀ q : Nat, s.heap.size ≤ q → A q := fun q h => by rw [hAe]; exact Or.inr h
  have hS : va_S A s.heap s.heap [] := va_S.rf
  have hP : va_P (dC, dI) vwCl ([(o 0, .inr (2, [.ref (o 1), .ref (o 2), .ref (o 3), .ref (o 4), .int sc, .int y.1.2.2.2.1, .int y.1.2.2.2.2])), (o 1, .inl (cZ, 24, .inl (fun i9 => sf_b (y.1.1 i9)))), (o 2, .inl (cD, 8, .inr (.inr (.inr (.inl y.1.2.1))))), (o 3, .inl (cR, 5, .inr (.inr (.inr (.inr (fun g => some (ra g 0))))))), (o 4, .inl (cB, 8, .inr (.inr (.inr (.inr (fun k => some (ba k)))))))] ++ (wp_rs cI cZ ra y.2 ++ (wp_bs ba y.1.2.2.1 ++ []))) s.heap := hP
  have hD : va_D A ([(o 0, .inr (2, [.ref (o 1), .ref (o 2), .ref (o 3), .ref (o 4), .int sc, .int y.1.2.2.2.1, .int y.1.2.2.2.2])), (o 1, .inl (cZ, 24, .inl (fun i9 => sf_b (y.1.1 i9)))), (o 2, .inl (cD, 8, .inr (.inr (.inr (.inl y.1.2.1))))), (o 3, .inl (cR, 5, .inr (.inr (.inr (.inr (fun g => some (ra g 0))))))), (o 4, .inl (cB, 8, .inr (.inr (.inr (.inr (fun k => some (ba k)))))))] ++ (wp_rs cI cZ ra y.2 ++ (wp_bs ba y.1.2.2.1 ++ []))) := hD
  refine lv_dload_n hx hb dX2_set_0 rfl (lv_at hl 2 rfl) ?_
  refine sf_callRi (va_runS (As := [.double v0]) (rest := []) ⟨hx, hb, hml, hown, hg⟩ (c_X2_isValue l v0) (cwS 1 hg (gw_S mw_339 mw_340 mw_21 mw_341) rfl rfl rfl (by decide +kernel) ⟨Nat.le_of_ble_eq_true rfl, Nat.le_of_ble_eq_true rfl⟩) sf_pre0 rfl rfl hl.1 rfl (lv_room (Nat.le_of_ble_eq_true rfl)) dX2_set_1 ⟨Nat.le_of_ble_eq_true rfl, Nat.le_of_ble_eq_true rfl⟩) ?_
  refine sf_callD (vx_runS (As := [.int (sf_b (fc_val v0))]) (rest := []) ⟨hx, hb, hml, hown, hg⟩ (c_X2_demandNumbers l hlt sx (fc_val v0)) (cwS 1 hg (gw_S mw_166 mw_167 mw_21 mw_168) rfl rfl rfl (by decide +kernel) ⟨Nat.le_of_ble_eq_true rfl, Nat.le_of_ble_eq_true rfl⟩) (sf_preD hE hS) rfl rfl hl.1 rfl (lv_room (Nat.le_of_ble_eq_true rfl)) dX2_set_4 ⟨Nat.le_of_ble_eq_true rfl, Nat.le_of_ble_eq_true rfl⟩) (fun cF ce q9 H hz hk hce hcv hcl => ?_) (fun ct_1 => ?_)
  · have hP := hP.kept (fun k q hq => hk q.1 (hP k q hq).lt)
    have hS := sf_S_grow hS hz hk
    exact vx_out (fun x hx => (hEx x hx).elim) hlocks hce hcv hcl (fun t ht _ => ⟨Or.inl ⟨cF, rfl⟩, by rw [ht]; exact hP, hAe ▸ hD, hAe ▸ hS.F ht⟩) (fun q hq => by rw [← hAe]; exact hS.2.2 q hq) (Nat.le_of_ble_eq_true rfl) (Nat.le_of_ble_eq_true rfl)
  refine lv_iload_n hx hb dX2_set_7 rfl (lv_at hl 1 rfl) ?_
  refine lv_bipush (v := 8) hx hb dX2_set_8 (by decide) ?_
  refine sf_callRi (va_runS (As := [.int i0, .int 8]) (rest := []) ⟨hx, hb, hml, hown, hg⟩ (c_X2_isIndex l i0 8) (cwS 2 hg (gw_S mw_163 mw_164 mw_21 mw_165) rfl rfl rfl (by decide +kernel) ⟨Nat.le_of_ble_eq_true rfl, Nat.le_of_ble_eq_true rfl⟩) sf_pre0 rfl rfl hl.1 rfl (lv_room (Nat.le_of_ble_eq_true rfl)) dX2_set_10 ⟨Nat.le_of_ble_eq_true rfl, Nat.le_of_ble_eq_true rfl⟩) ?_
  refine sf_callD (vx_runS (As := [.int (sf_b (fc_ix i0 8))]) (rest := []) ⟨hx, hb, hml, hown, hg⟩ (c_X2_demandPlace l hlt sx (fc_ix i0 8)) (cwS 1 hg (gw_S mw_241 mw_242 mw_21 mw_243) rfl rfl rfl (by decide +kernel) ⟨Nat.le_of_ble_eq_true rfl, Nat.le_of_ble_eq_true rfl⟩) (sf_preD hE hS) rfl rfl hl.1 rfl (lv_room (Nat.le_of_ble_eq_true rfl)) dX2_set_13 ⟨Nat.le_of_ble_eq_true rfl, Nat.le_of_ble_eq_true rfl⟩) (fun cF ce q9 H hz hk hce hcv hcl => ?_) (fun ct_2 => ?_)
  · have hP := hP.kept (fun k q hq => hk q.1 (hP k q hq).lt)
    have hS := sf_S_grow hS hz hk
    exact vx_out (fun x hx => (hEx x hx).elim) hlocks hce hcv hcl (fun t ht _ => ⟨Or.inr ⟨ct_1, cF, rfl⟩, by rw [ht]; exact hP, hAe ▸ hD, hAe ▸ hS.F ht⟩) (fun q hq => by rw [← hAe]; exact hS.2.2 q hq) (Nat.le_of_ble_eq_true rfl) (Nat.le_of_ble_eq_true rfl)
  have hq1 := ix_nat (n := 8) rfl (by decide) ct_2
  refine lv_aload_n hx hb dX2_set_16 rfl (lv_at hl 0 rfl) ?_
  refine va_get (D := (dC, dI)) (ci := 2) (v := .ref (o 2)) (C := RX2) (T := TX2) (N := 7) hx hb hg in_X2 hown hK hP 0 rfl rfl 1 (by decide) (hg _ mw_120) (fun _ h9 => h9) rfl dX2_set_17 ?_
  refine lv_iload_n hx hb dX2_set_20 rfl (lv_at hl 1 rfl) ?_
  refine sf_dald hx hb hK hP 2 2 rfl rfl i0.toNatClampNeg hq1.1 hq1.2 (by decide) dX2_set_21 ?_
  refine lv_dstore (lv' := [(4, .double (y.1.2.1 i0.toNatClampNeg)), (0, .ref (o 0)), (1, .int i0), (2, .double v0)]) hx hb dX2_set_22 hl (by decide) rfl (fun ls hl => ?_)
  refine lv_aload_n hx hb dX2_set_24 rfl (lv_at hl 1 rfl) ?_
  refine va_get (D := (dC, dI)) (ci := 2) (v := .ref (o 2)) (C := RX2) (T := TX2) (N := 7) hx hb hg in_X2 hown hK hP 0 rfl rfl 1 (by decide) (hg _ mw_120) (fun _ h9 => h9) rfl dX2_set_25 ?_
  refine lv_iload_n hx hb dX2_set_28 rfl (lv_at hl 2 rfl) ?_
  refine lv_dload_n hx hb dX2_set_29 rfl (lv_at hl 3 rfl) ?_
  refine sf_dast hx hb hK hP hD hS 2 2 rfl rfl i0.toNatClampNeg hq1.1 hq1.2 (by decide) dX2_set_30 (fun H locs hP hD hS => ?_)
  have hP : va_P (dC, dI) vwCl ([(o 0, .inr (2, [.ref (o 1), .ref (o 2), .ref (o 3), .ref (o 4), .int sc, .int y.1.2.2.2.1, .int y.1.2.2.2.2])), (o 1, .inl (cZ, 24, .inl (fun i9 => sf_b (y.1.1 i9)))), (o 2, .inl (cD, 8, .inr (.inr (.inr (.inl (va_up y.1.2.1 i0.toNatClampNeg v0)))))), (o 3, .inl (cR, 5, .inr (.inr (.inr (.inr (fun g => some (ra g 0))))))), (o 4, .inl (cB, 8, .inr (.inr (.inr (.inr (fun k => some (ba k)))))))] ++ (wp_rs cI cZ ra y.2 ++ (wp_bs ba y.1.2.2.1 ++ []))) H := hP
  have hD : va_D A ([(o 0, .inr (2, [.ref (o 1), .ref (o 2), .ref (o 3), .ref (o 4), .int sc, .int y.1.2.2.2.1, .int y.1.2.2.2.2])), (o 1, .inl (cZ, 24, .inl (fun i9 => sf_b (y.1.1 i9)))), (o 2, .inl (cD, 8, .inr (.inr (.inr (.inl (va_up y.1.2.1 i0.toNatClampNeg v0)))))), (o 3, .inl (cR, 5, .inr (.inr (.inr (.inr (fun g => some (ra g 0))))))), (o 4, .inl (cB, 8, .inr (.inr (.inr (.inr (fun k => some (ba k)))))))] ++ (wp_rs cI cZ ra y.2 ++ (wp_bs ba y.1.2.2.1 ++ []))) := hD
  refine lv_dload hx hb dX2_set_31 (lv_at hl 0 rfl) ?_
  have hP9 : va_P (dC, dI) vwCl (wp_S cI cZ cD cR cB o ra ba sc (fp_set y i0 v0)) H := hP
  have hD9 : va_D A (wp_S cI cZ cD cR cB o ra ba sc (fp_set y i0 v0)) := hD
  refine W.widen (k := 2) (n := 12) (Nat.le_of_ble_eq_true rfl) (Nat.le_of_ble_eq_true rfl) ?_
  refine vx_ret ?_
  exact W.dret hx hb hr (fun t ht _ => ⟨⟨ct_1, ct_2⟩, rfl, by rw [ht]; exact hP9, hAe ▸ hD9, hAe ▸ hS.F ht⟩) (fun q hq => by rw [← hAe]; exact hS.2.2 q hq) dX2_set_33
set_option maxHeartbeats 4000000 in
set_option maxRecDepth 100000 in
theorem c_X2_bit (l : Launch) (hlt : l.stackTraces = false) (sx : Nat → Nat) (dC : Nat → ClassId) (dI : Nat → Nat → Nat) (cI cZ cD cR cB : ClassId) (o : Nat → Nat) (ra : Nat → Nat → Nat) (ba : Nat → Nat) (sc : Int32) (y : st_Y) (i0 : Int32) (sz : Nat)  : vx_Met l yX2_bit wX2_bit ({ frames := 7, cells := 1, slots := 6, locals := 102 }) (sf_PX (dC, dI) vwCl [(cI, .int), (cZ, .boolean), (cD, .double), (cR, .object RX1), (cB, .object RX0)] sx (wp_S cI cZ cD cR cB o ra ba sc y) sz [.ref (o 0), .int i0]) (sf_XV (dC, dI) vwCl (fc_ix i0 24 = true) (some (.int (sf_b (y.1.1 i0.toNatClampNeg)))) (wp_S cI cZ cD cR cB o ra ba sc y) (wp_S cI cZ cD cR cB o ra ba sc y)) (sf_XE (dC, dI) vwCl (fun E => fc_ix i0 24 = false ∧ E = ex_O) (wp_S cI cZ cD cR cB o ra ba sc y) (wp_S cI cZ cD cR cB o ra ba sc y)) 1 6 (va_A (wp_S cI cZ cD cR cB o ra ba sc y) sz) := by
  refine vx_ofW (cc := cX2_bit) (maxL := 2) (ret := (some .boolean)) (by decide) rfl ?_
  intro p e s m args below meth c s₁ B hml hEx hv
  have hx := B.exec
  have hb := B.bytes
  have hr := B.returns
  have hts := atoms_spec (ws := wX2_bit) B.pre
  have hg : ∀ w ∈ gw_all, w.before args s = true := fun w h => hts w (List.mem_cons_of_mem _ h)
  have hown : s.vm.findClass RX2 = some m.cls := findClass_of_methodNamed B.named
  have hlocks := B.notSynchronized
  obtain ⟨rfl, hsz, hP, hD0, hK, hZ, hE⟩ := hv
  subst hsz
  have hl := lv_entry ([.ref (o 0), .int i0]) (n := 2) (Nat.le_of_ble_eq_true rfl)
  rw [lg_entry_eq]
  generalize (lg_sl ([.ref (o 0), .int i0]) ++ List.replicate (2 - (lg_sl ([.ref (o 0), .int i0])).length) Slot.unset).toArray = ls at hl ⊢
  have hl : lv_has ls 2 [(0, .ref (o 0)), (1, .int i0)] := hl
  obtain ⟨A, hAe⟩ : ∃ A : Nat → Prop, A = va_A (wp_S cI cZ cD cR cB o ra ba sc y) s.heap.size := ⟨_, rfl⟩
  have hD := hD0.self (sz := s.heap.size)
  rw [← hAe] at hD hE
  have hA : ∀ q : Nat, s.heap.size ≤ q → A q := fun q h => by rw [hAe]; exact Or.inr h
  have hS : va_S A s.heap s.heap [] := va_S.rf
  have hP : va_P (dC, dI) vwCl ([(o 0, .inr (2, [.ref (o 1), .ref (o 2), .ref (o 3), .ref (o 4), .int sc, .int y.1.2.2.2.1, .int y.1.2.2.2.2])), (o 1, .inl (cZ, 24, .inl (fun i9 => sf_b (y.1.1 i9)))), (o 2, .inl (cD, 8, .inr (.inr (.inr (.inl y.1.2.1))))), (o 3, .inl (cR, 5, .inr (.inr (.inr (.inr (fun g => some (ra g 0))))))), (o 4, .inl (cB, 8, .inr (.inr (.inr (.inr (fun k => some (ba k)))))))] ++ (wp_rs cI cZ ra y.2 ++ (wp_bs ba y.1.2.2.1 ++ []))) s.heap := hP
  have hD : va_D A ([(o 0, .inr (2, [.ref (o 1), .ref (o 2), .ref (o 3), .ref (o 4), .int sc, .int y.1.2.2.2.1, .int y.1.2.2.2.2])), (o 1, .inl (cZ, 24, .inl (fun i9 => sf_b (y.1.1 i9)))), (o 2, .inl (cD, 8, .inr (.inr (.inr (.inl y.1.2.1))))), (o 3, .inl (cR, 5, .inr (.inr (.inr (.inr (fun g => some (ra g 0))))))), (o 4, .inl (cB, 8, .inr (.inr (.inr (.inr (fun k => some (ba k)))))))] ++ (wp_rs cI cZ ra y.2 ++ (wp_bs ba y.1.2.2.1 ++ []))) := hD
  refine lv_iload_n hx hb dX2_bit_0 rfl (lv_at hl 1 rfl) ?_
  refine lv_bipush (v := 24) hx hb dX2_bit_1 (by decide) ?_
  refine sf_callRi (va_runS (As := [.int i0, .int 24]) (rest := []) ⟨hx, hb, hml, hown, hg⟩ (c_X2_isIndex l i0 24) (cwS 2 hg (gw_S mw_163 mw_164 mw_21 mw_165) rfl rfl rfl (by decide +kernel) ⟨Nat.le_of_ble_eq_true rfl, Nat.le_of_ble_eq_true rfl⟩) sf_pre0 rfl rfl hl.1 rfl (lv_room (Nat.le_of_ble_eq_true rfl)) dX2_bit_3 ⟨Nat.le_of_ble_eq_true rfl, Nat.le_of_ble_eq_true rfl⟩) ?_
  refine sf_callD (vx_runS (As := [.int (sf_b (fc_ix i0 24))]) (rest := []) ⟨hx, hb, hml, hown, hg⟩ (c_X2_demandPlace l hlt sx (fc_ix i0 24)) (cwS 1 hg (gw_S mw_241 mw_242 mw_21 mw_243) rfl rfl rfl (by decide +kernel) ⟨Nat.le_of_ble_eq_true rfl, Nat.le_of_ble_eq_true rfl⟩) (sf_preD hE hS) rfl rfl hl.1 rfl (lv_room (Nat.le_of_ble_eq_true rfl)) dX2_bit_6 ⟨Nat.le_of_ble_eq_true rfl, Nat.le_of_ble_eq_true rfl⟩) (fun cF ce q9 H hz hk hce hcv hcl => ?_) (fun ct_1 => ?_)
  · have hP := hP.kept (fun k q hq => hk q.1 (hP k q hq).lt)
    have hS := sf_S_grow hS hz hk
    exact vx_out (fun x hx => (hEx x hx).elim) hlocks hce hcv hcl (fun t ht _ => ⟨⟨cF, rfl⟩, by rw [ht]; exact hP, hAe ▸ hD, hAe ▸ hS.F ht⟩) (fun q hq => by rw [← hAe]; exact hS.2.2 q hq) (Nat.le_of_ble_eq_true rfl) (Nat.le_of_ble_eq_true rfl)
  have hq1 := ix_nat (n := 24) rfl (by decide) ct_1
  refine lv_aload_n hx hb dX2_bit_9 rfl (lv_at hl 0 rfl) ?_
  refine va_get (D := (dC, dI)) (ci := 2) (v := .ref (o 1)) (C := RX2) (T := TX2) (N := 7) hx hb hg in_X2 hown hK hP 0 rfl rfl 0 (by decide) (hg _ mw_119) (fun _ h9 => h9) rfl dX2_bit_10 ?_
  refine lv_iload_n hx hb dX2_bit_13 rfl (lv_at hl 1 rfl) ?_
  refine sf_zald hx hb hK hP 1 1 rfl rfl i0.toNatClampNeg hq1.1 hq1.2 (by decide) dX2_bit_14 ?_
  have hP9 : va_P (dC, dI) vwCl (wp_S cI cZ cD cR cB o ra ba sc y) s.heap := hP
  have hD9 : va_D A (wp_S cI cZ cD cR cB o ra ba sc y) := hD
  refine W.widen (k := 1) (n := 6) (Nat.le_of_ble_eq_true rfl) (Nat.le_of_ble_eq_true rfl) ?_
  refine vx_ret ?_
  exact W.zret hx hb hr (sf_b_nb _) (fun t ht _ => ⟨ct_1, rfl, by rw [ht]; exact hP9, hAe ▸ hD9, hAe ▸ hS.F ht⟩) (fun q hq => by rw [← hAe]; exact hS.2.2 q hq) dX2_bit_15
set_option maxHeartbeats 4000000 in
set_option maxRecDepth 100000 in
theorem c_X2_register (l : Launch) (hlt : l.stackTraces = false) (sx : Nat → Nat) (dC : Nat → ClassId) (dI : Nat → Nat → Nat) (cI cZ cD cR cB : ClassId) (o : Nat → Nat) (ra : Nat → Nat → Nat) (ba : Nat → Nat) (sc : Int32) (y : st_Y) (i0 : Int32) (sz : Nat)  : vx_Met l yX2_register wX2_register ({ frames := 7, cells := 1, slots := 6, locals := 102 }) (sf_PX (dC, dI) vwCl [(cI, .int), (cZ, .boolean), (cD, .double), (cR, .object RX1), (cB, .object RX0)] sx (wp_S cI cZ cD cR cB o ra ba sc y) sz [.ref (o 0), .int i0]) (sf_XV (dC, dI) vwCl (fc_ix i0 8 = true) (some (.double (y.1.2.1 i0.toNatClampNeg))) (wp_S cI cZ cD cR cB o ra ba sc y) (wp_S cI cZ cD cR cB o ra ba sc y)) (sf_XE (dC, dI) vwCl (fun E => fc_ix i0 8 = false ∧ E = ex_O) (wp_S cI cZ cD cR cB o ra ba sc y) (wp_S cI cZ cD cR cB o ra ba sc y)) 1 6 (va_A (wp_S cI cZ cD cR cB o ra ba sc y) sz) := by
  refine vx_ofW (cc := cX2_register) (maxL := 2) (ret := (some .double)) (by decide) rfl ?_
  intro p e s m args below meth c s₁ B hml hEx hv
  have hx := B.exec
  have hb := B.bytes
  have hr := B.returns
  have hts := atoms_spec (ws := wX2_register) B.pre
  have hg : ∀ w ∈ gw_all, w.before args s = true := fun w h => hts w (List.mem_cons_of_mem _ h)
  have hown : s.vm.findClass RX2 = some m.cls := findClass_of_methodNamed B.named
  have hlocks := B.notSynchronized
  obtain ⟨rfl, hsz, hP, hD0, hK, hZ, hE⟩ := hv
  subst hsz
  have hl := lv_entry ([.ref (o 0), .int i0]) (n := 2) (Nat.le_of_ble_eq_true rfl)
  rw [lg_entry_eq]
  generalize (lg_sl ([.ref (o 0), .int i0]) ++ List.replicate (2 - (lg_sl ([.ref (o 0), .int i0])).length) Slot.unset).toArray = ls at hl ⊢
  have hl : lv_has ls 2 [(0, .ref (o 0)), (1, .int i0)] := hl
  obtain ⟨A, hAe⟩ : ∃ A : Nat → Prop, A = va_A (wp_S cI cZ cD cR cB o ra ba sc y) s.heap.size := ⟨_, rfl⟩
  have hD := hD0.self (sz := s.heap.size)
  rw [← hAe] at hD hE
  have hA : ∀ q : Nat, s.heap.size ≤ q → A q := fun q h => by rw [hAe]; exact Or.inr h
  have hS : va_S A s.heap s.heap [] := va_S.rf
  have hP : va_P (dC, dI) vwCl ([(o 0, .inr (2, [.ref (o 1), .ref (o 2), .ref (o 3), .ref (o 4), .int sc, .int y.1.2.2.2.1, .int y.1.2.2.2.2])), (o 1, .inl (cZ, 24, .inl (fun i9 => sf_b (y.1.1 i9)))), (o 2, .inl (cD, 8, .inr (.inr (.inr (.inl y.1.2.1))))), (o 3, .inl (cR, 5, .inr (.inr (.inr (.inr (fun g => some (ra g 0))))))), (o 4, .inl (cB, 8, .inr (.inr (.inr (.inr (fun k => some (ba k)))))))] ++ (wp_rs cI cZ ra y.2 ++ (wp_bs ba y.1.2.2.1 ++ []))) s.heap := hP
  have hD : va_D A ([(o 0, .inr (2, [.ref (o 1), .ref (o 2), .ref (o 3), .ref (o 4), .int sc, .int y.1.2.2.2.1, .int y.1.2.2.2.2])), (o 1, .inl (cZ, 24, .inl (fun i9 => sf_b (y.1.1 i9)))), (o 2, .inl (cD, 8, .inr (.inr (.inr (.inl y.1.2.1))))), (o 3, .inl (cR, 5, .inr (.inr (.inr (.inr (fun g => some (ra g 0))))))), (o 4, .inl (cB, 8, .inr (.inr (.inr (.inr (fun k => some (ba k)))))))] ++ (wp_rs cI cZ ra y.2 ++ (wp_bs ba y.1.2.2.1 ++ []))) := hD
  refine lv_iload_n hx hb dX2_register_0 rfl (lv_at hl 1 rfl) ?_
  refine lv_bipush (v := 8) hx hb dX2_register_1 (by decide) ?_
  refine sf_callRi (va_runS (As := [.int i0, .int 8]) (rest := []) ⟨hx, hb, hml, hown, hg⟩ (c_X2_isIndex l i0 8) (cwS 2 hg (gw_S mw_163 mw_164 mw_21 mw_165) rfl rfl rfl (by decide +kernel) ⟨Nat.le_of_ble_eq_true rfl, Nat.le_of_ble_eq_true rfl⟩) sf_pre0 rfl rfl hl.1 rfl (lv_room (Nat.le_of_ble_eq_true rfl)) dX2_register_3 ⟨Nat.le_of_ble_eq_true rfl, Nat.le_of_ble_eq_true rfl⟩) ?_
  refine sf_callD (vx_runS (As := [.int (sf_b (fc_ix i0 8))]) (rest := []) ⟨hx, hb, hml, hown, hg⟩ (c_X2_demandPlace l hlt sx (fc_ix i0 8)) (cwS 1 hg (gw_S mw_241 mw_242 mw_21 mw_243) rfl rfl rfl (by decide +kernel) ⟨Nat.le_of_ble_eq_true rfl, Nat.le_of_ble_eq_true rfl⟩) (sf_preD hE hS) rfl rfl hl.1 rfl (lv_room (Nat.le_of_ble_eq_true rfl)) dX2_register_6 ⟨Nat.le_of_ble_eq_true rfl, Nat.le_of_ble_eq_true rfl⟩) (fun cF ce q9 H hz hk hce hcv hcl => ?_) (fun ct_1 => ?_)
  · have hP := hP.kept (fun k q hq => hk q.1 (hP k q hq).lt)
    have hS := sf_S_grow hS hz hk
    exact vx_out (fun x hx => (hEx x hx).elim) hlocks hce hcv hcl (fun t ht _ => ⟨⟨cF, rfl⟩, by rw [ht]; exact hP, hAe ▸ hD, hAe ▸ hS.F ht⟩) (fun q hq => by rw [← hAe]; exact hS.2.2 q hq) (Nat.le_of_ble_eq_true rfl) (Nat.le_of_ble_eq_true rfl)
  have hq1 := ix_nat (n := 8) rfl (by decide) ct_1
  refine lv_aload_n hx hb dX2_register_9 rfl (lv_at hl 0 rfl) ?_
  refine va_get (D := (dC, dI)) (ci := 2) (v := .ref (o 2)) (C := RX2) (T := TX2) (N := 7) hx hb hg in_X2 hown hK hP 0 rfl rfl 1 (by decide) (hg _ mw_120) (fun _ h9 => h9) rfl dX2_register_10 ?_
  refine lv_iload_n hx hb dX2_register_13 rfl (lv_at hl 1 rfl) ?_
  refine sf_dald hx hb hK hP 2 2 rfl rfl i0.toNatClampNeg hq1.1 hq1.2 (by decide) dX2_register_14 ?_
  have hP9 : va_P (dC, dI) vwCl (wp_S cI cZ cD cR cB o ra ba sc y) s.heap := hP
  have hD9 : va_D A (wp_S cI cZ cD cR cB o ra ba sc y) := hD
  refine W.widen (k := 1) (n := 6) (Nat.le_of_ble_eq_true rfl) (Nat.le_of_ble_eq_true rfl) ?_
  refine vx_ret ?_
  exact W.dret hx hb hr (fun t ht _ => ⟨ct_1, rfl, by rw [ht]; exact hP9, hAe ▸ hD9, hAe ▸ hS.F ht⟩) (fun q hq => by rw [← hAe]; exact hS.2.2 q hq) dX2_register_15
set_option maxHeartbeats 4000000 in
set_option maxRecDepth 100000 in
theorem c_X2_count (l : Launch) (hlt : l.stackTraces = false) (sx : Nat → Nat) (dC : Nat → ClassId) (dI : Nat → Nat → Nat) (cI cZ cD cR cB : ClassId) (o : Nat → Nat) (ra : Nat → Nat → Nat) (ba : Nat → Nat) (sc : Int32) (y : st_Y) (w0 : Int32) (sz : Nat)  : vx_Met l yX2_count wX2_count ({ frames := 7, cells := 1, slots := 6, locals := 102 }) (sf_PX (dC, dI) vwCl [(cI, .int), (cZ, .boolean), (cD, .double), (cR, .object RX1), (cB, .object RX0)] sx (wp_S cI cZ cD cR cB o ra ba sc y) sz [.ref (o 0), .int w0]) (sf_XV (dC, dI) vwCl (fc_btw w0 0 3 = true) (some (.int (fp_count y sc w0))) (wp_S cI cZ cD cR cB o ra ba sc y) (wp_S cI cZ cD cR cB o ra ba sc y)) (sf_XE (dC, dI) vwCl (fun E => fc_btw w0 0 3 = false ∧ E = ex_I) (wp_S cI cZ cD cR cB o ra ba sc y) (wp_S cI cZ cD cR cB o ra ba sc y)) 1 6 (va_A (wp_S cI cZ cD cR cB o ra ba sc y) sz) := by
  refine vx_ofW (cc := cX2_count) (maxL := 2) (ret := (some .int)) (by decide) rfl ?_
  intro p e s m args below meth c s₁ B hml hEx hv
  have hx := B.exec
  have hb := B.bytes
  have hr := B.returns
  have hts := atoms_spec (ws := wX2_count) B.pre
  have hg : ∀ w ∈ gw_all, w.before args s = true := fun w h => hts w (List.mem_cons_of_mem _ h)
  have hown : s.vm.findClass RX2 = some m.cls := findClass_of_methodNamed B.named
  have hlocks := B.notSynchronized
  obtain ⟨rfl, hsz, hP, hD0, hK, hZ, hE⟩ := hv
  subst hsz
  have hl := lv_entry ([.ref (o 0), .int w0]) (n := 2) (Nat.le_of_ble_eq_true rfl)
  rw [lg_entry_eq]
  generalize (lg_sl ([.ref (o 0), .int w0]) ++ List.replicate (2 - (lg_sl ([.ref (o 0), .int w0])).length) Slot.unset).toArray = ls at hl ⊢
  have hl : lv_has ls 2 [(0, .ref (o 0)), (1, .int w0)] := hl
  obtain ⟨A, hAe⟩ : ∃ A : Nat → Prop, A = va_A (wp_S cI cZ cD cR cB o ra ba sc y) s.heap.size := ⟨_, rfl⟩
  have hD := hD0.self (sz := s.heap.size)
  rw [← hAe] at hD hE
  have hA : ∀ q : Nat, s.heap.size ≤ q → A q := fun q h => by rw [hAe]; exact Or.inr h
  have hS : va_S A s.heap s.heap [] := va_S.rf
  have hP : va_P (dC, dI) vwCl ([(o 0, .inr (2, [.ref (o 1), .ref (o 2), .ref (o 3), .ref (o 4), .int sc, .int y.1.2.2.2.1, .int y.1.2.2.2.2])), (o 1, .inl (cZ, 24, .inl (fun i9 => sf_b (y.1.1 i9)))), (o 2, .inl (cD, 8, .inr (.inr (.inr (.inl y.1.2.1))))), (o 3, .inl (cR, 5, .inr (.inr (.inr (.inr (fun g => some (ra g 0))))))), (o 4, .inl (cB, 8, .inr (.inr (.inr (.inr (fun k => some (ba k)))))))] ++ (wp_rs cI cZ ra y.2 ++ (wp_bs ba y.1.2.2.1 ++ []))) s.heap := hP
  have hD : va_D A ([(o 0, .inr (2, [.ref (o 1), .ref (o 2), .ref (o 3), .ref (o 4), .int sc, .int y.1.2.2.2.1, .int y.1.2.2.2.2])), (o 1, .inl (cZ, 24, .inl (fun i9 => sf_b (y.1.1 i9)))), (o 2, .inl (cD, 8, .inr (.inr (.inr (.inl y.1.2.1))))), (o 3, .inl (cR, 5, .inr (.inr (.inr (.inr (fun g => some (ra g 0))))))), (o 4, .inl (cB, 8, .inr (.inr (.inr (.inr (fun k => some (ba k)))))))] ++ (wp_rs cI cZ ra y.2 ++ (wp_bs ba y.1.2.2.1 ++ []))) := hD
  refine lv_iload_n hx hb dX2_count_0 rfl (lv_at hl 1 rfl) ?_
  refine lv_iconst (v := 0) hx hb dX2_count_1 (by decide) ?_
  refine lv_iconst (v := 3) hx hb dX2_count_2 (by decide) ?_
  refine sf_callRi (va_runS (As := [.int w0, .int 0, .int 3]) (rest := []) ⟨hx, hb, hml, hown, hg⟩ (c_X2_isBetween l w0 0 3) (cwS 3 hg (gw_S mw_157 mw_158 mw_21 mw_159) rfl rfl rfl (by decide +kernel) ⟨Nat.le_of_ble_eq_true rfl, Nat.le_of_ble_eq_true rfl⟩) sf_pre0 rfl rfl hl.1 rfl (lv_room (Nat.le_of_ble_eq_true rfl)) dX2_count_3 ⟨Nat.le_of_ble_eq_true rfl, Nat.le_of_ble_eq_true rfl⟩) ?_
  refine sf_callD (vx_runS (As := [.int (sf_b (fc_btw w0 0 3))]) (rest := []) ⟨hx, hb, hml, hown, hg⟩ (c_X2_demandNumbers l hlt sx (fc_btw w0 0 3)) (cwS 1 hg (gw_S mw_166 mw_167 mw_21 mw_168) rfl rfl rfl (by decide +kernel) ⟨Nat.le_of_ble_eq_true rfl, Nat.le_of_ble_eq_true rfl⟩) (sf_preD hE hS) rfl rfl hl.1 rfl (lv_room (Nat.le_of_ble_eq_true rfl)) dX2_count_6 ⟨Nat.le_of_ble_eq_true rfl, Nat.le_of_ble_eq_true rfl⟩) (fun cF ce q9 H hz hk hce hcv hcl => ?_) (fun ct_1 => ?_)
  · have hP := hP.kept (fun k q hq => hk q.1 (hP k q hq).lt)
    have hS := sf_S_grow hS hz hk
    exact vx_out (fun x hx => (hEx x hx).elim) hlocks hce hcv hcl (fun t ht _ => ⟨⟨cF, rfl⟩, by rw [ht]; exact hP, hAe ▸ hD, hAe ▸ hS.F ht⟩) (fun q hq => by rw [← hAe]; exact hS.2.2 q hq) (Nat.le_of_ble_eq_true rfl) (Nat.le_of_ble_eq_true rfl)
  refine lv_iload_n hx hb dX2_count_9 rfl (lv_at hl 1 rfl) ?_
  by_cases c_2 : w0 = 0
  · refine lv_tableIn (off := 26) (tgt := 36) hx hb dX2_count_10 (by rw [c_2]; decide) (by rw [c_2]; decide) (by rw [c_2]; decide) (by decide) ?_
    refine lv_aload_n hx hb dX2_count_36 rfl (lv_at hl 0 rfl) ?_
    refine va_get (D := (dC, dI)) (ci := 2) (v := .int sc) (C := RX2) (T := TX2) (N := 7) hx hb hg in_X2 hown hK hP 0 rfl rfl 4 (by decide) (hg _ mw_123) (fun _ h9 => h9) rfl dX2_count_37 ?_
    refine sf_topi (y := fp_count y sc w0) (by first | rfl | (simp [fp_count, c_2]; done)) ?_
    have hP9 : va_P (dC, dI) vwCl (wp_S cI cZ cD cR cB o ra ba sc y) s.heap := hP
    have hD9 : va_D A (wp_S cI cZ cD cR cB o ra ba sc y) := hD
    refine W.widen (k := 1) (n := 6) (Nat.le_of_ble_eq_true rfl) (Nat.le_of_ble_eq_true rfl) ?_
    refine vx_ret ?_
    exact W.iret hx hb hr (fun t ht _ => ⟨ct_1, rfl, by rw [ht]; exact hP9, hAe ▸ hD9, hAe ▸ hS.F ht⟩) (fun q hq => by rw [← hAe]; exact hS.2.2 q hq) dX2_count_40
  · skip
    by_cases c_3 : w0 = 1
    · refine lv_tableIn (off := 31) (tgt := 41) hx hb dX2_count_10 (by rw [c_3]; decide) (by rw [c_3]; decide) (by rw [c_3]; decide) (by decide) ?_
      refine lv_aload_n hx hb dX2_count_41 rfl (lv_at hl 0 rfl) ?_
      have hPr : va_P (dC, dI) vwCl [(o 0, .inr (2, [.ref (o 1), .ref (o 2), .ref (o 3), .ref (o 4), .int sc, .int y.1.2.2.2.1, .int y.1.2.2.2.2]))] s.heap := hP.sub [0] rfl
      refine sf_callRi (va_runV (As := []) (rest := []) ⟨hx, hb, hml, hown, hg⟩ (c_X2_isHalted l dC dI o sc y.1.2.2.2.1 y.1.2.2.2.2) (cwV 0 hg (gw_V mw_353 mw_355 mw_1 mw_21 mw_356) rfl rfl rfl (by decide +kernel) ⟨Nat.le_of_ble_eq_true rfl, Nat.le_of_ble_eq_true rfl⟩) (sf_preVR (va_recv hK hP (ci := 2) (q0 := 0) rfl rfl) (hK.sub [] rfl) hZ hPr) rfl rfl hl.1 rfl (lv_room (Nat.le_of_ble_eq_true rfl)) dX2_count_42 ⟨Nat.le_of_ble_eq_true rfl, Nat.le_of_ble_eq_true rfl⟩) ?_
      refine sf_ifeq (tgt := 52) hx hb dX2_count_45 (by decide) (fun c_4 => ?_) (fun c_4 => ?_)
      · refine lv_iconst (v := sf_b false) hx hb dX2_count_52 (by decide) ?_
        refine sf_topi (y := fp_count y sc w0) (by first | rfl | (simp [fp_count, c_2, c_3, c_4]; done)) ?_
        have hP9 : va_P (dC, dI) vwCl (wp_S cI cZ cD cR cB o ra ba sc y) s.heap := hP
        have hD9 : va_D A (wp_S cI cZ cD cR cB o ra ba sc y) := hD
        refine W.widen (k := 1) (n := 6) (Nat.le_of_ble_eq_true rfl) (Nat.le_of_ble_eq_true rfl) ?_
        refine vx_ret ?_
        exact W.iret hx hb hr (fun t ht _ => ⟨ct_1, rfl, by rw [ht]; exact hP9, hAe ▸ hD9, hAe ▸ hS.F ht⟩) (fun q hq => by rw [← hAe]; exact hS.2.2 q hq) dX2_count_53
      · refine lv_iconst (v := sf_b true) hx hb dX2_count_48 (by decide) ?_
        refine lv_goto (tgt := 53) hx hb dX2_count_49 (by decide) ?_
        refine sf_topi (y := fp_count y sc w0) (by first | rfl | (simp [fp_count, c_2, c_3, c_4]; done)) ?_
        have hP9 : va_P (dC, dI) vwCl (wp_S cI cZ cD cR cB o ra ba sc y) s.heap := hP
        have hD9 : va_D A (wp_S cI cZ cD cR cB o ra ba sc y) := hD
        refine W.widen (k := 1) (n := 6) (Nat.le_of_ble_eq_true rfl) (Nat.le_of_ble_eq_true rfl) ?_
        refine vx_ret ?_
        exact W.iret hx hb hr (fun t ht _ => ⟨ct_1, rfl, by rw [ht]; exact hP9, hAe ▸ hD9, hAe ▸ hS.F ht⟩) (fun q hq => by rw [← hAe]; exact hS.2.2 q hq) dX2_count_53
    · skip
      by_cases c_5 : w0 = 2
      · refine lv_tableIn (off := 44) (tgt := 54) hx hb dX2_count_10 (by rw [c_5]; decide) (by rw [c_5]; decide) (by rw [c_5]; decide) (by decide) ?_
        refine lv_aload_n hx hb dX2_count_54 rfl (lv_at hl 0 rfl) ?_
        have hPr : va_P (dC, dI) vwCl [wp_O o sc y.1.2.2.2.1 y.1.2.2.2.2, wp_Z (o 1) cZ 24 y.1.1] s.heap := hP.sub [0, 1] rfl
        refine sf_callRi (va_runV (As := []) (rest := []) ⟨hx, hb, hml, hown, hg⟩ (c_X2_bitsOn l dC dI cZ o sc y.1.2.2.2.1 y.1.2.2.2.2 y.1.1) (cwV 0 hg (gw_V mw_489 mw_491 mw_12 mw_21 mw_492) rfl rfl rfl (by decide +kernel) ⟨Nat.le_of_ble_eq_true rfl, Nat.le_of_ble_eq_true rfl⟩) (sf_preVR (va_recv hK hP (ci := 2) (q0 := 0) rfl rfl) (hK.sub [1] rfl) hZ hPr) rfl rfl hl.1 rfl (lv_room (Nat.le_of_ble_eq_true rfl)) dX2_count_55 ⟨Nat.le_of_ble_eq_true rfl, Nat.le_of_ble_eq_true rfl⟩) ?_
        refine sf_topi (y := fp_count y sc w0) (by first | rfl | (simp [fp_count, c_2, c_3, c_5]; done)) ?_
        have hP9 : va_P (dC, dI) vwCl (wp_S cI cZ cD cR cB o ra ba sc y) s.heap := hP
        have hD9 : va_D A (wp_S cI cZ cD cR cB o ra ba sc y) := hD
        refine W.widen (k := 1) (n := 6) (Nat.le_of_ble_eq_true rfl) (Nat.le_of_ble_eq_true rfl) ?_
        refine vx_ret ?_
        exact W.iret hx hb hr (fun t ht _ => ⟨ct_1, rfl, by rw [ht]; exact hP9, hAe ▸ hD9, hAe ▸ hS.F ht⟩) (fun q hq => by rw [← hAe]; exact hS.2.2 q hq) dX2_count_58
      · skip
        have h_6 : w0.toInt < 0 ∨ 2 < w0.toInt := by
          have q0 : ¬ w0.toInt = 0 := lv_neT c_2 (by decide)
          have q1 : ¬ w0.toInt = 1 := lv_neT c_3 (by decide)
          have q2 : ¬ w0.toInt = 2 := lv_neT c_5 (by decide)
          omega
        refine lv_tableOut (tgt := 59) hx hb dX2_count_10 h_6 (by decide) ?_
        refine lv_aload_n hx hb dX2_count_59 rfl (lv_at hl 0 rfl) ?_
        refine va_get (D := (dC, dI)) (ci := 2) (v := .int y.1.2.2.2.1) (C := RX2) (T := TX2) (N := 7) hx hb hg in_X2 hown hK hP 0 rfl rfl 5 (by decide) (hg _ mw_124) (fun _ h9 => h9) rfl dX2_count_60 ?_
        refine sf_topi (y := fp_count y sc w0) (by first | rfl | (simp [fp_count, c_2, c_3, c_5]; done)) ?_
        have hP9 : va_P (dC, dI) vwCl (wp_S cI cZ cD cR cB o ra ba sc y) s.heap := hP
        have hD9 : va_D A (wp_S cI cZ cD cR cB o ra ba sc y) := hD
        refine W.widen (k := 1) (n := 6) (Nat.le_of_ble_eq_true rfl) (Nat.le_of_ble_eq_true rfl) ?_
        refine vx_ret ?_
        exact W.iret hx hb hr (fun t ht _ => ⟨ct_1, rfl, by rw [ht]; exact hP9, hAe ▸ hD9, hAe ▸ hS.F ht⟩) (fun q hq => by rw [← hAe]; exact hS.2.2 q hq) dX2_count_63
