set_option maxHeartbeats 4000000 in
set_option maxRecDepth 100000 in
theorem g_block {p : Program} {l : Launch} (hlt : l.stackTraces = false) {e : Env} {s : State} {m : MethodId} {below : List Frame} {meth : Method} {c : Code} {b L : Nat} {xs : Nat → Int32} (hL : L ≤ 3584) {sx : Nat → Nat} {dC : Nat → ClassId} {dI : Nat → Nat → Nat} {cI cZ cD cR cB cJ : ClassId} {o : Nat → Nat} {ra : Nat → Nat → Nat} {ba : Nat → Nat} {a : Nat → Nat} {qo qd : Nat} {A : Nat → Prop} {Q : State → Prop} (hx : p.tables.exec = Jvm.exec) (hb : c.code = cL_law) (hml : c.maxLocals = 9) (hown : s.vm.findClass RL = some m.cls) (hg : ∀ w ∈ gw_all, w.before #[Value.ref b] s = true) (hZ : nw_ok s) (hK : va_K (dC, dI) vwCl [(cI, .int), (cZ, .boolean), (cD, .double), (cR, .object RX1), (cB, .object RX0), (cJ, .long)] s) (hE : ev_ok sx A s s.heap) (hN : nc_ok s) (hX : va_X b L xs s s.heap) (hbl : b < s.heap.size) (hbA : ¬ A b) (hA : ∀ q : Nat, s.heap.size ≤ q → A q) (i : Nat) (hi : i + 7 ≤ L) {cells slots : Nat} (hcs : cells + 2 ≤ 639599 ∧ slots + 12 ≤ 7177307) (kk : ∀ (sc : Int32) (y : st_Y) (x : st_M) (ov : Nat → Int64) (od : Nat → UInt64) (H : Heap) (locs : List Loc) (ls : Array Slot), rl sc y x → iv y → va_P (dC, dI) vwCl ([(qo, .inl (cJ, 1, .inr (.inl ov))), (qd, .inl (cD, 1, .inr (.inr (.inr (.inl od)))))] ++ (wp_S cI cZ cD cR cB o ra ba sc y ++ wp_M cI cZ cD a x)) H → va_D A ([(qo, .inl (cJ, 1, .inr (.inl ov))), (qd, .inl (cD, 1, .inr (.inr (.inr (.inl od)))))] ++ (wp_S cI cZ cD cR cB o ra ba sc y ++ wp_M cI cZ cD a x)) → va_S A s.heap H locs → lv_has ls 9 [(5, .int (nI i)), (4, .ref qd), (3, .ref qo), (2, .ref (a 0)), (1, .ref (o 0)), (0, .ref b)] → W p l e room_1 s m #[Value.ref b] below meth c H locs (cells + 2) (slots + 12) Q (F0 m 1256 ls [])) (sc : Int32) (y : st_Y) (x : st_M) (ov : Nat → Int64) (od : Nat → UInt64) (H : Heap) (locs : List Loc) (ls : Array Slot) (R0 : rl sc y x) (hiv : iv y) (hP : va_P (dC, dI) vwCl ([(qo, .inl (cJ, 1, .inr (.inl ov))), (qd, .inl (cD, 1, .inr (.inr (.inr (.inl od)))))] ++ (wp_S cI cZ cD cR cB o ra ba sc y ++ wp_M cI cZ cD a x)) H) (hD : va_D A ([(qo, .inl (cJ, 1, .inr (.inl ov))), (qd, .inl (cD, 1, .inr (.inr (.inr (.inl od)))))] ++ (wp_S cI cZ cD cR cB o ra ba sc y ++ wp_M cI cZ cD a x))) (hS : va_S A s.heap H locs) (hl : lv_has ls 9 [(5, .int (nI i)), (4, .ref qd), (3, .ref qo), (2, .ref (a 0)), (1, .ref (o 0)), (0, .ref b)]) : W p l e room_1 s m #[Value.ref b] below meth c H locs cells slots Q (F0 m 427 ls []) := by
  have q9 := q_block R0 hiv (xs (i + 1)) (xs (i + 2)) (xs (i + 3)) (xs (i + 4)) (xs (i + 5)) (e8 (xs (i + 6)))
  refine lv_aload_n hx hb dL_law_427 rfl (lv_at hl 4 rfl) ?_
  refine lv_aload_n hx hb dL_law_428 rfl (lv_at hl 5 rfl) ?_
  refine lv_iload hx hb dL_law_429 (lv_at hl 0 rfl) ?_
  refine lv_iconst (v := 1) hx hb dL_law_431 (by decide) ?_
  refine lv_iadd hx hb dL_law_432 ?_
  refine sf_topi (y := nI (i + 1)) (nI_add i 1) ?_
  refine sf_sld hx hb hX hbl hbA hS (i + 1) rfl (by omega) hL dL_law_433 ?_
  refine lv_aload_n hx hb dL_law_434 rfl (lv_at hl 5 rfl) ?_
  refine lv_iload hx hb dL_law_435 (lv_at hl 0 rfl) ?_
  refine lv_iconst (v := 2) hx hb dL_law_437 (by decide) ?_
  refine lv_iadd hx hb dL_law_438 ?_
  refine sf_topi (y := nI (i + 2)) (nI_add i 2) ?_
  refine sf_sld hx hb hX hbl hbA hS (i + 2) rfl (by omega) hL dL_law_439 ?_
  refine lv_aload_n hx hb dL_law_440 rfl (lv_at hl 5 rfl) ?_
  refine lv_iload hx hb dL_law_441 (lv_at hl 0 rfl) ?_
  refine lv_iconst (v := 3) hx hb dL_law_443 (by decide) ?_
  refine lv_iadd hx hb dL_law_444 ?_
  refine sf_topi (y := nI (i + 3)) (nI_add i 3) ?_
  refine sf_sld hx hb hX hbl hbA hS (i + 3) rfl (by omega) hL dL_law_445 ?_
  refine lv_aload_n hx hb dL_law_446 rfl (lv_at hl 5 rfl) ?_
  refine lv_iload hx hb dL_law_447 (lv_at hl 0 rfl) ?_
  refine lv_iconst (v := 4) hx hb dL_law_449 (by decide) ?_
  refine lv_iadd hx hb dL_law_450 ?_
  refine sf_topi (y := nI (i + 4)) (nI_add i 4) ?_
  refine sf_sld hx hb hX hbl hbA hS (i + 4) rfl (by omega) hL dL_law_451 ?_
  refine lv_aload_n hx hb dL_law_452 rfl (lv_at hl 5 rfl) ?_
  refine lv_iload hx hb dL_law_453 (lv_at hl 0 rfl) ?_
  refine lv_iconst (v := 5) hx hb dL_law_455 (by decide) ?_
  refine lv_iadd hx hb dL_law_456 ?_
  refine sf_topi (y := nI (i + 5)) (nI_add i 5) ?_
  refine sf_sld hx hb hX hbl hbA hS (i + 5) rfl (by omega) hL dL_law_457 ?_
  refine lv_aload_n hx hb dL_law_458 rfl (lv_at hl 5 rfl) ?_
  refine lv_iload hx hb dL_law_459 (lv_at hl 0 rfl) ?_
  refine lv_bipush (v := 6) hx hb dL_law_461 (by decide) ?_
  refine lv_iadd hx hb dL_law_463 ?_
  refine sf_topi (y := nI (i + 6)) (nI_add i 6) ?_
  refine sf_sld hx hb hX hbl hbA hS (i + 6) rfl (by omega) hL dL_law_464 ?_
  refine lv_i2d hx hb dL_law_465 ?_
  refine lv_ldc2d (v := 4593671619917905920) hx hb hown (hg _ mw_690) dL_law_466 ?_
  refine lv_dmul hx hb dL_law_469 (e8_nn _) ?_
  refine sf_topd (y := e8 (xs (i + 6))) rfl ?_
  refine lv_aload_n hx hb dL_law_470 rfl (lv_at hl 2 rfl) ?_
  have hPc : va_P (dC, dI) vwCl (([(qo, .inl (cJ, 1, .inr (.inl ov)))] ++ wp_S cI cZ cD cR cB o ra ba sc y) ++ ([(qd, .inl (cD, 1, .inr (.inr (.inr (.inl od)))))] ++ wp_M cI cZ cD a x)) H := sf_P_perm (pm_j _ _ _ _) hP
  have hDc : va_D A (([(qo, .inl (cJ, 1, .inr (.inl ov)))] ++ wp_S cI cZ cD cR cB o ra ba sc y) ++ ([(qd, .inl (cD, 1, .inr (.inr (.inr (.inl od)))))] ++ wp_M cI cZ cD a x)) := sf_D_perm (pm_j _ _ _ _) hD
  refine sf_callVi (vx_runSW (As := [.ref (o 0), .int (xs (i + 1)), .int (xs (i + 2)), .int (xs (i + 3)), .int (xs (i + 4)), .int (xs (i + 5)), .double (e8 (xs (i + 6))), .ref qo]) (rest := []) ⟨hx, hb, hml, hown, hg⟩ (c_L_block l hlt sx dC dI cI cZ cD cR cB o ra ba sc y cJ qo ov (xs (i + 1)) (xs (i + 2)) (xs (i + 3)) (xs (i + 4)) (xs (i + 5)) (e8 (xs (i + 6))) _ ) (vx_cwSW 8 hg (gw_W mw_290 mw_291 mw_20 mw_292) rfl rfl rfl (by decide +kernel) ⟨Nat.le_of_ble_eq_true rfl, Nat.le_of_ble_eq_true rfl⟩) (sf_preL hK hZ hPc hDc hE hN hS hA) rfl rfl hl.1 rfl (lv_room (Nat.le_of_ble_eq_true rfl)) dL_law_471 ⟨by show cells + 2 ≤ 639599; omega, by show slots + 12 ≤ 7177307; omega⟩) hS hPc hDc hA (fun H locs hP hD hS => ?_)
  have hP := sf_P_perm (pm_j _ _ _ _).symm hP
  have hD := sf_D_perm (pm_j _ _ _ _).symm hD
  have hP : va_P (dC, dI) vwCl ([(qo, .inl (cJ, 1, .inr (.inl (yn2 (fc_isBlock (xs (i + 2)) (xs (i + 3)) (xs (i + 4)) (xs (i + 5)) (e8 (xs (i + 6)))) (fc_ix (xs (i + 1)) 8) (va_up ov 0 (((y.1.2.2.1 (xs (i + 1)).toNatClampNeg).1).toInt64)) ov)))), (qd, .inl (cD, 1, .inr (.inr (.inr (.inl od)))))] ++ (wp_S cI cZ cD cR cB o ra ba sc (yn2 (fc_isBlock (xs (i + 2)) (xs (i + 3)) (xs (i + 4)) (xs (i + 5)) (e8 (xs (i + 6)))) (fc_ix (xs (i + 1)) 8) (fp_block y (xs (i + 1)) (xs (i + 2)) (xs (i + 3)) (xs (i + 4)) (xs (i + 5)) (e8 (xs (i + 6)))) y) ++ wp_M cI cZ cD a x)) H := hP
  have hD : va_D A ([(qo, .inl (cJ, 1, .inr (.inl (yn2 (fc_isBlock (xs (i + 2)) (xs (i + 3)) (xs (i + 4)) (xs (i + 5)) (e8 (xs (i + 6)))) (fc_ix (xs (i + 1)) 8) (va_up ov 0 (((y.1.2.2.1 (xs (i + 1)).toNatClampNeg).1).toInt64)) ov)))), (qd, .inl (cD, 1, .inr (.inr (.inr (.inl od)))))] ++ (wp_S cI cZ cD cR cB o ra ba sc (yn2 (fc_isBlock (xs (i + 2)) (xs (i + 3)) (xs (i + 4)) (xs (i + 5)) (e8 (xs (i + 6)))) (fc_ix (xs (i + 1)) 8) (fp_block y (xs (i + 1)) (xs (i + 2)) (xs (i + 3)) (xs (i + 4)) (xs (i + 5)) (e8 (xs (i + 6)))) y) ++ wp_M cI cZ cD a x)) := hD
  refine lv_istore (lv' := [(6, .int (kc2 (fc_isBlock (xs (i + 2)) (xs (i + 3)) (xs (i + 4)) (xs (i + 5)) (e8 (xs (i + 6)))) (fc_ix (xs (i + 1)) 8))), (5, .int (nI i)), (4, .ref qd), (3, .ref qo), (2, .ref (a 0)), (1, .ref (o 0)), (0, .ref b)]) hx hb dL_law_474 hl (by decide) rfl (fun ls hl => ?_)
  refine lv_aload_n hx hb dL_law_476 rfl (lv_at hl 4 rfl) ?_
  refine lv_aload_n hx hb dL_law_477 rfl (lv_at hl 6 rfl) ?_
  refine lv_iload hx hb dL_law_478 (lv_at hl 1 rfl) ?_
  refine lv_iconst (v := 1) hx hb dL_law_480 (by decide) ?_
  refine lv_iadd hx hb dL_law_481 ?_
  refine sf_topi (y := nI (i + 1)) (nI_add i 1) ?_
  refine sf_sld hx hb hX hbl hbA hS (i + 1) rfl (by omega) hL dL_law_482 ?_
  refine lv_aload_n hx hb dL_law_483 rfl (lv_at hl 6 rfl) ?_
  refine lv_iload hx hb dL_law_484 (lv_at hl 1 rfl) ?_
  refine lv_iconst (v := 2) hx hb dL_law_486 (by decide) ?_
  refine lv_iadd hx hb dL_law_487 ?_
  refine sf_topi (y := nI (i + 2)) (nI_add i 2) ?_
  refine sf_sld hx hb hX hbl hbA hS (i + 2) rfl (by omega) hL dL_law_488 ?_
  refine lv_aload_n hx hb dL_law_489 rfl (lv_at hl 6 rfl) ?_
  refine lv_iload hx hb dL_law_490 (lv_at hl 1 rfl) ?_
  refine lv_iconst (v := 3) hx hb dL_law_492 (by decide) ?_
  refine lv_iadd hx hb dL_law_493 ?_
  refine sf_topi (y := nI (i + 3)) (nI_add i 3) ?_
  refine sf_sld hx hb hX hbl hbA hS (i + 3) rfl (by omega) hL dL_law_494 ?_
  refine lv_aload_n hx hb dL_law_495 rfl (lv_at hl 6 rfl) ?_
  refine lv_iload hx hb dL_law_496 (lv_at hl 1 rfl) ?_
  refine lv_iconst (v := 4) hx hb dL_law_498 (by decide) ?_
  refine lv_iadd hx hb dL_law_499 ?_
  refine sf_topi (y := nI (i + 4)) (nI_add i 4) ?_
  refine sf_sld hx hb hX hbl hbA hS (i + 4) rfl (by omega) hL dL_law_500 ?_
  refine lv_aload_n hx hb dL_law_501 rfl (lv_at hl 6 rfl) ?_
  refine lv_iload hx hb dL_law_502 (lv_at hl 1 rfl) ?_
  refine lv_iconst (v := 5) hx hb dL_law_504 (by decide) ?_
  refine lv_iadd hx hb dL_law_505 ?_
  refine sf_topi (y := nI (i + 5)) (nI_add i 5) ?_
  refine sf_sld hx hb hX hbl hbA hS (i + 5) rfl (by omega) hL dL_law_506 ?_
  refine lv_aload_n hx hb dL_law_507 rfl (lv_at hl 6 rfl) ?_
  refine lv_iload hx hb dL_law_508 (lv_at hl 1 rfl) ?_
  refine lv_bipush (v := 6) hx hb dL_law_510 (by decide) ?_
  refine lv_iadd hx hb dL_law_512 ?_
  refine sf_topi (y := nI (i + 6)) (nI_add i 6) ?_
  refine sf_sld hx hb hX hbl hbA hS (i + 6) rfl (by omega) hL dL_law_513 ?_
  refine lv_i2d hx hb dL_law_514 ?_
  refine lv_ldc2d (v := 4593671619917905920) hx hb hown (hg _ mw_690) dL_law_515 ?_
  refine lv_dmul hx hb dL_law_518 (e8_nn _) ?_
  refine sf_topd (y := e8 (xs (i + 6))) rfl ?_
  have hPc : va_P (dC, dI) vwCl (wp_M cI cZ cD a x ++ ([(qo, .inl (cJ, 1, .inr (.inl (yn2 (fc_isBlock (xs (i + 2)) (xs (i + 3)) (xs (i + 4)) (xs (i + 5)) (e8 (xs (i + 6)))) (fc_ix (xs (i + 1)) 8) (va_up ov 0 (((y.1.2.2.1 (xs (i + 1)).toNatClampNeg).1).toInt64)) ov)))), (qd, .inl (cD, 1, .inr (.inr (.inr (.inl od)))))] ++ wp_S cI cZ cD cR cB o ra ba sc (yn2 (fc_isBlock (xs (i + 2)) (xs (i + 3)) (xs (i + 4)) (xs (i + 5)) (e8 (xs (i + 6)))) (fc_ix (xs (i + 1)) 8) (fp_block y (xs (i + 1)) (xs (i + 2)) (xs (i + 3)) (xs (i + 4)) (xs (i + 5)) (e8 (xs (i + 6)))) y))) H := sf_P_perm (pm_m _ _ _ _) hP
  have hDc : va_D A (wp_M cI cZ cD a x ++ ([(qo, .inl (cJ, 1, .inr (.inl (yn2 (fc_isBlock (xs (i + 2)) (xs (i + 3)) (xs (i + 4)) (xs (i + 5)) (e8 (xs (i + 6)))) (fc_ix (xs (i + 1)) 8) (va_up ov 0 (((y.1.2.2.1 (xs (i + 1)).toNatClampNeg).1).toInt64)) ov)))), (qd, .inl (cD, 1, .inr (.inr (.inr (.inl od)))))] ++ wp_S cI cZ cD cR cB o ra ba sc (yn2 (fc_isBlock (xs (i + 2)) (xs (i + 3)) (xs (i + 4)) (xs (i + 5)) (e8 (xs (i + 6)))) (fc_ix (xs (i + 1)) 8) (fp_block y (xs (i + 1)) (xs (i + 2)) (xs (i + 3)) (xs (i + 4)) (xs (i + 5)) (e8 (xs (i + 6)))) y))) := sf_D_perm (pm_m _ _ _ _) hD
  refine sf_callVi (va_runV (As := [.int (xs (i + 1)), .int (xs (i + 2)), .int (xs (i + 3)), .int (xs (i + 4)), .int (xs (i + 5)), .double (e8 (xs (i + 6)))]) (rest := []) ⟨hx, hb, hml, hown, hg⟩ (c_X3_block l dC dI cI cZ cD a x (xs (i + 1)) (xs (i + 2)) (xs (i + 3)) (xs (i + 4)) (xs (i + 5)) (e8 (xs (i + 6))) _) (cwV 6 hg (gw_V mw_610 mw_611 mw_612 mw_24 mw_613) rfl rfl rfl (by decide +kernel) ⟨Nat.le_of_ble_eq_true rfl, Nat.le_of_ble_eq_true rfl⟩) (sf_preVV (va_recv hK hPc (ci := 3) (q0 := 0) rfl rfl) (hK.sub [0, 1, 2] rfl) hZ hPc hDc) rfl rfl hl.1 rfl (lv_room (Nat.le_of_ble_eq_true rfl)) dL_law_519 ⟨by show _ + 0 ≤ 639599; omega, by show _ + 0 ≤ 7177307; omega⟩) hS hPc hDc hA (fun H locs hP hD hS => ?_)
  have hP := sf_P_perm (pm_m _ _ _ _).symm hP
  have hD := sf_D_perm (pm_m _ _ _ _).symm hD
  have hP : va_P (dC, dI) vwCl ([(qo, .inl (cJ, 1, .inr (.inl (yn2 (fc_isBlock (xs (i + 2)) (xs (i + 3)) (xs (i + 4)) (xs (i + 5)) (e8 (xs (i + 6)))) (fc_ix (xs (i + 1)) 8) (va_up ov 0 (((y.1.2.2.1 (xs (i + 1)).toNatClampNeg).1).toInt64)) ov)))), (qd, .inl (cD, 1, .inr (.inr (.inr (.inl od)))))] ++ (wp_S cI cZ cD cR cB o ra ba sc (yn2 (fc_isBlock (xs (i + 2)) (xs (i + 3)) (xs (i + 4)) (xs (i + 5)) (e8 (xs (i + 6)))) (fc_ix (xs (i + 1)) 8) (fp_block y (xs (i + 1)) (xs (i + 2)) (xs (i + 3)) (xs (i + 4)) (xs (i + 5)) (e8 (xs (i + 6)))) y) ++ wp_M cI cZ cD a (ms_block x (xs (i + 1)) (xs (i + 2)) (xs (i + 3)) (xs (i + 4)) (xs (i + 5)) (e8 (xs (i + 6)))))) H := hP
  have hD : va_D A ([(qo, .inl (cJ, 1, .inr (.inl (yn2 (fc_isBlock (xs (i + 2)) (xs (i + 3)) (xs (i + 4)) (xs (i + 5)) (e8 (xs (i + 6)))) (fc_ix (xs (i + 1)) 8) (va_up ov 0 (((y.1.2.2.1 (xs (i + 1)).toNatClampNeg).1).toInt64)) ov)))), (qd, .inl (cD, 1, .inr (.inr (.inr (.inl od)))))] ++ (wp_S cI cZ cD cR cB o ra ba sc (yn2 (fc_isBlock (xs (i + 2)) (xs (i + 3)) (xs (i + 4)) (xs (i + 5)) (e8 (xs (i + 6)))) (fc_ix (xs (i + 1)) 8) (fp_block y (xs (i + 1)) (xs (i + 2)) (xs (i + 3)) (xs (i + 4)) (xs (i + 5)) (e8 (xs (i + 6)))) y) ++ wp_M cI cZ cD a (ms_block x (xs (i + 1)) (xs (i + 2)) (xs (i + 3)) (xs (i + 4)) (xs (i + 5)) (e8 (xs (i + 6)))))) := hD
  refine lv_istore (lv' := [(7, .int (ma_block x (xs (i + 1)) (xs (i + 2)) (xs (i + 3)) (xs (i + 4)) (xs (i + 5)) (e8 (xs (i + 6))))), (6, .int (kc2 (fc_isBlock (xs (i + 2)) (xs (i + 3)) (xs (i + 4)) (xs (i + 5)) (e8 (xs (i + 6)))) (fc_ix (xs (i + 1)) 8))), (5, .int (nI i)), (4, .ref qd), (3, .ref qo), (2, .ref (a 0)), (1, .ref (o 0)), (0, .ref b)]) hx hb dL_law_522 hl (by decide) rfl (fun ls hl => ?_)
  refine lv_aload_n hx hb dL_law_524 rfl (lv_at hl 5 rfl) ?_
  have hPc : va_P (dC, dI) vwCl (wp_M cI cZ cD a (ms_block x (xs (i + 1)) (xs (i + 2)) (xs (i + 3)) (xs (i + 4)) (xs (i + 5)) (e8 (xs (i + 6)))) ++ ([(qo, .inl (cJ, 1, .inr (.inl (yn2 (fc_isBlock (xs (i + 2)) (xs (i + 3)) (xs (i + 4)) (xs (i + 5)) (e8 (xs (i + 6)))) (fc_ix (xs (i + 1)) 8) (va_up ov 0 (((y.1.2.2.1 (xs (i + 1)).toNatClampNeg).1).toInt64)) ov)))), (qd, .inl (cD, 1, .inr (.inr (.inr (.inl od)))))] ++ wp_S cI cZ cD cR cB o ra ba sc (yn2 (fc_isBlock (xs (i + 2)) (xs (i + 3)) (xs (i + 4)) (xs (i + 5)) (e8 (xs (i + 6)))) (fc_ix (xs (i + 1)) 8) (fp_block y (xs (i + 1)) (xs (i + 2)) (xs (i + 3)) (xs (i + 4)) (xs (i + 5)) (e8 (xs (i + 6)))) y))) H := sf_P_perm (pm_m _ _ _ _) hP
  have hDc : va_D A (wp_M cI cZ cD a (ms_block x (xs (i + 1)) (xs (i + 2)) (xs (i + 3)) (xs (i + 4)) (xs (i + 5)) (e8 (xs (i + 6)))) ++ ([(qo, .inl (cJ, 1, .inr (.inl (yn2 (fc_isBlock (xs (i + 2)) (xs (i + 3)) (xs (i + 4)) (xs (i + 5)) (e8 (xs (i + 6)))) (fc_ix (xs (i + 1)) 8) (va_up ov 0 (((y.1.2.2.1 (xs (i + 1)).toNatClampNeg).1).toInt64)) ov)))), (qd, .inl (cD, 1, .inr (.inr (.inr (.inl od)))))] ++ wp_S cI cZ cD cR cB o ra ba sc (yn2 (fc_isBlock (xs (i + 2)) (xs (i + 3)) (xs (i + 4)) (xs (i + 5)) (e8 (xs (i + 6)))) (fc_ix (xs (i + 1)) 8) (fp_block y (xs (i + 1)) (xs (i + 2)) (xs (i + 3)) (xs (i + 4)) (xs (i + 5)) (e8 (xs (i + 6)))) y))) := sf_D_perm (pm_m _ _ _ _) hD
  refine sf_callRi (va_runV (As := []) (rest := []) ⟨hx, hb, hml, hown, hg⟩ (c_X3_thrown l dC dI cI cZ cD a (ms_block x (xs (i + 1)) (xs (i + 2)) (xs (i + 3)) (xs (i + 4)) (xs (i + 5)) (e8 (xs (i + 6))))) (cwV 0 hg (gw_V mw_584 mw_585 mw_586 mw_24 mw_587) rfl rfl rfl (by decide +kernel) ⟨Nat.le_of_ble_eq_true rfl, Nat.le_of_ble_eq_true rfl⟩) (sf_preVR (va_recv hK hPc (ci := 3) (q0 := 0) rfl rfl) (hK.sub [0, 1, 2] rfl) hZ (sf_P_left hPc)) rfl rfl hl.1 rfl (lv_room (Nat.le_of_ble_eq_true rfl)) dL_law_525 ⟨by show _ + 0 ≤ 639599; omega, by show _ + 0 ≤ 7177307; omega⟩) ?_
  refine sf_topi (y := kc2 (fc_isBlock (xs (i + 2)) (xs (i + 3)) (xs (i + 4)) (xs (i + 5)) (e8 (xs (i + 6)))) (fc_ix (xs (i + 1)) 8)) q9.1 ?_
  refine lv_iload hx hb dL_law_528 (lv_at hl 1 rfl) ?_
  refine lv_icmp_eq (tgt := 535) hx hb dL_law_530 (by decide) (fun c_1 => ?_) (fun c_1 => ?_)
  · refine lv_iload hx hb dL_law_535 (lv_at hl 1 rfl) ?_
    refine lv_if_ne (tgt := 552) hx hb dL_law_537 (by decide) (fun c_2 => ?_) (fun c_2 => ?_)
    · refine lv_goto (tgt := 1256) hx hb dL_law_552 (by decide) ?_
      refine W.widen (k := cells + 2) (n := slots + 12) (by omega) (by omega) ?_
      exact kk _ _ _ _ _ _ _ _ q9.2.2.1 q9.2.2.2 hP hD hS (lv_sub hl [2, 3, 4, 5, 6, 7] rfl)
    · refine lv_aload_n hx hb dL_law_540 rfl (lv_at hl 4 rfl) ?_
      refine lv_iconst (v := 0) hx hb dL_law_541 (by decide) ?_
      refine sf_lald hx hb hK hP 0 5 rfl rfl 0 rfl (by decide) (by decide) dL_law_542 ?_
      refine lv_iload hx hb dL_law_543 (lv_at hl 0 rfl) ?_
      refine lv_i2l hx hb dL_law_545 rfl ?_
      refine sf_lcmp hx hb (by rw [kz2 c_2, va_up_self, q9.2.1 c_2]) dL_law_546 ?_
      refine lv_if_eq (tgt := 552) hx hb dL_law_547 (by decide) (fun _ => ?_) (fun h => absurd (by decide) h)
      refine lv_goto (tgt := 1256) hx hb dL_law_552 (by decide) ?_
      refine W.widen (k := cells + 2) (n := slots + 12) (by omega) (by omega) ?_
      exact kk _ _ _ _ _ _ _ _ q9.2.2.1 q9.2.2.2 hP hD hS (lv_sub hl [2, 3, 4, 5, 6, 7] rfl)
  · exact absurd rfl c_1
