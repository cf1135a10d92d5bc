set_option maxHeartbeats 4000000 in
set_option maxRecDepth 100000 in
theorem g_guard {p : Program} {l : Launch} (hlt : l.stackTraces = false) {e : Env} {s : State} {m : MethodId} {below : List Frame} {meth : Method} {c : Code} {b L : Nat} {xs : Nat → Int32} (hL : L ≤ 3584) {sx : Nat → Nat} {dC : Nat → ClassId} {dI : Nat → Nat → Nat} {cI cZ cD cR cB cJ : ClassId} {o : Nat → Nat} {ra : Nat → Nat → Nat} {ba : Nat → Nat} {a : Nat → Nat} {qo qd : Nat} {A : Nat → Prop} {Q : State → Prop} (hx : p.tables.exec = Jvm.exec) (hb : c.code = cL_law) (hml : c.maxLocals = 9) (hown : s.vm.findClass RL = some m.cls) (hg : ∀ w ∈ gw_all, w.before #[Value.ref b] s = true) (hZ : nw_ok s) (hK : va_K (dC, dI) vwCl [(cI, .int), (cZ, .boolean), (cD, .double), (cR, .object RX1), (cB, .object RX0), (cJ, .long)] s) (hE : ev_ok sx A s s.heap) (hN : nc_ok s) (hX : va_X b L xs s s.heap) (hbl : b < s.heap.size) (hbA : ¬ A b) (hA : ∀ q : Nat, s.heap.size ≤ q → A q) (i : Nat) (hi : i + 7 ≤ L) {cells slots : Nat} (hcs : cells + 2 ≤ 639599 ∧ slots + 12 ≤ 7177307) (kk : ∀ (sc : Int32) (y : st_Y) (x : st_M) (ov : Nat → Int64) (od : Nat → UInt64) (H : Heap) (locs : List Loc) (ls : Array Slot), rl sc y x → iv y → va_P (dC, dI) vwCl ([(qo, .inl (cJ, 1, .inr (.inl ov))), (qd, .inl (cD, 1, .inr (.inr (.inr (.inl od)))))] ++ (wp_S cI cZ cD cR cB o ra ba sc y ++ wp_M cI cZ cD a x)) H → va_D A ([(qo, .inl (cJ, 1, .inr (.inl ov))), (qd, .inl (cD, 1, .inr (.inr (.inr (.inl od)))))] ++ (wp_S cI cZ cD cR cB o ra ba sc y ++ wp_M cI cZ cD a x)) → va_S A s.heap H locs → lv_has ls 9 [(5, .int (nI i)), (4, .ref qd), (3, .ref qo), (2, .ref (a 0)), (1, .ref (o 0)), (0, .ref b)] → W p l e room_1 s m #[Value.ref b] below meth c H locs (cells + 2) (slots + 12) Q (F0 m 1256 ls [])) (sc : Int32) (y : st_Y) (x : st_M) (ov : Nat → Int64) (od : Nat → UInt64) (H : Heap) (locs : List Loc) (ls : Array Slot) (R0 : rl sc y x) (hiv : iv y) (hP : va_P (dC, dI) vwCl ([(qo, .inl (cJ, 1, .inr (.inl ov))), (qd, .inl (cD, 1, .inr (.inr (.inr (.inl od)))))] ++ (wp_S cI cZ cD cR cB o ra ba sc y ++ wp_M cI cZ cD a x)) H) (hD : va_D A ([(qo, .inl (cJ, 1, .inr (.inl ov))), (qd, .inl (cD, 1, .inr (.inr (.inr (.inl od)))))] ++ (wp_S cI cZ cD cR cB o ra ba sc y ++ wp_M cI cZ cD a x))) (hS : va_S A s.heap H locs) (hl : lv_has ls 9 [(5, .int (nI i)), (4, .ref qd), (3, .ref qo), (2, .ref (a 0)), (1, .ref (o 0)), (0, .ref b)]) : W p l e room_1 s m #[Value.ref b] below meth c H locs cells slots Q (F0 m 555 ls []) := by
  have q9 := q_guard R0 hiv (xs (i + 1)) (nz (xs (i + 2)))
  refine lv_aload_n hx hb dL_law_555 rfl (lv_at hl 4 rfl) ?_
  refine lv_aload_n hx hb dL_law_556 rfl (lv_at hl 5 rfl) ?_
  refine lv_iload hx hb dL_law_557 (lv_at hl 0 rfl) ?_
  refine lv_iconst (v := 1) hx hb dL_law_559 (by decide) ?_
  refine lv_iadd hx hb dL_law_560 ?_
  refine sf_topi (y := nI (i + 1)) (nI_add i 1) ?_
  refine sf_sld hx hb hX hbl hbA hS (i + 1) rfl (by omega) hL dL_law_561 ?_
  refine lv_aload_n hx hb dL_law_562 rfl (lv_at hl 5 rfl) ?_
  refine lv_iload hx hb dL_law_563 (lv_at hl 0 rfl) ?_
  refine lv_iconst (v := 2) hx hb dL_law_565 (by decide) ?_
  refine lv_iadd hx hb dL_law_566 ?_
  refine sf_topi (y := nI (i + 2)) (nI_add i 2) ?_
  refine sf_sld hx hb hX hbl hbA hS (i + 2) rfl (by omega) hL dL_law_567 ?_
  refine sf_cutb 576 (nz (xs (i + 2))) (fun v => [.int (sf_b v), .int (xs (i + 1)), .ref (o 0)]) ?_ (fun k_1 => ?_)
  · refine lv_aload_n hx hb dL_law_576 rfl (lv_at hl 2 rfl) ?_
    have hPc : va_P (dC, dI) vwCl (([(qo, .inl (cJ, 1, .inr (.inl ov)))] ++ wp_S cI cZ cD cR cB o ra ba sc y) ++ ([(qd, .inl (cD, 1, .inr (.inr (.inr (.inl od)))))] ++ wp_M cI cZ cD a x)) H := sf_P_perm (pm_j _ _ _ _) hP
    have hDc : va_D A (([(qo, .inl (cJ, 1, .inr (.inl ov)))] ++ wp_S cI cZ cD cR cB o ra ba sc y) ++ ([(qd, .inl (cD, 1, .inr (.inr (.inr (.inl od)))))] ++ wp_M cI cZ cD a x)) := sf_D_perm (pm_j _ _ _ _) hD
    refine sf_callVi (vx_runSW (As := [.ref (o 0), .int (xs (i + 1)), .int (sf_b (nz (xs (i + 2)))), .ref qo]) (rest := []) ⟨hx, hb, hml, hown, hg⟩ (c_L_guard l hlt sx dC dI cI cZ cD cR cB o ra ba sc y cJ qo ov (xs (i + 1)) (nz (xs (i + 2))) _ ) (vx_cwSW 4 hg (gw_W mw_318 mw_319 mw_20 mw_320) rfl rfl rfl (by decide +kernel) ⟨Nat.le_of_ble_eq_true rfl, Nat.le_of_ble_eq_true rfl⟩) (sf_preL hK hZ hPc hDc hE hN hS hA) rfl rfl hl.1 rfl (lv_room (Nat.le_of_ble_eq_true rfl)) dL_law_577 ⟨by show cells + 1 ≤ 639599; omega, by show slots + 6 ≤ 7177307; omega⟩) hS hPc hDc hA (fun H locs hP hD hS => ?_)
    have hP := sf_P_perm (pm_j _ _ _ _).symm hP
    have hD := sf_D_perm (pm_j _ _ _ _).symm hD
    have hP : va_P (dC, dI) vwCl ([(qo, .inl (cJ, 1, .inr (.inl (yn1 (fc_ix (xs (i + 1)) 8) (va_up ov 0 (bl ((y.1.2.2.1 (xs (i + 1)).toNatClampNeg).2.2.2.2.2.1))) ov)))), (qd, .inl (cD, 1, .inr (.inr (.inr (.inl od)))))] ++ (wp_S cI cZ cD cR cB o ra ba sc (yn1 (fc_ix (xs (i + 1)) 8) (fp_guard y (xs (i + 1)) (nz (xs (i + 2)))) y) ++ wp_M cI cZ cD a x)) H := hP
    have hD : va_D A ([(qo, .inl (cJ, 1, .inr (.inl (yn1 (fc_ix (xs (i + 1)) 8) (va_up ov 0 (bl ((y.1.2.2.1 (xs (i + 1)).toNatClampNeg).2.2.2.2.2.1))) ov)))), (qd, .inl (cD, 1, .inr (.inr (.inr (.inl od)))))] ++ (wp_S cI cZ cD cR cB o ra ba sc (yn1 (fc_ix (xs (i + 1)) 8) (fp_guard y (xs (i + 1)) (nz (xs (i + 2)))) y) ++ wp_M cI cZ cD a x)) := hD
    refine lv_istore (lv' := [(6, .int (kc1 (fc_ix (xs (i + 1)) 8))), (5, .int (nI i)), (4, .ref qd), (3, .ref qo), (2, .ref (a 0)), (1, .ref (o 0)), (0, .ref b)]) hx hb dL_law_580 hl (by decide) rfl (fun ls hl => ?_)
    refine lv_aload_n hx hb dL_law_582 rfl (lv_at hl 4 rfl) ?_
    refine lv_aload_n hx hb dL_law_583 rfl (lv_at hl 6 rfl) ?_
    refine lv_iload hx hb dL_law_584 (lv_at hl 1 rfl) ?_
    refine lv_iconst (v := 1) hx hb dL_law_586 (by decide) ?_
    refine lv_iadd hx hb dL_law_587 ?_
    refine sf_topi (y := nI (i + 1)) (nI_add i 1) ?_
    refine sf_sld hx hb hX hbl hbA hS (i + 1) rfl (by omega) hL dL_law_588 ?_
    refine lv_aload_n hx hb dL_law_589 rfl (lv_at hl 6 rfl) ?_
    refine lv_iload hx hb dL_law_590 (lv_at hl 1 rfl) ?_
    refine lv_iconst (v := 2) hx hb dL_law_592 (by decide) ?_
    refine lv_iadd hx hb dL_law_593 ?_
    refine sf_topi (y := nI (i + 2)) (nI_add i 2) ?_
    refine sf_sld hx hb hX hbl hbA hS (i + 2) rfl (by omega) hL dL_law_594 ?_
    refine sf_cutb 603 (nz (xs (i + 2))) (fun v => [.int (sf_b v), .int (xs (i + 1)), .ref (a 0)]) ?_ (fun k_2 => ?_)
    · have hPc : va_P (dC, dI) vwCl (wp_M cI cZ cD a x ++ ([(qo, .inl (cJ, 1, .inr (.inl (yn1 (fc_ix (xs (i + 1)) 8) (va_up ov 0 (bl ((y.1.2.2.1 (xs (i + 1)).toNatClampNeg).2.2.2.2.2.1))) ov)))), (qd, .inl (cD, 1, .inr (.inr (.inr (.inl od)))))] ++ wp_S cI cZ cD cR cB o ra ba sc (yn1 (fc_ix (xs (i + 1)) 8) (fp_guard y (xs (i + 1)) (nz (xs (i + 2)))) y))) H := sf_P_perm (pm_m _ _ _ _) hP
      have hDc : va_D A (wp_M cI cZ cD a x ++ ([(qo, .inl (cJ, 1, .inr (.inl (yn1 (fc_ix (xs (i + 1)) 8) (va_up ov 0 (bl ((y.1.2.2.1 (xs (i + 1)).toNatClampNeg).2.2.2.2.2.1))) ov)))), (qd, .inl (cD, 1, .inr (.inr (.inr (.inl od)))))] ++ wp_S cI cZ cD cR cB o ra ba sc (yn1 (fc_ix (xs (i + 1)) 8) (fp_guard y (xs (i + 1)) (nz (xs (i + 2)))) y))) := sf_D_perm (pm_m _ _ _ _) hD
      refine sf_callVi (va_runV (As := [.int (xs (i + 1)), .int (sf_b (nz (xs (i + 2))))]) (rest := []) ⟨hx, hb, hml, hown, hg⟩ (c_X3_guard l dC dI cI cZ cD a x (xs (i + 1)) (nz (xs (i + 2))) _) (cwV 2 hg (gw_V mw_622 mw_623 mw_624 mw_24 mw_625) rfl rfl rfl (by decide +kernel) ⟨Nat.le_of_ble_eq_true rfl, Nat.le_of_ble_eq_true rfl⟩) (sf_preVV (va_recv hK hPc (ci := 3) (q0 := 0) rfl rfl) (hK.sub [0, 1, 2] rfl) hZ hPc hDc) rfl rfl hl.1 rfl (lv_room (Nat.le_of_ble_eq_true rfl)) dL_law_603 ⟨by show _ + 0 ≤ 639599; omega, by show _ + 0 ≤ 7177307; omega⟩) hS hPc hDc hA (fun H locs hP hD hS => ?_)
      have hP := sf_P_perm (pm_m _ _ _ _).symm hP
      have hD := sf_D_perm (pm_m _ _ _ _).symm hD
      have hP : va_P (dC, dI) vwCl ([(qo, .inl (cJ, 1, .inr (.inl (yn1 (fc_ix (xs (i + 1)) 8) (va_up ov 0 (bl ((y.1.2.2.1 (xs (i + 1)).toNatClampNeg).2.2.2.2.2.1))) ov)))), (qd, .inl (cD, 1, .inr (.inr (.inr (.inl od)))))] ++ (wp_S cI cZ cD cR cB o ra ba sc (yn1 (fc_ix (xs (i + 1)) 8) (fp_guard y (xs (i + 1)) (nz (xs (i + 2)))) y) ++ wp_M cI cZ cD a (ms_guard x (xs (i + 1)) (nz (xs (i + 2)))))) H := hP
      have hD : va_D A ([(qo, .inl (cJ, 1, .inr (.inl (yn1 (fc_ix (xs (i + 1)) 8) (va_up ov 0 (bl ((y.1.2.2.1 (xs (i + 1)).toNatClampNeg).2.2.2.2.2.1))) ov)))), (qd, .inl (cD, 1, .inr (.inr (.inr (.inl od)))))] ++ (wp_S cI cZ cD cR cB o ra ba sc (yn1 (fc_ix (xs (i + 1)) 8) (fp_guard y (xs (i + 1)) (nz (xs (i + 2)))) y) ++ wp_M cI cZ cD a (ms_guard x (xs (i + 1)) (nz (xs (i + 2)))))) := hD
      refine lv_istore (lv' := [(7, .int (sf_b (ma_guard x (xs (i + 1))))), (6, .int (kc1 (fc_ix (xs (i + 1)) 8))), (5, .int (nI i)), (4, .ref qd), (3, .ref qo), (2, .ref (a 0)), (1, .ref (o 0)), (0, .ref b)]) hx hb dL_law_606 hl (by decide) rfl (fun ls hl => ?_)
      refine lv_aload_n hx hb dL_law_608 rfl (lv_at hl 5 rfl) ?_
      have hPc : va_P (dC, dI) vwCl (wp_M cI cZ cD a (ms_guard x (xs (i + 1)) (nz (xs (i + 2)))) ++ ([(qo, .inl (cJ, 1, .inr (.inl (yn1 (fc_ix (xs (i + 1)) 8) (va_up ov 0 (bl ((y.1.2.2.1 (xs (i + 1)).toNatClampNeg).2.2.2.2.2.1))) ov)))), (qd, .inl (cD, 1, .inr (.inr (.inr (.inl od)))))] ++ wp_S cI cZ cD cR cB o ra ba sc (yn1 (fc_ix (xs (i + 1)) 8) (fp_guard y (xs (i + 1)) (nz (xs (i + 2)))) y))) H := sf_P_perm (pm_m _ _ _ _) hP
      have hDc : va_D A (wp_M cI cZ cD a (ms_guard x (xs (i + 1)) (nz (xs (i + 2)))) ++ ([(qo, .inl (cJ, 1, .inr (.inl (yn1 (fc_ix (xs (i + 1)) 8) (va_up ov 0 (bl ((y.1.2.2.1 (xs (i + 1)).toNatClampNeg).2.2.2.2.2.1))) ov)))), (qd, .inl (cD, 1, .inr (.inr (.inr (.inl od)))))] ++ wp_S cI cZ cD cR cB o ra ba sc (yn1 (fc_ix (xs (i + 1)) 8) (fp_guard y (xs (i + 1)) (nz (xs (i + 2)))) y))) := sf_D_perm (pm_m _ _ _ _) hD
      refine sf_callRi (va_runV (As := []) (rest := []) ⟨hx, hb, hml, hown, hg⟩ (c_X3_thrown l dC dI cI cZ cD a (ms_guard x (xs (i + 1)) (nz (xs (i + 2))))) (cwV 0 hg (gw_V mw_584 mw_585 mw_586 mw_24 mw_587) rfl rfl rfl (by decide +kernel) ⟨Nat.le_of_ble_eq_true rfl, Nat.le_of_ble_eq_true rfl⟩) (sf_preVR (va_recv hK hPc (ci := 3) (q0 := 0) rfl rfl) (hK.sub [0, 1, 2] rfl) hZ (sf_P_left hPc)) rfl rfl hl.1 rfl (lv_room (Nat.le_of_ble_eq_true rfl)) dL_law_609 ⟨by show _ + 0 ≤ 639599; omega, by show _ + 0 ≤ 7177307; omega⟩) ?_
      refine sf_topi (y := kc1 (fc_ix (xs (i + 1)) 8)) q9.1 ?_
      refine lv_iload hx hb dL_law_612 (lv_at hl 1 rfl) ?_
      refine lv_icmp_eq (tgt := 619) hx hb dL_law_614 (by decide) (fun c_3 => ?_) (fun c_3 => ?_)
      · refine lv_iload hx hb dL_law_619 (lv_at hl 1 rfl) ?_
        refine lv_if_ne (tgt := 643) hx hb dL_law_621 (by decide) (fun c_4 => ?_) (fun c_4 => ?_)
        · refine lv_goto (tgt := 1256) hx hb dL_law_643 (by decide) ?_
          refine W.widen (k := cells + 2) (n := slots + 12) (by omega) (by omega) ?_
          exact kk _ _ _ _ _ _ _ _ q9.2.2.1 q9.2.2.2 hP hD hS (lv_sub hl [2, 3, 4, 5, 6, 7] rfl)
        · refine lv_aload_n hx hb dL_law_624 rfl (lv_at hl 4 rfl) ?_
          refine lv_iconst (v := 0) hx hb dL_law_625 (by decide) ?_
          refine sf_lald hx hb hK hP 0 5 rfl rfl 0 rfl (by decide) (by decide) dL_law_626 ?_
          refine lv_iload hx hb dL_law_627 (lv_at hl 0 rfl) ?_
          refine sf_ifeq (tgt := 636) hx hb dL_law_629 (by decide) (fun c_5 => ?_) (fun c_5 => ?_)
          · refine lv_lconst (v := 0) hx hb dL_law_636 (by decide) ?_
            refine sf_lcmp hx hb (by rw [kz1 c_4, va_up_self, ← q9.2.1 c_4, c_5]; rfl) dL_law_637 ?_
            refine lv_if_eq (tgt := 643) hx hb dL_law_638 (by decide) (fun _ => ?_) (fun h => absurd (by decide) h)
            refine lv_goto (tgt := 1256) hx hb dL_law_643 (by decide) ?_
            refine W.widen (k := cells + 2) (n := slots + 12) (by omega) (by omega) ?_
            exact kk _ _ _ _ _ _ _ _ q9.2.2.1 q9.2.2.2 hP hD hS (lv_sub hl [2, 3, 4, 5, 6, 7] rfl)
          · refine lv_lconst (v := 1) hx hb dL_law_632 (by decide) ?_
            refine lv_goto (tgt := 637) hx hb dL_law_633 (by decide) ?_
            refine sf_lcmp hx hb (by rw [kz1 c_4, va_up_self, ← q9.2.1 c_4, c_5]; rfl) dL_law_637 ?_
            refine lv_if_eq (tgt := 643) hx hb dL_law_638 (by decide) (fun _ => ?_) (fun h => absurd (by decide) h)
            refine lv_goto (tgt := 1256) hx hb dL_law_643 (by decide) ?_
            refine W.widen (k := cells + 2) (n := slots + 12) (by omega) (by omega) ?_
            exact kk _ _ _ _ _ _ _ _ q9.2.2.1 q9.2.2.2 hP hD hS (lv_sub hl [2, 3, 4, 5, 6, 7] rfl)
      · exact absurd rfl c_3
    · refine lv_if_eq (tgt := 602) hx hb dL_law_595 (by decide) (fun c_8 => ?_) (fun c_8 => ?_)
      · refine lv_iconst (v := sf_b false) hx hb dL_law_602 (by decide) ?_
        exact k_2 false (by first | rfl | (simp [nz, c_8]; done) | (simp [nz] at *; simp [*]; done))
      · refine lv_iconst (v := sf_b true) hx hb dL_law_598 (by decide) ?_
        refine lv_goto (tgt := 603) hx hb dL_law_599 (by decide) ?_
        exact k_2 true (by first | rfl | (simp [nz, c_8]; done) | (simp [nz] at *; simp [*]; done))
  · refine lv_if_eq (tgt := 575) hx hb dL_law_568 (by decide) (fun c_9 => ?_) (fun c_9 => ?_)
    · refine lv_iconst (v := sf_b false) hx hb dL_law_575 (by decide) ?_
      exact k_1 false (by first | rfl | (simp [nz, c_9]; done) | (simp [nz] at *; simp [*]; done))
    · refine lv_iconst (v := sf_b true) hx hb dL_law_571 (by decide) ?_
      refine lv_goto (tgt := 576) hx hb dL_law_572 (by decide) ?_
      exact k_1 true (by first | rfl | (simp [nz, c_9]; done) | (simp [nz] at *; simp [*]; done))
