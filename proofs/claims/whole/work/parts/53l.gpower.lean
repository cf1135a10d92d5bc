set_option maxHeartbeats 4000000 in
set_option maxRecDepth 100000 in
theorem g_power {p : Program} {l : Launch} (hlt : l.stackTraces = false) {e : Env} {s : State} {m : MethodId} {below : List Frame} {meth : Method} {c : Code} {b L : Nat} {xs : Nat → Int32} (hL : L ≤ 3584) {sx : Nat → Nat} {dC : Nat → ClassId} {dI : Nat → Nat → Nat} {cI cZ cD cR cB cJ : ClassId} {o : Nat → Nat} {ra : Nat → Nat → Nat} {ba : Nat → Nat} {a : Nat → Nat} {qo qd : Nat} {A : Nat → Prop} {Q : State → Prop} (hx : p.tables.exec = Jvm.exec) (hb : c.code = cL_law) (hml : c.maxLocals = 9) (hown : s.vm.findClass RL = some m.cls) (hg : ∀ w ∈ gw_all, w.before #[Value.ref b] s = true) (hZ : nw_ok s) (hK : va_K (dC, dI) vwCl [(cI, .int), (cZ, .boolean), (cD, .double), (cR, .object RX1), (cB, .object RX0), (cJ, .long)] s) (hE : ev_ok sx A s s.heap) (hN : nc_ok s) (hX : va_X b L xs s s.heap) (hbl : b < s.heap.size) (hbA : ¬ A b) (hA : ∀ q : Nat, s.heap.size ≤ q → A q) (i : Nat) (hi : i + 7 ≤ L) {cells slots : Nat} (hcs : cells + 2 ≤ 639599 ∧ slots + 12 ≤ 7177307) (kk : ∀ (sc : Int32) (y : st_Y) (x : st_M) (ov : Nat → Int64) (od : Nat → UInt64) (H : Heap) (locs : List Loc) (ls : Array Slot), rl sc y x → iv y → va_P (dC, dI) vwCl ([(qo, .inl (cJ, 1, .inr (.inl ov))), (qd, .inl (cD, 1, .inr (.inr (.inr (.inl od)))))] ++ (wp_S cI cZ cD cR cB o ra ba sc y ++ wp_M cI cZ cD a x)) H → va_D A ([(qo, .inl (cJ, 1, .inr (.inl ov))), (qd, .inl (cD, 1, .inr (.inr (.inr (.inl od)))))] ++ (wp_S cI cZ cD cR cB o ra ba sc y ++ wp_M cI cZ cD a x)) → va_S A s.heap H locs → lv_has ls 9 [(5, .int (nI i)), (4, .ref qd), (3, .ref qo), (2, .ref (a 0)), (1, .ref (o 0)), (0, .ref b)] → W p l e room_1 s m #[Value.ref b] below meth c H locs (cells + 2) (slots + 12) Q (F0 m 1256 ls [])) (sc : Int32) (y : st_Y) (x : st_M) (ov : Nat → Int64) (od : Nat → UInt64) (H : Heap) (locs : List Loc) (ls : Array Slot) (R0 : rl sc y x) (hiv : iv y) (hP : va_P (dC, dI) vwCl ([(qo, .inl (cJ, 1, .inr (.inl ov))), (qd, .inl (cD, 1, .inr (.inr (.inr (.inl od)))))] ++ (wp_S cI cZ cD cR cB o ra ba sc y ++ wp_M cI cZ cD a x)) H) (hD : va_D A ([(qo, .inl (cJ, 1, .inr (.inl ov))), (qd, .inl (cD, 1, .inr (.inr (.inr (.inl od)))))] ++ (wp_S cI cZ cD cR cB o ra ba sc y ++ wp_M cI cZ cD a x))) (hS : va_S A s.heap H locs) (hl : lv_has ls 9 [(5, .int (nI i)), (4, .ref qd), (3, .ref qo), (2, .ref (a 0)), (1, .ref (o 0)), (0, .ref b)]) : W p l e room_1 s m #[Value.ref b] below meth c H locs cells slots Q (F0 m 1045 ls []) := by
  have q9 := q_power R0 (xs (i + 1)) (xs (i + 2)) (xs (i + 3))
  refine lv_aload_n hx hb dL_law_1045 rfl (lv_at hl 4 rfl) ?_
  refine lv_aload_n hx hb dL_law_1046 rfl (lv_at hl 5 rfl) ?_
  refine lv_iload hx hb dL_law_1047 (lv_at hl 0 rfl) ?_
  refine lv_iconst (v := 1) hx hb dL_law_1049 (by decide) ?_
  refine lv_iadd hx hb dL_law_1050 ?_
  refine sf_topi (y := nI (i + 1)) (nI_add i 1) ?_
  refine sf_sld hx hb hX hbl hbA hS (i + 1) rfl (by omega) hL dL_law_1051 ?_
  refine lv_aload_n hx hb dL_law_1052 rfl (lv_at hl 5 rfl) ?_
  refine lv_iload hx hb dL_law_1053 (lv_at hl 0 rfl) ?_
  refine lv_iconst (v := 2) hx hb dL_law_1055 (by decide) ?_
  refine lv_iadd hx hb dL_law_1056 ?_
  refine sf_topi (y := nI (i + 2)) (nI_add i 2) ?_
  refine sf_sld hx hb hX hbl hbA hS (i + 2) rfl (by omega) hL dL_law_1057 ?_
  refine lv_aload_n hx hb dL_law_1058 rfl (lv_at hl 5 rfl) ?_
  refine lv_iload hx hb dL_law_1059 (lv_at hl 0 rfl) ?_
  refine lv_iconst (v := 3) hx hb dL_law_1061 (by decide) ?_
  refine lv_iadd hx hb dL_law_1062 ?_
  refine sf_topi (y := nI (i + 3)) (nI_add i 3) ?_
  refine sf_sld hx hb hX hbl hbA hS (i + 3) rfl (by omega) hL dL_law_1063 ?_
  refine lv_aload_n hx hb dL_law_1064 rfl (lv_at hl 2 rfl) ?_
  have hPc : va_P (dC, dI) vwCl (([(qo, .inl (cJ, 1, .inr (.inl ov)))] ++ wp_S cI cZ cD cR cB o ra ba sc y) ++ ([(qd, .inl (cD, 1, .inr (.inr (.inr (.inl od)))))] ++ wp_M cI cZ cD a x)) H := sf_P_perm (pm_j _ _ _ _) hP
  have hDc : va_D A (([(qo, .inl (cJ, 1, .inr (.inl ov)))] ++ wp_S cI cZ cD cR cB o ra ba sc y) ++ ([(qd, .inl (cD, 1, .inr (.inr (.inr (.inl od)))))] ++ wp_M cI cZ cD a x)) := sf_D_perm (pm_j _ _ _ _) hD
  refine sf_callVi (vx_runSW (As := [.ref (o 0), .int (xs (i + 1)), .int (xs (i + 2)), .int (xs (i + 3)), .ref qo]) (rest := []) ⟨hx, hb, hml, hown, hg⟩ (c_L_power l hlt sx dC dI cI cZ cD cR cB o ra ba sc y cJ qo ov (xs (i + 1)) (xs (i + 2)) (xs (i + 3)) _ ) (vx_cwSW 5 hg (gw_W mw_464 mw_465 mw_20 mw_466) rfl rfl rfl (by decide +kernel) ⟨Nat.le_of_ble_eq_true rfl, Nat.le_of_ble_eq_true rfl⟩) (sf_preL hK hZ hPc hDc hE hN hS hA) rfl rfl hl.1 rfl (lv_room (Nat.le_of_ble_eq_true rfl)) dL_law_1065 ⟨by show cells + 1 ≤ 639599; omega, by show slots + 6 ≤ 7177307; omega⟩) hS hPc hDc hA (fun H locs hP hD hS => ?_)
  have hP := sf_P_perm (pm_j _ _ _ _).symm hP
  have hD := sf_D_perm (pm_j _ _ _ _).symm hD
  have hP : va_P (dC, dI) vwCl ([(qo, .inl (cJ, 1, .inr (.inl (yn1 (fc_row (xs (i + 1)) (xs (i + 2)) && fc_btw (xs (i + 3)) (-1) 3) (va_up ov 0 (bl ((y.2 (xs (i + 1)).toNatClampNeg).2.2.2.2.1 ((xs (i + 2)).toNatClampNeg * 5 + fp_col (xs (i + 3)))))) ov)))), (qd, .inl (cD, 1, .inr (.inr (.inr (.inl od)))))] ++ (wp_S cI cZ cD cR cB o ra ba sc y ++ wp_M cI cZ cD a x)) H := hP
  have hD : va_D A ([(qo, .inl (cJ, 1, .inr (.inl (yn1 (fc_row (xs (i + 1)) (xs (i + 2)) && fc_btw (xs (i + 3)) (-1) 3) (va_up ov 0 (bl ((y.2 (xs (i + 1)).toNatClampNeg).2.2.2.2.1 ((xs (i + 2)).toNatClampNeg * 5 + fp_col (xs (i + 3)))))) ov)))), (qd, .inl (cD, 1, .inr (.inr (.inr (.inl od)))))] ++ (wp_S cI cZ cD cR cB o ra ba sc y ++ wp_M cI cZ cD a x)) := hD
  refine lv_istore (lv' := [(6, .int (kc1 (fc_row (xs (i + 1)) (xs (i + 2)) && fc_btw (xs (i + 3)) (-1) 3))), (5, .int (nI i)), (4, .ref qd), (3, .ref qo), (2, .ref (a 0)), (1, .ref (o 0)), (0, .ref b)]) hx hb dL_law_1068 hl (by decide) rfl (fun ls hl => ?_)
  refine lv_aload_n hx hb dL_law_1070 rfl (lv_at hl 4 rfl) ?_
  refine lv_aload_n hx hb dL_law_1071 rfl (lv_at hl 6 rfl) ?_
  refine lv_iload hx hb dL_law_1072 (lv_at hl 1 rfl) ?_
  refine lv_iconst (v := 1) hx hb dL_law_1074 (by decide) ?_
  refine lv_iadd hx hb dL_law_1075 ?_
  refine sf_topi (y := nI (i + 1)) (nI_add i 1) ?_
  refine sf_sld hx hb hX hbl hbA hS (i + 1) rfl (by omega) hL dL_law_1076 ?_
  refine lv_aload_n hx hb dL_law_1077 rfl (lv_at hl 6 rfl) ?_
  refine lv_iload hx hb dL_law_1078 (lv_at hl 1 rfl) ?_
  refine lv_iconst (v := 2) hx hb dL_law_1080 (by decide) ?_
  refine lv_iadd hx hb dL_law_1081 ?_
  refine sf_topi (y := nI (i + 2)) (nI_add i 2) ?_
  refine sf_sld hx hb hX hbl hbA hS (i + 2) rfl (by omega) hL dL_law_1082 ?_
  refine lv_aload_n hx hb dL_law_1083 rfl (lv_at hl 6 rfl) ?_
  refine lv_iload hx hb dL_law_1084 (lv_at hl 1 rfl) ?_
  refine lv_iconst (v := 3) hx hb dL_law_1086 (by decide) ?_
  refine lv_iadd hx hb dL_law_1087 ?_
  refine sf_topi (y := nI (i + 3)) (nI_add i 3) ?_
  refine sf_sld hx hb hX hbl hbA hS (i + 3) rfl (by omega) hL dL_law_1088 ?_
  have hPc : va_P (dC, dI) vwCl (wp_M cI cZ cD a x ++ ([(qo, .inl (cJ, 1, .inr (.inl (yn1 (fc_row (xs (i + 1)) (xs (i + 2)) && fc_btw (xs (i + 3)) (-1) 3) (va_up ov 0 (bl ((y.2 (xs (i + 1)).toNatClampNeg).2.2.2.2.1 ((xs (i + 2)).toNatClampNeg * 5 + fp_col (xs (i + 3)))))) ov)))), (qd, .inl (cD, 1, .inr (.inr (.inr (.inl od)))))] ++ wp_S cI cZ cD cR cB o ra ba sc y)) H := sf_P_perm (pm_m _ _ _ _) hP
  have hDc : va_D A (wp_M cI cZ cD a x ++ ([(qo, .inl (cJ, 1, .inr (.inl (yn1 (fc_row (xs (i + 1)) (xs (i + 2)) && fc_btw (xs (i + 3)) (-1) 3) (va_up ov 0 (bl ((y.2 (xs (i + 1)).toNatClampNeg).2.2.2.2.1 ((xs (i + 2)).toNatClampNeg * 5 + fp_col (xs (i + 3)))))) ov)))), (qd, .inl (cD, 1, .inr (.inr (.inr (.inl od)))))] ++ wp_S cI cZ cD cR cB o ra ba sc y)) := sf_D_perm (pm_m _ _ _ _) hD
  refine sf_callVi (va_runV (As := [.int (xs (i + 1)), .int (xs (i + 2)), .int (xs (i + 3))]) (rest := []) ⟨hx, hb, hml, hown, hg⟩ (c_X3_power l dC dI cI cZ cD a x (xs (i + 1)) (xs (i + 2)) (xs (i + 3)) _) (cwV 3 hg (gw_V mw_678 mw_679 mw_680 mw_24 mw_681) rfl rfl rfl (by decide +kernel) ⟨Nat.le_of_ble_eq_true rfl, Nat.le_of_ble_eq_true rfl⟩) (sf_preVV (va_recv hK hPc (ci := 3) (q0 := 0) rfl rfl) (hK.sub [0, 1, 2] rfl) hZ hPc hDc) rfl rfl hl.1 rfl (lv_room (Nat.le_of_ble_eq_true rfl)) dL_law_1089 ⟨by show _ + 0 ≤ 639599; omega, by show _ + 0 ≤ 7177307; omega⟩) hS hPc hDc hA (fun H locs hP hD hS => ?_)
  have hP := sf_P_perm (pm_m _ _ _ _).symm hP
  have hD := sf_D_perm (pm_m _ _ _ _).symm hD
  have hP : va_P (dC, dI) vwCl ([(qo, .inl (cJ, 1, .inr (.inl (yn1 (fc_row (xs (i + 1)) (xs (i + 2)) && fc_btw (xs (i + 3)) (-1) 3) (va_up ov 0 (bl ((y.2 (xs (i + 1)).toNatClampNeg).2.2.2.2.1 ((xs (i + 2)).toNatClampNeg * 5 + fp_col (xs (i + 3)))))) ov)))), (qd, .inl (cD, 1, .inr (.inr (.inr (.inl od)))))] ++ (wp_S cI cZ cD cR cB o ra ba sc y ++ wp_M cI cZ cD a (ms_power x (xs (i + 1)) (xs (i + 2)) (xs (i + 3))))) H := hP
  have hD : va_D A ([(qo, .inl (cJ, 1, .inr (.inl (yn1 (fc_row (xs (i + 1)) (xs (i + 2)) && fc_btw (xs (i + 3)) (-1) 3) (va_up ov 0 (bl ((y.2 (xs (i + 1)).toNatClampNeg).2.2.2.2.1 ((xs (i + 2)).toNatClampNeg * 5 + fp_col (xs (i + 3)))))) ov)))), (qd, .inl (cD, 1, .inr (.inr (.inr (.inl od)))))] ++ (wp_S cI cZ cD cR cB o ra ba sc y ++ wp_M cI cZ cD a (ms_power x (xs (i + 1)) (xs (i + 2)) (xs (i + 3))))) := hD
  refine lv_istore (lv' := [(7, .int (sf_b (ma_power x (xs (i + 1)) (xs (i + 2)) (xs (i + 3))))), (6, .int (kc1 (fc_row (xs (i + 1)) (xs (i + 2)) && fc_btw (xs (i + 3)) (-1) 3))), (5, .int (nI i)), (4, .ref qd), (3, .ref qo), (2, .ref (a 0)), (1, .ref (o 0)), (0, .ref b)]) hx hb dL_law_1092 hl (by decide) rfl (fun ls hl => ?_)
  refine lv_aload_n hx hb dL_law_1094 rfl (lv_at hl 5 rfl) ?_
  have hPc : va_P (dC, dI) vwCl (wp_M cI cZ cD a (ms_power x (xs (i + 1)) (xs (i + 2)) (xs (i + 3))) ++ ([(qo, .inl (cJ, 1, .inr (.inl (yn1 (fc_row (xs (i + 1)) (xs (i + 2)) && fc_btw (xs (i + 3)) (-1) 3) (va_up ov 0 (bl ((y.2 (xs (i + 1)).toNatClampNeg).2.2.2.2.1 ((xs (i + 2)).toNatClampNeg * 5 + fp_col (xs (i + 3)))))) ov)))), (qd, .inl (cD, 1, .inr (.inr (.inr (.inl od)))))] ++ wp_S cI cZ cD cR cB o ra ba sc y)) H := sf_P_perm (pm_m _ _ _ _) hP
  have hDc : va_D A (wp_M cI cZ cD a (ms_power x (xs (i + 1)) (xs (i + 2)) (xs (i + 3))) ++ ([(qo, .inl (cJ, 1, .inr (.inl (yn1 (fc_row (xs (i + 1)) (xs (i + 2)) && fc_btw (xs (i + 3)) (-1) 3) (va_up ov 0 (bl ((y.2 (xs (i + 1)).toNatClampNeg).2.2.2.2.1 ((xs (i + 2)).toNatClampNeg * 5 + fp_col (xs (i + 3)))))) ov)))), (qd, .inl (cD, 1, .inr (.inr (.inr (.inl od)))))] ++ wp_S cI cZ cD cR cB o ra ba sc y)) := sf_D_perm (pm_m _ _ _ _) hD
  refine sf_callRi (va_runV (As := []) (rest := []) ⟨hx, hb, hml, hown, hg⟩ (c_X3_thrown l dC dI cI cZ cD a (ms_power x (xs (i + 1)) (xs (i + 2)) (xs (i + 3)))) (cwV 0 hg (gw_V mw_584 mw_585 mw_586 mw_24 mw_587) rfl rfl rfl (by decide +kernel) ⟨Nat.le_of_ble_eq_true rfl, Nat.le_of_ble_eq_true rfl⟩) (sf_preVR (va_recv hK hPc (ci := 3) (q0 := 0) rfl rfl) (hK.sub [0, 1, 2] rfl) hZ (sf_P_left hPc)) rfl rfl hl.1 rfl (lv_room (Nat.le_of_ble_eq_true rfl)) dL_law_1095 ⟨by show _ + 0 ≤ 639599; omega, by show _ + 0 ≤ 7177307; omega⟩) ?_
  refine sf_topi (y := kc1 (fc_row (xs (i + 1)) (xs (i + 2)) && fc_btw (xs (i + 3)) (-1) 3)) q9.1 ?_
  refine lv_iload hx hb dL_law_1098 (lv_at hl 1 rfl) ?_
  refine lv_icmp_eq (tgt := 1105) hx hb dL_law_1100 (by decide) (fun c_1 => ?_) (fun c_1 => ?_)
  · refine lv_iload hx hb dL_law_1105 (lv_at hl 1 rfl) ?_
    refine lv_if_ne (tgt := 1129) hx hb dL_law_1107 (by decide) (fun c_2 => ?_) (fun c_2 => ?_)
    · refine lv_goto (tgt := 1256) hx hb dL_law_1129 (by decide) ?_
      refine W.widen (k := cells + 2) (n := slots + 12) (by omega) (by omega) ?_
      exact kk _ _ _ _ _ _ _ _ q9.2.2 hiv hP hD hS (lv_sub hl [2, 3, 4, 5, 6, 7] rfl)
    · refine lv_aload_n hx hb dL_law_1110 rfl (lv_at hl 4 rfl) ?_
      refine lv_iconst (v := 0) hx hb dL_law_1111 (by decide) ?_
      refine sf_lald hx hb hK hP 0 5 rfl rfl 0 rfl (by decide) (by decide) dL_law_1112 ?_
      refine lv_iload hx hb dL_law_1113 (lv_at hl 0 rfl) ?_
      refine sf_ifeq (tgt := 1122) hx hb dL_law_1115 (by decide) (fun c_3 => ?_) (fun c_3 => ?_)
      · refine lv_lconst (v := 0) hx hb dL_law_1122 (by decide) ?_
        refine sf_lcmp hx hb (by rw [kz1 c_2, va_up_self, ← q9.2.1 c_2, c_3]; rfl) dL_law_1123 ?_
        refine lv_if_eq (tgt := 1129) hx hb dL_law_1124 (by decide) (fun _ => ?_) (fun h => absurd (by decide) h)
        refine lv_goto (tgt := 1256) hx hb dL_law_1129 (by decide) ?_
        refine W.widen (k := cells + 2) (n := slots + 12) (by omega) (by omega) ?_
        exact kk _ _ _ _ _ _ _ _ q9.2.2 hiv hP hD hS (lv_sub hl [2, 3, 4, 5, 6, 7] rfl)
      · refine lv_lconst (v := 1) hx hb dL_law_1118 (by decide) ?_
        refine lv_goto (tgt := 1123) hx hb dL_law_1119 (by decide) ?_
        refine sf_lcmp hx hb (by rw [kz1 c_2, va_up_self, ← q9.2.1 c_2, c_3]; rfl) dL_law_1123 ?_
        refine lv_if_eq (tgt := 1129) hx hb dL_law_1124 (by decide) (fun _ => ?_) (fun h => absurd (by decide) h)
        refine lv_goto (tgt := 1256) hx hb dL_law_1129 (by decide) ?_
        refine W.widen (k := cells + 2) (n := slots + 12) (by omega) (by omega) ?_
        exact kk _ _ _ _ _ _ _ _ q9.2.2 hiv hP hD hS (lv_sub hl [2, 3, 4, 5, 6, 7] rfl)
  · exact absurd rfl c_1
