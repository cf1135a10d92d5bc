set_option maxHeartbeats 4000000 in
set_option maxRecDepth 100000 in
theorem g_count {p : Program} {l : Launch} (hlt : l.stackTraces = false) {e : Env} {s : State} {m : MethodId} {below : List Frame} {meth : Method} {c : Code} {b L : Nat} {xs : Nat → Int32} (hL : L ≤ 3584) {sx : Nat → Nat} {dC : Nat → ClassId} {dI : Nat → Nat → Nat} {cI cZ cD cR cB cJ : ClassId} {o : Nat → Nat} {ra : Nat → Nat → Nat} {ba : Nat → Nat} {a : Nat → Nat} {qo qd : Nat} {A : Nat → Prop} {Q : State → Prop} (hx : p.tables.exec = Jvm.exec) (hb : c.code = cL_law) (hml : c.maxLocals = 9) (hown : s.vm.findClass RL = some m.cls) (hg : ∀ w ∈ gw_all, w.before #[Value.ref b] s = true) (hZ : nw_ok s) (hK : va_K (dC, dI) vwCl [(cI, .int), (cZ, .boolean), (cD, .double), (cR, .object RX1), (cB, .object RX0), (cJ, .long)] s) (hE : ev_ok sx A s s.heap) (hN : nc_ok s) (hX : va_X b L xs s s.heap) (hbl : b < s.heap.size) (hbA : ¬ A b) (hA : ∀ q : Nat, s.heap.size ≤ q → A q) (i : Nat) (hi : i + 7 ≤ L) {cells slots : Nat} (hcs : cells + 2 ≤ 639599 ∧ slots + 12 ≤ 7177307) (kk : ∀ (sc : Int32) (y : st_Y) (x : st_M) (ov : Nat → Int64) (od : Nat → UInt64) (H : Heap) (locs : List Loc) (ls : Array Slot), rl sc y x → iv y → va_P (dC, dI) vwCl ([(qo, .inl (cJ, 1, .inr (.inl ov))), (qd, .inl (cD, 1, .inr (.inr (.inr (.inl od)))))] ++ (wp_S cI cZ cD cR cB o ra ba sc y ++ wp_M cI cZ cD a x)) H → va_D A ([(qo, .inl (cJ, 1, .inr (.inl ov))), (qd, .inl (cD, 1, .inr (.inr (.inr (.inl od)))))] ++ (wp_S cI cZ cD cR cB o ra ba sc y ++ wp_M cI cZ cD a x)) → va_S A s.heap H locs → lv_has ls 9 [(5, .int (nI i)), (4, .ref qd), (3, .ref qo), (2, .ref (a 0)), (1, .ref (o 0)), (0, .ref b)] → W p l e room_1 s m #[Value.ref b] below meth c H locs (cells + 2) (slots + 12) Q (F0 m 1256 ls [])) (sc : Int32) (y : st_Y) (x : st_M) (ov : Nat → Int64) (od : Nat → UInt64) (H : Heap) (locs : List Loc) (ls : Array Slot) (R0 : rl sc y x) (hiv : iv y) (hP : va_P (dC, dI) vwCl ([(qo, .inl (cJ, 1, .inr (.inl ov))), (qd, .inl (cD, 1, .inr (.inr (.inr (.inl od)))))] ++ (wp_S cI cZ cD cR cB o ra ba sc y ++ wp_M cI cZ cD a x)) H) (hD : va_D A ([(qo, .inl (cJ, 1, .inr (.inl ov))), (qd, .inl (cD, 1, .inr (.inr (.inr (.inl od)))))] ++ (wp_S cI cZ cD cR cB o ra ba sc y ++ wp_M cI cZ cD a x))) (hS : va_S A s.heap H locs) (hl : lv_has ls 9 [(5, .int (nI i)), (4, .ref qd), (3, .ref qo), (2, .ref (a 0)), (1, .ref (o 0)), (0, .ref b)]) : W p l e room_1 s m #[Value.ref b] below meth c H locs cells slots Q (F0 m 1200 ls []) := by
  have q9 := q_count R0 (xs (i + 1))
  refine lv_aload_n hx hb dL_law_1200 rfl (lv_at hl 4 rfl) ?_
  refine lv_aload_n hx hb dL_law_1201 rfl (lv_at hl 5 rfl) ?_
  refine lv_iload hx hb dL_law_1202 (lv_at hl 0 rfl) ?_
  refine lv_iconst (v := 1) hx hb dL_law_1204 (by decide) ?_
  refine lv_iadd hx hb dL_law_1205 ?_
  refine sf_topi (y := nI (i + 1)) (nI_add i 1) ?_
  refine sf_sld hx hb hX hbl hbA hS (i + 1) rfl (by omega) hL dL_law_1206 ?_
  refine lv_aload_n hx hb dL_law_1207 rfl (lv_at hl 2 rfl) ?_
  have hPc : va_P (dC, dI) vwCl (([(qo, .inl (cJ, 1, .inr (.inl ov)))] ++ wp_S cI cZ cD cR cB o ra ba sc y) ++ ([(qd, .inl (cD, 1, .inr (.inr (.inr (.inl od)))))] ++ wp_M cI cZ cD a x)) H := sf_P_perm (pm_j _ _ _ _) hP
  have hDc : va_D A (([(qo, .inl (cJ, 1, .inr (.inl ov)))] ++ wp_S cI cZ cD cR cB o ra ba sc y) ++ ([(qd, .inl (cD, 1, .inr (.inr (.inr (.inl od)))))] ++ wp_M cI cZ cD a x)) := sf_D_perm (pm_j _ _ _ _) hD
  refine sf_callVi (vx_runSW (As := [.ref (o 0), .int (xs (i + 1)), .ref qo]) (rest := []) ⟨hx, hb, hml, hown, hg⟩ (c_L_count l hlt sx dC dI cI cZ cD cR cB o ra ba sc y cJ qo ov (xs (i + 1)) _ ) (vx_cwSW 3 hg (gw_W mw_482 mw_483 mw_20 mw_484) rfl rfl rfl (by decide +kernel) ⟨Nat.le_of_ble_eq_true rfl, Nat.le_of_ble_eq_true rfl⟩) (sf_preL hK hZ hPc hDc hE hN hS hA) rfl rfl hl.1 rfl (lv_room (Nat.le_of_ble_eq_true rfl)) dL_law_1208 ⟨by show cells + 1 ≤ 639599; omega, by show slots + 6 ≤ 7177307; omega⟩) hS hPc hDc hA (fun H locs hP hD hS => ?_)
  have hP := sf_P_perm (pm_j _ _ _ _).symm hP
  have hD := sf_D_perm (pm_j _ _ _ _).symm hD
  have hP : va_P (dC, dI) vwCl ([(qo, .inl (cJ, 1, .inr (.inl (yn1 (fc_btw (xs (i + 1)) 0 3) (va_up ov 0 ((fp_count y sc (xs (i + 1))).toInt64)) ov)))), (qd, .inl (cD, 1, .inr (.inr (.inr (.inl od)))))] ++ (wp_S cI cZ cD cR cB o ra ba sc y ++ wp_M cI cZ cD a x)) H := hP
  have hD : va_D A ([(qo, .inl (cJ, 1, .inr (.inl (yn1 (fc_btw (xs (i + 1)) 0 3) (va_up ov 0 ((fp_count y sc (xs (i + 1))).toInt64)) ov)))), (qd, .inl (cD, 1, .inr (.inr (.inr (.inl od)))))] ++ (wp_S cI cZ cD cR cB o ra ba sc y ++ wp_M cI cZ cD a x)) := hD
  refine lv_istore (lv' := [(6, .int (kc1 (fc_btw (xs (i + 1)) 0 3))), (5, .int (nI i)), (4, .ref qd), (3, .ref qo), (2, .ref (a 0)), (1, .ref (o 0)), (0, .ref b)]) hx hb dL_law_1211 hl (by decide) rfl (fun ls hl => ?_)
  refine lv_aload_n hx hb dL_law_1213 rfl (lv_at hl 4 rfl) ?_
  refine lv_aload_n hx hb dL_law_1214 rfl (lv_at hl 6 rfl) ?_
  refine lv_iload hx hb dL_law_1215 (lv_at hl 1 rfl) ?_
  refine lv_iconst (v := 1) hx hb dL_law_1217 (by decide) ?_
  refine lv_iadd hx hb dL_law_1218 ?_
  refine sf_topi (y := nI (i + 1)) (nI_add i 1) ?_
  refine sf_sld hx hb hX hbl hbA hS (i + 1) rfl (by omega) hL dL_law_1219 ?_
  have hPc : va_P (dC, dI) vwCl (wp_M cI cZ cD a x ++ ([(qo, .inl (cJ, 1, .inr (.inl (yn1 (fc_btw (xs (i + 1)) 0 3) (va_up ov 0 ((fp_count y sc (xs (i + 1))).toInt64)) ov)))), (qd, .inl (cD, 1, .inr (.inr (.inr (.inl od)))))] ++ wp_S cI cZ cD cR cB o ra ba sc y)) H := sf_P_perm (pm_m _ _ _ _) hP
  have hDc : va_D A (wp_M cI cZ cD a x ++ ([(qo, .inl (cJ, 1, .inr (.inl (yn1 (fc_btw (xs (i + 1)) 0 3) (va_up ov 0 ((fp_count y sc (xs (i + 1))).toInt64)) ov)))), (qd, .inl (cD, 1, .inr (.inr (.inr (.inl od)))))] ++ wp_S cI cZ cD cR cB o ra ba sc y)) := sf_D_perm (pm_m _ _ _ _) hD
  refine sf_callVi (va_runV (As := [.int (xs (i + 1))]) (rest := []) ⟨hx, hb, hml, hown, hg⟩ (c_X3_count l dC dI cI cZ cD a x (xs (i + 1)) _) (cwV 1 hg (gw_V mw_686 mw_687 mw_688 mw_24 mw_689) rfl rfl rfl (by decide +kernel) ⟨Nat.le_of_ble_eq_true rfl, Nat.le_of_ble_eq_true rfl⟩) (sf_preVV (va_recv hK hPc (ci := 3) (q0 := 0) rfl rfl) (hK.sub [0, 1, 2] rfl) hZ hPc hDc) rfl rfl hl.1 rfl (lv_room (Nat.le_of_ble_eq_true rfl)) dL_law_1220 ⟨by show _ + 0 ≤ 639599; omega, by show _ + 0 ≤ 7177307; omega⟩) hS hPc hDc hA (fun H locs hP hD hS => ?_)
  have hP := sf_P_perm (pm_m _ _ _ _).symm hP
  have hD := sf_D_perm (pm_m _ _ _ _).symm hD
  have hP : va_P (dC, dI) vwCl ([(qo, .inl (cJ, 1, .inr (.inl (yn1 (fc_btw (xs (i + 1)) 0 3) (va_up ov 0 ((fp_count y sc (xs (i + 1))).toInt64)) ov)))), (qd, .inl (cD, 1, .inr (.inr (.inr (.inl od)))))] ++ (wp_S cI cZ cD cR cB o ra ba sc y ++ wp_M cI cZ cD a (ms_count x (xs (i + 1))))) H := hP
  have hD : va_D A ([(qo, .inl (cJ, 1, .inr (.inl (yn1 (fc_btw (xs (i + 1)) 0 3) (va_up ov 0 ((fp_count y sc (xs (i + 1))).toInt64)) ov)))), (qd, .inl (cD, 1, .inr (.inr (.inr (.inl od)))))] ++ (wp_S cI cZ cD cR cB o ra ba sc y ++ wp_M cI cZ cD a (ms_count x (xs (i + 1))))) := hD
  refine lv_istore (lv' := [(7, .int (ma_count x (xs (i + 1)))), (6, .int (kc1 (fc_btw (xs (i + 1)) 0 3))), (5, .int (nI i)), (4, .ref qd), (3, .ref qo), (2, .ref (a 0)), (1, .ref (o 0)), (0, .ref b)]) hx hb dL_law_1223 hl (by decide) rfl (fun ls hl => ?_)
  refine lv_aload_n hx hb dL_law_1225 rfl (lv_at hl 5 rfl) ?_
  have hPc : va_P (dC, dI) vwCl (wp_M cI cZ cD a (ms_count x (xs (i + 1))) ++ ([(qo, .inl (cJ, 1, .inr (.inl (yn1 (fc_btw (xs (i + 1)) 0 3) (va_up ov 0 ((fp_count y sc (xs (i + 1))).toInt64)) ov)))), (qd, .inl (cD, 1, .inr (.inr (.inr (.inl od)))))] ++ wp_S cI cZ cD cR cB o ra ba sc y)) H := sf_P_perm (pm_m _ _ _ _) hP
  have hDc : va_D A (wp_M cI cZ cD a (ms_count x (xs (i + 1))) ++ ([(qo, .inl (cJ, 1, .inr (.inl (yn1 (fc_btw (xs (i + 1)) 0 3) (va_up ov 0 ((fp_count y sc (xs (i + 1))).toInt64)) ov)))), (qd, .inl (cD, 1, .inr (.inr (.inr (.inl od)))))] ++ wp_S cI cZ cD cR cB o ra ba sc y)) := sf_D_perm (pm_m _ _ _ _) hD
  refine sf_callRi (va_runV (As := []) (rest := []) ⟨hx, hb, hml, hown, hg⟩ (c_X3_thrown l dC dI cI cZ cD a (ms_count x (xs (i + 1)))) (cwV 0 hg (gw_V mw_584 mw_585 mw_586 mw_24 mw_587) rfl rfl rfl (by decide +kernel) ⟨Nat.le_of_ble_eq_true rfl, Nat.le_of_ble_eq_true rfl⟩) (sf_preVR (va_recv hK hPc (ci := 3) (q0 := 0) rfl rfl) (hK.sub [0, 1, 2] rfl) hZ (sf_P_left hPc)) rfl rfl hl.1 rfl (lv_room (Nat.le_of_ble_eq_true rfl)) dL_law_1226 ⟨by show _ + 0 ≤ 639599; omega, by show _ + 0 ≤ 7177307; omega⟩) ?_
  refine sf_topi (y := kc1 (fc_btw (xs (i + 1)) 0 3)) q9.1 ?_
  refine lv_iload hx hb dL_law_1229 (lv_at hl 1 rfl) ?_
  refine lv_icmp_eq (tgt := 1236) hx hb dL_law_1231 (by decide) (fun c_1 => ?_) (fun c_1 => ?_)
  · refine lv_iload hx hb dL_law_1236 (lv_at hl 1 rfl) ?_
    refine lv_if_ne (tgt := 1253) hx hb dL_law_1238 (by decide) (fun c_2 => ?_) (fun c_2 => ?_)
    · refine lv_goto (tgt := 1256) hx hb dL_law_1253 (by decide) ?_
      refine W.widen (k := cells + 2) (n := slots + 12) (by omega) (by omega) ?_
      exact kk _ _ _ _ _ _ _ _ q9.2.2 hiv hP hD hS (lv_sub hl [2, 3, 4, 5, 6, 7] rfl)
    · refine lv_aload_n hx hb dL_law_1241 rfl (lv_at hl 4 rfl) ?_
      refine lv_iconst (v := 0) hx hb dL_law_1242 (by decide) ?_
      refine sf_lald hx hb hK hP 0 5 rfl rfl 0 rfl (by decide) (by decide) dL_law_1243 ?_
      refine lv_iload hx hb dL_law_1244 (lv_at hl 0 rfl) ?_
      refine lv_i2l hx hb dL_law_1246 rfl ?_
      refine sf_lcmp hx hb (by rw [kz1 c_2, va_up_self, q9.2.1 c_2]) dL_law_1247 ?_
      refine lv_if_eq (tgt := 1253) hx hb dL_law_1248 (by decide) (fun _ => ?_) (fun h => absurd (by decide) h)
      refine lv_goto (tgt := 1256) hx hb dL_law_1253 (by decide) ?_
      refine W.widen (k := cells + 2) (n := slots + 12) (by omega) (by omega) ?_
      exact kk _ _ _ _ _ _ _ _ q9.2.2 hiv hP hD hS (lv_sub hl [2, 3, 4, 5, 6, 7] rfl)
  · exact absurd rfl c_1
