set_option maxHeartbeats 4000000 in
set_option maxRecDepth 100000 in
theorem g_link {p : Program} {l : Launch} (hlt : l.stackTraces = false) {e : Env} {s : State} {m : MethodId} {below : List Frame} {meth : Method} {c : Code} {b L : Nat} {xs : Nat → Int32} (hL : L ≤ 3584) {sx : Nat → Nat} {dC : Nat → ClassId} {dI : Nat → Nat → Nat} {cI cZ cD cR cB cJ : ClassId} {o : Nat → Nat} {ra : Nat → Nat → Nat} {ba : Nat → Nat} {a : Nat → Nat} {qo qd : Nat} {A : Nat → Prop} {Q : State → Prop} (hx : p.tables.exec = Jvm.exec) (hb : c.code = cL_law) (hml : c.maxLocals = 9) (hown : s.vm.findClass RL = some m.cls) (hg : ∀ w ∈ gw_all, w.before #[Value.ref b] s = true) (hZ : nw_ok s) (hK : va_K (dC, dI) vwCl [(cI, .int), (cZ, .boolean), (cD, .double), (cR, .object RX1), (cB, .object RX0), (cJ, .long)] s) (hE : ev_ok sx A s s.heap) (hN : nc_ok s) (hX : va_X b L xs s s.heap) (hbl : b < s.heap.size) (hbA : ¬ A b) (hA : ∀ q : Nat, s.heap.size ≤ q → A q) (i : Nat) (hi : i + 7 ≤ L) {cells slots : Nat} (hcs : cells + 2 ≤ 639599 ∧ slots + 12 ≤ 7177307) (kk : ∀ (sc : Int32) (y : st_Y) (x : st_M) (ov : Nat → Int64) (od : Nat → UInt64) (H : Heap) (locs : List Loc) (ls : Array Slot), rl sc y x → iv y → va_P (dC, dI) vwCl ([(qo, .inl (cJ, 1, .inr (.inl ov))), (qd, .inl (cD, 1, .inr (.inr (.inr (.inl od)))))] ++ (wp_S cI cZ cD cR cB o ra ba sc y ++ wp_M cI cZ cD a x)) H → va_D A ([(qo, .inl (cJ, 1, .inr (.inl ov))), (qd, .inl (cD, 1, .inr (.inr (.inr (.inl od)))))] ++ (wp_S cI cZ cD cR cB o ra ba sc y ++ wp_M cI cZ cD a x)) → va_S A s.heap H locs → lv_has ls 9 [(5, .int (nI i)), (4, .ref qd), (3, .ref qo), (2, .ref (a 0)), (1, .ref (o 0)), (0, .ref b)] → W p l e room_1 s m #[Value.ref b] below meth c H locs (cells + 2) (slots + 12) Q (F0 m 1256 ls [])) (sc : Int32) (y : st_Y) (x : st_M) (ov : Nat → Int64) (od : Nat → UInt64) (H : Heap) (locs : List Loc) (ls : Array Slot) (R0 : rl sc y x) (hiv : iv y) (hP : va_P (dC, dI) vwCl ([(qo, .inl (cJ, 1, .inr (.inl ov))), (qd, .inl (cD, 1, .inr (.inr (.inr (.inl od)))))] ++ (wp_S cI cZ cD cR cB o ra ba sc y ++ wp_M cI cZ cD a x)) H) (hD : va_D A ([(qo, .inl (cJ, 1, .inr (.inl ov))), (qd, .inl (cD, 1, .inr (.inr (.inr (.inl od)))))] ++ (wp_S cI cZ cD cR cB o ra ba sc y ++ wp_M cI cZ cD a x))) (hS : va_S A s.heap H locs) (hl : lv_has ls 9 [(5, .int (nI i)), (4, .ref qd), (3, .ref qo), (2, .ref (a 0)), (1, .ref (o 0)), (0, .ref b)]) : W p l e room_1 s m #[Value.ref b] below meth c H locs cells slots Q (F0 m 220 ls []) := by
  have q9 := q_link R0 hiv (xs (i + 1)) (xs (i + 2)) (xs (i + 3)) (nz (xs (i + 4)))
  refine lv_aload_n hx hb dL_law_220 rfl (lv_at hl 4 rfl) ?_
  refine lv_aload_n hx hb dL_law_221 rfl (lv_at hl 5 rfl) ?_
  refine lv_iload hx hb dL_law_222 (lv_at hl 0 rfl) ?_
  refine lv_iconst (v := 1) hx hb dL_law_224 (by decide) ?_
  refine lv_iadd hx hb dL_law_225 ?_
  refine sf_topi (y := nI (i + 1)) (nI_add i 1) ?_
  refine sf_sld hx hb hX hbl hbA hS (i + 1) rfl (by omega) hL dL_law_226 ?_
  refine lv_aload_n hx hb dL_law_227 rfl (lv_at hl 5 rfl) ?_
  refine lv_iload hx hb dL_law_228 (lv_at hl 0 rfl) ?_
  refine lv_iconst (v := 2) hx hb dL_law_230 (by decide) ?_
  refine lv_iadd hx hb dL_law_231 ?_
  refine sf_topi (y := nI (i + 2)) (nI_add i 2) ?_
  refine sf_sld hx hb hX hbl hbA hS (i + 2) rfl (by omega) hL dL_law_232 ?_
  refine lv_aload_n hx hb dL_law_233 rfl (lv_at hl 5 rfl) ?_
  refine lv_iload hx hb dL_law_234 (lv_at hl 0 rfl) ?_
  refine lv_iconst (v := 3) hx hb dL_law_236 (by decide) ?_
  refine lv_iadd hx hb dL_law_237 ?_
  refine sf_topi (y := nI (i + 3)) (nI_add i 3) ?_
  refine sf_sld hx hb hX hbl hbA hS (i + 3) rfl (by omega) hL dL_law_238 ?_
  refine lv_aload_n hx hb dL_law_239 rfl (lv_at hl 5 rfl) ?_
  refine lv_iload hx hb dL_law_240 (lv_at hl 0 rfl) ?_
  refine lv_iconst (v := 4) hx hb dL_law_242 (by decide) ?_
  refine lv_iadd hx hb dL_law_243 ?_
  refine sf_topi (y := nI (i + 4)) (nI_add i 4) ?_
  refine sf_sld hx hb hX hbl hbA hS (i + 4) rfl (by omega) hL dL_law_244 ?_
  refine sf_cutb 253 (nz (xs (i + 4))) (fun v => [.int (sf_b v), .int (xs (i + 3)), .int (xs (i + 2)), .int (xs (i + 1)), .ref (o 0)]) ?_ (fun k_1 => ?_)
  · refine lv_aload_n hx hb dL_law_253 rfl (lv_at hl 2 rfl) ?_
    have hPc : va_P (dC, dI) vwCl (([(qo, .inl (cJ, 1, .inr (.inl ov)))] ++ wp_S cI cZ cD cR cB o ra ba sc y) ++ ([(qd, .inl (cD, 1, .inr (.inr (.inr (.inl od)))))] ++ wp_M cI cZ cD a x)) H := sf_P_perm (pm_j _ _ _ _) hP
    have hDc : va_D A (([(qo, .inl (cJ, 1, .inr (.inl ov)))] ++ wp_S cI cZ cD cR cB o ra ba sc y) ++ ([(qd, .inl (cD, 1, .inr (.inr (.inr (.inl od)))))] ++ wp_M cI cZ cD a x)) := sf_D_perm (pm_j _ _ _ _) hD
    refine sf_callVi (vx_runSW (As := [.ref (o 0), .int (xs (i + 1)), .int (xs (i + 2)), .int (xs (i + 3)), .int (sf_b (nz (xs (i + 4)))), .ref qo]) (rest := []) ⟨hx, hb, hml, hown, hg⟩ (c_L_link l hlt sx dC dI cI cZ cD cR cB o ra ba sc y cJ qo ov (xs (i + 1)) (xs (i + 2)) (xs (i + 3)) (nz (xs (i + 4))) _ ) (vx_cwSW 6 hg (gw_W mw_265 mw_266 mw_20 mw_267) rfl rfl rfl (by decide +kernel) ⟨Nat.le_of_ble_eq_true rfl, Nat.le_of_ble_eq_true rfl⟩) (sf_preL hK hZ hPc hDc hE hN hS hA) rfl rfl hl.1 rfl (lv_room (Nat.le_of_ble_eq_true rfl)) dL_law_254 ⟨by show cells + 1 ≤ 639599; omega, by show slots + 6 ≤ 7177307; omega⟩) hS hPc hDc hA (fun H locs hP hD hS => ?_)
    have hP := sf_P_perm (pm_j _ _ _ _).symm hP
    have hD := sf_D_perm (pm_j _ _ _ _).symm hD
    have hP : va_P (dC, dI) vwCl ([(qo, .inl (cJ, 1, .inr (.inl (yn1 (fc_ix (xs (i + 1)) 5 && (fc_ix (xs (i + 2)) 2 && fc_ix (xs (i + 3)) 4)) (va_up ov 0 (bl ((y.2 (xs (i + 1)).toNatClampNeg).2.2.2.1 ((xs (i + 2)).toNatClampNeg * 4 + (xs (i + 3)).toNatClampNeg)))) ov)))), (qd, .inl (cD, 1, .inr (.inr (.inr (.inl od)))))] ++ (wp_S cI cZ cD cR cB o ra ba sc (yn1 (fc_ix (xs (i + 1)) 5 && (fc_ix (xs (i + 2)) 2 && fc_ix (xs (i + 3)) 4)) (fp_link y (xs (i + 1)) (xs (i + 2)) (xs (i + 3)) (nz (xs (i + 4)))) y) ++ wp_M cI cZ cD a x)) H := hP
    have hD : va_D A ([(qo, .inl (cJ, 1, .inr (.inl (yn1 (fc_ix (xs (i + 1)) 5 && (fc_ix (xs (i + 2)) 2 && fc_ix (xs (i + 3)) 4)) (va_up ov 0 (bl ((y.2 (xs (i + 1)).toNatClampNeg).2.2.2.1 ((xs (i + 2)).toNatClampNeg * 4 + (xs (i + 3)).toNatClampNeg)))) ov)))), (qd, .inl (cD, 1, .inr (.inr (.inr (.inl od)))))] ++ (wp_S cI cZ cD cR cB o ra ba sc (yn1 (fc_ix (xs (i + 1)) 5 && (fc_ix (xs (i + 2)) 2 && fc_ix (xs (i + 3)) 4)) (fp_link y (xs (i + 1)) (xs (i + 2)) (xs (i + 3)) (nz (xs (i + 4)))) y) ++ wp_M cI cZ cD a x)) := hD
    refine lv_istore (lv' := [(6, .int (kc1 (fc_ix (xs (i + 1)) 5 && (fc_ix (xs (i + 2)) 2 && fc_ix (xs (i + 3)) 4)))), (5, .int (nI i)), (4, .ref qd), (3, .ref qo), (2, .ref (a 0)), (1, .ref (o 0)), (0, .ref b)]) hx hb dL_law_257 hl (by decide) rfl (fun ls hl => ?_)
    refine lv_aload_n hx hb dL_law_259 rfl (lv_at hl 4 rfl) ?_
    refine lv_aload_n hx hb dL_law_260 rfl (lv_at hl 6 rfl) ?_
    refine lv_iload hx hb dL_law_261 (lv_at hl 1 rfl) ?_
    refine lv_iconst (v := 1) hx hb dL_law_263 (by decide) ?_
    refine lv_iadd hx hb dL_law_264 ?_
    refine sf_topi (y := nI (i + 1)) (nI_add i 1) ?_
    refine sf_sld hx hb hX hbl hbA hS (i + 1) rfl (by omega) hL dL_law_265 ?_
    refine lv_aload_n hx hb dL_law_266 rfl (lv_at hl 6 rfl) ?_
    refine lv_iload hx hb dL_law_267 (lv_at hl 1 rfl) ?_
    refine lv_iconst (v := 2) hx hb dL_law_269 (by decide) ?_
    refine lv_iadd hx hb dL_law_270 ?_
    refine sf_topi (y := nI (i + 2)) (nI_add i 2) ?_
    refine sf_sld hx hb hX hbl hbA hS (i + 2) rfl (by omega) hL dL_law_271 ?_
    refine lv_aload_n hx hb dL_law_272 rfl (lv_at hl 6 rfl) ?_
    refine lv_iload hx hb dL_law_273 (lv_at hl 1 rfl) ?_
    refine lv_iconst (v := 3) hx hb dL_law_275 (by decide) ?_
    refine lv_iadd hx hb dL_law_276 ?_
    refine sf_topi (y := nI (i + 3)) (nI_add i 3) ?_
    refine sf_sld hx hb hX hbl hbA hS (i + 3) rfl (by omega) hL dL_law_277 ?_
    refine lv_aload_n hx hb dL_law_278 rfl (lv_at hl 6 rfl) ?_
    refine lv_iload hx hb dL_law_279 (lv_at hl 1 rfl) ?_
    refine lv_iconst (v := 4) hx hb dL_law_281 (by decide) ?_
    refine lv_iadd hx hb dL_law_282 ?_
    refine sf_topi (y := nI (i + 4)) (nI_add i 4) ?_
    refine sf_sld hx hb hX hbl hbA hS (i + 4) rfl (by omega) hL dL_law_283 ?_
    refine sf_cutb 292 (nz (xs (i + 4))) (fun v => [.int (sf_b v), .int (xs (i + 3)), .int (xs (i + 2)), .int (xs (i + 1)), .ref (a 0)]) ?_ (fun k_2 => ?_)
    · have hPc : va_P (dC, dI) vwCl (wp_M cI cZ cD a x ++ ([(qo, .inl (cJ, 1, .inr (.inl (yn1 (fc_ix (xs (i + 1)) 5 && (fc_ix (xs (i + 2)) 2 && fc_ix (xs (i + 3)) 4)) (va_up ov 0 (bl ((y.2 (xs (i + 1)).toNatClampNeg).2.2.2.1 ((xs (i + 2)).toNatClampNeg * 4 + (xs (i + 3)).toNatClampNeg)))) ov)))), (qd, .inl (cD, 1, .inr (.inr (.inr (.inl od)))))] ++ wp_S cI cZ cD cR cB o ra ba sc (yn1 (fc_ix (xs (i + 1)) 5 && (fc_ix (xs (i + 2)) 2 && fc_ix (xs (i + 3)) 4)) (fp_link y (xs (i + 1)) (xs (i + 2)) (xs (i + 3)) (nz (xs (i + 4)))) y))) H := sf_P_perm (pm_m _ _ _ _) hP
      have hDc : va_D A (wp_M cI cZ cD a x ++ ([(qo, .inl (cJ, 1, .inr (.inl (yn1 (fc_ix (xs (i + 1)) 5 && (fc_ix (xs (i + 2)) 2 && fc_ix (xs (i + 3)) 4)) (va_up ov 0 (bl ((y.2 (xs (i + 1)).toNatClampNeg).2.2.2.1 ((xs (i + 2)).toNatClampNeg * 4 + (xs (i + 3)).toNatClampNeg)))) ov)))), (qd, .inl (cD, 1, .inr (.inr (.inr (.inl od)))))] ++ wp_S cI cZ cD cR cB o ra ba sc (yn1 (fc_ix (xs (i + 1)) 5 && (fc_ix (xs (i + 2)) 2 && fc_ix (xs (i + 3)) 4)) (fp_link y (xs (i + 1)) (xs (i + 2)) (xs (i + 3)) (nz (xs (i + 4)))) y))) := sf_D_perm (pm_m _ _ _ _) hD
      refine sf_callVi (va_runV (As := [.int (xs (i + 1)), .int (xs (i + 2)), .int (xs (i + 3)), .int (sf_b (nz (xs (i + 4))))]) (rest := []) ⟨hx, hb, hml, hown, hg⟩ (c_X3_link l dC dI cI cZ cD a x (xs (i + 1)) (xs (i + 2)) (xs (i + 3)) (nz (xs (i + 4))) _) (cwV 4 hg (gw_V mw_602 mw_603 mw_604 mw_24 mw_605) rfl rfl rfl (by decide +kernel) ⟨Nat.le_of_ble_eq_true rfl, Nat.le_of_ble_eq_true rfl⟩) (sf_preVV (va_recv hK hPc (ci := 3) (q0 := 0) rfl rfl) (hK.sub [0, 1, 2] rfl) hZ hPc hDc) rfl rfl hl.1 rfl (lv_room (Nat.le_of_ble_eq_true rfl)) dL_law_292 ⟨by show _ + 0 ≤ 639599; omega, by show _ + 0 ≤ 7177307; omega⟩) hS hPc hDc hA (fun H locs hP hD hS => ?_)
      have hP := sf_P_perm (pm_m _ _ _ _).symm hP
      have hD := sf_D_perm (pm_m _ _ _ _).symm hD
      have hP : va_P (dC, dI) vwCl ([(qo, .inl (cJ, 1, .inr (.inl (yn1 (fc_ix (xs (i + 1)) 5 && (fc_ix (xs (i + 2)) 2 && fc_ix (xs (i + 3)) 4)) (va_up ov 0 (bl ((y.2 (xs (i + 1)).toNatClampNeg).2.2.2.1 ((xs (i + 2)).toNatClampNeg * 4 + (xs (i + 3)).toNatClampNeg)))) ov)))), (qd, .inl (cD, 1, .inr (.inr (.inr (.inl od)))))] ++ (wp_S cI cZ cD cR cB o ra ba sc (yn1 (fc_ix (xs (i + 1)) 5 && (fc_ix (xs (i + 2)) 2 && fc_ix (xs (i + 3)) 4)) (fp_link y (xs (i + 1)) (xs (i + 2)) (xs (i + 3)) (nz (xs (i + 4)))) y) ++ wp_M cI cZ cD a (ms_link x (xs (i + 1)) (xs (i + 2)) (xs (i + 3)) (nz (xs (i + 4)))))) H := hP
      have hD : va_D A ([(qo, .inl (cJ, 1, .inr (.inl (yn1 (fc_ix (xs (i + 1)) 5 && (fc_ix (xs (i + 2)) 2 && fc_ix (xs (i + 3)) 4)) (va_up ov 0 (bl ((y.2 (xs (i + 1)).toNatClampNeg).2.2.2.1 ((xs (i + 2)).toNatClampNeg * 4 + (xs (i + 3)).toNatClampNeg)))) ov)))), (qd, .inl (cD, 1, .inr (.inr (.inr (.inl od)))))] ++ (wp_S cI cZ cD cR cB o ra ba sc (yn1 (fc_ix (xs (i + 1)) 5 && (fc_ix (xs (i + 2)) 2 && fc_ix (xs (i + 3)) 4)) (fp_link y (xs (i + 1)) (xs (i + 2)) (xs (i + 3)) (nz (xs (i + 4)))) y) ++ wp_M cI cZ cD a (ms_link x (xs (i + 1)) (xs (i + 2)) (xs (i + 3)) (nz (xs (i + 4)))))) := hD
      refine lv_istore (lv' := [(7, .int (sf_b (ma_link x (xs (i + 1)) (xs (i + 2)) (xs (i + 3))))), (6, .int (kc1 (fc_ix (xs (i + 1)) 5 && (fc_ix (xs (i + 2)) 2 && fc_ix (xs (i + 3)) 4)))), (5, .int (nI i)), (4, .ref qd), (3, .ref qo), (2, .ref (a 0)), (1, .ref (o 0)), (0, .ref b)]) hx hb dL_law_295 hl (by decide) rfl (fun ls hl => ?_)
      refine lv_aload_n hx hb dL_law_297 rfl (lv_at hl 5 rfl) ?_
      have hPc : va_P (dC, dI) vwCl (wp_M cI cZ cD a (ms_link x (xs (i + 1)) (xs (i + 2)) (xs (i + 3)) (nz (xs (i + 4)))) ++ ([(qo, .inl (cJ, 1, .inr (.inl (yn1 (fc_ix (xs (i + 1)) 5 && (fc_ix (xs (i + 2)) 2 && fc_ix (xs (i + 3)) 4)) (va_up ov 0 (bl ((y.2 (xs (i + 1)).toNatClampNeg).2.2.2.1 ((xs (i + 2)).toNatClampNeg * 4 + (xs (i + 3)).toNatClampNeg)))) ov)))), (qd, .inl (cD, 1, .inr (.inr (.inr (.inl od)))))] ++ wp_S cI cZ cD cR cB o ra ba sc (yn1 (fc_ix (xs (i + 1)) 5 && (fc_ix (xs (i + 2)) 2 && fc_ix (xs (i + 3)) 4)) (fp_link y (xs (i + 1)) (xs (i + 2)) (xs (i + 3)) (nz (xs (i + 4)))) y))) H := sf_P_perm (pm_m _ _ _ _) hP
      have hDc : va_D A (wp_M cI cZ cD a (ms_link x (xs (i + 1)) (xs (i + 2)) (xs (i + 3)) (nz (xs (i + 4)))) ++ ([(qo, .inl (cJ, 1, .inr (.inl (yn1 (fc_ix (xs (i + 1)) 5 && (fc_ix (xs (i + 2)) 2 && fc_ix (xs (i + 3)) 4)) (va_up ov 0 (bl ((y.2 (xs (i + 1)).toNatClampNeg).2.2.2.1 ((xs (i + 2)).toNatClampNeg * 4 + (xs (i + 3)).toNatClampNeg)))) ov)))), (qd, .inl (cD, 1, .inr (.inr (.inr (.inl od)))))] ++ wp_S cI cZ cD cR cB o ra ba sc (yn1 (fc_ix (xs (i + 1)) 5 && (fc_ix (xs (i + 2)) 2 && fc_ix (xs (i + 3)) 4)) (fp_link y (xs (i + 1)) (xs (i + 2)) (xs (i + 3)) (nz (xs (i + 4)))) y))) := sf_D_perm (pm_m _ _ _ _) hD
      refine sf_callRi (va_runV (As := []) (rest := []) ⟨hx, hb, hml, hown, hg⟩ (c_X3_thrown l dC dI cI cZ cD a (ms_link x (xs (i + 1)) (xs (i + 2)) (xs (i + 3)) (nz (xs (i + 4))))) (cwV 0 hg (gw_V mw_584 mw_585 mw_586 mw_24 mw_587) rfl rfl rfl (by decide +kernel) ⟨Nat.le_of_ble_eq_true rfl, Nat.le_of_ble_eq_true rfl⟩) (sf_preVR (va_recv hK hPc (ci := 3) (q0 := 0) rfl rfl) (hK.sub [0, 1, 2] rfl) hZ (sf_P_left hPc)) rfl rfl hl.1 rfl (lv_room (Nat.le_of_ble_eq_true rfl)) dL_law_298 ⟨by show _ + 0 ≤ 639599; omega, by show _ + 0 ≤ 7177307; omega⟩) ?_
      refine sf_topi (y := kc1 (fc_ix (xs (i + 1)) 5 && (fc_ix (xs (i + 2)) 2 && fc_ix (xs (i + 3)) 4))) q9.1 ?_
      refine lv_iload hx hb dL_law_301 (lv_at hl 1 rfl) ?_
      refine lv_icmp_eq (tgt := 308) hx hb dL_law_303 (by decide) (fun c_3 => ?_) (fun c_3 => ?_)
      · refine lv_iload hx hb dL_law_308 (lv_at hl 1 rfl) ?_
        refine lv_if_ne (tgt := 332) hx hb dL_law_310 (by decide) (fun c_4 => ?_) (fun c_4 => ?_)
        · refine lv_goto (tgt := 1256) hx hb dL_law_332 (by decide) ?_
          refine W.widen (k := cells + 2) (n := slots + 12) (by omega) (by omega) ?_
          exact kk _ _ _ _ _ _ _ _ q9.2.2.1 q9.2.2.2 hP hD hS (lv_sub hl [2, 3, 4, 5, 6, 7] rfl)
        · refine lv_aload_n hx hb dL_law_313 rfl (lv_at hl 4 rfl) ?_
          refine lv_iconst (v := 0) hx hb dL_law_314 (by decide) ?_
          refine sf_lald hx hb hK hP 0 5 rfl rfl 0 rfl (by decide) (by decide) dL_law_315 ?_
          refine lv_iload hx hb dL_law_316 (lv_at hl 0 rfl) ?_
          refine sf_ifeq (tgt := 325) hx hb dL_law_318 (by decide) (fun c_5 => ?_) (fun c_5 => ?_)
          · refine lv_lconst (v := 0) hx hb dL_law_325 (by decide) ?_
            refine sf_lcmp hx hb (by rw [kz1 c_4, va_up_self, ← q9.2.1 c_4, c_5]; rfl) dL_law_326 ?_
            refine lv_if_eq (tgt := 332) hx hb dL_law_327 (by decide) (fun _ => ?_) (fun h => absurd (by decide) h)
            refine lv_goto (tgt := 1256) hx hb dL_law_332 (by decide) ?_
            refine W.widen (k := cells + 2) (n := slots + 12) (by omega) (by omega) ?_
            exact kk _ _ _ _ _ _ _ _ q9.2.2.1 q9.2.2.2 hP hD hS (lv_sub hl [2, 3, 4, 5, 6, 7] rfl)
          · refine lv_lconst (v := 1) hx hb dL_law_321 (by decide) ?_
            refine lv_goto (tgt := 326) hx hb dL_law_322 (by decide) ?_
            refine sf_lcmp hx hb (by rw [kz1 c_4, va_up_self, ← q9.2.1 c_4, c_5]; rfl) dL_law_326 ?_
            refine lv_if_eq (tgt := 332) hx hb dL_law_327 (by decide) (fun _ => ?_) (fun h => absurd (by decide) h)
            refine lv_goto (tgt := 1256) hx hb dL_law_332 (by decide) ?_
            refine W.widen (k := cells + 2) (n := slots + 12) (by omega) (by omega) ?_
            exact kk _ _ _ _ _ _ _ _ q9.2.2.1 q9.2.2.2 hP hD hS (lv_sub hl [2, 3, 4, 5, 6, 7] rfl)
      · exact absurd rfl c_3
    · refine lv_if_eq (tgt := 291) hx hb dL_law_284 (by decide) (fun c_8 => ?_) (fun c_8 => ?_)
      · refine lv_iconst (v := sf_b false) hx hb dL_law_291 (by decide) ?_
        exact k_2 false (by first | rfl | (simp [nz, c_8]; done) | (simp [nz] at *; simp [*]; done))
      · refine lv_iconst (v := sf_b true) hx hb dL_law_287 (by decide) ?_
        refine lv_goto (tgt := 292) hx hb dL_law_288 (by decide) ?_
        exact k_2 true (by first | rfl | (simp [nz, c_8]; done) | (simp [nz] at *; simp [*]; done))
  · refine lv_if_eq (tgt := 252) hx hb dL_law_245 (by decide) (fun c_9 => ?_) (fun c_9 => ?_)
    · refine lv_iconst (v := sf_b false) hx hb dL_law_252 (by decide) ?_
      exact k_1 false (by first | rfl | (simp [nz, c_9]; done) | (simp [nz] at *; simp [*]; done))
    · refine lv_iconst (v := sf_b true) hx hb dL_law_248 (by decide) ?_
      refine lv_goto (tgt := 253) hx hb dL_law_249 (by decide) ?_
      exact k_1 true (by first | rfl | (simp [nz, c_9]; done) | (simp [nz] at *; simp [*]; done))
