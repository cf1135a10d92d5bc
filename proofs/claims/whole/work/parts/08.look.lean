set_option maxHeartbeats 4000000 in
set_option maxRecDepth 100000 in
/-- a column of look -/
theorem lk_col (l : Launch) (dC : Nat → ClassId) (dI : Nat → Nat → Nat) (cI cZ : ClassId) (a : Nat → Nat) (hq : Nat) (bt : Nat → Bool) {p : Program} {e : Env} {s : State} {m : MethodId} {args : Array Value} {below : List Frame} {meth : Method} {c : Code} {Q : State → Prop} (hx : p.tables.exec = Jvm.exec) (hb : c.code = cX1_look) (hml : c.maxLocals = 5) (hown : s.vm.findClass RX1 = some m.cls) (hg : ∀ w ∈ gw_all, w.before args s = true) (hZ : nw_ok s) (hK : va_K (dC, dI) vwCl [(cI, .int), (cZ, .boolean)] s) {A : Nat → Prop} (hA : ∀ q : Nat, s.heap.size ≤ q → A q) (n : Nat) (hn : n < 4) (r : st_R) (hcb : ∀ j, j < 12 → fc_ix (r.2.1 j) 24 = true) {H : Heap} {locs : List Loc} {ls : Array Slot} (hP : va_P (dC, dI) vwCl (wp_R cI cZ a r ++ [wp_Z hq cZ 24 bt]) H) (hD : va_D A (wp_R cI cZ a r ++ [wp_Z hq cZ 24 bt])) (hS : va_S A s.heap H locs) (hl : lv_has ls 5 [(0, .ref (a 0)), (1, .ref hq), (2, .int (nI n))])
    (kk : ∀ (H : Heap) (locs : List Loc) (ls : Array Slot), va_P (dC, dI) vwCl (wp_R cI cZ a (fr_col r bt n) ++ [wp_Z hq cZ 24 bt]) H → va_D A (wp_R cI cZ a (fr_col r bt n) ++ [wp_Z hq cZ 24 bt]) → va_S A s.heap H locs → lv_has ls 5 [(0, .ref (a 0)), (1, .ref hq), (2, .int (nI (n + 1)))] → W p l e (headSpec wX1_look ({ frames := 1, cells := 0, slots := 0, locals := 25 })).room s m args below meth c H locs 0 0 Q (F0 m 24 ls [])) : W p l e (headSpec wX1_look ({ frames := 1, cells := 0, slots := 0, locals := 25 })).room s m args below meth c H locs 0 0 Q (F0 m 29 ls []) := by
  have hP : va_P (dC, dI) vwCl [(a 0, .inr (1, [.ref (a 1), .ref (a 2), .ref (a 3), .ref (a 4), .ref (a 5), .ref (a 6), .ref (a 7)])), (a 1, .inl (cI, 12, .inl r.1)), (a 2, .inl (cI, 12, .inl r.2.1)), (a 3, .inl (cZ, 12, .inl (fun i9 => sf_b (r.2.2.1 i9)))), (a 4, .inl (cZ, 8, .inl (fun i9 => sf_b (r.2.2.2.1 i9)))), (a 5, .inl (cZ, 15, .inl (fun i9 => sf_b (r.2.2.2.2.1 i9)))), (a 6, .inl (cI, 3, .inl r.2.2.2.2.2.1)), (a 7, .inl (cI, 3, .inl r.2.2.2.2.2.2)), (hq, .inl (cZ, 24, .inl (fun i9 => sf_b (bt i9))))] H := hP
  have hD : va_D A [(a 0, .inr (1, [.ref (a 1), .ref (a 2), .ref (a 3), .ref (a 4), .ref (a 5), .ref (a 6), .ref (a 7)])), (a 1, .inl (cI, 12, .inl r.1)), (a 2, .inl (cI, 12, .inl r.2.1)), (a 3, .inl (cZ, 12, .inl (fun i9 => sf_b (r.2.2.1 i9)))), (a 4, .inl (cZ, 8, .inl (fun i9 => sf_b (r.2.2.2.1 i9)))), (a 5, .inl (cZ, 15, .inl (fun i9 => sf_b (r.2.2.2.2.1 i9)))), (a 6, .inl (cI, 3, .inl r.2.2.2.2.2.1)), (a 7, .inl (cI, 3, .inl r.2.2.2.2.2.2)), (hq, .inl (cZ, 24, .inl (fun i9 => sf_b (bt i9))))] := hD
  refine lv_iconst (v := 0) hx hb dX1_look_29 (by decide) ?_
  refine lv_istore_n (lv' := [(3, .int 0), (0, .ref (a 0)), (1, .ref hq), (2, .int (nI n))]) hx hb dX1_look_30 rfl hl (by decide) rfl (fun ls hl => ?_)
  refine lv_iload_n hx hb dX1_look_31 rfl (lv_at hl 0 rfl) ?_
  refine lv_iconst (v := 3) hx hb dX1_look_32 (by decide) ?_
  refine lv_icmp_ge (tgt := 87) hx hb dX1_look_33 (by decide) (fun h => absurd h (by decide)) (fun _ => ?_)
  refine lv_aload_n hx hb dX1_look_36 rfl (lv_at hl 1 rfl) ?_
  refine lv_iload_n hx hb dX1_look_37 rfl (lv_at hl 0 rfl) ?_
  refine lv_iconst (v := 4) hx hb dX1_look_38 (by decide) ?_
  refine lv_imul hx hb dX1_look_39 ?_
  refine sf_topi (y := nI (0 * 4)) (pk_mul 0 4) ?_
  refine lv_iload_n hx hb dX1_look_40 rfl (lv_at hl 3 rfl) ?_
  refine lv_iadd hx hb dX1_look_41 ?_
  refine sf_topi (y := nI (0 * 4 + n)) (nI_add (0 * 4) n) ?_
  refine lv_aload_n hx hb dX1_look_42 rfl (lv_at hl 2 rfl) ?_
  have hPc : va_P (dC, dI) vwCl ((wp_R cI cZ a r ++ [wp_Z hq cZ 24 bt]) ++ []) H := hP.sub [0, 1, 2, 3, 4, 5, 6, 7, 8] rfl
  have hDc : va_D A ((wp_R cI cZ a r ++ [wp_Z hq cZ 24 bt]) ++ []) := hD.sub [0, 1, 2, 3, 4, 5, 6, 7, 8] (by decide) rfl
  refine sf_callVi (va_runV (As := [.int (nI (0 * 4 + n)), .ref hq]) (rest := []) ⟨hx, hb, hml, hown, hg⟩ (c_X1_lookAtCell l dC dI cI cZ a r hq bt (0 * 4 + n) _ (by omega) hcb) (cwV 2 hg (gw_V mw_381 mw_383 mw_3 mw_22 mw_384) rfl rfl rfl (by decide +kernel) ⟨Nat.le_of_ble_eq_true rfl, Nat.le_of_ble_eq_true rfl⟩) (sf_preVV (va_recv hK hP (ci := 1) (q0 := 0) rfl rfl) hK hZ hPc hDc) rfl rfl hl.1 rfl (lv_room (Nat.le_of_ble_eq_true rfl)) dX1_look_43 ⟨Nat.zero_le _, Nat.zero_le _⟩) hS hPc hDc hA (fun H locs hP hD hS => ?_)
  have hP : va_P (dC, dI) vwCl [(a 0, .inr (1, [.ref (a 1), .ref (a 2), .ref (a 3), .ref (a 4), .ref (a 5), .ref (a 6), .ref (a 7)])), (a 1, .inl (cI, 12, .inl ((fr_seen r bt (0 * 4 + n)).1))), (a 2, .inl (cI, 12, .inl ((fr_seen r bt (0 * 4 + n)).2.1))), (a 3, .inl (cZ, 12, .inl (fun i9 => sf_b (((fr_seen r bt (0 * 4 + n)).2.2.1) i9)))), (a 4, .inl (cZ, 8, .inl (fun i9 => sf_b (((fr_seen r bt (0 * 4 + n)).2.2.2.1) i9)))), (a 5, .inl (cZ, 15, .inl (fun i9 => sf_b (((fr_seen r bt (0 * 4 + n)).2.2.2.2.1) i9)))), (a 6, .inl (cI, 3, .inl ((fr_seen r bt (0 * 4 + n)).2.2.2.2.2.1))), (a 7, .inl (cI, 3, .inl ((fr_seen r bt (0 * 4 + n)).2.2.2.2.2.2))), (hq, .inl (cZ, 24, .inl (fun i9 => sf_b (bt i9))))] H := hP
  have hD : va_D A [(a 0, .inr (1, [.ref (a 1), .ref (a 2), .ref (a 3), .ref (a 4), .ref (a 5), .ref (a 6), .ref (a 7)])), (a 1, .inl (cI, 12, .inl ((fr_seen r bt (0 * 4 + n)).1))), (a 2, .inl (cI, 12, .inl ((fr_seen r bt (0 * 4 + n)).2.1))), (a 3, .inl (cZ, 12, .inl (fun i9 => sf_b (((fr_seen r bt (0 * 4 + n)).2.2.1) i9)))), (a 4, .inl (cZ, 8, .inl (fun i9 => sf_b (((fr_seen r bt (0 * 4 + n)).2.2.2.1) i9)))), (a 5, .inl (cZ, 15, .inl (fun i9 => sf_b (((fr_seen r bt (0 * 4 + n)).2.2.2.2.1) i9)))), (a 6, .inl (cI, 3, .inl ((fr_seen r bt (0 * 4 + n)).2.2.2.2.2.1))), (a 7, .inl (cI, 3, .inl ((fr_seen r bt (0 * 4 + n)).2.2.2.2.2.2))), (hq, .inl (cZ, 24, .inl (fun i9 => sf_b (bt i9))))] := hD
  refine lv_istore (lv' := [(4, .int (sf_b (fr_cond r bt (0 * 4 + n)))), (3, .int 0), (0, .ref (a 0)), (1, .ref hq), (2, .int (nI n))]) hx hb dX1_look_46 hl (by decide) rfl (fun ls hl => ?_)
  refine lv_aload_n hx hb dX1_look_48 rfl (lv_at hl 2 rfl) ?_
  refine va_get (D := (dC, dI)) (ci := 1) (v := .ref (a 5)) (C := RX1) (T := TX1) (N := 7) hx hb hg in_X1 hown hK hP 0 rfl rfl 4 (by decide) (hg _ mw_51) (fun _ h9 => h9) rfl dX1_look_49 ?_
  refine lv_iload_n hx hb dX1_look_52 rfl (lv_at hl 1 rfl) ?_
  refine lv_iconst (v := 5) hx hb dX1_look_53 (by decide) ?_
  refine lv_imul hx hb dX1_look_54 ?_
  refine sf_topi (y := nI (0 * 5)) (pk_mul 0 5) ?_
  refine lv_iload_n hx hb dX1_look_55 rfl (lv_at hl 4 rfl) ?_
  refine lv_iadd hx hb dX1_look_56 ?_
  refine sf_topi (y := nI (0 * 5 + n)) (nI_add (0 * 5) n) ?_
  refine lv_iconst (v := 1) hx hb dX1_look_57 (by decide) ?_
  refine lv_iadd hx hb dX1_look_58 ?_
  refine sf_topi (y := nI (0 * 5 + n + 1)) (nI_add (0 * 5 + n) 1) ?_
  refine lv_iload hx hb dX1_look_59 (lv_at hl 0 rfl) ?_
  refine sf_cutb 80 (fr_cond r bt (0 * 4 + n) && r.2.2.2.2.1 (0 * 5 + n)) (fun v => [.int (sf_b v), .int (nI (0 * 5 + n + 1)), .ref (a 5)]) ?_ (fun k_2 => ?_)
  · refine sf_zast hx hb hK hP hD hS 5 1 rfl rfl (0 * 5 + n + 1) rfl (by omega) (by decide) dX1_look_80 (fun H locs hP hD hS => ?_)
    have hP : va_P (dC, dI) vwCl [(a 0, .inr (1, [.ref (a 1), .ref (a 2), .ref (a 3), .ref (a 4), .ref (a 5), .ref (a 6), .ref (a 7)])), (a 1, .inl (cI, 12, .inl ((fr_seen r bt (0 * 4 + n)).1))), (a 2, .inl (cI, 12, .inl ((fr_seen r bt (0 * 4 + n)).2.1))), (a 3, .inl (cZ, 12, .inl (fun i9 => sf_b (((fr_seen r bt (0 * 4 + n)).2.2.1) i9)))), (a 4, .inl (cZ, 8, .inl (fun i9 => sf_b (((fr_seen r bt (0 * 4 + n)).2.2.2.1) i9)))), (a 5, .inl (cZ, 15, .inl (fun i9 => sf_b ((va_up ((fr_seen r bt (0 * 4 + n)).2.2.2.2.1) (0 * 5 + n + 1) (fr_cond r bt (0 * 4 + n) && r.2.2.2.2.1 (0 * 5 + n))) i9)))), (a 6, .inl (cI, 3, .inl ((fr_seen r bt (0 * 4 + n)).2.2.2.2.2.1))), (a 7, .inl (cI, 3, .inl ((fr_seen r bt (0 * 4 + n)).2.2.2.2.2.2))), (hq, .inl (cZ, 24, .inl (fun i9 => sf_b (bt i9))))] H := hP
    have hD : va_D A [(a 0, .inr (1, [.ref (a 1), .ref (a 2), .ref (a 3), .ref (a 4), .ref (a 5), .ref (a 6), .ref (a 7)])), (a 1, .inl (cI, 12, .inl ((fr_seen r bt (0 * 4 + n)).1))), (a 2, .inl (cI, 12, .inl ((fr_seen r bt (0 * 4 + n)).2.1))), (a 3, .inl (cZ, 12, .inl (fun i9 => sf_b (((fr_seen r bt (0 * 4 + n)).2.2.1) i9)))), (a 4, .inl (cZ, 8, .inl (fun i9 => sf_b (((fr_seen r bt (0 * 4 + n)).2.2.2.1) i9)))), (a 5, .inl (cZ, 15, .inl (fun i9 => sf_b ((va_up ((fr_seen r bt (0 * 4 + n)).2.2.2.2.1) (0 * 5 + n + 1) (fr_cond r bt (0 * 4 + n) && r.2.2.2.2.1 (0 * 5 + n))) i9)))), (a 6, .inl (cI, 3, .inl ((fr_seen r bt (0 * 4 + n)).2.2.2.2.2.1))), (a 7, .inl (cI, 3, .inl ((fr_seen r bt (0 * 4 + n)).2.2.2.2.2.2))), (hq, .inl (cZ, 24, .inl (fun i9 => sf_b (bt i9))))] := hD
    have hP : va_P (dC, dI) vwCl [(a 0, .inr (1, [.ref (a 1), .ref (a 2), .ref (a 3), .ref (a 4), .ref (a 5), .ref (a 6), .ref (a 7)])), (a 1, .inl (cI, 12, .inl ((fr_step r bt n 0).1))), (a 2, .inl (cI, 12, .inl ((fr_step r bt n 0).2.1))), (a 3, .inl (cZ, 12, .inl (fun i9 => sf_b (((fr_step r bt n 0).2.2.1) i9)))), (a 4, .inl (cZ, 8, .inl (fun i9 => sf_b (((fr_step r bt n 0).2.2.2.1) i9)))), (a 5, .inl (cZ, 15, .inl (fun i9 => sf_b (((fr_step r bt n 0).2.2.2.2.1) i9)))), (a 6, .inl (cI, 3, .inl ((fr_step r bt n 0).2.2.2.2.2.1))), (a 7, .inl (cI, 3, .inl ((fr_step r bt n 0).2.2.2.2.2.2))), (hq, .inl (cZ, 24, .inl (fun i9 => sf_b (bt i9))))] H := hP
    have hD : va_D A [(a 0, .inr (1, [.ref (a 1), .ref (a 2), .ref (a 3), .ref (a 4), .ref (a 5), .ref (a 6), .ref (a 7)])), (a 1, .inl (cI, 12, .inl ((fr_step r bt n 0).1))), (a 2, .inl (cI, 12, .inl ((fr_step r bt n 0).2.1))), (a 3, .inl (cZ, 12, .inl (fun i9 => sf_b (((fr_step r bt n 0).2.2.1) i9)))), (a 4, .inl (cZ, 8, .inl (fun i9 => sf_b (((fr_step r bt n 0).2.2.2.1) i9)))), (a 5, .inl (cZ, 15, .inl (fun i9 => sf_b (((fr_step r bt n 0).2.2.2.2.1) i9)))), (a 6, .inl (cI, 3, .inl ((fr_step r bt n 0).2.2.2.2.2.1))), (a 7, .inl (cI, 3, .inl ((fr_step r bt n 0).2.2.2.2.2.2))), (hq, .inl (cZ, 24, .inl (fun i9 => sf_b (bt i9))))] := hD
    refine lv_iinc (v := 1) (lv' := [(3, .int 1), (4, .int (sf_b (fr_cond r bt (0 * 4 + n)))), (0, .ref (a 0)), (1, .ref hq), (2, .int (nI n))]) hx hb dX1_look_81 hl (k := 1) rfl (by decide) (by decide) rfl (fun ls hl => ?_)
    refine lv_goto (tgt := 31) hx hb dX1_look_84 (by decide) ?_
    refine lv_iload_n hx hb dX1_look_31 rfl (lv_at hl 0 rfl) ?_
    refine lv_iconst (v := 3) hx hb dX1_look_32 (by decide) ?_
    refine lv_icmp_ge (tgt := 87) hx hb dX1_look_33 (by decide) (fun h => absurd h (by decide)) (fun _ => ?_)
    refine lv_aload_n hx hb dX1_look_36 rfl (lv_at hl 2 rfl) ?_
    refine lv_iload_n hx hb dX1_look_37 rfl (lv_at hl 0 rfl) ?_
    refine lv_iconst (v := 4) hx hb dX1_look_38 (by decide) ?_
    refine lv_imul hx hb dX1_look_39 ?_
    refine sf_topi (y := nI (1 * 4)) (pk_mul 1 4) ?_
    refine lv_iload_n hx hb dX1_look_40 rfl (lv_at hl 4 rfl) ?_
    refine lv_iadd hx hb dX1_look_41 ?_
    refine sf_topi (y := nI (1 * 4 + n)) (nI_add (1 * 4) n) ?_
    refine lv_aload_n hx hb dX1_look_42 rfl (lv_at hl 3 rfl) ?_
    have hPc : va_P (dC, dI) vwCl ((wp_R cI cZ a (fr_step r bt n 0) ++ [wp_Z hq cZ 24 bt]) ++ []) H := hP.sub [0, 1, 2, 3, 4, 5, 6, 7, 8] rfl
    have hDc : va_D A ((wp_R cI cZ a (fr_step r bt n 0) ++ [wp_Z hq cZ 24 bt]) ++ []) := hD.sub [0, 1, 2, 3, 4, 5, 6, 7, 8] (by decide) rfl
    refine sf_callVi (va_runV (As := [.int (nI (1 * 4 + n)), .ref hq]) (rest := []) ⟨hx, hb, hml, hown, hg⟩ (c_X1_lookAtCell l dC dI cI cZ a (fr_step r bt n 0) hq bt (1 * 4 + n) _ (by omega) hcb) (cwV 2 hg (gw_V mw_381 mw_383 mw_3 mw_22 mw_384) rfl rfl rfl (by decide +kernel) ⟨Nat.le_of_ble_eq_true rfl, Nat.le_of_ble_eq_true rfl⟩) (sf_preVV (va_recv hK hP (ci := 1) (q0 := 0) rfl rfl) hK hZ hPc hDc) rfl rfl hl.1 rfl (lv_room (Nat.le_of_ble_eq_true rfl)) dX1_look_43 ⟨Nat.zero_le _, Nat.zero_le _⟩) hS hPc hDc hA (fun H locs hP hD hS => ?_)
    have hP : va_P (dC, dI) vwCl [(a 0, .inr (1, [.ref (a 1), .ref (a 2), .ref (a 3), .ref (a 4), .ref (a 5), .ref (a 6), .ref (a 7)])), (a 1, .inl (cI, 12, .inl ((fr_seen (fr_step r bt n 0) bt (1 * 4 + n)).1))), (a 2, .inl (cI, 12, .inl ((fr_seen (fr_step r bt n 0) bt (1 * 4 + n)).2.1))), (a 3, .inl (cZ, 12, .inl (fun i9 => sf_b (((fr_seen (fr_step r bt n 0) bt (1 * 4 + n)).2.2.1) i9)))), (a 4, .inl (cZ, 8, .inl (fun i9 => sf_b (((fr_seen (fr_step r bt n 0) bt (1 * 4 + n)).2.2.2.1) i9)))), (a 5, .inl (cZ, 15, .inl (fun i9 => sf_b (((fr_seen (fr_step r bt n 0) bt (1 * 4 + n)).2.2.2.2.1) i9)))), (a 6, .inl (cI, 3, .inl ((fr_seen (fr_step r bt n 0) bt (1 * 4 + n)).2.2.2.2.2.1))), (a 7, .inl (cI, 3, .inl ((fr_seen (fr_step r bt n 0) bt (1 * 4 + n)).2.2.2.2.2.2))), (hq, .inl (cZ, 24, .inl (fun i9 => sf_b (bt i9))))] H := hP
    have hD : va_D A [(a 0, .inr (1, [.ref (a 1), .ref (a 2), .ref (a 3), .ref (a 4), .ref (a 5), .ref (a 6), .ref (a 7)])), (a 1, .inl (cI, 12, .inl ((fr_seen (fr_step r bt n 0) bt (1 * 4 + n)).1))), (a 2, .inl (cI, 12, .inl ((fr_seen (fr_step r bt n 0) bt (1 * 4 + n)).2.1))), (a 3, .inl (cZ, 12, .inl (fun i9 => sf_b (((fr_seen (fr_step r bt n 0) bt (1 * 4 + n)).2.2.1) i9)))), (a 4, .inl (cZ, 8, .inl (fun i9 => sf_b (((fr_seen (fr_step r bt n 0) bt (1 * 4 + n)).2.2.2.1) i9)))), (a 5, .inl (cZ, 15, .inl (fun i9 => sf_b (((fr_seen (fr_step r bt n 0) bt (1 * 4 + n)).2.2.2.2.1) i9)))), (a 6, .inl (cI, 3, .inl ((fr_seen (fr_step r bt n 0) bt (1 * 4 + n)).2.2.2.2.2.1))), (a 7, .inl (cI, 3, .inl ((fr_seen (fr_step r bt n 0) bt (1 * 4 + n)).2.2.2.2.2.2))), (hq, .inl (cZ, 24, .inl (fun i9 => sf_b (bt i9))))] := hD
    refine lv_istore (lv' := [(4, .int (sf_b (fr_cond (fr_step r bt n 0) bt (1 * 4 + n)))), (3, .int 1), (0, .ref (a 0)), (1, .ref hq), (2, .int (nI n))]) hx hb dX1_look_46 hl (by decide) rfl (fun ls hl => ?_)
    refine lv_aload_n hx hb dX1_look_48 rfl (lv_at hl 2 rfl) ?_
    refine va_get (D := (dC, dI)) (ci := 1) (v := .ref (a 5)) (C := RX1) (T := TX1) (N := 7) hx hb hg in_X1 hown hK hP 0 rfl rfl 4 (by decide) (hg _ mw_51) (fun _ h9 => h9) rfl dX1_look_49 ?_
    refine lv_iload_n hx hb dX1_look_52 rfl (lv_at hl 1 rfl) ?_
    refine lv_iconst (v := 5) hx hb dX1_look_53 (by decide) ?_
    refine lv_imul hx hb dX1_look_54 ?_
    refine sf_topi (y := nI (1 * 5)) (pk_mul 1 5) ?_
    refine lv_iload_n hx hb dX1_look_55 rfl (lv_at hl 4 rfl) ?_
    refine lv_iadd hx hb dX1_look_56 ?_
    refine sf_topi (y := nI (1 * 5 + n)) (nI_add (1 * 5) n) ?_
    refine lv_iconst (v := 1) hx hb dX1_look_57 (by decide) ?_
    refine lv_iadd hx hb dX1_look_58 ?_
    refine sf_topi (y := nI (1 * 5 + n + 1)) (nI_add (1 * 5 + n) 1) ?_
    refine lv_iload hx hb dX1_look_59 (lv_at hl 0 rfl) ?_
    refine sf_cutb 80 (fr_cond (fr_step r bt n 0) bt (1 * 4 + n) && (fr_step r bt n 0).2.2.2.2.1 (1 * 5 + n)) (fun v => [.int (sf_b v), .int (nI (1 * 5 + n + 1)), .ref (a 5)]) ?_ (fun k_4 => ?_)
    · refine sf_zast hx hb hK hP hD hS 5 1 rfl rfl (1 * 5 + n + 1) rfl (by omega) (by decide) dX1_look_80 (fun H locs hP hD hS => ?_)
      have hP : va_P (dC, dI) vwCl [(a 0, .inr (1, [.ref (a 1), .ref (a 2), .ref (a 3), .ref (a 4), .ref (a 5), .ref (a 6), .ref (a 7)])), (a 1, .inl (cI, 12, .inl ((fr_seen (fr_step r bt n 0) bt (1 * 4 + n)).1))), (a 2, .inl (cI, 12, .inl ((fr_seen (fr_step r bt n 0) bt (1 * 4 + n)).2.1))), (a 3, .inl (cZ, 12, .inl (fun i9 => sf_b (((fr_seen (fr_step r bt n 0) bt (1 * 4 + n)).2.2.1) i9)))), (a 4, .inl (cZ, 8, .inl (fun i9 => sf_b (((fr_seen (fr_step r bt n 0) bt (1 * 4 + n)).2.2.2.1) i9)))), (a 5, .inl (cZ, 15, .inl (fun i9 => sf_b ((va_up ((fr_seen (fr_step r bt n 0) bt (1 * 4 + n)).2.2.2.2.1) (1 * 5 + n + 1) (fr_cond (fr_step r bt n 0) bt (1 * 4 + n) && (fr_step r bt n 0).2.2.2.2.1 (1 * 5 + n))) i9)))), (a 6, .inl (cI, 3, .inl ((fr_seen (fr_step r bt n 0) bt (1 * 4 + n)).2.2.2.2.2.1))), (a 7, .inl (cI, 3, .inl ((fr_seen (fr_step r bt n 0) bt (1 * 4 + n)).2.2.2.2.2.2))), (hq, .inl (cZ, 24, .inl (fun i9 => sf_b (bt i9))))] H := hP
      have hD : va_D A [(a 0, .inr (1, [.ref (a 1), .ref (a 2), .ref (a 3), .ref (a 4), .ref (a 5), .ref (a 6), .ref (a 7)])), (a 1, .inl (cI, 12, .inl ((fr_seen (fr_step r bt n 0) bt (1 * 4 + n)).1))), (a 2, .inl (cI, 12, .inl ((fr_seen (fr_step r bt n 0) bt (1 * 4 + n)).2.1))), (a 3, .inl (cZ, 12, .inl (fun i9 => sf_b (((fr_seen (fr_step r bt n 0) bt (1 * 4 + n)).2.2.1) i9)))), (a 4, .inl (cZ, 8, .inl (fun i9 => sf_b (((fr_seen (fr_step r bt n 0) bt (1 * 4 + n)).2.2.2.1) i9)))), (a 5, .inl (cZ, 15, .inl (fun i9 => sf_b ((va_up ((fr_seen (fr_step r bt n 0) bt (1 * 4 + n)).2.2.2.2.1) (1 * 5 + n + 1) (fr_cond (fr_step r bt n 0) bt (1 * 4 + n) && (fr_step r bt n 0).2.2.2.2.1 (1 * 5 + n))) i9)))), (a 6, .inl (cI, 3, .inl ((fr_seen (fr_step r bt n 0) bt (1 * 4 + n)).2.2.2.2.2.1))), (a 7, .inl (cI, 3, .inl ((fr_seen (fr_step r bt n 0) bt (1 * 4 + n)).2.2.2.2.2.2))), (hq, .inl (cZ, 24, .inl (fun i9 => sf_b (bt i9))))] := hD
      have hP : va_P (dC, dI) vwCl [(a 0, .inr (1, [.ref (a 1), .ref (a 2), .ref (a 3), .ref (a 4), .ref (a 5), .ref (a 6), .ref (a 7)])), (a 1, .inl (cI, 12, .inl ((fr_step (fr_step r bt n 0) bt n 1).1))), (a 2, .inl (cI, 12, .inl ((fr_step (fr_step r bt n 0) bt n 1).2.1))), (a 3, .inl (cZ, 12, .inl (fun i9 => sf_b (((fr_step (fr_step r bt n 0) bt n 1).2.2.1) i9)))), (a 4, .inl (cZ, 8, .inl (fun i9 => sf_b (((fr_step (fr_step r bt n 0) bt n 1).2.2.2.1) i9)))), (a 5, .inl (cZ, 15, .inl (fun i9 => sf_b (((fr_step (fr_step r bt n 0) bt n 1).2.2.2.2.1) i9)))), (a 6, .inl (cI, 3, .inl ((fr_step (fr_step r bt n 0) bt n 1).2.2.2.2.2.1))), (a 7, .inl (cI, 3, .inl ((fr_step (fr_step r bt n 0) bt n 1).2.2.2.2.2.2))), (hq, .inl (cZ, 24, .inl (fun i9 => sf_b (bt i9))))] H := hP
      have hD : va_D A [(a 0, .inr (1, [.ref (a 1), .ref (a 2), .ref (a 3), .ref (a 4), .ref (a 5), .ref (a 6), .ref (a 7)])), (a 1, .inl (cI, 12, .inl ((fr_step (fr_step r bt n 0) bt n 1).1))), (a 2, .inl (cI, 12, .inl ((fr_step (fr_step r bt n 0) bt n 1).2.1))), (a 3, .inl (cZ, 12, .inl (fun i9 => sf_b (((fr_step (fr_step r bt n 0) bt n 1).2.2.1) i9)))), (a 4, .inl (cZ, 8, .inl (fun i9 => sf_b (((fr_step (fr_step r bt n 0) bt n 1).2.2.2.1) i9)))), (a 5, .inl (cZ, 15, .inl (fun i9 => sf_b (((fr_step (fr_step r bt n 0) bt n 1).2.2.2.2.1) i9)))), (a 6, .inl (cI, 3, .inl ((fr_step (fr_step r bt n 0) bt n 1).2.2.2.2.2.1))), (a 7, .inl (cI, 3, .inl ((fr_step (fr_step r bt n 0) bt n 1).2.2.2.2.2.2))), (hq, .inl (cZ, 24, .inl (fun i9 => sf_b (bt i9))))] := hD
      refine lv_iinc (v := 2) (lv' := [(3, .int 2), (4, .int (sf_b (fr_cond (fr_step r bt n 0) bt (1 * 4 + n)))), (0, .ref (a 0)), (1, .ref hq), (2, .int (nI n))]) hx hb dX1_look_81 hl (k := 1) rfl (by decide) (by decide) rfl (fun ls hl => ?_)
      refine lv_goto (tgt := 31) hx hb dX1_look_84 (by decide) ?_
      refine lv_iload_n hx hb dX1_look_31 rfl (lv_at hl 0 rfl) ?_
      refine lv_iconst (v := 3) hx hb dX1_look_32 (by decide) ?_
      refine lv_icmp_ge (tgt := 87) hx hb dX1_look_33 (by decide) (fun h => absurd h (by decide)) (fun _ => ?_)
      refine lv_aload_n hx hb dX1_look_36 rfl (lv_at hl 2 rfl) ?_
      refine lv_iload_n hx hb dX1_look_37 rfl (lv_at hl 0 rfl) ?_
      refine lv_iconst (v := 4) hx hb dX1_look_38 (by decide) ?_
      refine lv_imul hx hb dX1_look_39 ?_
      refine sf_topi (y := nI (2 * 4)) (pk_mul 2 4) ?_
      refine lv_iload_n hx hb dX1_look_40 rfl (lv_at hl 4 rfl) ?_
      refine lv_iadd hx hb dX1_look_41 ?_
      refine sf_topi (y := nI (2 * 4 + n)) (nI_add (2 * 4) n) ?_
      refine lv_aload_n hx hb dX1_look_42 rfl (lv_at hl 3 rfl) ?_
      have hPc : va_P (dC, dI) vwCl ((wp_R cI cZ a (fr_step (fr_step r bt n 0) bt n 1) ++ [wp_Z hq cZ 24 bt]) ++ []) H := hP.sub [0, 1, 2, 3, 4, 5, 6, 7, 8] rfl
      have hDc : va_D A ((wp_R cI cZ a (fr_step (fr_step r bt n 0) bt n 1) ++ [wp_Z hq cZ 24 bt]) ++ []) := hD.sub [0, 1, 2, 3, 4, 5, 6, 7, 8] (by decide) rfl
      refine sf_callVi (va_runV (As := [.int (nI (2 * 4 + n)), .ref hq]) (rest := []) ⟨hx, hb, hml, hown, hg⟩ (c_X1_lookAtCell l dC dI cI cZ a (fr_step (fr_step r bt n 0) bt n 1) hq bt (2 * 4 + n) _ (by omega) hcb) (cwV 2 hg (gw_V mw_381 mw_383 mw_3 mw_22 mw_384) rfl rfl rfl (by decide +kernel) ⟨Nat.le_of_ble_eq_true rfl, Nat.le_of_ble_eq_true rfl⟩) (sf_preVV (va_recv hK hP (ci := 1) (q0 := 0) rfl rfl) hK hZ hPc hDc) rfl rfl hl.1 rfl (lv_room (Nat.le_of_ble_eq_true rfl)) dX1_look_43 ⟨Nat.zero_le _, Nat.zero_le _⟩) hS hPc hDc hA (fun H locs hP hD hS => ?_)
      have hP : va_P (dC, dI) vwCl [(a 0, .inr (1, [.ref (a 1), .ref (a 2), .ref (a 3), .ref (a 4), .ref (a 5), .ref (a 6), .ref (a 7)])), (a 1, .inl (cI, 12, .inl ((fr_seen (fr_step (fr_step r bt n 0) bt n 1) bt (2 * 4 + n)).1))), (a 2, .inl (cI, 12, .inl ((fr_seen (fr_step (fr_step r bt n 0) bt n 1) bt (2 * 4 + n)).2.1))), (a 3, .inl (cZ, 12, .inl (fun i9 => sf_b (((fr_seen (fr_step (fr_step r bt n 0) bt n 1) bt (2 * 4 + n)).2.2.1) i9)))), (a 4, .inl (cZ, 8, .inl (fun i9 => sf_b (((fr_seen (fr_step (fr_step r bt n 0) bt n 1) bt (2 * 4 + n)).2.2.2.1) i9)))), (a 5, .inl (cZ, 15, .inl (fun i9 => sf_b (((fr_seen (fr_step (fr_step r bt n 0) bt n 1) bt (2 * 4 + n)).2.2.2.2.1) i9)))), (a 6, .inl (cI, 3, .inl ((fr_seen (fr_step (fr_step r bt n 0) bt n 1) bt (2 * 4 + n)).2.2.2.2.2.1))), (a 7, .inl (cI, 3, .inl ((fr_seen (fr_step (fr_step r bt n 0) bt n 1) bt (2 * 4 + n)).2.2.2.2.2.2))), (hq, .inl (cZ, 24, .inl (fun i9 => sf_b (bt i9))))] H := hP
      have hD : va_D A [(a 0, .inr (1, [.ref (a 1), .ref (a 2), .ref (a 3), .ref (a 4), .ref (a 5), .ref (a 6), .ref (a 7)])), (a 1, .inl (cI, 12, .inl ((fr_seen (fr_step (fr_step r bt n 0) bt n 1) bt (2 * 4 + n)).1))), (a 2, .inl (cI, 12, .inl ((fr_seen (fr_step (fr_step r bt n 0) bt n 1) bt (2 * 4 + n)).2.1))), (a 3, .inl (cZ, 12, .inl (fun i9 => sf_b (((fr_seen (fr_step (fr_step r bt n 0) bt n 1) bt (2 * 4 + n)).2.2.1) i9)))), (a 4, .inl (cZ, 8, .inl (fun i9 => sf_b (((fr_seen (fr_step (fr_step r bt n 0) bt n 1) bt (2 * 4 + n)).2.2.2.1) i9)))), (a 5, .inl (cZ, 15, .inl (fun i9 => sf_b (((fr_seen (fr_step (fr_step r bt n 0) bt n 1) bt (2 * 4 + n)).2.2.2.2.1) i9)))), (a 6, .inl (cI, 3, .inl ((fr_seen (fr_step (fr_step r bt n 0) bt n 1) bt (2 * 4 + n)).2.2.2.2.2.1))), (a 7, .inl (cI, 3, .inl ((fr_seen (fr_step (fr_step r bt n 0) bt n 1) bt (2 * 4 + n)).2.2.2.2.2.2))), (hq, .inl (cZ, 24, .inl (fun i9 => sf_b (bt i9))))] := hD
      refine lv_istore (lv' := [(4, .int (sf_b (fr_cond (fr_step (fr_step r bt n 0) bt n 1) bt (2 * 4 + n)))), (3, .int 2), (0, .ref (a 0)), (1, .ref hq), (2, .int (nI n))]) hx hb dX1_look_46 hl (by decide) rfl (fun ls hl => ?_)
      refine lv_aload_n hx hb dX1_look_48 rfl (lv_at hl 2 rfl) ?_
      refine va_get (D := (dC, dI)) (ci := 1) (v := .ref (a 5)) (C := RX1) (T := TX1) (N := 7) hx hb hg in_X1 hown hK hP 0 rfl rfl 4 (by decide) (hg _ mw_51) (fun _ h9 => h9) rfl dX1_look_49 ?_
      refine lv_iload_n hx hb dX1_look_52 rfl (lv_at hl 1 rfl) ?_
      refine lv_iconst (v := 5) hx hb dX1_look_53 (by decide) ?_
      refine lv_imul hx hb dX1_look_54 ?_
      refine sf_topi (y := nI (2 * 5)) (pk_mul 2 5) ?_
      refine lv_iload_n hx hb dX1_look_55 rfl (lv_at hl 4 rfl) ?_
      refine lv_iadd hx hb dX1_look_56 ?_
      refine sf_topi (y := nI (2 * 5 + n)) (nI_add (2 * 5) n) ?_
      refine lv_iconst (v := 1) hx hb dX1_look_57 (by decide) ?_
      refine lv_iadd hx hb dX1_look_58 ?_
      refine sf_topi (y := nI (2 * 5 + n + 1)) (nI_add (2 * 5 + n) 1) ?_
      refine lv_iload hx hb dX1_look_59 (lv_at hl 0 rfl) ?_
      refine sf_cutb 80 (fr_cond (fr_step (fr_step r bt n 0) bt n 1) bt (2 * 4 + n) && (fr_step (fr_step r bt n 0) bt n 1).2.2.2.2.1 (2 * 5 + n)) (fun v => [.int (sf_b v), .int (nI (2 * 5 + n + 1)), .ref (a 5)]) ?_ (fun k_6 => ?_)
      · refine sf_zast hx hb hK hP hD hS 5 1 rfl rfl (2 * 5 + n + 1) rfl (by omega) (by decide) dX1_look_80 (fun H locs hP hD hS => ?_)
        have hP : va_P (dC, dI) vwCl [(a 0, .inr (1, [.ref (a 1), .ref (a 2), .ref (a 3), .ref (a 4), .ref (a 5), .ref (a 6), .ref (a 7)])), (a 1, .inl (cI, 12, .inl ((fr_seen (fr_step (fr_step r bt n 0) bt n 1) bt (2 * 4 + n)).1))), (a 2, .inl (cI, 12, .inl ((fr_seen (fr_step (fr_step r bt n 0) bt n 1) bt (2 * 4 + n)).2.1))), (a 3, .inl (cZ, 12, .inl (fun i9 => sf_b (((fr_seen (fr_step (fr_step r bt n 0) bt n 1) bt (2 * 4 + n)).2.2.1) i9)))), (a 4, .inl (cZ, 8, .inl (fun i9 => sf_b (((fr_seen (fr_step (fr_step r bt n 0) bt n 1) bt (2 * 4 + n)).2.2.2.1) i9)))), (a 5, .inl (cZ, 15, .inl (fun i9 => sf_b ((va_up ((fr_seen (fr_step (fr_step r bt n 0) bt n 1) bt (2 * 4 + n)).2.2.2.2.1) (2 * 5 + n + 1) (fr_cond (fr_step (fr_step r bt n 0) bt n 1) bt (2 * 4 + n) && (fr_step (fr_step r bt n 0) bt n 1).2.2.2.2.1 (2 * 5 + n))) i9)))), (a 6, .inl (cI, 3, .inl ((fr_seen (fr_step (fr_step r bt n 0) bt n 1) bt (2 * 4 + n)).2.2.2.2.2.1))), (a 7, .inl (cI, 3, .inl ((fr_seen (fr_step (fr_step r bt n 0) bt n 1) bt (2 * 4 + n)).2.2.2.2.2.2))), (hq, .inl (cZ, 24, .inl (fun i9 => sf_b (bt i9))))] H := hP
        have hD : va_D A [(a 0, .inr (1, [.ref (a 1), .ref (a 2), .ref (a 3), .ref (a 4), .ref (a 5), .ref (a 6), .ref (a 7)])), (a 1, .inl (cI, 12, .inl ((fr_seen (fr_step (fr_step r bt n 0) bt n 1) bt (2 * 4 + n)).1))), (a 2, .inl (cI, 12, .inl ((fr_seen (fr_step (fr_step r bt n 0) bt n 1) bt (2 * 4 + n)).2.1))), (a 3, .inl (cZ, 12, .inl (fun i9 => sf_b (((fr_seen (fr_step (fr_step r bt n 0) bt n 1) bt (2 * 4 + n)).2.2.1) i9)))), (a 4, .inl (cZ, 8, .inl (fun i9 => sf_b (((fr_seen (fr_step (fr_step r bt n 0) bt n 1) bt (2 * 4 + n)).2.2.2.1) i9)))), (a 5, .inl (cZ, 15, .inl (fun i9 => sf_b ((va_up ((fr_seen (fr_step (fr_step r bt n 0) bt n 1) bt (2 * 4 + n)).2.2.2.2.1) (2 * 5 + n + 1) (fr_cond (fr_step (fr_step r bt n 0) bt n 1) bt (2 * 4 + n) && (fr_step (fr_step r bt n 0) bt n 1).2.2.2.2.1 (2 * 5 + n))) i9)))), (a 6, .inl (cI, 3, .inl ((fr_seen (fr_step (fr_step r bt n 0) bt n 1) bt (2 * 4 + n)).2.2.2.2.2.1))), (a 7, .inl (cI, 3, .inl ((fr_seen (fr_step (fr_step r bt n 0) bt n 1) bt (2 * 4 + n)).2.2.2.2.2.2))), (hq, .inl (cZ, 24, .inl (fun i9 => sf_b (bt i9))))] := hD
        have hP : va_P (dC, dI) vwCl [(a 0, .inr (1, [.ref (a 1), .ref (a 2), .ref (a 3), .ref (a 4), .ref (a 5), .ref (a 6), .ref (a 7)])), (a 1, .inl (cI, 12, .inl ((fr_step (fr_step (fr_step r bt n 0) bt n 1) bt n 2).1))), (a 2, .inl (cI, 12, .inl ((fr_step (fr_step (fr_step r bt n 0) bt n 1) bt n 2).2.1))), (a 3, .inl (cZ, 12, .inl (fun i9 => sf_b (((fr_step (fr_step (fr_step r bt n 0) bt n 1) bt n 2).2.2.1) i9)))), (a 4, .inl (cZ, 8, .inl (fun i9 => sf_b (((fr_step (fr_step (fr_step r bt n 0) bt n 1) bt n 2).2.2.2.1) i9)))), (a 5, .inl (cZ, 15, .inl (fun i9 => sf_b (((fr_step (fr_step (fr_step r bt n 0) bt n 1) bt n 2).2.2.2.2.1) i9)))), (a 6, .inl (cI, 3, .inl ((fr_step (fr_step (fr_step r bt n 0) bt n 1) bt n 2).2.2.2.2.2.1))), (a 7, .inl (cI, 3, .inl ((fr_step (fr_step (fr_step r bt n 0) bt n 1) bt n 2).2.2.2.2.2.2))), (hq, .inl (cZ, 24, .inl (fun i9 => sf_b (bt i9))))] H := hP
        have hD : va_D A [(a 0, .inr (1, [.ref (a 1), .ref (a 2), .ref (a 3), .ref (a 4), .ref (a 5), .ref (a 6), .ref (a 7)])), (a 1, .inl (cI, 12, .inl ((fr_step (fr_step (fr_step r bt n 0) bt n 1) bt n 2).1))), (a 2, .inl (cI, 12, .inl ((fr_step (fr_step (fr_step r bt n 0) bt n 1) bt n 2).2.1))), (a 3, .inl (cZ, 12, .inl (fun i9 => sf_b (((fr_step (fr_step (fr_step r bt n 0) bt n 1) bt n 2).2.2.1) i9)))), (a 4, .inl (cZ, 8, .inl (fun i9 => sf_b (((fr_step (fr_step (fr_step r bt n 0) bt n 1) bt n 2).2.2.2.1) i9)))), (a 5, .inl (cZ, 15, .inl (fun i9 => sf_b (((fr_step (fr_step (fr_step r bt n 0) bt n 1) bt n 2).2.2.2.2.1) i9)))), (a 6, .inl (cI, 3, .inl ((fr_step (fr_step (fr_step r bt n 0) bt n 1) bt n 2).2.2.2.2.2.1))), (a 7, .inl (cI, 3, .inl ((fr_step (fr_step (fr_step r bt n 0) bt n 1) bt n 2).2.2.2.2.2.2))), (hq, .inl (cZ, 24, .inl (fun i9 => sf_b (bt i9))))] := hD
        refine lv_iinc (v := 3) (lv' := [(3, .int 3), (4, .int (sf_b (fr_cond (fr_step (fr_step r bt n 0) bt n 1) bt (2 * 4 + n)))), (0, .ref (a 0)), (1, .ref hq), (2, .int (nI n))]) hx hb dX1_look_81 hl (k := 1) rfl (by decide) (by decide) rfl (fun ls hl => ?_)
        refine lv_goto (tgt := 31) hx hb dX1_look_84 (by decide) ?_
        refine lv_iload_n hx hb dX1_look_31 rfl (lv_at hl 0 rfl) ?_
        refine lv_iconst (v := 3) hx hb dX1_look_32 (by decide) ?_
        refine lv_icmp_ge (tgt := 87) hx hb dX1_look_33 (by decide) (fun _ => ?_) (fun h => absurd (by decide) h)
        refine lv_aload_n hx hb dX1_look_87 rfl (lv_at hl 2 rfl) ?_
        refine lv_iconst (v := 0) hx hb dX1_look_88 (by decide) ?_
        refine lv_iload_n hx hb dX1_look_89 rfl (lv_at hl 4 rfl) ?_
        have hPc : va_P (dC, dI) vwCl ((wp_R cI cZ a (fr_step (fr_step (fr_step r bt n 0) bt n 1) bt n 2)) ++ [(hq, .inl (cZ, 24, .inl (fun i9 => sf_b (bt i9))))]) H := hP.sub [0, 1, 2, 3, 4, 5, 6, 7, 8] rfl
        have hDc : va_D A ((wp_R cI cZ a (fr_step (fr_step (fr_step r bt n 0) bt n 1) bt n 2)) ++ [(hq, .inl (cZ, 24, .inl (fun i9 => sf_b (bt i9))))]) := hD.sub [0, 1, 2, 3, 4, 5, 6, 7, 8] (by decide) rfl
        refine sf_callVv (va_runV (As := [.int 0, .int (nI n)]) (rest := []) ⟨hx, hb, hml, hown, hg⟩ (c_X1_join l dC dI cI cZ a (fr_step (fr_step (fr_step r bt n 0) bt n 1) bt n 2) (0) (n) _ (by omega) (by omega)) (cwV 2 hg (gw_V mw_389 mw_391 mw_4 mw_22 mw_392) rfl rfl rfl (by decide +kernel) ⟨Nat.le_of_ble_eq_true rfl, Nat.le_of_ble_eq_true rfl⟩) (sf_preVV (va_recv hK hP (ci := 1) (q0 := 0) rfl rfl) hK hZ hPc hDc) rfl rfl hl.1 rfl (lv_room (Nat.le_of_ble_eq_true rfl)) dX1_look_90 ⟨Nat.zero_le _, Nat.zero_le _⟩) hS hPc hDc hA (fun H locs hP hD hS => ?_)
        have hP : va_P (dC, dI) vwCl [(a 0, .inr (1, [.ref (a 1), .ref (a 2), .ref (a 3), .ref (a 4), .ref (a 5), .ref (a 6), .ref (a 7)])), (a 1, .inl (cI, 12, .inl ((fr_join (fr_step (fr_step (fr_step r bt n 0) bt n 1) bt n 2) 0 n).1))), (a 2, .inl (cI, 12, .inl ((fr_join (fr_step (fr_step (fr_step r bt n 0) bt n 1) bt n 2) 0 n).2.1))), (a 3, .inl (cZ, 12, .inl (fun i9 => sf_b (((fr_join (fr_step (fr_step (fr_step r bt n 0) bt n 1) bt n 2) 0 n).2.2.1) i9)))), (a 4, .inl (cZ, 8, .inl (fun i9 => sf_b (((fr_join (fr_step (fr_step (fr_step r bt n 0) bt n 1) bt n 2) 0 n).2.2.2.1) i9)))), (a 5, .inl (cZ, 15, .inl (fun i9 => sf_b (((fr_join (fr_step (fr_step (fr_step r bt n 0) bt n 1) bt n 2) 0 n).2.2.2.2.1) i9)))), (a 6, .inl (cI, 3, .inl ((fr_join (fr_step (fr_step (fr_step r bt n 0) bt n 1) bt n 2) 0 n).2.2.2.2.2.1))), (a 7, .inl (cI, 3, .inl ((fr_join (fr_step (fr_step (fr_step r bt n 0) bt n 1) bt n 2) 0 n).2.2.2.2.2.2))), (hq, .inl (cZ, 24, .inl (fun i9 => sf_b (bt i9))))] H := hP
        have hD : va_D A [(a 0, .inr (1, [.ref (a 1), .ref (a 2), .ref (a 3), .ref (a 4), .ref (a 5), .ref (a 6), .ref (a 7)])), (a 1, .inl (cI, 12, .inl ((fr_join (fr_step (fr_step (fr_step r bt n 0) bt n 1) bt n 2) 0 n).1))), (a 2, .inl (cI, 12, .inl ((fr_join (fr_step (fr_step (fr_step r bt n 0) bt n 1) bt n 2) 0 n).2.1))), (a 3, .inl (cZ, 12, .inl (fun i9 => sf_b (((fr_join (fr_step (fr_step (fr_step r bt n 0) bt n 1) bt n 2) 0 n).2.2.1) i9)))), (a 4, .inl (cZ, 8, .inl (fun i9 => sf_b (((fr_join (fr_step (fr_step (fr_step r bt n 0) bt n 1) bt n 2) 0 n).2.2.2.1) i9)))), (a 5, .inl (cZ, 15, .inl (fun i9 => sf_b (((fr_join (fr_step (fr_step (fr_step r bt n 0) bt n 1) bt n 2) 0 n).2.2.2.2.1) i9)))), (a 6, .inl (cI, 3, .inl ((fr_join (fr_step (fr_step (fr_step r bt n 0) bt n 1) bt n 2) 0 n).2.2.2.2.2.1))), (a 7, .inl (cI, 3, .inl ((fr_join (fr_step (fr_step (fr_step r bt n 0) bt n 1) bt n 2) 0 n).2.2.2.2.2.2))), (hq, .inl (cZ, 24, .inl (fun i9 => sf_b (bt i9))))] := hD
        refine lv_aload_n hx hb dX1_look_93 rfl (lv_at hl 2 rfl) ?_
        refine lv_iconst (v := 1) hx hb dX1_look_94 (by decide) ?_
        refine lv_iload_n hx hb dX1_look_95 rfl (lv_at hl 4 rfl) ?_
        have hPc : va_P (dC, dI) vwCl ((wp_R cI cZ a (fr_join (fr_step (fr_step (fr_step r bt n 0) bt n 1) bt n 2) 0 n)) ++ [(hq, .inl (cZ, 24, .inl (fun i9 => sf_b (bt i9))))]) H := hP.sub [0, 1, 2, 3, 4, 5, 6, 7, 8] rfl
        have hDc : va_D A ((wp_R cI cZ a (fr_join (fr_step (fr_step (fr_step r bt n 0) bt n 1) bt n 2) 0 n)) ++ [(hq, .inl (cZ, 24, .inl (fun i9 => sf_b (bt i9))))]) := hD.sub [0, 1, 2, 3, 4, 5, 6, 7, 8] (by decide) rfl
        refine sf_callVv (va_runV (As := [.int 1, .int (nI n)]) (rest := []) ⟨hx, hb, hml, hown, hg⟩ (c_X1_join l dC dI cI cZ a (fr_join (fr_step (fr_step (fr_step r bt n 0) bt n 1) bt n 2) 0 n) (1) (n) _ (by omega) (by omega)) (cwV 2 hg (gw_V mw_389 mw_391 mw_4 mw_22 mw_392) rfl rfl rfl (by decide +kernel) ⟨Nat.le_of_ble_eq_true rfl, Nat.le_of_ble_eq_true rfl⟩) (sf_preVV (va_recv hK hP (ci := 1) (q0 := 0) rfl rfl) hK hZ hPc hDc) rfl rfl hl.1 rfl (lv_room (Nat.le_of_ble_eq_true rfl)) dX1_look_96 ⟨Nat.zero_le _, Nat.zero_le _⟩) hS hPc hDc hA (fun H locs hP hD hS => ?_)
        have hP : va_P (dC, dI) vwCl [(a 0, .inr (1, [.ref (a 1), .ref (a 2), .ref (a 3), .ref (a 4), .ref (a 5), .ref (a 6), .ref (a 7)])), (a 1, .inl (cI, 12, .inl ((fr_join (fr_join (fr_step (fr_step (fr_step r bt n 0) bt n 1) bt n 2) 0 n) 1 n).1))), (a 2, .inl (cI, 12, .inl ((fr_join (fr_join (fr_step (fr_step (fr_step r bt n 0) bt n 1) bt n 2) 0 n) 1 n).2.1))), (a 3, .inl (cZ, 12, .inl (fun i9 => sf_b (((fr_join (fr_join (fr_step (fr_step (fr_step r bt n 0) bt n 1) bt n 2) 0 n) 1 n).2.2.1) i9)))), (a 4, .inl (cZ, 8, .inl (fun i9 => sf_b (((fr_join (fr_join (fr_step (fr_step (fr_step r bt n 0) bt n 1) bt n 2) 0 n) 1 n).2.2.2.1) i9)))), (a 5, .inl (cZ, 15, .inl (fun i9 => sf_b (((fr_join (fr_join (fr_step (fr_step (fr_step r bt n 0) bt n 1) bt n 2) 0 n) 1 n).2.2.2.2.1) i9)))), (a 6, .inl (cI, 3, .inl ((fr_join (fr_join (fr_step (fr_step (fr_step r bt n 0) bt n 1) bt n 2) 0 n) 1 n).2.2.2.2.2.1))), (a 7, .inl (cI, 3, .inl ((fr_join (fr_join (fr_step (fr_step (fr_step r bt n 0) bt n 1) bt n 2) 0 n) 1 n).2.2.2.2.2.2))), (hq, .inl (cZ, 24, .inl (fun i9 => sf_b (bt i9))))] H := hP
        have hD : va_D A [(a 0, .inr (1, [.ref (a 1), .ref (a 2), .ref (a 3), .ref (a 4), .ref (a 5), .ref (a 6), .ref (a 7)])), (a 1, .inl (cI, 12, .inl ((fr_join (fr_join (fr_step (fr_step (fr_step r bt n 0) bt n 1) bt n 2) 0 n) 1 n).1))), (a 2, .inl (cI, 12, .inl ((fr_join (fr_join (fr_step (fr_step (fr_step r bt n 0) bt n 1) bt n 2) 0 n) 1 n).2.1))), (a 3, .inl (cZ, 12, .inl (fun i9 => sf_b (((fr_join (fr_join (fr_step (fr_step (fr_step r bt n 0) bt n 1) bt n 2) 0 n) 1 n).2.2.1) i9)))), (a 4, .inl (cZ, 8, .inl (fun i9 => sf_b (((fr_join (fr_join (fr_step (fr_step (fr_step r bt n 0) bt n 1) bt n 2) 0 n) 1 n).2.2.2.1) i9)))), (a 5, .inl (cZ, 15, .inl (fun i9 => sf_b (((fr_join (fr_join (fr_step (fr_step (fr_step r bt n 0) bt n 1) bt n 2) 0 n) 1 n).2.2.2.2.1) i9)))), (a 6, .inl (cI, 3, .inl ((fr_join (fr_join (fr_step (fr_step (fr_step r bt n 0) bt n 1) bt n 2) 0 n) 1 n).2.2.2.2.2.1))), (a 7, .inl (cI, 3, .inl ((fr_join (fr_join (fr_step (fr_step (fr_step r bt n 0) bt n 1) bt n 2) 0 n) 1 n).2.2.2.2.2.2))), (hq, .inl (cZ, 24, .inl (fun i9 => sf_b (bt i9))))] := hD
        refine lv_aload_n hx hb dX1_look_99 rfl (lv_at hl 2 rfl) ?_
        refine lv_iconst (v := 0) hx hb dX1_look_100 (by decide) ?_
        refine lv_iload_n hx hb dX1_look_101 rfl (lv_at hl 4 rfl) ?_
        have hPc : va_P (dC, dI) vwCl ((wp_R cI cZ a (fr_join (fr_join (fr_step (fr_step (fr_step r bt n 0) bt n 1) bt n 2) 0 n) 1 n)) ++ [(hq, .inl (cZ, 24, .inl (fun i9 => sf_b (bt i9))))]) H := hP.sub [0, 1, 2, 3, 4, 5, 6, 7, 8] rfl
        have hDc : va_D A ((wp_R cI cZ a (fr_join (fr_join (fr_step (fr_step (fr_step r bt n 0) bt n 1) bt n 2) 0 n) 1 n)) ++ [(hq, .inl (cZ, 24, .inl (fun i9 => sf_b (bt i9))))]) := hD.sub [0, 1, 2, 3, 4, 5, 6, 7, 8] (by decide) rfl
        refine sf_callVv (va_runV (As := [.int 0, .int (nI n)]) (rest := []) ⟨hx, hb, hml, hown, hg⟩ (c_X1_join l dC dI cI cZ a (fr_join (fr_join (fr_step (fr_step (fr_step r bt n 0) bt n 1) bt n 2) 0 n) 1 n) (0) (n) _ (by omega) (by omega)) (cwV 2 hg (gw_V mw_389 mw_391 mw_4 mw_22 mw_392) rfl rfl rfl (by decide +kernel) ⟨Nat.le_of_ble_eq_true rfl, Nat.le_of_ble_eq_true rfl⟩) (sf_preVV (va_recv hK hP (ci := 1) (q0 := 0) rfl rfl) hK hZ hPc hDc) rfl rfl hl.1 rfl (lv_room (Nat.le_of_ble_eq_true rfl)) dX1_look_102 ⟨Nat.zero_le _, Nat.zero_le _⟩) hS hPc hDc hA (fun H locs hP hD hS => ?_)
        have hP : va_P (dC, dI) vwCl [(a 0, .inr (1, [.ref (a 1), .ref (a 2), .ref (a 3), .ref (a 4), .ref (a 5), .ref (a 6), .ref (a 7)])), (a 1, .inl (cI, 12, .inl ((fr_join (fr_join (fr_join (fr_step (fr_step (fr_step r bt n 0) bt n 1) bt n 2) 0 n) 1 n) 0 n).1))), (a 2, .inl (cI, 12, .inl ((fr_join (fr_join (fr_join (fr_step (fr_step (fr_step r bt n 0) bt n 1) bt n 2) 0 n) 1 n) 0 n).2.1))), (a 3, .inl (cZ, 12, .inl (fun i9 => sf_b (((fr_join (fr_join (fr_join (fr_step (fr_step (fr_step r bt n 0) bt n 1) bt n 2) 0 n) 1 n) 0 n).2.2.1) i9)))), (a 4, .inl (cZ, 8, .inl (fun i9 => sf_b (((fr_join (fr_join (fr_join (fr_step (fr_step (fr_step r bt n 0) bt n 1) bt n 2) 0 n) 1 n) 0 n).2.2.2.1) i9)))), (a 5, .inl (cZ, 15, .inl (fun i9 => sf_b (((fr_join (fr_join (fr_join (fr_step (fr_step (fr_step r bt n 0) bt n 1) bt n 2) 0 n) 1 n) 0 n).2.2.2.2.1) i9)))), (a 6, .inl (cI, 3, .inl ((fr_join (fr_join (fr_join (fr_step (fr_step (fr_step r bt n 0) bt n 1) bt n 2) 0 n) 1 n) 0 n).2.2.2.2.2.1))), (a 7, .inl (cI, 3, .inl ((fr_join (fr_join (fr_join (fr_step (fr_step (fr_step r bt n 0) bt n 1) bt n 2) 0 n) 1 n) 0 n).2.2.2.2.2.2))), (hq, .inl (cZ, 24, .inl (fun i9 => sf_b (bt i9))))] H := hP
        have hD : va_D A [(a 0, .inr (1, [.ref (a 1), .ref (a 2), .ref (a 3), .ref (a 4), .ref (a 5), .ref (a 6), .ref (a 7)])), (a 1, .inl (cI, 12, .inl ((fr_join (fr_join (fr_join (fr_step (fr_step (fr_step r bt n 0) bt n 1) bt n 2) 0 n) 1 n) 0 n).1))), (a 2, .inl (cI, 12, .inl ((fr_join (fr_join (fr_join (fr_step (fr_step (fr_step r bt n 0) bt n 1) bt n 2) 0 n) 1 n) 0 n).2.1))), (a 3, .inl (cZ, 12, .inl (fun i9 => sf_b (((fr_join (fr_join (fr_join (fr_step (fr_step (fr_step r bt n 0) bt n 1) bt n 2) 0 n) 1 n) 0 n).2.2.1) i9)))), (a 4, .inl (cZ, 8, .inl (fun i9 => sf_b (((fr_join (fr_join (fr_join (fr_step (fr_step (fr_step r bt n 0) bt n 1) bt n 2) 0 n) 1 n) 0 n).2.2.2.1) i9)))), (a 5, .inl (cZ, 15, .inl (fun i9 => sf_b (((fr_join (fr_join (fr_join (fr_step (fr_step (fr_step r bt n 0) bt n 1) bt n 2) 0 n) 1 n) 0 n).2.2.2.2.1) i9)))), (a 6, .inl (cI, 3, .inl ((fr_join (fr_join (fr_join (fr_step (fr_step (fr_step r bt n 0) bt n 1) bt n 2) 0 n) 1 n) 0 n).2.2.2.2.2.1))), (a 7, .inl (cI, 3, .inl ((fr_join (fr_join (fr_join (fr_step (fr_step (fr_step r bt n 0) bt n 1) bt n 2) 0 n) 1 n) 0 n).2.2.2.2.2.2))), (hq, .inl (cZ, 24, .inl (fun i9 => sf_b (bt i9))))] := hD
        refine lv_iinc (v := nI (n + 1)) (lv' := [(2, .int (nI (n + 1))), (3, .int 3), (4, .int (sf_b (fr_cond (fr_step (fr_step r bt n 0) bt n 1) bt (2 * 4 + n)))), (0, .ref (a 0)), (1, .ref hq)]) hx hb dX1_look_105 hl (k := 4) rfl (nI_1 n) (by decide) rfl (fun ls hl => ?_)
        refine lv_goto (tgt := 24) hx hb dX1_look_108 (by decide) ?_
        exact kk _ _ _ hP hD hS (lv_sub hl [3, 4, 0] rfl)
      · refine sf_ifeq (tgt := 79) hx hb dX1_look_61 (by decide) (fun c_8 => ?_) (fun c_8 => ?_)
        · refine lv_iconst (v := sf_b false) hx hb dX1_look_79 (by decide) ?_
          exact k_6 false (by first | rfl | (simp [fr_seen, c_8]; done) | (simp [fr_seen] at *; simp [*]; done))
        · refine lv_aload_n hx hb dX1_look_64 rfl (lv_at hl 2 rfl) ?_
          refine lv_iload_n hx hb dX1_look_65 rfl (lv_at hl 1 rfl) ?_
          refine lv_iload_n hx hb dX1_look_66 rfl (lv_at hl 4 rfl) ?_
          refine lv_iconst (v := 1) hx hb dX1_look_67 (by decide) ?_
          refine lv_isub hx hb dX1_look_68 ?_
          have hPr : va_P (dC, dI) vwCl (wp_R cI cZ a (fr_seen (fr_step (fr_step r bt n 0) bt n 1) bt (2 * 4 + n))) H := hP.sub [0, 1, 2, 3, 4, 5, 6, 7] rfl
          refine sf_callRi (va_runV (As := [.int 2, .int ((nI n) - 1)]) (rest := [.int (nI (2 * 5 + n + 1)), .ref (a 5)]) ⟨hx, hb, hml, hown, hg⟩ (c_X1_hadPower l dC dI cI cZ a (fr_seen (fr_step (fr_step r bt n 0) bt n 1) bt (2 * 4 + n)) (2) (n) _ (by omega) (by omega) (Int32.sub_add_cancel _ _)) (cwV 2 hg (gw_V mw_385 mw_386 mw_387 mw_22 mw_388) rfl rfl rfl (by decide +kernel) ⟨Nat.le_of_ble_eq_true rfl, Nat.le_of_ble_eq_true rfl⟩) (sf_preVR (va_recv hK hP (ci := 1) (q0 := 0) rfl rfl) hK hZ hPr) rfl rfl hl.1 rfl (lv_room (Nat.le_of_ble_eq_true rfl)) dX1_look_69 ⟨Nat.zero_le _, Nat.zero_le _⟩) ?_
          refine sf_ifeq (tgt := 79) hx hb dX1_look_72 (by decide) (fun c_9 => ?_) (fun c_9 => ?_)
          · refine lv_iconst (v := sf_b false) hx hb dX1_look_79 (by decide) ?_
            exact k_6 false (by first | rfl | (simp [fr_seen, c_8, c_9]; done) | (simp [fr_seen] at *; simp [*]; done))
          · refine lv_iconst (v := sf_b true) hx hb dX1_look_75 (by decide) ?_
            refine lv_goto (tgt := 80) hx hb dX1_look_76 (by decide) ?_
            exact k_6 true (by first | rfl | (simp [fr_seen, c_8, c_9]; done) | (simp [fr_seen] at *; simp [*]; done))
    · refine sf_ifeq (tgt := 79) hx hb dX1_look_61 (by decide) (fun c_10 => ?_) (fun c_10 => ?_)
      · refine lv_iconst (v := sf_b false) hx hb dX1_look_79 (by decide) ?_
        exact k_4 false (by first | rfl | (simp [fr_seen, c_10]; done) | (simp [fr_seen] at *; simp [*]; done))
      · refine lv_aload_n hx hb dX1_look_64 rfl (lv_at hl 2 rfl) ?_
        refine lv_iload_n hx hb dX1_look_65 rfl (lv_at hl 1 rfl) ?_
        refine lv_iload_n hx hb dX1_look_66 rfl (lv_at hl 4 rfl) ?_
        refine lv_iconst (v := 1) hx hb dX1_look_67 (by decide) ?_
        refine lv_isub hx hb dX1_look_68 ?_
        have hPr : va_P (dC, dI) vwCl (wp_R cI cZ a (fr_seen (fr_step r bt n 0) bt (1 * 4 + n))) H := hP.sub [0, 1, 2, 3, 4, 5, 6, 7] rfl
        refine sf_callRi (va_runV (As := [.int 1, .int ((nI n) - 1)]) (rest := [.int (nI (1 * 5 + n + 1)), .ref (a 5)]) ⟨hx, hb, hml, hown, hg⟩ (c_X1_hadPower l dC dI cI cZ a (fr_seen (fr_step r bt n 0) bt (1 * 4 + n)) (1) (n) _ (by omega) (by omega) (Int32.sub_add_cancel _ _)) (cwV 2 hg (gw_V mw_385 mw_386 mw_387 mw_22 mw_388) rfl rfl rfl (by decide +kernel) ⟨Nat.le_of_ble_eq_true rfl, Nat.le_of_ble_eq_true rfl⟩) (sf_preVR (va_recv hK hP (ci := 1) (q0 := 0) rfl rfl) hK hZ hPr) rfl rfl hl.1 rfl (lv_room (Nat.le_of_ble_eq_true rfl)) dX1_look_69 ⟨Nat.zero_le _, Nat.zero_le _⟩) ?_
        refine sf_ifeq (tgt := 79) hx hb dX1_look_72 (by decide) (fun c_11 => ?_) (fun c_11 => ?_)
        · refine lv_iconst (v := sf_b false) hx hb dX1_look_79 (by decide) ?_
          exact k_4 false (by first | rfl | (simp [fr_seen, c_10, c_11]; done) | (simp [fr_seen] at *; simp [*]; done))
        · refine lv_iconst (v := sf_b true) hx hb dX1_look_75 (by decide) ?_
          refine lv_goto (tgt := 80) hx hb dX1_look_76 (by decide) ?_
          exact k_4 true (by first | rfl | (simp [fr_seen, c_10, c_11]; done) | (simp [fr_seen] at *; simp [*]; done))
  · refine sf_ifeq (tgt := 79) hx hb dX1_look_61 (by decide) (fun c_12 => ?_) (fun c_12 => ?_)
    · refine lv_iconst (v := sf_b false) hx hb dX1_look_79 (by decide) ?_
      exact k_2 false (by first | rfl | (simp [fr_seen, c_12]; done) | (simp [fr_seen] at *; simp [*]; done))
    · refine lv_aload_n hx hb dX1_look_64 rfl (lv_at hl 2 rfl) ?_
      refine lv_iload_n hx hb dX1_look_65 rfl (lv_at hl 1 rfl) ?_
      refine lv_iload_n hx hb dX1_look_66 rfl (lv_at hl 4 rfl) ?_
      refine lv_iconst (v := 1) hx hb dX1_look_67 (by decide) ?_
      refine lv_isub hx hb dX1_look_68 ?_
      have hPr : va_P (dC, dI) vwCl (wp_R cI cZ a (fr_seen r bt (0 * 4 + n))) H := hP.sub [0, 1, 2, 3, 4, 5, 6, 7] rfl
      refine sf_callRi (va_runV (As := [.int 0, .int ((nI n) - 1)]) (rest := [.int (nI (0 * 5 + n + 1)), .ref (a 5)]) ⟨hx, hb, hml, hown, hg⟩ (c_X1_hadPower l dC dI cI cZ a (fr_seen r bt (0 * 4 + n)) (0) (n) _ (by omega) (by omega) (Int32.sub_add_cancel _ _)) (cwV 2 hg (gw_V mw_385 mw_386 mw_387 mw_22 mw_388) rfl rfl rfl (by decide +kernel) ⟨Nat.le_of_ble_eq_true rfl, Nat.le_of_ble_eq_true rfl⟩) (sf_preVR (va_recv hK hP (ci := 1) (q0 := 0) rfl rfl) hK hZ hPr) rfl rfl hl.1 rfl (lv_room (Nat.le_of_ble_eq_true rfl)) dX1_look_69 ⟨Nat.zero_le _, Nat.zero_le _⟩) ?_
      refine sf_ifeq (tgt := 79) hx hb dX1_look_72 (by decide) (fun c_13 => ?_) (fun c_13 => ?_)
      · refine lv_iconst (v := sf_b false) hx hb dX1_look_79 (by decide) ?_
        exact k_2 false (by first | rfl | (simp [fr_seen, c_12, c_13]; done) | (simp [fr_seen] at *; simp [*]; done))
      · refine lv_iconst (v := sf_b true) hx hb dX1_look_75 (by decide) ?_
        refine lv_goto (tgt := 80) hx hb dX1_look_76 (by decide) ?_
        exact k_2 true (by first | rfl | (simp [fr_seen, c_12, c_13]; done) | (simp [fr_seen] at *; simp [*]; done))
set_option maxHeartbeats 4000000 in
set_option maxRecDepth 100000 in
theorem c_X1_look (l : Launch) (dC : Nat → ClassId) (dI : Nat → Nat → Nat) (cI cZ : ClassId) (a : Nat → Nat) (hq : Nat) (bt : Nat → Bool) (r : st_R) (sz : Nat) (hcb : ∀ j, j < 12 → fc_ix (r.2.1 j) 24 = true) : Met l yX1_look wX1_look ({ frames := 1, cells := 0, slots := 0, locals := 25 }) (sf_PV (dC, dI) vwCl [(cI, .int), (cZ, .boolean)] (wp_R cI cZ a r ++ [wp_Z hq cZ 24 bt]) sz [.ref (a 0), .ref hq]) (sf_V (dC, dI) vwCl none (wp_R cI cZ a r ++ [wp_Z hq cZ 24 bt]) (wp_R cI cZ a (fr_look r bt) ++ [wp_Z hq cZ 24 bt])) 0 0 (va_A (wp_R cI cZ a r ++ [wp_Z hq cZ 24 bt]) sz) := by
  refine Met.ofW (cc := cX1_look) (maxL := 5) (ret := none) (by decide) rfl ?_
  intro p e s m args below meth c s₁ B hml hv
  have hx := B.exec
  have hb := B.bytes
  have hr := B.returns
  have hts := atoms_spec (ws := wX1_look) B.pre
  have hg : ∀ w ∈ gw_all, w.before args s = true := fun w h => hts w (List.mem_cons_of_mem _ h)
  have hown : s.vm.findClass RX1 = some m.cls := findClass_of_methodNamed B.named
  have hlocks := B.notSynchronized
  obtain ⟨rfl, hsz, hP, hD0, hK, hZ⟩ := hv
  subst hsz
  have hl := lv_entry ([.ref (a 0), .ref hq]) (n := 5) (Nat.le_of_ble_eq_true rfl)
  rw [lg_entry_eq]
  generalize (lg_sl ([.ref (a 0), .ref hq]) ++ List.replicate (5 - (lg_sl ([.ref (a 0), .ref hq])).length) Slot.unset).toArray = ls at hl ⊢
  have hl : lv_has ls 5 [(0, .ref (a 0)), (1, .ref hq)] := hl
  obtain ⟨A, hAe⟩ : ∃ A : Nat → Prop, A = va_A (wp_R cI cZ a r ++ [wp_Z hq cZ 24 bt]) s.heap.size := ⟨_, rfl⟩
  have hD := hD0.self (sz := s.heap.size)
  rw [← hAe] at hD
  have hA : ∀ q : Nat, s.heap.size ≤ q → A q := fun q h => by rw [hAe]; exact Or.inr h
  have hS : va_S A s.heap s.heap [] := va_S.rf
  have hP : va_P (dC, dI) vwCl [(a 0, .inr (1, [.ref (a 1), .ref (a 2), .ref (a 3), .ref (a 4), .ref (a 5), .ref (a 6), .ref (a 7)])), (a 1, .inl (cI, 12, .inl r.1)), (a 2, .inl (cI, 12, .inl r.2.1)), (a 3, .inl (cZ, 12, .inl (fun i9 => sf_b (r.2.2.1 i9)))), (a 4, .inl (cZ, 8, .inl (fun i9 => sf_b (r.2.2.2.1 i9)))), (a 5, .inl (cZ, 15, .inl (fun i9 => sf_b (r.2.2.2.2.1 i9)))), (a 6, .inl (cI, 3, .inl r.2.2.2.2.2.1)), (a 7, .inl (cI, 3, .inl r.2.2.2.2.2.2)), (hq, .inl (cZ, 24, .inl (fun i9 => sf_b (bt i9))))] s.heap := hP
  have hD : va_D A [(a 0, .inr (1, [.ref (a 1), .ref (a 2), .ref (a 3), .ref (a 4), .ref (a 5), .ref (a 6), .ref (a 7)])), (a 1, .inl (cI, 12, .inl r.1)), (a 2, .inl (cI, 12, .inl r.2.1)), (a 3, .inl (cZ, 12, .inl (fun i9 => sf_b (r.2.2.1 i9)))), (a 4, .inl (cZ, 8, .inl (fun i9 => sf_b (r.2.2.2.1 i9)))), (a 5, .inl (cZ, 15, .inl (fun i9 => sf_b (r.2.2.2.2.1 i9)))), (a 6, .inl (cI, 3, .inl r.2.2.2.2.2.1)), (a 7, .inl (cI, 3, .inl r.2.2.2.2.2.2)), (hq, .inl (cZ, 24, .inl (fun i9 => sf_b (bt i9))))] := hD
  refine lv_iconst (v := 0) hx hb dX1_look_0 (by decide) ?_
  refine lv_istore_n (lv' := [(2, .int 0), (0, .ref (a 0)), (1, .ref hq)]) hx hb dX1_look_1 rfl hl (by decide) rfl (fun ls hl => ?_)
  refine lv_iload_n hx hb dX1_look_2 rfl (lv_at hl 0 rfl) ?_
  refine lv_iconst (v := 3) hx hb dX1_look_3 (by decide) ?_
  refine lv_icmp_ge (tgt := 22) hx hb dX1_look_4 (by decide) (fun h => absurd h (by decide)) (fun _ => ?_)
  refine lv_aload_n hx hb dX1_look_7 rfl (lv_at hl 1 rfl) ?_
  refine va_get (D := (dC, dI)) (ci := 1) (v := .ref (a 5)) (C := RX1) (T := TX1) (N := 7) hx hb hg in_X1 hown hK hP 0 rfl rfl 4 (by decide) (hg _ mw_51) (fun _ h9 => h9) rfl dX1_look_8 ?_
  refine lv_iload_n hx hb dX1_look_11 rfl (lv_at hl 0 rfl) ?_
  refine lv_iconst (v := 5) hx hb dX1_look_12 (by decide) ?_
  refine lv_imul hx hb dX1_look_13 ?_
  refine sf_topi (y := nI (0 * 5)) (pk_mul 0 5) ?_
  refine lv_iconst (v := 1) hx hb dX1_look_14 (by decide) ?_
  refine sf_topi (y := sf_b true) rfl ?_
  refine sf_zast hx hb hK hP hD hS 5 1 rfl rfl (0 * 5) rfl (by omega) (by decide) dX1_look_15 (fun H locs hP hD hS => ?_)
  have hP : va_P (dC, dI) vwCl [(a 0, .inr (1, [.ref (a 1), .ref (a 2), .ref (a 3), .ref (a 4), .ref (a 5), .ref (a 6), .ref (a 7)])), (a 1, .inl (cI, 12, .inl r.1)), (a 2, .inl (cI, 12, .inl r.2.1)), (a 3, .inl (cZ, 12, .inl (fun i9 => sf_b (r.2.2.1 i9)))), (a 4, .inl (cZ, 8, .inl (fun i9 => sf_b (r.2.2.2.1 i9)))), (a 5, .inl (cZ, 15, .inl (fun i9 => sf_b ((va_up r.2.2.2.2.1 (0 * 5) true) i9)))), (a 6, .inl (cI, 3, .inl r.2.2.2.2.2.1)), (a 7, .inl (cI, 3, .inl r.2.2.2.2.2.2)), (hq, .inl (cZ, 24, .inl (fun i9 => sf_b (bt i9))))] H := hP
  have hD : va_D A [(a 0, .inr (1, [.ref (a 1), .ref (a 2), .ref (a 3), .ref (a 4), .ref (a 5), .ref (a 6), .ref (a 7)])), (a 1, .inl (cI, 12, .inl r.1)), (a 2, .inl (cI, 12, .inl r.2.1)), (a 3, .inl (cZ, 12, .inl (fun i9 => sf_b (r.2.2.1 i9)))), (a 4, .inl (cZ, 8, .inl (fun i9 => sf_b (r.2.2.2.1 i9)))), (a 5, .inl (cZ, 15, .inl (fun i9 => sf_b ((va_up r.2.2.2.2.1 (0 * 5) true) i9)))), (a 6, .inl (cI, 3, .inl r.2.2.2.2.2.1)), (a 7, .inl (cI, 3, .inl r.2.2.2.2.2.2)), (hq, .inl (cZ, 24, .inl (fun i9 => sf_b (bt i9))))] := hD
  refine lv_iinc (v := 1) (lv' := [(2, .int 1), (0, .ref (a 0)), (1, .ref hq)]) hx hb dX1_look_16 hl (k := 0) rfl (by decide) (by decide) rfl (fun ls hl => ?_)
  refine lv_goto (tgt := 2) hx hb dX1_look_19 (by decide) ?_
  refine lv_iload_n hx hb dX1_look_2 rfl (lv_at hl 0 rfl) ?_
  refine lv_iconst (v := 3) hx hb dX1_look_3 (by decide) ?_
  refine lv_icmp_ge (tgt := 22) hx hb dX1_look_4 (by decide) (fun h => absurd h (by decide)) (fun _ => ?_)
  refine lv_aload_n hx hb dX1_look_7 rfl (lv_at hl 1 rfl) ?_
  refine va_get (D := (dC, dI)) (ci := 1) (v := .ref (a 5)) (C := RX1) (T := TX1) (N := 7) hx hb hg in_X1 hown hK hP 0 rfl rfl 4 (by decide) (hg _ mw_51) (fun _ h9 => h9) rfl dX1_look_8 ?_
  refine lv_iload_n hx hb dX1_look_11 rfl (lv_at hl 0 rfl) ?_
  refine lv_iconst (v := 5) hx hb dX1_look_12 (by decide) ?_
  refine lv_imul hx hb dX1_look_13 ?_
  refine sf_topi (y := nI (1 * 5)) (pk_mul 1 5) ?_
  refine lv_iconst (v := 1) hx hb dX1_look_14 (by decide) ?_
  refine sf_topi (y := sf_b true) rfl ?_
  refine sf_zast hx hb hK hP hD hS 5 1 rfl rfl (1 * 5) rfl (by omega) (by decide) dX1_look_15 (fun H locs hP hD hS => ?_)
  have hP : va_P (dC, dI) vwCl [(a 0, .inr (1, [.ref (a 1), .ref (a 2), .ref (a 3), .ref (a 4), .ref (a 5), .ref (a 6), .ref (a 7)])), (a 1, .inl (cI, 12, .inl r.1)), (a 2, .inl (cI, 12, .inl r.2.1)), (a 3, .inl (cZ, 12, .inl (fun i9 => sf_b (r.2.2.1 i9)))), (a 4, .inl (cZ, 8, .inl (fun i9 => sf_b (r.2.2.2.1 i9)))), (a 5, .inl (cZ, 15, .inl (fun i9 => sf_b ((va_up (va_up r.2.2.2.2.1 (0 * 5) true) (1 * 5) true) i9)))), (a 6, .inl (cI, 3, .inl r.2.2.2.2.2.1)), (a 7, .inl (cI, 3, .inl r.2.2.2.2.2.2)), (hq, .inl (cZ, 24, .inl (fun i9 => sf_b (bt i9))))] H := hP
  have hD : va_D A [(a 0, .inr (1, [.ref (a 1), .ref (a 2), .ref (a 3), .ref (a 4), .ref (a 5), .ref (a 6), .ref (a 7)])), (a 1, .inl (cI, 12, .inl r.1)), (a 2, .inl (cI, 12, .inl r.2.1)), (a 3, .inl (cZ, 12, .inl (fun i9 => sf_b (r.2.2.1 i9)))), (a 4, .inl (cZ, 8, .inl (fun i9 => sf_b (r.2.2.2.1 i9)))), (a 5, .inl (cZ, 15, .inl (fun i9 => sf_b ((va_up (va_up r.2.2.2.2.1 (0 * 5) true) (1 * 5) true) i9)))), (a 6, .inl (cI, 3, .inl r.2.2.2.2.2.1)), (a 7, .inl (cI, 3, .inl r.2.2.2.2.2.2)), (hq, .inl (cZ, 24, .inl (fun i9 => sf_b (bt i9))))] := hD
  refine lv_iinc (v := 2) (lv' := [(2, .int 2), (0, .ref (a 0)), (1, .ref hq)]) hx hb dX1_look_16 hl (k := 0) rfl (by decide) (by decide) rfl (fun ls hl => ?_)
  refine lv_goto (tgt := 2) hx hb dX1_look_19 (by decide) ?_
  refine lv_iload_n hx hb dX1_look_2 rfl (lv_at hl 0 rfl) ?_
  refine lv_iconst (v := 3) hx hb dX1_look_3 (by decide) ?_
  refine lv_icmp_ge (tgt := 22) hx hb dX1_look_4 (by decide) (fun h => absurd h (by decide)) (fun _ => ?_)
  refine lv_aload_n hx hb dX1_look_7 rfl (lv_at hl 1 rfl) ?_
  refine va_get (D := (dC, dI)) (ci := 1) (v := .ref (a 5)) (C := RX1) (T := TX1) (N := 7) hx hb hg in_X1 hown hK hP 0 rfl rfl 4 (by decide) (hg _ mw_51) (fun _ h9 => h9) rfl dX1_look_8 ?_
  refine lv_iload_n hx hb dX1_look_11 rfl (lv_at hl 0 rfl) ?_
  refine lv_iconst (v := 5) hx hb dX1_look_12 (by decide) ?_
  refine lv_imul hx hb dX1_look_13 ?_
  refine sf_topi (y := nI (2 * 5)) (pk_mul 2 5) ?_
  refine lv_iconst (v := 1) hx hb dX1_look_14 (by decide) ?_
  refine sf_topi (y := sf_b true) rfl ?_
  refine sf_zast hx hb hK hP hD hS 5 1 rfl rfl (2 * 5) rfl (by omega) (by decide) dX1_look_15 (fun H locs hP hD hS => ?_)
  have hP : va_P (dC, dI) vwCl [(a 0, .inr (1, [.ref (a 1), .ref (a 2), .ref (a 3), .ref (a 4), .ref (a 5), .ref (a 6), .ref (a 7)])), (a 1, .inl (cI, 12, .inl r.1)), (a 2, .inl (cI, 12, .inl r.2.1)), (a 3, .inl (cZ, 12, .inl (fun i9 => sf_b (r.2.2.1 i9)))), (a 4, .inl (cZ, 8, .inl (fun i9 => sf_b (r.2.2.2.1 i9)))), (a 5, .inl (cZ, 15, .inl (fun i9 => sf_b ((va_up (va_up (va_up r.2.2.2.2.1 (0 * 5) true) (1 * 5) true) (2 * 5) true) i9)))), (a 6, .inl (cI, 3, .inl r.2.2.2.2.2.1)), (a 7, .inl (cI, 3, .inl r.2.2.2.2.2.2)), (hq, .inl (cZ, 24, .inl (fun i9 => sf_b (bt i9))))] H := hP
  have hD : va_D A [(a 0, .inr (1, [.ref (a 1), .ref (a 2), .ref (a 3), .ref (a 4), .ref (a 5), .ref (a 6), .ref (a 7)])), (a 1, .inl (cI, 12, .inl r.1)), (a 2, .inl (cI, 12, .inl r.2.1)), (a 3, .inl (cZ, 12, .inl (fun i9 => sf_b (r.2.2.1 i9)))), (a 4, .inl (cZ, 8, .inl (fun i9 => sf_b (r.2.2.2.1 i9)))), (a 5, .inl (cZ, 15, .inl (fun i9 => sf_b ((va_up (va_up (va_up r.2.2.2.2.1 (0 * 5) true) (1 * 5) true) (2 * 5) true) i9)))), (a 6, .inl (cI, 3, .inl r.2.2.2.2.2.1)), (a 7, .inl (cI, 3, .inl r.2.2.2.2.2.2)), (hq, .inl (cZ, 24, .inl (fun i9 => sf_b (bt i9))))] := hD
  refine lv_iinc (v := 3) (lv' := [(2, .int 3), (0, .ref (a 0)), (1, .ref hq)]) hx hb dX1_look_16 hl (k := 0) rfl (by decide) (by decide) rfl (fun ls hl => ?_)
  refine lv_goto (tgt := 2) hx hb dX1_look_19 (by decide) ?_
  refine lv_iload_n hx hb dX1_look_2 rfl (lv_at hl 0 rfl) ?_
  refine lv_iconst (v := 3) hx hb dX1_look_3 (by decide) ?_
  refine lv_icmp_ge (tgt := 22) hx hb dX1_look_4 (by decide) (fun _ => ?_) (fun h => absurd (by decide) h)
  refine lv_iconst (v := 0) hx hb dX1_look_22 (by decide) ?_
  refine lv_istore_n (lv' := [(2, .int 0), (0, .ref (a 0)), (1, .ref hq)]) hx hb dX1_look_23 rfl hl (by decide) rfl (fun ls hl => ?_)
  have hP : va_P (dC, dI) vwCl [(a 0, .inr (1, [.ref (a 1), .ref (a 2), .ref (a 3), .ref (a 4), .ref (a 5), .ref (a 6), .ref (a 7)])), (a 1, .inl (cI, 12, .inl ((fr_start r).1))), (a 2, .inl (cI, 12, .inl ((fr_start r).2.1))), (a 3, .inl (cZ, 12, .inl (fun i9 => sf_b (((fr_start r).2.2.1) i9)))), (a 4, .inl (cZ, 8, .inl (fun i9 => sf_b (((fr_start r).2.2.2.1) i9)))), (a 5, .inl (cZ, 15, .inl (fun i9 => sf_b (((fr_start r).2.2.2.2.1) i9)))), (a 6, .inl (cI, 3, .inl ((fr_start r).2.2.2.2.2.1))), (a 7, .inl (cI, 3, .inl ((fr_start r).2.2.2.2.2.2))), (hq, .inl (cZ, 24, .inl (fun i9 => sf_b (bt i9))))] H := hP
  have hD : va_D A [(a 0, .inr (1, [.ref (a 1), .ref (a 2), .ref (a 3), .ref (a 4), .ref (a 5), .ref (a 6), .ref (a 7)])), (a 1, .inl (cI, 12, .inl ((fr_start r).1))), (a 2, .inl (cI, 12, .inl ((fr_start r).2.1))), (a 3, .inl (cZ, 12, .inl (fun i9 => sf_b (((fr_start r).2.2.1) i9)))), (a 4, .inl (cZ, 8, .inl (fun i9 => sf_b (((fr_start r).2.2.2.1) i9)))), (a 5, .inl (cZ, 15, .inl (fun i9 => sf_b (((fr_start r).2.2.2.2.1) i9)))), (a 6, .inl (cI, 3, .inl ((fr_start r).2.2.2.2.2.1))), (a 7, .inl (cI, 3, .inl ((fr_start r).2.2.2.2.2.2))), (hq, .inl (cZ, 24, .inl (fun i9 => sf_b (bt i9))))] := hD
  have hl : lv_has ls 5 [(0, .ref (a 0)), (1, .ref hq), (2, .int (nI 0))] := lv_sub hl [1, 2, 0] rfl
  refine lv_iload_n hx hb dX1_look_24 rfl (lv_at hl 2 rfl) ?_
  refine lv_iconst (v := 4) hx hb dX1_look_25 (by decide) ?_
  refine lv_icmp_ge (tgt := 111) hx hb dX1_look_26 (by decide) (fun h => absurd h (by decide)) (fun _ => ?_)
  refine lk_col l dC dI cI cZ a hq bt hx hb hml hown hg hZ hK hA 0 (by decide) (fr_start r) (by simpa only [fr_cols, fr_start_cb] using hcb) hP hD hS hl (fun H locs ls hP hD hS hl => ?_)
  refine lv_iload_n hx hb dX1_look_24 rfl (lv_at hl 2 rfl) ?_
  refine lv_iconst (v := 4) hx hb dX1_look_25 (by decide) ?_
  refine lv_icmp_ge (tgt := 111) hx hb dX1_look_26 (by decide) (fun h => absurd h (by decide)) (fun _ => ?_)
  refine lk_col l dC dI cI cZ a hq bt hx hb hml hown hg hZ hK hA 1 (by decide) (fr_col (fr_start r) bt 0) (by simpa only [fr_cols, fr_start_cb] using hcb) hP hD hS hl (fun H locs ls hP hD hS hl => ?_)
  refine lv_iload_n hx hb dX1_look_24 rfl (lv_at hl 2 rfl) ?_
  refine lv_iconst (v := 4) hx hb dX1_look_25 (by decide) ?_
  refine lv_icmp_ge (tgt := 111) hx hb dX1_look_26 (by decide) (fun h => absurd h (by decide)) (fun _ => ?_)
  refine lk_col l dC dI cI cZ a hq bt hx hb hml hown hg hZ hK hA 2 (by decide) (fr_col (fr_col (fr_start r) bt 0) bt 1) (by simpa only [fr_cols, fr_start_cb] using hcb) hP hD hS hl (fun H locs ls hP hD hS hl => ?_)
  refine lv_iload_n hx hb dX1_look_24 rfl (lv_at hl 2 rfl) ?_
  refine lv_iconst (v := 4) hx hb dX1_look_25 (by decide) ?_
  refine lv_icmp_ge (tgt := 111) hx hb dX1_look_26 (by decide) (fun h => absurd h (by decide)) (fun _ => ?_)
  refine lk_col l dC dI cI cZ a hq bt hx hb hml hown hg hZ hK hA 3 (by decide) (fr_col (fr_col (fr_col (fr_start r) bt 0) bt 1) bt 2) (by simpa only [fr_cols, fr_start_cb] using hcb) hP hD hS hl (fun H locs ls hP hD hS hl => ?_)
  refine lv_iload_n hx hb dX1_look_24 rfl (lv_at hl 2 rfl) ?_
  refine lv_iconst (v := 4) hx hb dX1_look_25 (by decide) ?_
  refine lv_icmp_ge (tgt := 111) hx hb dX1_look_26 (by decide) (fun _ => ?_) (fun h => absurd (by decide) h)
  exact W.vret hx hb hr (fun t ht _ => ⟨rfl, by rw [ht]; exact hP, hAe ▸ hD, hAe ▸ hS.F ht⟩) (fun q hq => by rw [← hAe]; exact hS.2.2 q hq) dX1_look_111
