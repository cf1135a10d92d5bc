set_option maxHeartbeats 4000000 in
set_option maxRecDepth 100000 in
theorem c_X1_changeCell (l : Launch) (dC : Nat → ClassId) (dI : Nat → Nat → Nat) (cI cZ : ClassId) (a : Nat → Nat) (r : st_R) (row col : Nat) (k b : Int32) (sz : Nat) (hrow : row < 3) (hcol : col < 4) : Met l yX1_changeCell wX1_changeCell ({ frames := 2, cells := 0, slots := 0, locals := 42 }) (sf_PV (dC, dI) vwCl [(cI, .int), (cZ, .boolean)] (wp_R cI cZ a r) sz [.ref (a 0), .int (nI row), .int (nI col), .int k, .int b]) (sf_V (dC, dI) vwCl (some (.int (r.1 (row * 4 + col)))) (wp_R cI cZ a r) (wp_R cI cZ a (fr_cell r (row * 4 + col) k b))) 0 0 (va_A (wp_R cI cZ a r) sz) := by
  refine Met.ofW (cc := cX1_changeCell) (maxL := 7) (ret := (some .int)) (by decide) rfl ?_
  intro p e s m args below meth c s₁ B hml hv
  have hx := B.exec
  have hb := B.bytes
  have hr := B.returns
  have hts := atoms_spec (ws := wX1_changeCell) B.pre
  have hg : ∀ w ∈ gw_all, w.before args s = true := fun w h => hts w (List.mem_cons_of_mem _ h)
  have hown : s.vm.findClass RX1 = some m.cls := findClass_of_methodNamed B.named
  have hlocks := B.notSynchronized
  obtain ⟨rfl, hsz, hP, hD0, hK, hZ⟩ := hv
  subst hsz
  have hl := lv_entry ([.ref (a 0), .int (nI row), .int (nI col), .int k, .int b]) (n := 7) (Nat.le_of_ble_eq_true rfl)
  rw [lg_entry_eq]
  generalize (lg_sl ([.ref (a 0), .int (nI row), .int (nI col), .int k, .int b]) ++ List.replicate (7 - (lg_sl ([.ref (a 0), .int (nI row), .int (nI col), .int k, .int b])).length) Slot.unset).toArray = ls at hl ⊢
  have hl : lv_has ls 7 [(0, .ref (a 0)), (1, .int (nI row)), (2, .int (nI col)), (3, .int k), (4, .int b)] := hl
  obtain ⟨A, hAe⟩ : ∃ A : Nat → Prop, A = va_A (wp_R cI cZ a r) s.heap.size := ⟨_, rfl⟩
  have hD := hD0.self (sz := s.heap.size)
  rw [← hAe] at hD
  have hA : ∀ q : Nat, s.heap.size ≤ q → A q := fun q h => by rw [hAe]; exact Or.inr h
  have hS : va_S A s.heap s.heap [] := va_S.rf
  have hP : va_P (dC, dI) vwCl [(a 0, .inr (1, [.ref (a 1), .ref (a 2), .ref (a 3), .ref (a 4), .ref (a 5), .ref (a 6), .ref (a 7)])), (a 1, .inl (cI, 12, .inl r.1)), (a 2, .inl (cI, 12, .inl r.2.1)), (a 3, .inl (cZ, 12, .inl (fun i9 => sf_b (r.2.2.1 i9)))), (a 4, .inl (cZ, 8, .inl (fun i9 => sf_b (r.2.2.2.1 i9)))), (a 5, .inl (cZ, 15, .inl (fun i9 => sf_b (r.2.2.2.2.1 i9)))), (a 6, .inl (cI, 3, .inl r.2.2.2.2.2.1)), (a 7, .inl (cI, 3, .inl r.2.2.2.2.2.2))] s.heap := hP
  have hD : va_D A [(a 0, .inr (1, [.ref (a 1), .ref (a 2), .ref (a 3), .ref (a 4), .ref (a 5), .ref (a 6), .ref (a 7)])), (a 1, .inl (cI, 12, .inl r.1)), (a 2, .inl (cI, 12, .inl r.2.1)), (a 3, .inl (cZ, 12, .inl (fun i9 => sf_b (r.2.2.1 i9)))), (a 4, .inl (cZ, 8, .inl (fun i9 => sf_b (r.2.2.2.1 i9)))), (a 5, .inl (cZ, 15, .inl (fun i9 => sf_b (r.2.2.2.2.1 i9)))), (a 6, .inl (cI, 3, .inl r.2.2.2.2.2.1)), (a 7, .inl (cI, 3, .inl r.2.2.2.2.2.2))] := hD
  refine lv_iload_n hx hb dX1_changeCell_0 rfl (lv_at hl 1 rfl) ?_
  refine lv_iconst (v := 4) hx hb dX1_changeCell_1 (by decide) ?_
  refine lv_imul hx hb dX1_changeCell_2 ?_
  refine sf_topi (y := nI (row * 4)) (pk_mul row 4) ?_
  refine lv_iload_n hx hb dX1_changeCell_3 rfl (lv_at hl 2 rfl) ?_
  refine lv_iadd hx hb dX1_changeCell_4 ?_
  refine sf_topi (y := nI (row * 4 + col)) (nI_add (row * 4) col) ?_
  refine lv_istore (lv' := [(5, .int (nI (row * 4 + col))), (0, .ref (a 0)), (1, .int (nI row)), (2, .int (nI col)), (3, .int k), (4, .int b)]) hx hb dX1_changeCell_5 hl (by decide) rfl (fun ls hl => ?_)
  refine lv_aload_n hx hb dX1_changeCell_7 rfl (lv_at hl 1 rfl) ?_
  refine va_get (D := (dC, dI)) (ci := 1) (v := .ref (a 1)) (C := RX1) (T := TX1) (N := 7) hx hb hg in_X1 hown hK hP 0 rfl rfl 0 (by decide) (hg _ mw_47) (fun _ h9 => h9) rfl dX1_changeCell_8 ?_
  refine lv_iload hx hb dX1_changeCell_11 (lv_at hl 0 rfl) ?_
  refine sf_iald hx hb hK hP 1 0 rfl rfl (row * 4 + col) rfl (by omega) (by decide) dX1_changeCell_13 ?_
  refine lv_istore (lv' := [(6, .int (r.1 (row * 4 + col))), (5, .int (nI (row * 4 + col))), (0, .ref (a 0)), (1, .int (nI row)), (2, .int (nI col)), (3, .int k), (4, .int b)]) hx hb dX1_changeCell_14 hl (by decide) rfl (fun ls hl => ?_)
  refine lv_aload_n hx hb dX1_changeCell_16 rfl (lv_at hl 2 rfl) ?_
  refine va_get (D := (dC, dI)) (ci := 1) (v := .ref (a 1)) (C := RX1) (T := TX1) (N := 7) hx hb hg in_X1 hown hK hP 0 rfl rfl 0 (by decide) (hg _ mw_47) (fun _ h9 => h9) rfl dX1_changeCell_17 ?_
  refine lv_iload hx hb dX1_changeCell_20 (lv_at hl 1 rfl) ?_
  refine lv_iload_n hx hb dX1_changeCell_22 rfl (lv_at hl 5 rfl) ?_
  refine sf_iast hx hb hK hP hD hS 1 0 rfl rfl (row * 4 + col) rfl (by omega) (by decide) dX1_changeCell_23 (fun H locs hP hD hS => ?_)
  have hP : va_P (dC, dI) vwCl [(a 0, .inr (1, [.ref (a 1), .ref (a 2), .ref (a 3), .ref (a 4), .ref (a 5), .ref (a 6), .ref (a 7)])), (a 1, .inl (cI, 12, .inl (va_up r.1 (row * 4 + col) k))), (a 2, .inl (cI, 12, .inl r.2.1)), (a 3, .inl (cZ, 12, .inl (fun i9 => sf_b (r.2.2.1 i9)))), (a 4, .inl (cZ, 8, .inl (fun i9 => sf_b (r.2.2.2.1 i9)))), (a 5, .inl (cZ, 15, .inl (fun i9 => sf_b (r.2.2.2.2.1 i9)))), (a 6, .inl (cI, 3, .inl r.2.2.2.2.2.1)), (a 7, .inl (cI, 3, .inl r.2.2.2.2.2.2))] H := hP
  have hD : va_D A [(a 0, .inr (1, [.ref (a 1), .ref (a 2), .ref (a 3), .ref (a 4), .ref (a 5), .ref (a 6), .ref (a 7)])), (a 1, .inl (cI, 12, .inl (va_up r.1 (row * 4 + col) k))), (a 2, .inl (cI, 12, .inl r.2.1)), (a 3, .inl (cZ, 12, .inl (fun i9 => sf_b (r.2.2.1 i9)))), (a 4, .inl (cZ, 8, .inl (fun i9 => sf_b (r.2.2.2.1 i9)))), (a 5, .inl (cZ, 15, .inl (fun i9 => sf_b (r.2.2.2.2.1 i9)))), (a 6, .inl (cI, 3, .inl r.2.2.2.2.2.1)), (a 7, .inl (cI, 3, .inl r.2.2.2.2.2.2))] := hD
  refine lv_aload_n hx hb dX1_changeCell_24 rfl (lv_at hl 2 rfl) ?_
  refine va_get (D := (dC, dI)) (ci := 1) (v := .ref (a 2)) (C := RX1) (T := TX1) (N := 7) hx hb hg in_X1 hown hK hP 0 rfl rfl 1 (by decide) (hg _ mw_48) (fun _ h9 => h9) rfl dX1_changeCell_25 ?_
  refine lv_iload hx hb dX1_changeCell_28 (lv_at hl 1 rfl) ?_
  refine lv_iload_n hx hb dX1_changeCell_30 rfl (lv_at hl 5 rfl) ?_
  refine sf_callRi (va_runSN (As := [.int k]) (rest := [.int (nI (row * 4 + col)), .ref (a 2)]) ⟨hx, hb, hml, hown, hg⟩ (c_X2_looksAtBit l k) ⟨(va_cnB 1 hg (gw_C mw_162) rfl rfl rfl (hZ (.methodLinkNest RX1 34 yX2_looksAtBit RX2) (by decide +kernel)) (hg _ mw_21) (by decide +kernel) ⟨Nat.le_of_ble_eq_true rfl, Nat.le_of_ble_eq_true rfl⟩), hg _ mw_161, trivial⟩ sf_pre0 rfl rfl hl.1 rfl (lv_room (Nat.le_of_ble_eq_true rfl)) dX1_changeCell_31 ⟨Nat.zero_le _, Nat.zero_le _⟩) ?_
  refine sf_ifeq (tgt := 42) hx hb dX1_changeCell_34 (by decide) (fun c_1 => ?_) (fun c_1 => ?_)
  · refine lv_iconst (v := 0) hx hb dX1_changeCell_42 (by decide) ?_
    refine sf_iast hx hb hK hP hD hS 2 0 rfl rfl (row * 4 + col) rfl (by omega) (by decide) dX1_changeCell_43 (fun H locs hP hD hS => ?_)
    have hP : va_P (dC, dI) vwCl [(a 0, .inr (1, [.ref (a 1), .ref (a 2), .ref (a 3), .ref (a 4), .ref (a 5), .ref (a 6), .ref (a 7)])), (a 1, .inl (cI, 12, .inl (va_up r.1 (row * 4 + col) k))), (a 2, .inl (cI, 12, .inl (va_up r.2.1 (row * 4 + col) 0))), (a 3, .inl (cZ, 12, .inl (fun i9 => sf_b (r.2.2.1 i9)))), (a 4, .inl (cZ, 8, .inl (fun i9 => sf_b (r.2.2.2.1 i9)))), (a 5, .inl (cZ, 15, .inl (fun i9 => sf_b (r.2.2.2.2.1 i9)))), (a 6, .inl (cI, 3, .inl r.2.2.2.2.2.1)), (a 7, .inl (cI, 3, .inl r.2.2.2.2.2.2))] H := hP
    have hD : va_D A [(a 0, .inr (1, [.ref (a 1), .ref (a 2), .ref (a 3), .ref (a 4), .ref (a 5), .ref (a 6), .ref (a 7)])), (a 1, .inl (cI, 12, .inl (va_up r.1 (row * 4 + col) k))), (a 2, .inl (cI, 12, .inl (va_up r.2.1 (row * 4 + col) 0))), (a 3, .inl (cZ, 12, .inl (fun i9 => sf_b (r.2.2.1 i9)))), (a 4, .inl (cZ, 8, .inl (fun i9 => sf_b (r.2.2.2.1 i9)))), (a 5, .inl (cZ, 15, .inl (fun i9 => sf_b (r.2.2.2.2.1 i9)))), (a 6, .inl (cI, 3, .inl r.2.2.2.2.2.1)), (a 7, .inl (cI, 3, .inl r.2.2.2.2.2.2))] := hD
    refine lv_aload_n hx hb dX1_changeCell_44 rfl (lv_at hl 2 rfl) ?_
    refine va_get (D := (dC, dI)) (ci := 1) (v := .ref (a 3)) (C := RX1) (T := TX1) (N := 7) hx hb hg in_X1 hown hK hP 0 rfl rfl 2 (by decide) (hg _ mw_49) (fun _ h9 => h9) rfl dX1_changeCell_45 ?_
    refine lv_iload hx hb dX1_changeCell_48 (lv_at hl 1 rfl) ?_
    refine lv_iconst (v := 0) hx hb dX1_changeCell_50 (by decide) ?_
    refine sf_topi (y := sf_b false) rfl ?_
    refine sf_zast hx hb hK hP hD hS 3 1 rfl rfl (row * 4 + col) rfl (by omega) (by decide) dX1_changeCell_51 (fun H locs hP hD hS => ?_)
    have hP : va_P (dC, dI) vwCl [(a 0, .inr (1, [.ref (a 1), .ref (a 2), .ref (a 3), .ref (a 4), .ref (a 5), .ref (a 6), .ref (a 7)])), (a 1, .inl (cI, 12, .inl (va_up r.1 (row * 4 + col) k))), (a 2, .inl (cI, 12, .inl (va_up r.2.1 (row * 4 + col) 0))), (a 3, .inl (cZ, 12, .inl (fun i9 => sf_b ((va_up r.2.2.1 (row * 4 + col) false) i9)))), (a 4, .inl (cZ, 8, .inl (fun i9 => sf_b (r.2.2.2.1 i9)))), (a 5, .inl (cZ, 15, .inl (fun i9 => sf_b (r.2.2.2.2.1 i9)))), (a 6, .inl (cI, 3, .inl r.2.2.2.2.2.1)), (a 7, .inl (cI, 3, .inl r.2.2.2.2.2.2))] H := hP
    have hD : va_D A [(a 0, .inr (1, [.ref (a 1), .ref (a 2), .ref (a 3), .ref (a 4), .ref (a 5), .ref (a 6), .ref (a 7)])), (a 1, .inl (cI, 12, .inl (va_up r.1 (row * 4 + col) k))), (a 2, .inl (cI, 12, .inl (va_up r.2.1 (row * 4 + col) 0))), (a 3, .inl (cZ, 12, .inl (fun i9 => sf_b ((va_up r.2.2.1 (row * 4 + col) false) i9)))), (a 4, .inl (cZ, 8, .inl (fun i9 => sf_b (r.2.2.2.1 i9)))), (a 5, .inl (cZ, 15, .inl (fun i9 => sf_b (r.2.2.2.2.1 i9)))), (a 6, .inl (cI, 3, .inl r.2.2.2.2.2.1)), (a 7, .inl (cI, 3, .inl r.2.2.2.2.2.2))] := hD
    refine lv_iload hx hb dX1_changeCell_52 (lv_at hl 0 rfl) ?_
    have hP9 : va_P (dC, dI) vwCl (wp_R cI cZ a (fr_cell r (row * 4 + col) k b)) H := by
      rw [show fr_cell r (row * 4 + col) k b = (va_up r.1 (row * 4 + col) k, va_up r.2.1 (row * 4 + col) 0, va_up r.2.2.1 (row * 4 + col) false, r.2.2.2.1, r.2.2.2.2.1, r.2.2.2.2.2.1, r.2.2.2.2.2.2) from by first | rfl | (simp [fr_cell, c_1]; done)]
      exact hP
    have hD9 : va_D A (wp_R cI cZ a (fr_cell r (row * 4 + col) k b)) := by
      rw [show fr_cell r (row * 4 + col) k b = (va_up r.1 (row * 4 + col) k, va_up r.2.1 (row * 4 + col) 0, va_up r.2.2.1 (row * 4 + col) false, r.2.2.2.1, r.2.2.2.2.1, r.2.2.2.2.2.1, r.2.2.2.2.2.2) from by first | rfl | (simp [fr_cell, c_1]; done)]
      exact hD
    exact W.iret hx hb hr (fun t ht _ => ⟨rfl, by rw [ht]; exact hP9, hAe ▸ hD9, hAe ▸ hS.F ht⟩) (fun q hq => by rw [← hAe]; exact hS.2.2 q hq) dX1_changeCell_54
  · refine lv_iload hx hb dX1_changeCell_37 (lv_at hl 6 rfl) ?_
    refine lv_goto (tgt := 43) hx hb dX1_changeCell_39 (by decide) ?_
    refine sf_iast hx hb hK hP hD hS 2 0 rfl rfl (row * 4 + col) rfl (by omega) (by decide) dX1_changeCell_43 (fun H locs hP hD hS => ?_)
    have hP : va_P (dC, dI) vwCl [(a 0, .inr (1, [.ref (a 1), .ref (a 2), .ref (a 3), .ref (a 4), .ref (a 5), .ref (a 6), .ref (a 7)])), (a 1, .inl (cI, 12, .inl (va_up r.1 (row * 4 + col) k))), (a 2, .inl (cI, 12, .inl (va_up r.2.1 (row * 4 + col) b))), (a 3, .inl (cZ, 12, .inl (fun i9 => sf_b (r.2.2.1 i9)))), (a 4, .inl (cZ, 8, .inl (fun i9 => sf_b (r.2.2.2.1 i9)))), (a 5, .inl (cZ, 15, .inl (fun i9 => sf_b (r.2.2.2.2.1 i9)))), (a 6, .inl (cI, 3, .inl r.2.2.2.2.2.1)), (a 7, .inl (cI, 3, .inl r.2.2.2.2.2.2))] H := hP
    have hD : va_D A [(a 0, .inr (1, [.ref (a 1), .ref (a 2), .ref (a 3), .ref (a 4), .ref (a 5), .ref (a 6), .ref (a 7)])), (a 1, .inl (cI, 12, .inl (va_up r.1 (row * 4 + col) k))), (a 2, .inl (cI, 12, .inl (va_up r.2.1 (row * 4 + col) b))), (a 3, .inl (cZ, 12, .inl (fun i9 => sf_b (r.2.2.1 i9)))), (a 4, .inl (cZ, 8, .inl (fun i9 => sf_b (r.2.2.2.1 i9)))), (a 5, .inl (cZ, 15, .inl (fun i9 => sf_b (r.2.2.2.2.1 i9)))), (a 6, .inl (cI, 3, .inl r.2.2.2.2.2.1)), (a 7, .inl (cI, 3, .inl r.2.2.2.2.2.2))] := hD
    refine lv_aload_n hx hb dX1_changeCell_44 rfl (lv_at hl 2 rfl) ?_
    refine va_get (D := (dC, dI)) (ci := 1) (v := .ref (a 3)) (C := RX1) (T := TX1) (N := 7) hx hb hg in_X1 hown hK hP 0 rfl rfl 2 (by decide) (hg _ mw_49) (fun _ h9 => h9) rfl dX1_changeCell_45 ?_
    refine lv_iload hx hb dX1_changeCell_48 (lv_at hl 1 rfl) ?_
    refine lv_iconst (v := 0) hx hb dX1_changeCell_50 (by decide) ?_
    refine sf_topi (y := sf_b false) rfl ?_
    refine sf_zast hx hb hK hP hD hS 3 1 rfl rfl (row * 4 + col) rfl (by omega) (by decide) dX1_changeCell_51 (fun H locs hP hD hS => ?_)
    have hP : va_P (dC, dI) vwCl [(a 0, .inr (1, [.ref (a 1), .ref (a 2), .ref (a 3), .ref (a 4), .ref (a 5), .ref (a 6), .ref (a 7)])), (a 1, .inl (cI, 12, .inl (va_up r.1 (row * 4 + col) k))), (a 2, .inl (cI, 12, .inl (va_up r.2.1 (row * 4 + col) b))), (a 3, .inl (cZ, 12, .inl (fun i9 => sf_b ((va_up r.2.2.1 (row * 4 + col) false) i9)))), (a 4, .inl (cZ, 8, .inl (fun i9 => sf_b (r.2.2.2.1 i9)))), (a 5, .inl (cZ, 15, .inl (fun i9 => sf_b (r.2.2.2.2.1 i9)))), (a 6, .inl (cI, 3, .inl r.2.2.2.2.2.1)), (a 7, .inl (cI, 3, .inl r.2.2.2.2.2.2))] H := hP
    have hD : va_D A [(a 0, .inr (1, [.ref (a 1), .ref (a 2), .ref (a 3), .ref (a 4), .ref (a 5), .ref (a 6), .ref (a 7)])), (a 1, .inl (cI, 12, .inl (va_up r.1 (row * 4 + col) k))), (a 2, .inl (cI, 12, .inl (va_up r.2.1 (row * 4 + col) b))), (a 3, .inl (cZ, 12, .inl (fun i9 => sf_b ((va_up r.2.2.1 (row * 4 + col) false) i9)))), (a 4, .inl (cZ, 8, .inl (fun i9 => sf_b (r.2.2.2.1 i9)))), (a 5, .inl (cZ, 15, .inl (fun i9 => sf_b (r.2.2.2.2.1 i9)))), (a 6, .inl (cI, 3, .inl r.2.2.2.2.2.1)), (a 7, .inl (cI, 3, .inl r.2.2.2.2.2.2))] := hD
    refine lv_iload hx hb dX1_changeCell_52 (lv_at hl 0 rfl) ?_
    have hP9 : va_P (dC, dI) vwCl (wp_R cI cZ a (fr_cell r (row * 4 + col) k b)) H := by
      rw [show fr_cell r (row * 4 + col) k b = (va_up r.1 (row * 4 + col) k, va_up r.2.1 (row * 4 + col) b, va_up r.2.2.1 (row * 4 + col) false, r.2.2.2.1, r.2.2.2.2.1, r.2.2.2.2.2.1, r.2.2.2.2.2.2) from by first | rfl | (simp [fr_cell, c_1]; done)]
      exact hP
    have hD9 : va_D A (wp_R cI cZ a (fr_cell r (row * 4 + col) k b)) := by
      rw [show fr_cell r (row * 4 + col) k b = (va_up r.1 (row * 4 + col) k, va_up r.2.1 (row * 4 + col) b, va_up r.2.2.1 (row * 4 + col) false, r.2.2.2.1, r.2.2.2.2.1, r.2.2.2.2.2.1, r.2.2.2.2.2.2) from by first | rfl | (simp [fr_cell, c_1]; done)]
      exact hD
    exact W.iret hx hb hr (fun t ht _ => ⟨rfl, by rw [ht]; exact hP9, hAe ▸ hD9, hAe ▸ hS.F ht⟩) (fun q hq => by rw [← hAe]; exact hS.2.2 q hq) dX1_changeCell_54
set_option maxHeartbeats 4000000 in
set_option maxRecDepth 100000 in
theorem c_X1_changeLink (l : Launch) (dC : Nat → ClassId) (dI : Nat → Nat → Nat) (cI cZ : ClassId) (a : Nat → Nat) (r : st_R) (row col : Nat) (x : Bool) (sz : Nat) (hrow : row < 2) (hcol : col < 4) : Met l yX1_changeLink wX1_changeLink ({ frames := 0, cells := 0, slots := 0, locals := 0 }) (sf_PV (dC, dI) vwCl [(cI, .int), (cZ, .boolean)] (wp_R cI cZ a r) sz [.ref (a 0), .int (nI row), .int (nI col), .int (sf_b x)]) (sf_V (dC, dI) vwCl (some (.int (sf_b (r.2.2.2.1 (row * 4 + col))))) (wp_R cI cZ a r) (wp_R cI cZ a (fr_link r (row * 4 + col) x))) 0 0 (va_A (wp_R cI cZ a r) sz) := by
  refine Met.ofW (cc := cX1_changeLink) (maxL := 6) (ret := (some .boolean)) (by decide) rfl ?_
  intro p e s m args below meth c s₁ B hml hv
  have hx := B.exec
  have hb := B.bytes
  have hr := B.returns
  have hts := atoms_spec (ws := wX1_changeLink) B.pre
  have hg : ∀ w ∈ gw_all, w.before args s = true := fun w h => hts w (List.mem_cons_of_mem _ h)
  have hown : s.vm.findClass RX1 = some m.cls := findClass_of_methodNamed B.named
  have hlocks := B.notSynchronized
  obtain ⟨rfl, hsz, hP, hD0, hK, hZ⟩ := hv
  subst hsz
  have hl := lv_entry ([.ref (a 0), .int (nI row), .int (nI col), .int (sf_b x)]) (n := 6) (Nat.le_of_ble_eq_true rfl)
  rw [lg_entry_eq]
  generalize (lg_sl ([.ref (a 0), .int (nI row), .int (nI col), .int (sf_b x)]) ++ List.replicate (6 - (lg_sl ([.ref (a 0), .int (nI row), .int (nI col), .int (sf_b x)])).length) Slot.unset).toArray = ls at hl ⊢
  have hl : lv_has ls 6 [(0, .ref (a 0)), (1, .int (nI row)), (2, .int (nI col)), (3, .int (sf_b x))] := hl
  obtain ⟨A, hAe⟩ : ∃ A : Nat → Prop, A = va_A (wp_R cI cZ a r) s.heap.size := ⟨_, rfl⟩
  have hD := hD0.self (sz := s.heap.size)
  rw [← hAe] at hD
  have hA : ∀ q : Nat, s.heap.size ≤ q → A q := fun q h => by rw [hAe]; exact Or.inr h
  have hS : va_S A s.heap s.heap [] := va_S.rf
  have hP : va_P (dC, dI) vwCl [(a 0, .inr (1, [.ref (a 1), .ref (a 2), .ref (a 3), .ref (a 4), .ref (a 5), .ref (a 6), .ref (a 7)])), (a 1, .inl (cI, 12, .inl r.1)), (a 2, .inl (cI, 12, .inl r.2.1)), (a 3, .inl (cZ, 12, .inl (fun i9 => sf_b (r.2.2.1 i9)))), (a 4, .inl (cZ, 8, .inl (fun i9 => sf_b (r.2.2.2.1 i9)))), (a 5, .inl (cZ, 15, .inl (fun i9 => sf_b (r.2.2.2.2.1 i9)))), (a 6, .inl (cI, 3, .inl r.2.2.2.2.2.1)), (a 7, .inl (cI, 3, .inl r.2.2.2.2.2.2))] s.heap := hP
  have hD : va_D A [(a 0, .inr (1, [.ref (a 1), .ref (a 2), .ref (a 3), .ref (a 4), .ref (a 5), .ref (a 6), .ref (a 7)])), (a 1, .inl (cI, 12, .inl r.1)), (a 2, .inl (cI, 12, .inl r.2.1)), (a 3, .inl (cZ, 12, .inl (fun i9 => sf_b (r.2.2.1 i9)))), (a 4, .inl (cZ, 8, .inl (fun i9 => sf_b (r.2.2.2.1 i9)))), (a 5, .inl (cZ, 15, .inl (fun i9 => sf_b (r.2.2.2.2.1 i9)))), (a 6, .inl (cI, 3, .inl r.2.2.2.2.2.1)), (a 7, .inl (cI, 3, .inl r.2.2.2.2.2.2))] := hD
  refine lv_iload_n hx hb dX1_changeLink_0 rfl (lv_at hl 1 rfl) ?_
  refine lv_iconst (v := 4) hx hb dX1_changeLink_1 (by decide) ?_
  refine lv_imul hx hb dX1_changeLink_2 ?_
  refine sf_topi (y := nI (row * 4)) (pk_mul row 4) ?_
  refine lv_iload_n hx hb dX1_changeLink_3 rfl (lv_at hl 2 rfl) ?_
  refine lv_iadd hx hb dX1_changeLink_4 ?_
  refine sf_topi (y := nI (row * 4 + col)) (nI_add (row * 4) col) ?_
  refine lv_istore (lv' := [(4, .int (nI (row * 4 + col))), (0, .ref (a 0)), (1, .int (nI row)), (2, .int (nI col)), (3, .int (sf_b x))]) hx hb dX1_changeLink_5 hl (by decide) rfl (fun ls hl => ?_)
  refine lv_aload_n hx hb dX1_changeLink_7 rfl (lv_at hl 1 rfl) ?_
  refine va_get (D := (dC, dI)) (ci := 1) (v := .ref (a 4)) (C := RX1) (T := TX1) (N := 7) hx hb hg in_X1 hown hK hP 0 rfl rfl 3 (by decide) (hg _ mw_50) (fun _ h9 => h9) rfl dX1_changeLink_8 ?_
  refine lv_iload hx hb dX1_changeLink_11 (lv_at hl 0 rfl) ?_
  refine sf_zald hx hb hK hP 4 1 rfl rfl (row * 4 + col) rfl (by omega) (by decide) dX1_changeLink_13 ?_
  refine lv_istore (lv' := [(5, .int (sf_b (r.2.2.2.1 (row * 4 + col)))), (4, .int (nI (row * 4 + col))), (0, .ref (a 0)), (1, .int (nI row)), (2, .int (nI col)), (3, .int (sf_b x))]) hx hb dX1_changeLink_14 hl (by decide) rfl (fun ls hl => ?_)
  refine lv_aload_n hx hb dX1_changeLink_16 rfl (lv_at hl 2 rfl) ?_
  refine va_get (D := (dC, dI)) (ci := 1) (v := .ref (a 4)) (C := RX1) (T := TX1) (N := 7) hx hb hg in_X1 hown hK hP 0 rfl rfl 3 (by decide) (hg _ mw_50) (fun _ h9 => h9) rfl dX1_changeLink_17 ?_
  refine lv_iload hx hb dX1_changeLink_20 (lv_at hl 1 rfl) ?_
  refine lv_iload_n hx hb dX1_changeLink_22 rfl (lv_at hl 5 rfl) ?_
  refine sf_zast hx hb hK hP hD hS 4 1 rfl rfl (row * 4 + col) rfl (by omega) (by decide) dX1_changeLink_23 (fun H locs hP hD hS => ?_)
  have hP : va_P (dC, dI) vwCl [(a 0, .inr (1, [.ref (a 1), .ref (a 2), .ref (a 3), .ref (a 4), .ref (a 5), .ref (a 6), .ref (a 7)])), (a 1, .inl (cI, 12, .inl r.1)), (a 2, .inl (cI, 12, .inl r.2.1)), (a 3, .inl (cZ, 12, .inl (fun i9 => sf_b (r.2.2.1 i9)))), (a 4, .inl (cZ, 8, .inl (fun i9 => sf_b ((va_up r.2.2.2.1 (row * 4 + col) x) i9)))), (a 5, .inl (cZ, 15, .inl (fun i9 => sf_b (r.2.2.2.2.1 i9)))), (a 6, .inl (cI, 3, .inl r.2.2.2.2.2.1)), (a 7, .inl (cI, 3, .inl r.2.2.2.2.2.2))] H := hP
  have hD : va_D A [(a 0, .inr (1, [.ref (a 1), .ref (a 2), .ref (a 3), .ref (a 4), .ref (a 5), .ref (a 6), .ref (a 7)])), (a 1, .inl (cI, 12, .inl r.1)), (a 2, .inl (cI, 12, .inl r.2.1)), (a 3, .inl (cZ, 12, .inl (fun i9 => sf_b (r.2.2.1 i9)))), (a 4, .inl (cZ, 8, .inl (fun i9 => sf_b ((va_up r.2.2.2.1 (row * 4 + col) x) i9)))), (a 5, .inl (cZ, 15, .inl (fun i9 => sf_b (r.2.2.2.2.1 i9)))), (a 6, .inl (cI, 3, .inl r.2.2.2.2.2.1)), (a 7, .inl (cI, 3, .inl r.2.2.2.2.2.2))] := hD
  refine lv_iload hx hb dX1_changeLink_24 (lv_at hl 0 rfl) ?_
  have hP9 : va_P (dC, dI) vwCl (wp_R cI cZ a (fr_link r (row * 4 + col) x)) H := by
    rw [show fr_link r (row * 4 + col) x = (r.1, r.2.1, r.2.2.1, va_up r.2.2.2.1 (row * 4 + col) x, r.2.2.2.2.1, r.2.2.2.2.2.1, r.2.2.2.2.2.2) from by first | rfl | (simp [fr_link]; done)]
    exact hP
  have hD9 : va_D A (wp_R cI cZ a (fr_link r (row * 4 + col) x)) := by
    rw [show fr_link r (row * 4 + col) x = (r.1, r.2.1, r.2.2.1, va_up r.2.2.2.1 (row * 4 + col) x, r.2.2.2.2.1, r.2.2.2.2.2.1, r.2.2.2.2.2.2) from by first | rfl | (simp [fr_link]; done)]
    exact hD
  exact W.zret hx hb hr (sf_b_nb _) (fun t ht _ => ⟨rfl, by rw [ht]; exact hP9, hAe ▸ hD9, hAe ▸ hS.F ht⟩) (fun q hq => by rw [← hAe]; exact hS.2.2 q hq) dX1_changeLink_26
set_option maxHeartbeats 4000000 in
set_option maxRecDepth 100000 in
theorem c_X1_changeCoil (l : Launch) (dC : Nat → ClassId) (dI : Nat → Nat → Nat) (cI cZ : ClassId) (a : Nat → Nat) (r : st_R) (row : Nat) (k n : Int32) (sz : Nat) (hrow : row < 3) : Met l yX1_changeCoil wX1_changeCoil ({ frames := 0, cells := 0, slots := 0, locals := 0 }) (sf_PV (dC, dI) vwCl [(cI, .int), (cZ, .boolean)] (wp_R cI cZ a r) sz [.ref (a 0), .int (nI row), .int k, .int n]) (sf_V (dC, dI) vwCl (some (.int (r.2.2.2.2.2.1 row))) (wp_R cI cZ a r) (wp_R cI cZ a (fr_coil r row k n))) 0 0 (va_A (wp_R cI cZ a r) sz) := by
  refine Met.ofW (cc := cX1_changeCoil) (maxL := 5) (ret := (some .int)) (by decide) rfl ?_
  intro p e s m args below meth c s₁ B hml hv
  have hx := B.exec
  have hb := B.bytes
  have hr := B.returns
  have hts := atoms_spec (ws := wX1_changeCoil) B.pre
  have hg : ∀ w ∈ gw_all, w.before args s = true := fun w h => hts w (List.mem_cons_of_mem _ h)
  have hown : s.vm.findClass RX1 = some m.cls := findClass_of_methodNamed B.named
  have hlocks := B.notSynchronized
  obtain ⟨rfl, hsz, hP, hD0, hK, hZ⟩ := hv
  subst hsz
  have hl := lv_entry ([.ref (a 0), .int (nI row), .int k, .int n]) (n := 5) (Nat.le_of_ble_eq_true rfl)
  rw [lg_entry_eq]
  generalize (lg_sl ([.ref (a 0), .int (nI row), .int k, .int n]) ++ List.replicate (5 - (lg_sl ([.ref (a 0), .int (nI row), .int k, .int n])).length) Slot.unset).toArray = ls at hl ⊢
  have hl : lv_has ls 5 [(0, .ref (a 0)), (1, .int (nI row)), (2, .int k), (3, .int n)] := hl
  obtain ⟨A, hAe⟩ : ∃ A : Nat → Prop, A = va_A (wp_R cI cZ a r) s.heap.size := ⟨_, rfl⟩
  have hD := hD0.self (sz := s.heap.size)
  rw [← hAe] at hD
  have hA : ∀ q : Nat, s.heap.size ≤ q → A q := fun q h => by rw [hAe]; exact Or.inr h
  have hS : va_S A s.heap s.heap [] := va_S.rf
  have hP : va_P (dC, dI) vwCl [(a 0, .inr (1, [.ref (a 1), .ref (a 2), .ref (a 3), .ref (a 4), .ref (a 5), .ref (a 6), .ref (a 7)])), (a 1, .inl (cI, 12, .inl r.1)), (a 2, .inl (cI, 12, .inl r.2.1)), (a 3, .inl (cZ, 12, .inl (fun i9 => sf_b (r.2.2.1 i9)))), (a 4, .inl (cZ, 8, .inl (fun i9 => sf_b (r.2.2.2.1 i9)))), (a 5, .inl (cZ, 15, .inl (fun i9 => sf_b (r.2.2.2.2.1 i9)))), (a 6, .inl (cI, 3, .inl r.2.2.2.2.2.1)), (a 7, .inl (cI, 3, .inl r.2.2.2.2.2.2))] s.heap := hP
  have hD : va_D A [(a 0, .inr (1, [.ref (a 1), .ref (a 2), .ref (a 3), .ref (a 4), .ref (a 5), .ref (a 6), .ref (a 7)])), (a 1, .inl (cI, 12, .inl r.1)), (a 2, .inl (cI, 12, .inl r.2.1)), (a 3, .inl (cZ, 12, .inl (fun i9 => sf_b (r.2.2.1 i9)))), (a 4, .inl (cZ, 8, .inl (fun i9 => sf_b (r.2.2.2.1 i9)))), (a 5, .inl (cZ, 15, .inl (fun i9 => sf_b (r.2.2.2.2.1 i9)))), (a 6, .inl (cI, 3, .inl r.2.2.2.2.2.1)), (a 7, .inl (cI, 3, .inl r.2.2.2.2.2.2))] := hD
  refine lv_aload_n hx hb dX1_changeCoil_0 rfl (lv_at hl 0 rfl) ?_
  refine va_get (D := (dC, dI)) (ci := 1) (v := .ref (a 6)) (C := RX1) (T := TX1) (N := 7) hx hb hg in_X1 hown hK hP 0 rfl rfl 5 (by decide) (hg _ mw_52) (fun _ h9 => h9) rfl dX1_changeCoil_1 ?_
  refine lv_iload_n hx hb dX1_changeCoil_4 rfl (lv_at hl 1 rfl) ?_
  refine sf_iald hx hb hK hP 6 0 rfl rfl row rfl (by omega) (by decide) dX1_changeCoil_5 ?_
  refine lv_istore (lv' := [(4, .int (r.2.2.2.2.2.1 row)), (0, .ref (a 0)), (1, .int (nI row)), (2, .int k), (3, .int n)]) hx hb dX1_changeCoil_6 hl (by decide) rfl (fun ls hl => ?_)
  refine lv_aload_n hx hb dX1_changeCoil_8 rfl (lv_at hl 1 rfl) ?_
  refine va_get (D := (dC, dI)) (ci := 1) (v := .ref (a 6)) (C := RX1) (T := TX1) (N := 7) hx hb hg in_X1 hown hK hP 0 rfl rfl 5 (by decide) (hg _ mw_52) (fun _ h9 => h9) rfl dX1_changeCoil_9 ?_
  refine lv_iload_n hx hb dX1_changeCoil_12 rfl (lv_at hl 2 rfl) ?_
  refine lv_iload_n hx hb dX1_changeCoil_13 rfl (lv_at hl 3 rfl) ?_
  refine sf_iast hx hb hK hP hD hS 6 0 rfl rfl row rfl (by omega) (by decide) dX1_changeCoil_14 (fun H locs hP hD hS => ?_)
  have hP : va_P (dC, dI) vwCl [(a 0, .inr (1, [.ref (a 1), .ref (a 2), .ref (a 3), .ref (a 4), .ref (a 5), .ref (a 6), .ref (a 7)])), (a 1, .inl (cI, 12, .inl r.1)), (a 2, .inl (cI, 12, .inl r.2.1)), (a 3, .inl (cZ, 12, .inl (fun i9 => sf_b (r.2.2.1 i9)))), (a 4, .inl (cZ, 8, .inl (fun i9 => sf_b (r.2.2.2.1 i9)))), (a 5, .inl (cZ, 15, .inl (fun i9 => sf_b (r.2.2.2.2.1 i9)))), (a 6, .inl (cI, 3, .inl (va_up r.2.2.2.2.2.1 row k))), (a 7, .inl (cI, 3, .inl r.2.2.2.2.2.2))] H := hP
  have hD : va_D A [(a 0, .inr (1, [.ref (a 1), .ref (a 2), .ref (a 3), .ref (a 4), .ref (a 5), .ref (a 6), .ref (a 7)])), (a 1, .inl (cI, 12, .inl r.1)), (a 2, .inl (cI, 12, .inl r.2.1)), (a 3, .inl (cZ, 12, .inl (fun i9 => sf_b (r.2.2.1 i9)))), (a 4, .inl (cZ, 8, .inl (fun i9 => sf_b (r.2.2.2.1 i9)))), (a 5, .inl (cZ, 15, .inl (fun i9 => sf_b (r.2.2.2.2.1 i9)))), (a 6, .inl (cI, 3, .inl (va_up r.2.2.2.2.2.1 row k))), (a 7, .inl (cI, 3, .inl r.2.2.2.2.2.2))] := hD
  refine lv_aload_n hx hb dX1_changeCoil_15 rfl (lv_at hl 1 rfl) ?_
  refine va_get (D := (dC, dI)) (ci := 1) (v := .ref (a 7)) (C := RX1) (T := TX1) (N := 7) hx hb hg in_X1 hown hK hP 0 rfl rfl 6 (by decide) (hg _ mw_54) (fun _ h9 => h9) rfl dX1_changeCoil_16 ?_
  refine lv_iload_n hx hb dX1_changeCoil_19 rfl (lv_at hl 2 rfl) ?_
  refine lv_iload_n hx hb dX1_changeCoil_20 rfl (lv_at hl 4 rfl) ?_
  refine sf_iast hx hb hK hP hD hS 7 0 rfl rfl row rfl (by omega) (by decide) dX1_changeCoil_21 (fun H locs hP hD hS => ?_)
  have hP : va_P (dC, dI) vwCl [(a 0, .inr (1, [.ref (a 1), .ref (a 2), .ref (a 3), .ref (a 4), .ref (a 5), .ref (a 6), .ref (a 7)])), (a 1, .inl (cI, 12, .inl r.1)), (a 2, .inl (cI, 12, .inl r.2.1)), (a 3, .inl (cZ, 12, .inl (fun i9 => sf_b (r.2.2.1 i9)))), (a 4, .inl (cZ, 8, .inl (fun i9 => sf_b (r.2.2.2.1 i9)))), (a 5, .inl (cZ, 15, .inl (fun i9 => sf_b (r.2.2.2.2.1 i9)))), (a 6, .inl (cI, 3, .inl (va_up r.2.2.2.2.2.1 row k))), (a 7, .inl (cI, 3, .inl (va_up r.2.2.2.2.2.2 row n)))] H := hP
  have hD : va_D A [(a 0, .inr (1, [.ref (a 1), .ref (a 2), .ref (a 3), .ref (a 4), .ref (a 5), .ref (a 6), .ref (a 7)])), (a 1, .inl (cI, 12, .inl r.1)), (a 2, .inl (cI, 12, .inl r.2.1)), (a 3, .inl (cZ, 12, .inl (fun i9 => sf_b (r.2.2.1 i9)))), (a 4, .inl (cZ, 8, .inl (fun i9 => sf_b (r.2.2.2.1 i9)))), (a 5, .inl (cZ, 15, .inl (fun i9 => sf_b (r.2.2.2.2.1 i9)))), (a 6, .inl (cI, 3, .inl (va_up r.2.2.2.2.2.1 row k))), (a 7, .inl (cI, 3, .inl (va_up r.2.2.2.2.2.2 row n)))] := hD
  refine lv_iload hx hb dX1_changeCoil_22 (lv_at hl 0 rfl) ?_
  have hP9 : va_P (dC, dI) vwCl (wp_R cI cZ a (fr_coil r row k n)) H := by
    rw [show fr_coil r row k n = (r.1, r.2.1, r.2.2.1, r.2.2.2.1, r.2.2.2.2.1, va_up r.2.2.2.2.2.1 row k, va_up r.2.2.2.2.2.2 row n) from by first | rfl | (simp [fr_coil]; done)]
    exact hP
  have hD9 : va_D A (wp_R cI cZ a (fr_coil r row k n)) := by
    rw [show fr_coil r row k n = (r.1, r.2.1, r.2.2.1, r.2.2.2.1, r.2.2.2.2.1, va_up r.2.2.2.2.2.1 row k, va_up r.2.2.2.2.2.2 row n) from by first | rfl | (simp [fr_coil]; done)]
    exact hD
  exact W.iret hx hb hr (fun t ht _ => ⟨rfl, by rw [ht]; exact hP9, hAe ▸ hD9, hAe ▸ hS.F ht⟩) (fun q hq => by rw [← hAe]; exact hS.2.2 q hq) dX1_changeCoil_24
set_option maxHeartbeats 4000000 in
set_option maxRecDepth 100000 in
theorem c_X1_hadPower (l : Launch) (dC : Nat → ClassId) (dI : Nat → Nat → Nat) (cI cZ : ClassId) (a : Nat → Nat) (r : st_R) (row j : Nat) (cv : Int32) (hrow : row < 3) (hj : j < 5) (hcv : cv + 1 = nI j) : Met l yX1_hadPower wX1_hadPower ({ frames := 0, cells := 0, slots := 0, locals := 0 }) (sf_PR (dC, dI) vwCl [(cI, .int), (cZ, .boolean)] (wp_R cI cZ a r) [.ref (a 0), .int (nI row), .int cv]) (sf_R (some (.int (sf_b (r.2.2.2.2.1 (row * 5 + j)))))) 0 0 (fun _ => False) := by
  refine Met.ofW (cc := cX1_hadPower) (maxL := 3) (ret := (some .boolean)) (by decide) rfl ?_
  intro p e s m args below meth c s₁ B hml hv
  have hx := B.exec
  have hb := B.bytes
  have hr := B.returns
  have hts := atoms_spec (ws := wX1_hadPower) B.pre
  have hg : ∀ w ∈ gw_all, w.before args s = true := fun w h => hts w (List.mem_cons_of_mem _ h)
  have hown : s.vm.findClass RX1 = some m.cls := findClass_of_methodNamed B.named
  have hlocks := B.notSynchronized
  obtain ⟨rfl, hP, hK, hZ⟩ := hv
  have hl := lv_entry ([.ref (a 0), .int (nI row), .int cv]) (n := 3) (Nat.le_of_ble_eq_true rfl)
  rw [lg_entry_eq]
  generalize (lg_sl ([.ref (a 0), .int (nI row), .int cv]) ++ List.replicate (3 - (lg_sl ([.ref (a 0), .int (nI row), .int cv])).length) Slot.unset).toArray = ls at hl ⊢
  have hl : lv_has ls 3 [(0, .ref (a 0)), (1, .int (nI row)), (2, .int cv)] := hl
  have hP : va_P (dC, dI) vwCl [(a 0, .inr (1, [.ref (a 1), .ref (a 2), .ref (a 3), .ref (a 4), .ref (a 5), .ref (a 6), .ref (a 7)])), (a 1, .inl (cI, 12, .inl r.1)), (a 2, .inl (cI, 12, .inl r.2.1)), (a 3, .inl (cZ, 12, .inl (fun i9 => sf_b (r.2.2.1 i9)))), (a 4, .inl (cZ, 8, .inl (fun i9 => sf_b (r.2.2.2.1 i9)))), (a 5, .inl (cZ, 15, .inl (fun i9 => sf_b (r.2.2.2.2.1 i9)))), (a 6, .inl (cI, 3, .inl r.2.2.2.2.2.1)), (a 7, .inl (cI, 3, .inl r.2.2.2.2.2.2))] s.heap := hP
  refine lv_aload_n hx hb dX1_hadPower_0 rfl (lv_at hl 0 rfl) ?_
  refine va_get (D := (dC, dI)) (ci := 1) (v := .ref (a 5)) (C := RX1) (T := TX1) (N := 7) hx hb hg in_X1 hown hK hP 0 rfl rfl 4 (by decide) (hg _ mw_51) (fun _ h9 => h9) rfl dX1_hadPower_1 ?_
  refine lv_iload_n hx hb dX1_hadPower_4 rfl (lv_at hl 1 rfl) ?_
  refine lv_iconst (v := 5) hx hb dX1_hadPower_5 (by decide) ?_
  refine lv_imul hx hb dX1_hadPower_6 ?_
  refine sf_topi (y := nI (row * 5)) (pk_mul row 5) ?_
  refine lv_iload_n hx hb dX1_hadPower_7 rfl (lv_at hl 2 rfl) ?_
  refine lv_iadd hx hb dX1_hadPower_8 ?_
  refine lv_iconst (v := 1) hx hb dX1_hadPower_9 (by decide) ?_
  refine lv_iadd hx hb dX1_hadPower_10 ?_
  refine sf_topi (y := nI (row * 5 + j)) (by rw [Int32.add_assoc, hcv, nI_add]) ?_
  refine sf_zald hx hb hK hP 5 1 rfl rfl (row * 5 + j) rfl (by omega) (by decide) dX1_hadPower_11 ?_
  exact W.zret hx hb hr (sf_b_nb _) (fun t ht _ => ⟨rfl, ht⟩) (fun _ h => nomatch h) dX1_hadPower_12
set_option maxHeartbeats 4000000 in
set_option maxRecDepth 100000 in
theorem c_X1_lookAtCell (l : Launch) (dC : Nat → ClassId) (dI : Nat → Nat → Nat) (cI cZ : ClassId) (a : Nat → Nat) (r : st_R) (hq : Nat) (bt : Nat → Bool) (j : Nat) (sz : Nat) (hj : j < 12) (hcb : ∀ j, j < 12 → fc_ix (r.2.1 j) 24 = true) : Met l yX1_lookAtCell wX1_lookAtCell ({ frames := 0, cells := 0, slots := 0, locals := 0 }) (sf_PV (dC, dI) vwCl [(cI, .int), (cZ, .boolean)] (wp_R cI cZ a r ++ [wp_Z hq cZ 24 bt]) sz [.ref (a 0), .int (nI j), .ref hq]) (sf_V (dC, dI) vwCl (some (.int (sf_b (fr_cond r bt j)))) (wp_R cI cZ a r ++ [wp_Z hq cZ 24 bt]) (wp_R cI cZ a (fr_seen r bt j) ++ [wp_Z hq cZ 24 bt])) 0 0 (va_A (wp_R cI cZ a r ++ [wp_Z hq cZ 24 bt]) sz) := by
  refine Met.ofW (cc := cX1_lookAtCell) (maxL := 5) (ret := (some .boolean)) (by decide) rfl ?_
  intro p e s m args below meth c s₁ B hml hv
  have hx := B.exec
  have hb := B.bytes
  have hr := B.returns
  have hts := atoms_spec (ws := wX1_lookAtCell) B.pre
  have hg : ∀ w ∈ gw_all, w.before args s = true := fun w h => hts w (List.mem_cons_of_mem _ h)
  have hown : s.vm.findClass RX1 = some m.cls := findClass_of_methodNamed B.named
  have hlocks := B.notSynchronized
  obtain ⟨rfl, hsz, hP, hD0, hK, hZ⟩ := hv
  subst hsz
  have hl := lv_entry ([.ref (a 0), .int (nI j), .ref hq]) (n := 5) (Nat.le_of_ble_eq_true rfl)
  rw [lg_entry_eq]
  generalize (lg_sl ([.ref (a 0), .int (nI j), .ref hq]) ++ List.replicate (5 - (lg_sl ([.ref (a 0), .int (nI j), .ref hq])).length) Slot.unset).toArray = ls at hl ⊢
  have hl : lv_has ls 5 [(0, .ref (a 0)), (1, .int (nI j)), (2, .ref hq)] := hl
  obtain ⟨A, hAe⟩ : ∃ A : Nat → Prop, A = va_A (wp_R cI cZ a r ++ [wp_Z hq cZ 24 bt]) s.heap.size := ⟨_, rfl⟩
  have hD := hD0.self (sz := s.heap.size)
  rw [← hAe] at hD
  have hA : ∀ q : Nat, s.heap.size ≤ q → A q := fun q h => by rw [hAe]; exact Or.inr h
  have hS : va_S A s.heap s.heap [] := va_S.rf
  have hP : va_P (dC, dI) vwCl [(a 0, .inr (1, [.ref (a 1), .ref (a 2), .ref (a 3), .ref (a 4), .ref (a 5), .ref (a 6), .ref (a 7)])), (a 1, .inl (cI, 12, .inl r.1)), (a 2, .inl (cI, 12, .inl r.2.1)), (a 3, .inl (cZ, 12, .inl (fun i9 => sf_b (r.2.2.1 i9)))), (a 4, .inl (cZ, 8, .inl (fun i9 => sf_b (r.2.2.2.1 i9)))), (a 5, .inl (cZ, 15, .inl (fun i9 => sf_b (r.2.2.2.2.1 i9)))), (a 6, .inl (cI, 3, .inl r.2.2.2.2.2.1)), (a 7, .inl (cI, 3, .inl r.2.2.2.2.2.2)), (hq, .inl (cZ, 24, .inl (fun i9 => sf_b (bt i9))))] s.heap := hP
  have hD : va_D A [(a 0, .inr (1, [.ref (a 1), .ref (a 2), .ref (a 3), .ref (a 4), .ref (a 5), .ref (a 6), .ref (a 7)])), (a 1, .inl (cI, 12, .inl r.1)), (a 2, .inl (cI, 12, .inl r.2.1)), (a 3, .inl (cZ, 12, .inl (fun i9 => sf_b (r.2.2.1 i9)))), (a 4, .inl (cZ, 8, .inl (fun i9 => sf_b (r.2.2.2.1 i9)))), (a 5, .inl (cZ, 15, .inl (fun i9 => sf_b (r.2.2.2.2.1 i9)))), (a 6, .inl (cI, 3, .inl r.2.2.2.2.2.1)), (a 7, .inl (cI, 3, .inl r.2.2.2.2.2.2)), (hq, .inl (cZ, 24, .inl (fun i9 => sf_b (bt i9))))] := hD
  have hq9 := ix_nat (n := 24) rfl (by decide) (hcb j hj)
  refine lv_aload_n hx hb dX1_lookAtCell_0 rfl (lv_at hl 2 rfl) ?_
  refine lv_aload_n hx hb dX1_lookAtCell_1 rfl (lv_at hl 0 rfl) ?_
  refine va_get (D := (dC, dI)) (ci := 1) (v := .ref (a 2)) (C := RX1) (T := TX1) (N := 7) hx hb hg in_X1 hown hK hP 0 rfl rfl 1 (by decide) (hg _ mw_48) (fun _ h9 => h9) rfl dX1_lookAtCell_2 ?_
  refine lv_iload_n hx hb dX1_lookAtCell_5 rfl (lv_at hl 1 rfl) ?_
  refine sf_iald hx hb hK hP 2 0 rfl rfl j rfl (by omega) (by decide) dX1_lookAtCell_6 ?_
  refine sf_zald hx hb hK hP 8 1 rfl rfl ((r.2.1 j).toNatClampNeg) hq9.1 hq9.2 (by decide) dX1_lookAtCell_7 ?_
  refine lv_istore_n (lv' := [(3, .int (sf_b (bt ((r.2.1 j).toNatClampNeg)))), (0, .ref (a 0)), (1, .int (nI j)), (2, .ref hq)]) hx hb dX1_lookAtCell_8 rfl hl (by decide) rfl (fun ls hl => ?_)
  refine lv_aload_n hx hb dX1_lookAtCell_9 rfl (lv_at hl 1 rfl) ?_
  refine va_get (D := (dC, dI)) (ci := 1) (v := .ref (a 3)) (C := RX1) (T := TX1) (N := 7) hx hb hg in_X1 hown hK hP 0 rfl rfl 2 (by decide) (hg _ mw_49) (fun _ h9 => h9) rfl dX1_lookAtCell_10 ?_
  refine lv_iload_n hx hb dX1_lookAtCell_13 rfl (lv_at hl 2 rfl) ?_
  refine sf_zald hx hb hK hP 3 1 rfl rfl j rfl (by omega) (by decide) dX1_lookAtCell_14 ?_
  refine lv_istore (lv' := [(4, .int (sf_b (r.2.2.1 j))), (3, .int (sf_b (bt ((r.2.1 j).toNatClampNeg)))), (0, .ref (a 0)), (1, .int (nI j)), (2, .ref hq)]) hx hb dX1_lookAtCell_15 hl (by decide) rfl (fun ls hl => ?_)
  refine lv_aload_n hx hb dX1_lookAtCell_17 rfl (lv_at hl 2 rfl) ?_
  refine va_get (D := (dC, dI)) (ci := 1) (v := .ref (a 3)) (C := RX1) (T := TX1) (N := 7) hx hb hg in_X1 hown hK hP 0 rfl rfl 2 (by decide) (hg _ mw_49) (fun _ h9 => h9) rfl dX1_lookAtCell_18 ?_
  refine lv_iload_n hx hb dX1_lookAtCell_21 rfl (lv_at hl 3 rfl) ?_
  refine lv_iload_n hx hb dX1_lookAtCell_22 rfl (lv_at hl 1 rfl) ?_
  refine sf_zast hx hb hK hP hD hS 3 1 rfl rfl j rfl (by omega) (by decide) dX1_lookAtCell_23 (fun H locs hP hD hS => ?_)
  have hP : va_P (dC, dI) vwCl [(a 0, .inr (1, [.ref (a 1), .ref (a 2), .ref (a 3), .ref (a 4), .ref (a 5), .ref (a 6), .ref (a 7)])), (a 1, .inl (cI, 12, .inl r.1)), (a 2, .inl (cI, 12, .inl r.2.1)), (a 3, .inl (cZ, 12, .inl (fun i9 => sf_b ((va_up r.2.2.1 j (bt ((r.2.1 j).toNatClampNeg))) i9)))), (a 4, .inl (cZ, 8, .inl (fun i9 => sf_b (r.2.2.2.1 i9)))), (a 5, .inl (cZ, 15, .inl (fun i9 => sf_b (r.2.2.2.2.1 i9)))), (a 6, .inl (cI, 3, .inl r.2.2.2.2.2.1)), (a 7, .inl (cI, 3, .inl r.2.2.2.2.2.2)), (hq, .inl (cZ, 24, .inl (fun i9 => sf_b (bt i9))))] H := hP
  have hD : va_D A [(a 0, .inr (1, [.ref (a 1), .ref (a 2), .ref (a 3), .ref (a 4), .ref (a 5), .ref (a 6), .ref (a 7)])), (a 1, .inl (cI, 12, .inl r.1)), (a 2, .inl (cI, 12, .inl r.2.1)), (a 3, .inl (cZ, 12, .inl (fun i9 => sf_b ((va_up r.2.2.1 j (bt ((r.2.1 j).toNatClampNeg))) i9)))), (a 4, .inl (cZ, 8, .inl (fun i9 => sf_b (r.2.2.2.1 i9)))), (a 5, .inl (cZ, 15, .inl (fun i9 => sf_b (r.2.2.2.2.1 i9)))), (a 6, .inl (cI, 3, .inl r.2.2.2.2.2.1)), (a 7, .inl (cI, 3, .inl r.2.2.2.2.2.2)), (hq, .inl (cZ, 24, .inl (fun i9 => sf_b (bt i9))))] := hD
  refine lv_aload_n hx hb dX1_lookAtCell_24 rfl (lv_at hl 2 rfl) ?_
  refine va_get (D := (dC, dI)) (ci := 1) (v := .ref (a 1)) (C := RX1) (T := TX1) (N := 7) hx hb hg in_X1 hown hK hP 0 rfl rfl 0 (by decide) (hg _ mw_47) (fun _ h9 => h9) rfl dX1_lookAtCell_25 ?_
  refine lv_iload_n hx hb dX1_lookAtCell_28 rfl (lv_at hl 3 rfl) ?_
  refine sf_iald hx hb hK hP 1 0 rfl rfl j rfl (by omega) (by decide) dX1_lookAtCell_29 ?_
  by_cases c_1 : (r.1 j) = 1
  · refine lv_tableIn (off := 34) (tgt := 64) hx hb dX1_lookAtCell_30 (by rw [c_1]; decide) (by rw [c_1]; decide) (by rw [c_1]; decide) (by decide) ?_
    refine lv_iconst (v := sf_b true) hx hb dX1_lookAtCell_64 (by decide) ?_
    refine sf_topi (y := sf_b (fr_cond r bt j)) (by first | rfl | (simp [fr_seen, fr_on, fr_cond, fr_con, c_1]; done)) ?_
    have hP9 : va_P (dC, dI) vwCl (wp_R cI cZ a (fr_seen r bt j) ++ [wp_Z hq cZ 24 bt]) H := by
      rw [show fr_seen r bt j = (r.1, r.2.1, va_up r.2.2.1 j (bt ((r.2.1 j).toNatClampNeg)), r.2.2.2.1, r.2.2.2.2.1, r.2.2.2.2.2.1, r.2.2.2.2.2.2) from by first | rfl | (simp [fr_seen, fr_on, fr_cond, fr_con, c_1]; done)]
      exact hP
    have hD9 : va_D A (wp_R cI cZ a (fr_seen r bt j) ++ [wp_Z hq cZ 24 bt]) := by
      rw [show fr_seen r bt j = (r.1, r.2.1, va_up r.2.2.1 j (bt ((r.2.1 j).toNatClampNeg)), r.2.2.2.1, r.2.2.2.2.1, r.2.2.2.2.2.1, r.2.2.2.2.2.2) from by first | rfl | (simp [fr_seen, fr_on, fr_cond, fr_con, c_1]; done)]
      exact hD
    exact W.zret hx hb hr (sf_b_nb _) (fun t ht _ => ⟨rfl, by rw [ht]; exact hP9, hAe ▸ hD9, hAe ▸ hS.F ht⟩) (fun q hq => by rw [← hAe]; exact hS.2.2 q hq) dX1_lookAtCell_65
  · skip
    by_cases c_2 : (r.1 j) = 2
    · refine lv_tableIn (off := 36) (tgt := 66) hx hb dX1_lookAtCell_30 (by rw [c_2]; decide) (by rw [c_2]; decide) (by rw [c_2]; decide) (by decide) ?_
      refine lv_iload_n hx hb dX1_lookAtCell_66 rfl (lv_at hl 1 rfl) ?_
      refine sf_topi (y := sf_b (fr_cond r bt j)) (by first | rfl | (simp [fr_seen, fr_on, fr_cond, fr_con, c_1, c_2]; done)) ?_
      have hP9 : va_P (dC, dI) vwCl (wp_R cI cZ a (fr_seen r bt j) ++ [wp_Z hq cZ 24 bt]) H := by
        rw [show fr_seen r bt j = (r.1, r.2.1, va_up r.2.2.1 j (bt ((r.2.1 j).toNatClampNeg)), r.2.2.2.1, r.2.2.2.2.1, r.2.2.2.2.2.1, r.2.2.2.2.2.2) from by first | rfl | (simp [fr_seen, fr_on, fr_cond, fr_con, c_1, c_2]; done)]
        exact hP
      have hD9 : va_D A (wp_R cI cZ a (fr_seen r bt j) ++ [wp_Z hq cZ 24 bt]) := by
        rw [show fr_seen r bt j = (r.1, r.2.1, va_up r.2.2.1 j (bt ((r.2.1 j).toNatClampNeg)), r.2.2.2.1, r.2.2.2.2.1, r.2.2.2.2.2.1, r.2.2.2.2.2.2) from by first | rfl | (simp [fr_seen, fr_on, fr_cond, fr_con, c_1, c_2]; done)]
        exact hD
      exact W.zret hx hb hr (sf_b_nb _) (fun t ht _ => ⟨rfl, by rw [ht]; exact hP9, hAe ▸ hD9, hAe ▸ hS.F ht⟩) (fun q hq => by rw [← hAe]; exact hS.2.2 q hq) dX1_lookAtCell_67
    · skip
      by_cases c_3 : (r.1 j) = 3
      · refine lv_tableIn (off := 38) (tgt := 68) hx hb dX1_lookAtCell_30 (by rw [c_3]; decide) (by rw [c_3]; decide) (by rw [c_3]; decide) (by decide) ?_
        refine lv_iload_n hx hb dX1_lookAtCell_68 rfl (lv_at hl 1 rfl) ?_
        refine sf_ifne (tgt := 76) hx hb dX1_lookAtCell_69 (by decide) (fun c_4 => ?_) (fun c_4 => ?_)
        · refine lv_iconst (v := sf_b false) hx hb dX1_lookAtCell_76 (by decide) ?_
          refine sf_topi (y := sf_b (fr_cond r bt j)) (by first | rfl | (simp [fr_seen, fr_on, fr_cond, fr_con, c_1, c_2, c_3, c_4]; done)) ?_
          have hP9 : va_P (dC, dI) vwCl (wp_R cI cZ a (fr_seen r bt j) ++ [wp_Z hq cZ 24 bt]) H := by
            rw [show fr_seen r bt j = (r.1, r.2.1, va_up r.2.2.1 j (bt ((r.2.1 j).toNatClampNeg)), r.2.2.2.1, r.2.2.2.2.1, r.2.2.2.2.2.1, r.2.2.2.2.2.2) from by first | rfl | (simp [fr_seen, fr_on, fr_cond, fr_con, c_1, c_2, c_3, c_4]; done)]
            exact hP
          have hD9 : va_D A (wp_R cI cZ a (fr_seen r bt j) ++ [wp_Z hq cZ 24 bt]) := by
            rw [show fr_seen r bt j = (r.1, r.2.1, va_up r.2.2.1 j (bt ((r.2.1 j).toNatClampNeg)), r.2.2.2.1, r.2.2.2.2.1, r.2.2.2.2.2.1, r.2.2.2.2.2.2) from by first | rfl | (simp [fr_seen, fr_on, fr_cond, fr_con, c_1, c_2, c_3, c_4]; done)]
            exact hD
          exact W.zret hx hb hr (sf_b_nb _) (fun t ht _ => ⟨rfl, by rw [ht]; exact hP9, hAe ▸ hD9, hAe ▸ hS.F ht⟩) (fun q hq => by rw [← hAe]; exact hS.2.2 q hq) dX1_lookAtCell_77
        · refine lv_iconst (v := sf_b true) hx hb dX1_lookAtCell_72 (by decide) ?_
          refine lv_goto (tgt := 77) hx hb dX1_lookAtCell_73 (by decide) ?_
          refine sf_topi (y := sf_b (fr_cond r bt j)) (by first | rfl | (simp [fr_seen, fr_on, fr_cond, fr_con, c_1, c_2, c_3, c_4]; done)) ?_
          have hP9 : va_P (dC, dI) vwCl (wp_R cI cZ a (fr_seen r bt j) ++ [wp_Z hq cZ 24 bt]) H := by
            rw [show fr_seen r bt j = (r.1, r.2.1, va_up r.2.2.1 j (bt ((r.2.1 j).toNatClampNeg)), r.2.2.2.1, r.2.2.2.2.1, r.2.2.2.2.2.1, r.2.2.2.2.2.2) from by first | rfl | (simp [fr_seen, fr_on, fr_cond, fr_con, c_1, c_2, c_3, c_4]; done)]
            exact hP
          have hD9 : va_D A (wp_R cI cZ a (fr_seen r bt j) ++ [wp_Z hq cZ 24 bt]) := by
            rw [show fr_seen r bt j = (r.1, r.2.1, va_up r.2.2.1 j (bt ((r.2.1 j).toNatClampNeg)), r.2.2.2.1, r.2.2.2.2.1, r.2.2.2.2.2.1, r.2.2.2.2.2.2) from by first | rfl | (simp [fr_seen, fr_on, fr_cond, fr_con, c_1, c_2, c_3, c_4]; done)]
            exact hD
          exact W.zret hx hb hr (sf_b_nb _) (fun t ht _ => ⟨rfl, by rw [ht]; exact hP9, hAe ▸ hD9, hAe ▸ hS.F ht⟩) (fun q hq => by rw [← hAe]; exact hS.2.2 q hq) dX1_lookAtCell_77
      · skip
        by_cases c_5 : (r.1 j) = 4
        · refine lv_tableIn (off := 48) (tgt := 78) hx hb dX1_lookAtCell_30 (by rw [c_5]; decide) (by rw [c_5]; decide) (by rw [c_5]; decide) (by decide) ?_
          refine lv_iload_n hx hb dX1_lookAtCell_78 rfl (lv_at hl 1 rfl) ?_
          refine sf_ifeq (tgt := 91) hx hb dX1_lookAtCell_79 (by decide) (fun c_6 => ?_) (fun c_6 => ?_)
          · refine lv_iconst (v := sf_b false) hx hb dX1_lookAtCell_91 (by decide) ?_
            refine sf_topi (y := sf_b (fr_cond r bt j)) (by first | rfl | (simp [fr_seen, fr_on, fr_cond, fr_con, c_1, c_2, c_3, c_5, c_6]; done)) ?_
            have hP9 : va_P (dC, dI) vwCl (wp_R cI cZ a (fr_seen r bt j) ++ [wp_Z hq cZ 24 bt]) H := by
              rw [show fr_seen r bt j = (r.1, r.2.1, va_up r.2.2.1 j (bt ((r.2.1 j).toNatClampNeg)), r.2.2.2.1, r.2.2.2.2.1, r.2.2.2.2.2.1, r.2.2.2.2.2.2) from by first | rfl | (simp [fr_seen, fr_on, fr_cond, fr_con, c_1, c_2, c_3, c_5, c_6]; done)]
              exact hP
            have hD9 : va_D A (wp_R cI cZ a (fr_seen r bt j) ++ [wp_Z hq cZ 24 bt]) := by
              rw [show fr_seen r bt j = (r.1, r.2.1, va_up r.2.2.1 j (bt ((r.2.1 j).toNatClampNeg)), r.2.2.2.1, r.2.2.2.2.1, r.2.2.2.2.2.1, r.2.2.2.2.2.2) from by first | rfl | (simp [fr_seen, fr_on, fr_cond, fr_con, c_1, c_2, c_3, c_5, c_6]; done)]
              exact hD
            exact W.zret hx hb hr (sf_b_nb _) (fun t ht _ => ⟨rfl, by rw [ht]; exact hP9, hAe ▸ hD9, hAe ▸ hS.F ht⟩) (fun q hq => by rw [← hAe]; exact hS.2.2 q hq) dX1_lookAtCell_92
          · refine lv_iload hx hb dX1_lookAtCell_82 (lv_at hl 0 rfl) ?_
            refine sf_ifne (tgt := 91) hx hb dX1_lookAtCell_84 (by decide) (fun c_7 => ?_) (fun c_7 => ?_)
            · refine lv_iconst (v := sf_b false) hx hb dX1_lookAtCell_91 (by decide) ?_
              refine sf_topi (y := sf_b (fr_cond r bt j)) (by first | rfl | (simp [fr_seen, fr_on, fr_cond, fr_con, c_1, c_2, c_3, c_5, c_6, c_7]; done)) ?_
              have hP9 : va_P (dC, dI) vwCl (wp_R cI cZ a (fr_seen r bt j) ++ [wp_Z hq cZ 24 bt]) H := by
                rw [show fr_seen r bt j = (r.1, r.2.1, va_up r.2.2.1 j (bt ((r.2.1 j).toNatClampNeg)), r.2.2.2.1, r.2.2.2.2.1, r.2.2.2.2.2.1, r.2.2.2.2.2.2) from by first | rfl | (simp [fr_seen, fr_on, fr_cond, fr_con, c_1, c_2, c_3, c_5, c_6, c_7]; done)]
                exact hP
              have hD9 : va_D A (wp_R cI cZ a (fr_seen r bt j) ++ [wp_Z hq cZ 24 bt]) := by
                rw [show fr_seen r bt j = (r.1, r.2.1, va_up r.2.2.1 j (bt ((r.2.1 j).toNatClampNeg)), r.2.2.2.1, r.2.2.2.2.1, r.2.2.2.2.2.1, r.2.2.2.2.2.2) from by first | rfl | (simp [fr_seen, fr_on, fr_cond, fr_con, c_1, c_2, c_3, c_5, c_6, c_7]; done)]
                exact hD
              exact W.zret hx hb hr (sf_b_nb _) (fun t ht _ => ⟨rfl, by rw [ht]; exact hP9, hAe ▸ hD9, hAe ▸ hS.F ht⟩) (fun q hq => by rw [← hAe]; exact hS.2.2 q hq) dX1_lookAtCell_92
            · refine lv_iconst (v := sf_b true) hx hb dX1_lookAtCell_87 (by decide) ?_
              refine lv_goto (tgt := 92) hx hb dX1_lookAtCell_88 (by decide) ?_
              refine sf_topi (y := sf_b (fr_cond r bt j)) (by first | rfl | (simp [fr_seen, fr_on, fr_cond, fr_con, c_1, c_2, c_3, c_5, c_6, c_7]; done)) ?_
              have hP9 : va_P (dC, dI) vwCl (wp_R cI cZ a (fr_seen r bt j) ++ [wp_Z hq cZ 24 bt]) H := by
                rw [show fr_seen r bt j = (r.1, r.2.1, va_up r.2.2.1 j (bt ((r.2.1 j).toNatClampNeg)), r.2.2.2.1, r.2.2.2.2.1, r.2.2.2.2.2.1, r.2.2.2.2.2.2) from by first | rfl | (simp [fr_seen, fr_on, fr_cond, fr_con, c_1, c_2, c_3, c_5, c_6, c_7]; done)]
                exact hP
              have hD9 : va_D A (wp_R cI cZ a (fr_seen r bt j) ++ [wp_Z hq cZ 24 bt]) := by
                rw [show fr_seen r bt j = (r.1, r.2.1, va_up r.2.2.1 j (bt ((r.2.1 j).toNatClampNeg)), r.2.2.2.1, r.2.2.2.2.1, r.2.2.2.2.2.1, r.2.2.2.2.2.2) from by first | rfl | (simp [fr_seen, fr_on, fr_cond, fr_con, c_1, c_2, c_3, c_5, c_6, c_7]; done)]
                exact hD
              exact W.zret hx hb hr (sf_b_nb _) (fun t ht _ => ⟨rfl, by rw [ht]; exact hP9, hAe ▸ hD9, hAe ▸ hS.F ht⟩) (fun q hq => by rw [← hAe]; exact hS.2.2 q hq) dX1_lookAtCell_92
        · skip
          by_cases c_8 : (r.1 j) = 5
          · refine lv_tableIn (off := 63) (tgt := 93) hx hb dX1_lookAtCell_30 (by rw [c_8]; decide) (by rw [c_8]; decide) (by rw [c_8]; decide) (by decide) ?_
            refine lv_iload_n hx hb dX1_lookAtCell_93 rfl (lv_at hl 1 rfl) ?_
            refine sf_ifne (tgt := 106) hx hb dX1_lookAtCell_94 (by decide) (fun c_9 => ?_) (fun c_9 => ?_)
            · refine lv_iconst (v := sf_b false) hx hb dX1_lookAtCell_106 (by decide) ?_
              refine sf_topi (y := sf_b (fr_cond r bt j)) (by first | rfl | (simp [fr_seen, fr_on, fr_cond, fr_con, c_1, c_2, c_3, c_5, c_8, c_9]; done)) ?_
              have hP9 : va_P (dC, dI) vwCl (wp_R cI cZ a (fr_seen r bt j) ++ [wp_Z hq cZ 24 bt]) H := by
                rw [show fr_seen r bt j = (r.1, r.2.1, va_up r.2.2.1 j (bt ((r.2.1 j).toNatClampNeg)), r.2.2.2.1, r.2.2.2.2.1, r.2.2.2.2.2.1, r.2.2.2.2.2.2) from by first | rfl | (simp [fr_seen, fr_on, fr_cond, fr_con, c_1, c_2, c_3, c_5, c_8, c_9]; done)]
                exact hP
              have hD9 : va_D A (wp_R cI cZ a (fr_seen r bt j) ++ [wp_Z hq cZ 24 bt]) := by
                rw [show fr_seen r bt j = (r.1, r.2.1, va_up r.2.2.1 j (bt ((r.2.1 j).toNatClampNeg)), r.2.2.2.1, r.2.2.2.2.1, r.2.2.2.2.2.1, r.2.2.2.2.2.2) from by first | rfl | (simp [fr_seen, fr_on, fr_cond, fr_con, c_1, c_2, c_3, c_5, c_8, c_9]; done)]
                exact hD
              exact W.zret hx hb hr (sf_b_nb _) (fun t ht _ => ⟨rfl, by rw [ht]; exact hP9, hAe ▸ hD9, hAe ▸ hS.F ht⟩) (fun q hq => by rw [← hAe]; exact hS.2.2 q hq) dX1_lookAtCell_107
            · refine lv_iload hx hb dX1_lookAtCell_97 (lv_at hl 0 rfl) ?_
              refine sf_ifeq (tgt := 106) hx hb dX1_lookAtCell_99 (by decide) (fun c_10 => ?_) (fun c_10 => ?_)
              · refine lv_iconst (v := sf_b false) hx hb dX1_lookAtCell_106 (by decide) ?_
                refine sf_topi (y := sf_b (fr_cond r bt j)) (by first | rfl | (simp [fr_seen, fr_on, fr_cond, fr_con, c_1, c_2, c_3, c_5, c_8, c_9, c_10]; done)) ?_
                have hP9 : va_P (dC, dI) vwCl (wp_R cI cZ a (fr_seen r bt j) ++ [wp_Z hq cZ 24 bt]) H := by
                  rw [show fr_seen r bt j = (r.1, r.2.1, va_up r.2.2.1 j (bt ((r.2.1 j).toNatClampNeg)), r.2.2.2.1, r.2.2.2.2.1, r.2.2.2.2.2.1, r.2.2.2.2.2.2) from by first | rfl | (simp [fr_seen, fr_on, fr_cond, fr_con, c_1, c_2, c_3, c_5, c_8, c_9, c_10]; done)]
                  exact hP
                have hD9 : va_D A (wp_R cI cZ a (fr_seen r bt j) ++ [wp_Z hq cZ 24 bt]) := by
                  rw [show fr_seen r bt j = (r.1, r.2.1, va_up r.2.2.1 j (bt ((r.2.1 j).toNatClampNeg)), r.2.2.2.1, r.2.2.2.2.1, r.2.2.2.2.2.1, r.2.2.2.2.2.2) from by first | rfl | (simp [fr_seen, fr_on, fr_cond, fr_con, c_1, c_2, c_3, c_5, c_8, c_9, c_10]; done)]
                  exact hD
                exact W.zret hx hb hr (sf_b_nb _) (fun t ht _ => ⟨rfl, by rw [ht]; exact hP9, hAe ▸ hD9, hAe ▸ hS.F ht⟩) (fun q hq => by rw [← hAe]; exact hS.2.2 q hq) dX1_lookAtCell_107
              · refine lv_iconst (v := sf_b true) hx hb dX1_lookAtCell_102 (by decide) ?_
                refine lv_goto (tgt := 107) hx hb dX1_lookAtCell_103 (by decide) ?_
                refine sf_topi (y := sf_b (fr_cond r bt j)) (by first | rfl | (simp [fr_seen, fr_on, fr_cond, fr_con, c_1, c_2, c_3, c_5, c_8, c_9, c_10]; done)) ?_
                have hP9 : va_P (dC, dI) vwCl (wp_R cI cZ a (fr_seen r bt j) ++ [wp_Z hq cZ 24 bt]) H := by
                  rw [show fr_seen r bt j = (r.1, r.2.1, va_up r.2.2.1 j (bt ((r.2.1 j).toNatClampNeg)), r.2.2.2.1, r.2.2.2.2.1, r.2.2.2.2.2.1, r.2.2.2.2.2.2) from by first | rfl | (simp [fr_seen, fr_on, fr_cond, fr_con, c_1, c_2, c_3, c_5, c_8, c_9, c_10]; done)]
                  exact hP
                have hD9 : va_D A (wp_R cI cZ a (fr_seen r bt j) ++ [wp_Z hq cZ 24 bt]) := by
                  rw [show fr_seen r bt j = (r.1, r.2.1, va_up r.2.2.1 j (bt ((r.2.1 j).toNatClampNeg)), r.2.2.2.1, r.2.2.2.2.1, r.2.2.2.2.2.1, r.2.2.2.2.2.2) from by first | rfl | (simp [fr_seen, fr_on, fr_cond, fr_con, c_1, c_2, c_3, c_5, c_8, c_9, c_10]; done)]
                  exact hD
                exact W.zret hx hb hr (sf_b_nb _) (fun t ht _ => ⟨rfl, by rw [ht]; exact hP9, hAe ▸ hD9, hAe ▸ hS.F ht⟩) (fun q hq => by rw [← hAe]; exact hS.2.2 q hq) dX1_lookAtCell_107
          · skip
            have h_11 : (r.1 j).toInt < 1 ∨ 5 < (r.1 j).toInt := by
              have q0 : ¬ (r.1 j).toInt = 1 := lv_neT c_1 (by decide)
              have q1 : ¬ (r.1 j).toInt = 2 := lv_neT c_2 (by decide)
              have q2 : ¬ (r.1 j).toInt = 3 := lv_neT c_3 (by decide)
              have q3 : ¬ (r.1 j).toInt = 4 := lv_neT c_5 (by decide)
              have q4 : ¬ (r.1 j).toInt = 5 := lv_neT c_8 (by decide)
              omega
            refine lv_tableOut (tgt := 108) hx hb dX1_lookAtCell_30 h_11 (by decide) ?_
            refine lv_iconst (v := sf_b false) hx hb dX1_lookAtCell_108 (by decide) ?_
            refine sf_topi (y := sf_b (fr_cond r bt j)) (by first | rfl | (simp [fr_seen, fr_on, fr_cond, fr_con, c_1, c_2, c_3, c_5, c_8]; done)) ?_
            have hP9 : va_P (dC, dI) vwCl (wp_R cI cZ a (fr_seen r bt j) ++ [wp_Z hq cZ 24 bt]) H := by
              rw [show fr_seen r bt j = (r.1, r.2.1, va_up r.2.2.1 j (bt ((r.2.1 j).toNatClampNeg)), r.2.2.2.1, r.2.2.2.2.1, r.2.2.2.2.2.1, r.2.2.2.2.2.2) from by first | rfl | (simp [fr_seen, fr_on, fr_cond, fr_con, c_1, c_2, c_3, c_5, c_8]; done)]
              exact hP
            have hD9 : va_D A (wp_R cI cZ a (fr_seen r bt j) ++ [wp_Z hq cZ 24 bt]) := by
              rw [show fr_seen r bt j = (r.1, r.2.1, va_up r.2.2.1 j (bt ((r.2.1 j).toNatClampNeg)), r.2.2.2.1, r.2.2.2.2.1, r.2.2.2.2.2.1, r.2.2.2.2.2.2) from by first | rfl | (simp [fr_seen, fr_on, fr_cond, fr_con, c_1, c_2, c_3, c_5, c_8]; done)]
              exact hD
            exact W.zret hx hb hr (sf_b_nb _) (fun t ht _ => ⟨rfl, by rw [ht]; exact hP9, hAe ▸ hD9, hAe ▸ hS.F ht⟩) (fun q hq => by rw [← hAe]; exact hS.2.2 q hq) dX1_lookAtCell_109
set_option maxHeartbeats 4000000 in
set_option maxRecDepth 100000 in
theorem c_X1_join (l : Launch) (dC : Nat → ClassId) (dI : Nat → Nat → Nat) (cI cZ : ClassId) (a : Nat → Nat) (r : st_R) (row col : Nat) (sz : Nat) (hrow : row < 2) (hcol : col < 4) : Met l yX1_join wX1_join ({ frames := 0, cells := 0, slots := 0, locals := 0 }) (sf_PV (dC, dI) vwCl [(cI, .int), (cZ, .boolean)] (wp_R cI cZ a r) sz [.ref (a 0), .int (nI row), .int (nI col)]) (sf_V (dC, dI) vwCl none (wp_R cI cZ a r) (wp_R cI cZ a (fr_join r row col))) 0 0 (va_A (wp_R cI cZ a r) sz) := by
  refine Met.ofW (cc := cX1_join) (maxL := 6) (ret := none) (by decide) rfl ?_
  intro p e s m args below meth c s₁ B hml hv
  have hx := B.exec
  have hb := B.bytes
  have hr := B.returns
  have hts := atoms_spec (ws := wX1_join) B.pre
  have hg : ∀ w ∈ gw_all, w.before args s = true := fun w h => hts w (List.mem_cons_of_mem _ h)
  have hown : s.vm.findClass RX1 = some m.cls := findClass_of_methodNamed B.named
  have hlocks := B.notSynchronized
  obtain ⟨rfl, hsz, hP, hD0, hK, hZ⟩ := hv
  subst hsz
  have hl := lv_entry ([.ref (a 0), .int (nI row), .int (nI col)]) (n := 6) (Nat.le_of_ble_eq_true rfl)
  rw [lg_entry_eq]
  generalize (lg_sl ([.ref (a 0), .int (nI row), .int (nI col)]) ++ List.replicate (6 - (lg_sl ([.ref (a 0), .int (nI row), .int (nI col)])).length) Slot.unset).toArray = ls at hl ⊢
  have hl : lv_has ls 6 [(0, .ref (a 0)), (1, .int (nI row)), (2, .int (nI col))] := hl
  obtain ⟨A, hAe⟩ : ∃ A : Nat → Prop, A = va_A (wp_R cI cZ a r) s.heap.size := ⟨_, rfl⟩
  have hD := hD0.self (sz := s.heap.size)
  rw [← hAe] at hD
  have hA : ∀ q : Nat, s.heap.size ≤ q → A q := fun q h => by rw [hAe]; exact Or.inr h
  have hS : va_S A s.heap s.heap [] := va_S.rf
  have hP : va_P (dC, dI) vwCl [(a 0, .inr (1, [.ref (a 1), .ref (a 2), .ref (a 3), .ref (a 4), .ref (a 5), .ref (a 6), .ref (a 7)])), (a 1, .inl (cI, 12, .inl r.1)), (a 2, .inl (cI, 12, .inl r.2.1)), (a 3, .inl (cZ, 12, .inl (fun i9 => sf_b (r.2.2.1 i9)))), (a 4, .inl (cZ, 8, .inl (fun i9 => sf_b (r.2.2.2.1 i9)))), (a 5, .inl (cZ, 15, .inl (fun i9 => sf_b (r.2.2.2.2.1 i9)))), (a 6, .inl (cI, 3, .inl r.2.2.2.2.2.1)), (a 7, .inl (cI, 3, .inl r.2.2.2.2.2.2))] s.heap := hP
  have hD : va_D A [(a 0, .inr (1, [.ref (a 1), .ref (a 2), .ref (a 3), .ref (a 4), .ref (a 5), .ref (a 6), .ref (a 7)])), (a 1, .inl (cI, 12, .inl r.1)), (a 2, .inl (cI, 12, .inl r.2.1)), (a 3, .inl (cZ, 12, .inl (fun i9 => sf_b (r.2.2.1 i9)))), (a 4, .inl (cZ, 8, .inl (fun i9 => sf_b (r.2.2.2.1 i9)))), (a 5, .inl (cZ, 15, .inl (fun i9 => sf_b (r.2.2.2.2.1 i9)))), (a 6, .inl (cI, 3, .inl r.2.2.2.2.2.1)), (a 7, .inl (cI, 3, .inl r.2.2.2.2.2.2))] := hD
  refine lv_aload_n hx hb dX1_join_0 rfl (lv_at hl 0 rfl) ?_
  refine va_get (D := (dC, dI)) (ci := 1) (v := .ref (a 4)) (C := RX1) (T := TX1) (N := 7) hx hb hg in_X1 hown hK hP 0 rfl rfl 3 (by decide) (hg _ mw_50) (fun _ h9 => h9) rfl dX1_join_1 ?_
  refine lv_iload_n hx hb dX1_join_4 rfl (lv_at hl 1 rfl) ?_
  refine lv_iconst (v := 4) hx hb dX1_join_5 (by decide) ?_
  refine lv_imul hx hb dX1_join_6 ?_
  refine sf_topi (y := nI (row * 4)) (pk_mul row 4) ?_
  refine lv_iload_n hx hb dX1_join_7 rfl (lv_at hl 2 rfl) ?_
  refine lv_iadd hx hb dX1_join_8 ?_
  refine sf_topi (y := nI (row * 4 + col)) (nI_add (row * 4) col) ?_
  refine sf_zald hx hb hK hP 4 1 rfl rfl (row * 4 + col) rfl (by omega) (by decide) dX1_join_9 ?_
  refine sf_ifne (tgt := 14) hx hb dX1_join_10 (by decide) (fun c_1 => ?_) (fun c_1 => ?_)
  · refine lv_iload_n hx hb dX1_join_14 rfl (lv_at hl 1 rfl) ?_
    refine lv_iconst (v := 5) hx hb dX1_join_15 (by decide) ?_
    refine lv_imul hx hb dX1_join_16 ?_
    refine sf_topi (y := nI (row * 5)) (pk_mul row 5) ?_
    refine lv_iload_n hx hb dX1_join_17 rfl (lv_at hl 2 rfl) ?_
    refine lv_iadd hx hb dX1_join_18 ?_
    refine sf_topi (y := nI (row * 5 + col)) (nI_add (row * 5) col) ?_
    refine lv_iconst (v := 1) hx hb dX1_join_19 (by decide) ?_
    refine lv_iadd hx hb dX1_join_20 ?_
    refine sf_topi (y := nI (row * 5 + col + 1)) (nI_add (row * 5 + col) 1) ?_
    refine lv_istore_n (lv' := [(3, .int (nI (row * 5 + col + 1))), (0, .ref (a 0)), (1, .int (nI row)), (2, .int (nI col))]) hx hb dX1_join_21 rfl hl (by decide) rfl (fun ls hl => ?_)
    refine lv_iload_n hx hb dX1_join_22 rfl (lv_at hl 0 rfl) ?_
    refine lv_iconst (v := 5) hx hb dX1_join_23 (by decide) ?_
    refine lv_iadd hx hb dX1_join_24 ?_
    refine sf_topi (y := nI (row * 5 + col + 1 + 5)) (nI_add (row * 5 + col + 1) 5) ?_
    refine lv_istore (lv' := [(4, .int (nI (row * 5 + col + 1 + 5))), (3, .int (nI (row * 5 + col + 1))), (0, .ref (a 0)), (1, .int (nI row)), (2, .int (nI col))]) hx hb dX1_join_25 hl (by decide) rfl (fun ls hl => ?_)
    refine lv_aload_n hx hb dX1_join_27 rfl (lv_at hl 2 rfl) ?_
    refine va_get (D := (dC, dI)) (ci := 1) (v := .ref (a 5)) (C := RX1) (T := TX1) (N := 7) hx hb hg in_X1 hown hK hP 0 rfl rfl 4 (by decide) (hg _ mw_51) (fun _ h9 => h9) rfl dX1_join_28 ?_
    refine lv_iload_n hx hb dX1_join_31 rfl (lv_at hl 1 rfl) ?_
    refine sf_zald hx hb hK hP 5 1 rfl rfl (row * 5 + col + 1) rfl (by omega) (by decide) dX1_join_32 ?_
    refine sf_ifne (tgt := 46) hx hb dX1_join_33 (by decide) (fun c_2 => ?_) (fun c_2 => ?_)
    · refine lv_iconst (v := sf_b true) hx hb dX1_join_46 (by decide) ?_
      refine lv_goto (tgt := 51) hx hb dX1_join_47 (by decide) ?_
      refine lv_istore (lv' := [(5, .int (sf_b true)), (4, .int (nI (row * 5 + col + 1 + 5))), (3, .int (nI (row * 5 + col + 1))), (0, .ref (a 0)), (1, .int (nI row)), (2, .int (nI col))]) hx hb dX1_join_51 hl (by decide) rfl (fun ls hl => ?_)
      refine lv_aload_n hx hb dX1_join_53 rfl (lv_at hl 3 rfl) ?_
      refine va_get (D := (dC, dI)) (ci := 1) (v := .ref (a 5)) (C := RX1) (T := TX1) (N := 7) hx hb hg in_X1 hown hK hP 0 rfl rfl 4 (by decide) (hg _ mw_51) (fun _ h9 => h9) rfl dX1_join_54 ?_
      refine lv_iload_n hx hb dX1_join_57 rfl (lv_at hl 2 rfl) ?_
      refine lv_iload hx hb dX1_join_58 (lv_at hl 0 rfl) ?_
      refine sf_zast hx hb hK hP hD hS 5 1 rfl rfl (row * 5 + col + 1) rfl (by omega) (by decide) dX1_join_60 (fun H locs hP hD hS => ?_)
      have hP : va_P (dC, dI) vwCl [(a 0, .inr (1, [.ref (a 1), .ref (a 2), .ref (a 3), .ref (a 4), .ref (a 5), .ref (a 6), .ref (a 7)])), (a 1, .inl (cI, 12, .inl r.1)), (a 2, .inl (cI, 12, .inl r.2.1)), (a 3, .inl (cZ, 12, .inl (fun i9 => sf_b (r.2.2.1 i9)))), (a 4, .inl (cZ, 8, .inl (fun i9 => sf_b (r.2.2.2.1 i9)))), (a 5, .inl (cZ, 15, .inl (fun i9 => sf_b ((va_up r.2.2.2.2.1 (row * 5 + col + 1) true) i9)))), (a 6, .inl (cI, 3, .inl r.2.2.2.2.2.1)), (a 7, .inl (cI, 3, .inl r.2.2.2.2.2.2))] H := hP
      have hD : va_D A [(a 0, .inr (1, [.ref (a 1), .ref (a 2), .ref (a 3), .ref (a 4), .ref (a 5), .ref (a 6), .ref (a 7)])), (a 1, .inl (cI, 12, .inl r.1)), (a 2, .inl (cI, 12, .inl r.2.1)), (a 3, .inl (cZ, 12, .inl (fun i9 => sf_b (r.2.2.1 i9)))), (a 4, .inl (cZ, 8, .inl (fun i9 => sf_b (r.2.2.2.1 i9)))), (a 5, .inl (cZ, 15, .inl (fun i9 => sf_b ((va_up r.2.2.2.2.1 (row * 5 + col + 1) true) i9)))), (a 6, .inl (cI, 3, .inl r.2.2.2.2.2.1)), (a 7, .inl (cI, 3, .inl r.2.2.2.2.2.2))] := hD
      refine lv_aload_n hx hb dX1_join_61 rfl (lv_at hl 3 rfl) ?_
      refine va_get (D := (dC, dI)) (ci := 1) (v := .ref (a 5)) (C := RX1) (T := TX1) (N := 7) hx hb hg in_X1 hown hK hP 0 rfl rfl 4 (by decide) (hg _ mw_51) (fun _ h9 => h9) rfl dX1_join_62 ?_
      refine lv_iload hx hb dX1_join_65 (lv_at hl 1 rfl) ?_
      refine lv_iload hx hb dX1_join_67 (lv_at hl 0 rfl) ?_
      refine sf_zast hx hb hK hP hD hS 5 1 rfl rfl (row * 5 + col + 1 + 5) rfl (by omega) (by decide) dX1_join_69 (fun H locs hP hD hS => ?_)
      have hP : va_P (dC, dI) vwCl [(a 0, .inr (1, [.ref (a 1), .ref (a 2), .ref (a 3), .ref (a 4), .ref (a 5), .ref (a 6), .ref (a 7)])), (a 1, .inl (cI, 12, .inl r.1)), (a 2, .inl (cI, 12, .inl r.2.1)), (a 3, .inl (cZ, 12, .inl (fun i9 => sf_b (r.2.2.1 i9)))), (a 4, .inl (cZ, 8, .inl (fun i9 => sf_b (r.2.2.2.1 i9)))), (a 5, .inl (cZ, 15, .inl (fun i9 => sf_b ((va_up (va_up r.2.2.2.2.1 (row * 5 + col + 1) true) (row * 5 + col + 1 + 5) true) i9)))), (a 6, .inl (cI, 3, .inl r.2.2.2.2.2.1)), (a 7, .inl (cI, 3, .inl r.2.2.2.2.2.2))] H := hP
      have hD : va_D A [(a 0, .inr (1, [.ref (a 1), .ref (a 2), .ref (a 3), .ref (a 4), .ref (a 5), .ref (a 6), .ref (a 7)])), (a 1, .inl (cI, 12, .inl r.1)), (a 2, .inl (cI, 12, .inl r.2.1)), (a 3, .inl (cZ, 12, .inl (fun i9 => sf_b (r.2.2.1 i9)))), (a 4, .inl (cZ, 8, .inl (fun i9 => sf_b (r.2.2.2.1 i9)))), (a 5, .inl (cZ, 15, .inl (fun i9 => sf_b ((va_up (va_up r.2.2.2.2.1 (row * 5 + col + 1) true) (row * 5 + col + 1 + 5) true) i9)))), (a 6, .inl (cI, 3, .inl r.2.2.2.2.2.1)), (a 7, .inl (cI, 3, .inl r.2.2.2.2.2.2))] := hD
      have hP9 : va_P (dC, dI) vwCl (wp_R cI cZ a (fr_join r row col)) H := by
        rw [show fr_join r row col = (r.1, r.2.1, r.2.2.1, r.2.2.2.1, va_up (va_up r.2.2.2.2.1 (row * 5 + col + 1) true) (row * 5 + col + 1 + 5) true, r.2.2.2.2.2.1, r.2.2.2.2.2.2) from by first | rfl | (simp [fr_join, fr_pw, fr_either, c_1, c_2]; done)]
        exact hP
      have hD9 : va_D A (wp_R cI cZ a (fr_join r row col)) := by
        rw [show fr_join r row col = (r.1, r.2.1, r.2.2.1, r.2.2.2.1, va_up (va_up r.2.2.2.2.1 (row * 5 + col + 1) true) (row * 5 + col + 1 + 5) true, r.2.2.2.2.2.1, r.2.2.2.2.2.2) from by first | rfl | (simp [fr_join, fr_pw, fr_either, c_1, c_2]; done)]
        exact hD
      exact W.vret hx hb hr (fun t ht _ => ⟨rfl, by rw [ht]; exact hP9, hAe ▸ hD9, hAe ▸ hS.F ht⟩) (fun q hq => by rw [← hAe]; exact hS.2.2 q hq) dX1_join_70
    · refine lv_aload_n hx hb dX1_join_36 rfl (lv_at hl 2 rfl) ?_
      refine va_get (D := (dC, dI)) (ci := 1) (v := .ref (a 5)) (C := RX1) (T := TX1) (N := 7) hx hb hg in_X1 hown hK hP 0 rfl rfl 4 (by decide) (hg _ mw_51) (fun _ h9 => h9) rfl dX1_join_37 ?_
      refine lv_iload hx hb dX1_join_40 (lv_at hl 0 rfl) ?_
      refine sf_zald hx hb hK hP 5 1 rfl rfl (row * 5 + col + 1 + 5) rfl (by omega) (by decide) dX1_join_42 ?_
      refine sf_ifeq (tgt := 50) hx hb dX1_join_43 (by decide) (fun c_3 => ?_) (fun c_3 => ?_)
      · refine lv_iconst (v := sf_b false) hx hb dX1_join_50 (by decide) ?_
        refine lv_istore (lv' := [(5, .int (sf_b false)), (4, .int (nI (row * 5 + col + 1 + 5))), (3, .int (nI (row * 5 + col + 1))), (0, .ref (a 0)), (1, .int (nI row)), (2, .int (nI col))]) hx hb dX1_join_51 hl (by decide) rfl (fun ls hl => ?_)
        refine lv_aload_n hx hb dX1_join_53 rfl (lv_at hl 3 rfl) ?_
        refine va_get (D := (dC, dI)) (ci := 1) (v := .ref (a 5)) (C := RX1) (T := TX1) (N := 7) hx hb hg in_X1 hown hK hP 0 rfl rfl 4 (by decide) (hg _ mw_51) (fun _ h9 => h9) rfl dX1_join_54 ?_
        refine lv_iload_n hx hb dX1_join_57 rfl (lv_at hl 2 rfl) ?_
        refine lv_iload hx hb dX1_join_58 (lv_at hl 0 rfl) ?_
        refine sf_zast hx hb hK hP hD hS 5 1 rfl rfl (row * 5 + col + 1) rfl (by omega) (by decide) dX1_join_60 (fun H locs hP hD hS => ?_)
        have hP : va_P (dC, dI) vwCl [(a 0, .inr (1, [.ref (a 1), .ref (a 2), .ref (a 3), .ref (a 4), .ref (a 5), .ref (a 6), .ref (a 7)])), (a 1, .inl (cI, 12, .inl r.1)), (a 2, .inl (cI, 12, .inl r.2.1)), (a 3, .inl (cZ, 12, .inl (fun i9 => sf_b (r.2.2.1 i9)))), (a 4, .inl (cZ, 8, .inl (fun i9 => sf_b (r.2.2.2.1 i9)))), (a 5, .inl (cZ, 15, .inl (fun i9 => sf_b ((va_up r.2.2.2.2.1 (row * 5 + col + 1) false) i9)))), (a 6, .inl (cI, 3, .inl r.2.2.2.2.2.1)), (a 7, .inl (cI, 3, .inl r.2.2.2.2.2.2))] H := hP
        have hD : va_D A [(a 0, .inr (1, [.ref (a 1), .ref (a 2), .ref (a 3), .ref (a 4), .ref (a 5), .ref (a 6), .ref (a 7)])), (a 1, .inl (cI, 12, .inl r.1)), (a 2, .inl (cI, 12, .inl r.2.1)), (a 3, .inl (cZ, 12, .inl (fun i9 => sf_b (r.2.2.1 i9)))), (a 4, .inl (cZ, 8, .inl (fun i9 => sf_b (r.2.2.2.1 i9)))), (a 5, .inl (cZ, 15, .inl (fun i9 => sf_b ((va_up r.2.2.2.2.1 (row * 5 + col + 1) false) i9)))), (a 6, .inl (cI, 3, .inl r.2.2.2.2.2.1)), (a 7, .inl (cI, 3, .inl r.2.2.2.2.2.2))] := hD
        refine lv_aload_n hx hb dX1_join_61 rfl (lv_at hl 3 rfl) ?_
        refine va_get (D := (dC, dI)) (ci := 1) (v := .ref (a 5)) (C := RX1) (T := TX1) (N := 7) hx hb hg in_X1 hown hK hP 0 rfl rfl 4 (by decide) (hg _ mw_51) (fun _ h9 => h9) rfl dX1_join_62 ?_
        refine lv_iload hx hb dX1_join_65 (lv_at hl 1 rfl) ?_
        refine lv_iload hx hb dX1_join_67 (lv_at hl 0 rfl) ?_
        refine sf_zast hx hb hK hP hD hS 5 1 rfl rfl (row * 5 + col + 1 + 5) rfl (by omega) (by decide) dX1_join_69 (fun H locs hP hD hS => ?_)
        have hP : va_P (dC, dI) vwCl [(a 0, .inr (1, [.ref (a 1), .ref (a 2), .ref (a 3), .ref (a 4), .ref (a 5), .ref (a 6), .ref (a 7)])), (a 1, .inl (cI, 12, .inl r.1)), (a 2, .inl (cI, 12, .inl r.2.1)), (a 3, .inl (cZ, 12, .inl (fun i9 => sf_b (r.2.2.1 i9)))), (a 4, .inl (cZ, 8, .inl (fun i9 => sf_b (r.2.2.2.1 i9)))), (a 5, .inl (cZ, 15, .inl (fun i9 => sf_b ((va_up (va_up r.2.2.2.2.1 (row * 5 + col + 1) false) (row * 5 + col + 1 + 5) false) i9)))), (a 6, .inl (cI, 3, .inl r.2.2.2.2.2.1)), (a 7, .inl (cI, 3, .inl r.2.2.2.2.2.2))] H := hP
        have hD : va_D A [(a 0, .inr (1, [.ref (a 1), .ref (a 2), .ref (a 3), .ref (a 4), .ref (a 5), .ref (a 6), .ref (a 7)])), (a 1, .inl (cI, 12, .inl r.1)), (a 2, .inl (cI, 12, .inl r.2.1)), (a 3, .inl (cZ, 12, .inl (fun i9 => sf_b (r.2.2.1 i9)))), (a 4, .inl (cZ, 8, .inl (fun i9 => sf_b (r.2.2.2.1 i9)))), (a 5, .inl (cZ, 15, .inl (fun i9 => sf_b ((va_up (va_up r.2.2.2.2.1 (row * 5 + col + 1) false) (row * 5 + col + 1 + 5) false) i9)))), (a 6, .inl (cI, 3, .inl r.2.2.2.2.2.1)), (a 7, .inl (cI, 3, .inl r.2.2.2.2.2.2))] := hD
        have hP9 : va_P (dC, dI) vwCl (wp_R cI cZ a (fr_join r row col)) H := by
          rw [show fr_join r row col = (r.1, r.2.1, r.2.2.1, r.2.2.2.1, va_up (va_up r.2.2.2.2.1 (row * 5 + col + 1) false) (row * 5 + col + 1 + 5) false, r.2.2.2.2.2.1, r.2.2.2.2.2.2) from by first | rfl | (simp [fr_join, fr_pw, fr_either, c_1, c_2, c_3]; done)]
          exact hP
        have hD9 : va_D A (wp_R cI cZ a (fr_join r row col)) := by
          rw [show fr_join r row col = (r.1, r.2.1, r.2.2.1, r.2.2.2.1, va_up (va_up r.2.2.2.2.1 (row * 5 + col + 1) false) (row * 5 + col + 1 + 5) false, r.2.2.2.2.2.1, r.2.2.2.2.2.2) from by first | rfl | (simp [fr_join, fr_pw, fr_either, c_1, c_2, c_3]; done)]
          exact hD
        exact W.vret hx hb hr (fun t ht _ => ⟨rfl, by rw [ht]; exact hP9, hAe ▸ hD9, hAe ▸ hS.F ht⟩) (fun q hq => by rw [← hAe]; exact hS.2.2 q hq) dX1_join_70
      · refine lv_iconst (v := sf_b true) hx hb dX1_join_46 (by decide) ?_
        refine lv_goto (tgt := 51) hx hb dX1_join_47 (by decide) ?_
        refine lv_istore (lv' := [(5, .int (sf_b true)), (4, .int (nI (row * 5 + col + 1 + 5))), (3, .int (nI (row * 5 + col + 1))), (0, .ref (a 0)), (1, .int (nI row)), (2, .int (nI col))]) hx hb dX1_join_51 hl (by decide) rfl (fun ls hl => ?_)
        refine lv_aload_n hx hb dX1_join_53 rfl (lv_at hl 3 rfl) ?_
        refine va_get (D := (dC, dI)) (ci := 1) (v := .ref (a 5)) (C := RX1) (T := TX1) (N := 7) hx hb hg in_X1 hown hK hP 0 rfl rfl 4 (by decide) (hg _ mw_51) (fun _ h9 => h9) rfl dX1_join_54 ?_
        refine lv_iload_n hx hb dX1_join_57 rfl (lv_at hl 2 rfl) ?_
        refine lv_iload hx hb dX1_join_58 (lv_at hl 0 rfl) ?_
        refine sf_zast hx hb hK hP hD hS 5 1 rfl rfl (row * 5 + col + 1) rfl (by omega) (by decide) dX1_join_60 (fun H locs hP hD hS => ?_)
        have hP : va_P (dC, dI) vwCl [(a 0, .inr (1, [.ref (a 1), .ref (a 2), .ref (a 3), .ref (a 4), .ref (a 5), .ref (a 6), .ref (a 7)])), (a 1, .inl (cI, 12, .inl r.1)), (a 2, .inl (cI, 12, .inl r.2.1)), (a 3, .inl (cZ, 12, .inl (fun i9 => sf_b (r.2.2.1 i9)))), (a 4, .inl (cZ, 8, .inl (fun i9 => sf_b (r.2.2.2.1 i9)))), (a 5, .inl (cZ, 15, .inl (fun i9 => sf_b ((va_up r.2.2.2.2.1 (row * 5 + col + 1) true) i9)))), (a 6, .inl (cI, 3, .inl r.2.2.2.2.2.1)), (a 7, .inl (cI, 3, .inl r.2.2.2.2.2.2))] H := hP
        have hD : va_D A [(a 0, .inr (1, [.ref (a 1), .ref (a 2), .ref (a 3), .ref (a 4), .ref (a 5), .ref (a 6), .ref (a 7)])), (a 1, .inl (cI, 12, .inl r.1)), (a 2, .inl (cI, 12, .inl r.2.1)), (a 3, .inl (cZ, 12, .inl (fun i9 => sf_b (r.2.2.1 i9)))), (a 4, .inl (cZ, 8, .inl (fun i9 => sf_b (r.2.2.2.1 i9)))), (a 5, .inl (cZ, 15, .inl (fun i9 => sf_b ((va_up r.2.2.2.2.1 (row * 5 + col + 1) true) i9)))), (a 6, .inl (cI, 3, .inl r.2.2.2.2.2.1)), (a 7, .inl (cI, 3, .inl r.2.2.2.2.2.2))] := hD
        refine lv_aload_n hx hb dX1_join_61 rfl (lv_at hl 3 rfl) ?_
        refine va_get (D := (dC, dI)) (ci := 1) (v := .ref (a 5)) (C := RX1) (T := TX1) (N := 7) hx hb hg in_X1 hown hK hP 0 rfl rfl 4 (by decide) (hg _ mw_51) (fun _ h9 => h9) rfl dX1_join_62 ?_
        refine lv_iload hx hb dX1_join_65 (lv_at hl 1 rfl) ?_
        refine lv_iload hx hb dX1_join_67 (lv_at hl 0 rfl) ?_
        refine sf_zast hx hb hK hP hD hS 5 1 rfl rfl (row * 5 + col + 1 + 5) rfl (by omega) (by decide) dX1_join_69 (fun H locs hP hD hS => ?_)
        have hP : va_P (dC, dI) vwCl [(a 0, .inr (1, [.ref (a 1), .ref (a 2), .ref (a 3), .ref (a 4), .ref (a 5), .ref (a 6), .ref (a 7)])), (a 1, .inl (cI, 12, .inl r.1)), (a 2, .inl (cI, 12, .inl r.2.1)), (a 3, .inl (cZ, 12, .inl (fun i9 => sf_b (r.2.2.1 i9)))), (a 4, .inl (cZ, 8, .inl (fun i9 => sf_b (r.2.2.2.1 i9)))), (a 5, .inl (cZ, 15, .inl (fun i9 => sf_b ((va_up (va_up r.2.2.2.2.1 (row * 5 + col + 1) true) (row * 5 + col + 1 + 5) true) i9)))), (a 6, .inl (cI, 3, .inl r.2.2.2.2.2.1)), (a 7, .inl (cI, 3, .inl r.2.2.2.2.2.2))] H := hP
        have hD : va_D A [(a 0, .inr (1, [.ref (a 1), .ref (a 2), .ref (a 3), .ref (a 4), .ref (a 5), .ref (a 6), .ref (a 7)])), (a 1, .inl (cI, 12, .inl r.1)), (a 2, .inl (cI, 12, .inl r.2.1)), (a 3, .inl (cZ, 12, .inl (fun i9 => sf_b (r.2.2.1 i9)))), (a 4, .inl (cZ, 8, .inl (fun i9 => sf_b (r.2.2.2.1 i9)))), (a 5, .inl (cZ, 15, .inl (fun i9 => sf_b ((va_up (va_up r.2.2.2.2.1 (row * 5 + col + 1) true) (row * 5 + col + 1 + 5) true) i9)))), (a 6, .inl (cI, 3, .inl r.2.2.2.2.2.1)), (a 7, .inl (cI, 3, .inl r.2.2.2.2.2.2))] := hD
        have hP9 : va_P (dC, dI) vwCl (wp_R cI cZ a (fr_join r row col)) H := by
          rw [show fr_join r row col = (r.1, r.2.1, r.2.2.1, r.2.2.2.1, va_up (va_up r.2.2.2.2.1 (row * 5 + col + 1) true) (row * 5 + col + 1 + 5) true, r.2.2.2.2.2.1, r.2.2.2.2.2.2) from by first | rfl | (simp [fr_join, fr_pw, fr_either, c_1, c_2, c_3]; done)]
          exact hP
        have hD9 : va_D A (wp_R cI cZ a (fr_join r row col)) := by
          rw [show fr_join r row col = (r.1, r.2.1, r.2.2.1, r.2.2.2.1, va_up (va_up r.2.2.2.2.1 (row * 5 + col + 1) true) (row * 5 + col + 1 + 5) true, r.2.2.2.2.2.1, r.2.2.2.2.2.2) from by first | rfl | (simp [fr_join, fr_pw, fr_either, c_1, c_2, c_3]; done)]
          exact hD
        exact W.vret hx hb hr (fun t ht _ => ⟨rfl, by rw [ht]; exact hP9, hAe ▸ hD9, hAe ▸ hS.F ht⟩) (fun q hq => by rw [← hAe]; exact hS.2.2 q hq) dX1_join_70
  · have hP9 : va_P (dC, dI) vwCl (wp_R cI cZ a (fr_join r row col)) s.heap := by
      rw [show fr_join r row col = (r.1, r.2.1, r.2.2.1, r.2.2.2.1, r.2.2.2.2.1, r.2.2.2.2.2.1, r.2.2.2.2.2.2) from by first | rfl | (simp [fr_join, fr_pw, fr_either, c_1]; done)]
      exact hP
    have hD9 : va_D A (wp_R cI cZ a (fr_join r row col)) := by
      rw [show fr_join r row col = (r.1, r.2.1, r.2.2.1, r.2.2.2.1, r.2.2.2.2.1, r.2.2.2.2.2.1, r.2.2.2.2.2.2) from by first | rfl | (simp [fr_join, fr_pw, fr_either, c_1]; done)]
      exact hD
    exact W.vret hx hb hr (fun t ht _ => ⟨rfl, by rw [ht]; exact hP9, hAe ▸ hD9, hAe ▸ hS.F ht⟩) (fun q hq => by rw [← hAe]; exact hS.2.2 q hq) dX1_join_13
